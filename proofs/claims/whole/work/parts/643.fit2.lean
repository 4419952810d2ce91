/-! a fitting number: the class's loops -/
section
variable {M : pu_M} {I : Nat → Nat → Int32} {L : Nat → Nat → Int64} {st o n : Nat} {V : Nat → Nat}
theorem c_indexOf_l (hx : pu_fx M) (hn : M.1 62 0 = nI n) (hn2 : n ≤ 100) (v : Int32) : ∀ m i x, x = nI i → i + m = n → pu_r 374 [some (.ref 62), some (.int v), some (.int x)] [] M = some (some (.int (pu_f1 (fun a => M.1 65 a = v) m i)), M)
  | 0, i, x, hi, h => by
    subst hi
    have hc : nI n ≤ nI i := nI_le (by omega) (by omega)
    rw [qX9_indexOf_2]
    simp [bX9_indexOf_2, bX9_indexOf_28, bX9_indexOf_22, a_ai, a_ald, a_gi, a_gr, a_icge, a_icne, a_ild, a_inc, a_iret, a_push, fx_62_5 hx, sh_62, sh_65, pu_rv, pu_as, Value.category, pu_bk, pu_kl, List.replicate, pu_wi_1, pu_wi_2, nl_add, nl_ladd, nl_aa, nl_mul, nl_rmul, nl_mm, pu_qe0, pu_qe1, hn, hc, pu_f1]
    all_goals try simp (maxSteps := 400000) (disch := omega) [nl_tle, nl_fle, nl_tlt, nl_flt, nl_teq, nl_feq, nl_sub, nl_ss, nl_lt, nl_llt, nl_ltt, nl_le, nl_lle, nl_lee, nl_eq, nl_leq, nl_ee, nl_div, nl_rem, nl_cl, nl_n1, nl_n2, nl_n3, nl_n4, nl_add, nl_ladd, nl_aa, nl_mul, nl_rmul, nl_mm, pu_wi_1, pu_wi_2, bX9_indexOf_2, bX9_indexOf_28, bX9_indexOf_22, a_ai, a_ald, a_gi, a_gr, a_icge, a_icne, a_ild, a_inc, a_iret, a_push, fx_62_5 hx, sh_62, sh_65, pu_rv, pu_as, Value.category, pu_bk, pu_kl, pu_qe0, pu_qe1, hn, hc, pu_f1]
    all_goals try simp [bX9_indexOf_2, bX9_indexOf_28, bX9_indexOf_22, a_ai, a_ald, a_gi, a_gr, a_icge, a_icne, a_ild, a_inc, a_iret, a_push, fx_62_5 hx, sh_62, sh_65, pu_rv, pu_as, Value.category, pu_bk, pu_kl, List.replicate, pu_wi_1, pu_wi_2, nl_add, nl_ladd, nl_aa, nl_mul, nl_rmul, nl_mm, pu_qe0, pu_qe1, hn, hc, pu_f1]
    all_goals try simp (maxSteps := 400000) (disch := omega) [nl_tle, nl_fle, nl_tlt, nl_flt, nl_teq, nl_feq, nl_sub, nl_ss, nl_lt, nl_llt, nl_ltt, nl_le, nl_lle, nl_lee, nl_eq, nl_leq, nl_ee, nl_div, nl_rem, nl_cl, nl_n1, nl_n2, nl_n3, nl_n4, nl_add, nl_ladd, nl_aa, nl_mul, nl_rmul, nl_mm, pu_wi_1, pu_wi_2, bX9_indexOf_2, bX9_indexOf_28, bX9_indexOf_22, a_ai, a_ald, a_gi, a_gr, a_icge, a_icne, a_ild, a_inc, a_iret, a_push, fx_62_5 hx, sh_62, sh_65, pu_rv, pu_as, Value.category, pu_bk, pu_kl, pu_qe0, pu_qe1, hn, hc, pu_f1]
  | m + 1, i, x, hi, h => by
    subst hi
    have hc : ¬ nI n ≤ nI i := nI_ge (by omega) (by omega)
    have ih := c_indexOf_l hx hn hn2 v m (i + 1) _ rfl (by omega)
    by_cases c1 : M.1 65 i = v
    · rw [pu_f1_t c1]
      rw [qX9_indexOf_2]
      simp [bX9_indexOf_2, bX9_indexOf_28, bX9_indexOf_22, a_ai, a_ald, a_gi, a_gr, a_icge, a_icne, a_ild, a_inc, a_iret, a_push, fx_62_5 hx, sh_62, sh_65, pu_rv, pu_as, Value.category, pu_bk, pu_kl, List.replicate, pu_wi_1, pu_wi_2, nl_add, nl_ladd, nl_aa, nl_mul, nl_rmul, nl_mm, pu_qe0, pu_qe1, hn, hc, c1]
      all_goals try simp (maxSteps := 400000) (disch := omega) [nl_tle, nl_fle, nl_tlt, nl_flt, nl_teq, nl_feq, nl_sub, nl_ss, nl_lt, nl_llt, nl_ltt, nl_le, nl_lle, nl_lee, nl_eq, nl_leq, nl_ee, nl_div, nl_rem, nl_cl, nl_n1, nl_n2, nl_n3, nl_n4, nl_add, nl_ladd, nl_aa, nl_mul, nl_rmul, nl_mm, pu_wi_1, pu_wi_2, bX9_indexOf_2, bX9_indexOf_28, bX9_indexOf_22, a_ai, a_ald, a_gi, a_gr, a_icge, a_icne, a_ild, a_inc, a_iret, a_push, fx_62_5 hx, sh_62, sh_65, pu_rv, pu_as, Value.category, pu_bk, pu_kl, pu_qe0, pu_qe1, hn, hc, c1]
      all_goals try simp [bX9_indexOf_2, bX9_indexOf_28, bX9_indexOf_22, a_ai, a_ald, a_gi, a_gr, a_icge, a_icne, a_ild, a_inc, a_iret, a_push, fx_62_5 hx, sh_62, sh_65, pu_rv, pu_as, Value.category, pu_bk, pu_kl, List.replicate, pu_wi_1, pu_wi_2, nl_add, nl_ladd, nl_aa, nl_mul, nl_rmul, nl_mm, pu_qe0, pu_qe1, hn, hc, c1]
      all_goals try simp (maxSteps := 400000) (disch := omega) [nl_tle, nl_fle, nl_tlt, nl_flt, nl_teq, nl_feq, nl_sub, nl_ss, nl_lt, nl_llt, nl_ltt, nl_le, nl_lle, nl_lee, nl_eq, nl_leq, nl_ee, nl_div, nl_rem, nl_cl, nl_n1, nl_n2, nl_n3, nl_n4, nl_add, nl_ladd, nl_aa, nl_mul, nl_rmul, nl_mm, pu_wi_1, pu_wi_2, bX9_indexOf_2, bX9_indexOf_28, bX9_indexOf_22, a_ai, a_ald, a_gi, a_gr, a_icge, a_icne, a_ild, a_inc, a_iret, a_push, fx_62_5 hx, sh_62, sh_65, pu_rv, pu_as, Value.category, pu_bk, pu_kl, pu_qe0, pu_qe1, hn, hc, c1]
    · rw [pu_f1_f c1]
      rw [qX9_indexOf_2]
      simp [bX9_indexOf_2, bX9_indexOf_28, bX9_indexOf_22, a_ai, a_ald, a_gi, a_gr, a_icge, a_icne, a_ild, a_inc, a_iret, a_push, fx_62_5 hx, sh_62, sh_65, pu_rv, pu_as, Value.category, pu_bk, pu_kl, List.replicate, pu_wi_1, pu_wi_2, nl_add, nl_ladd, nl_aa, nl_mul, nl_rmul, nl_mm, pu_qe0, pu_qe1, hn, hc, c1, ih]
      all_goals try simp (maxSteps := 400000) (disch := omega) [nl_tle, nl_fle, nl_tlt, nl_flt, nl_teq, nl_feq, nl_sub, nl_ss, nl_lt, nl_llt, nl_ltt, nl_le, nl_lle, nl_lee, nl_eq, nl_leq, nl_ee, nl_div, nl_rem, nl_cl, nl_n1, nl_n2, nl_n3, nl_n4, nl_add, nl_ladd, nl_aa, nl_mul, nl_rmul, nl_mm, pu_wi_1, pu_wi_2, bX9_indexOf_2, bX9_indexOf_28, bX9_indexOf_22, a_ai, a_ald, a_gi, a_gr, a_icge, a_icne, a_ild, a_inc, a_iret, a_push, fx_62_5 hx, sh_62, sh_65, pu_rv, pu_as, Value.category, pu_bk, pu_kl, pu_qe0, pu_qe1, hn, hc, c1, ih]
      all_goals try simp [bX9_indexOf_2, bX9_indexOf_28, bX9_indexOf_22, a_ai, a_ald, a_gi, a_gr, a_icge, a_icne, a_ild, a_inc, a_iret, a_push, fx_62_5 hx, sh_62, sh_65, pu_rv, pu_as, Value.category, pu_bk, pu_kl, List.replicate, pu_wi_1, pu_wi_2, nl_add, nl_ladd, nl_aa, nl_mul, nl_rmul, nl_mm, pu_qe0, pu_qe1, hn, hc, c1, ih]
      all_goals try simp (maxSteps := 400000) (disch := omega) [nl_tle, nl_fle, nl_tlt, nl_flt, nl_teq, nl_feq, nl_sub, nl_ss, nl_lt, nl_llt, nl_ltt, nl_le, nl_lle, nl_lee, nl_eq, nl_leq, nl_ee, nl_div, nl_rem, nl_cl, nl_n1, nl_n2, nl_n3, nl_n4, nl_add, nl_ladd, nl_aa, nl_mul, nl_rmul, nl_mm, pu_wi_1, pu_wi_2, bX9_indexOf_2, bX9_indexOf_28, bX9_indexOf_22, a_ai, a_ald, a_gi, a_gr, a_icge, a_icne, a_ild, a_inc, a_iret, a_push, fx_62_5 hx, sh_62, sh_65, pu_rv, pu_as, Value.category, pu_bk, pu_kl, pu_qe0, pu_qe1, hn, hc, c1, ih]
theorem c_indexOf (hx : pu_fx M) (hn : M.1 62 0 = nI n) (hn2 : n ≤ 100) (v : Int32) : pu_r 79 [some (.ref 62), some (.int v)] [] M = some (some (.int (pu_f1 (fun a => M.1 65 a = v) n 0)), M) := by
  have e := c_indexOf_l hx hn hn2 v n 0 0 rfl (by omega)
  rw [qX9_indexOf]
  simp [a_ent, bX9_indexOf_0, a_ist, a_push, pu_rv, pu_as, Value.category, pu_bk, pu_kl, List.replicate, pu_wi_1, pu_wi_2, nl_add, nl_ladd, nl_aa, nl_mul, nl_rmul, nl_mm, pu_qe0, pu_qe1, e]
  all_goals try simp (maxSteps := 400000) (disch := omega) [nl_tle, nl_fle, nl_tlt, nl_flt, nl_teq, nl_feq, nl_sub, nl_ss, nl_lt, nl_llt, nl_ltt, nl_le, nl_lle, nl_lee, nl_eq, nl_leq, nl_ee, nl_div, nl_rem, nl_cl, nl_n1, nl_n2, nl_n3, nl_n4, nl_add, nl_ladd, nl_aa, nl_mul, nl_rmul, nl_mm, pu_wi_1, pu_wi_2, bX9_indexOf_0, a_ist, a_push, pu_rv, pu_as, Value.category, pu_bk, pu_kl, pu_qe0, pu_qe1, e]
  all_goals try simp [bX9_indexOf_0, a_ist, a_push, pu_rv, pu_as, Value.category, pu_bk, pu_kl, List.replicate, pu_wi_1, pu_wi_2, nl_add, nl_ladd, nl_aa, nl_mul, nl_rmul, nl_mm, pu_qe0, pu_qe1, e]
  all_goals try simp (maxSteps := 400000) (disch := omega) [nl_tle, nl_fle, nl_tlt, nl_flt, nl_teq, nl_feq, nl_sub, nl_ss, nl_lt, nl_llt, nl_ltt, nl_le, nl_lle, nl_lee, nl_eq, nl_leq, nl_ee, nl_div, nl_rem, nl_cl, nl_n1, nl_n2, nl_n3, nl_n4, nl_add, nl_ladd, nl_aa, nl_mul, nl_rmul, nl_mm, pu_wi_1, pu_wi_2, bX9_indexOf_0, a_ist, a_push, pu_rv, pu_as, Value.category, pu_bk, pu_kl, pu_qe0, pu_qe1, e]
theorem pz_idx (h : pz_vw M I st o V n) (v : Int32) : (pu_f1 (fun a => M.1 65 a = v) n 0 = -1) = ¬ pz_us I st v 0 := by
  have hn := h.1
  rcases pu_f1_spec (fun a => M.1 65 a = v) n 0 with ⟨q, q2⟩ | ⟨a, _, a1, q, q2, _⟩
  · refine propext ⟨fun _ => ?_, fun _ => q⟩
    rintro ⟨k, k1, k2, k3, k4, _⟩
    obtain ⟨a, a1, a2⟩ := pz_vw_e h k1 k2 k3
    refine q2 a (by omega) (by omega) ?_
    rw [(pz_vw_c h a1).2.1, a2]
    exact k4
  · rw [q]
    have m := pz_vw_m h (a := a) (by omega)
    refine propext ⟨fun z => absurd z (fun z => by rw [nl_n1 a (by omega)] at z; exact z), fun z => absurd ⟨V a, m.1, m.2.1, m.2.2, ?_, Nat.zero_le _⟩ z⟩
    rw [← (pz_vw_c h (a := a) (by omega)).2.1]
    exact q2
theorem c_areDigits (g s : Nat) (hg : g < 20000) (hs : s < 2) (M : pu_M) : pu_r 77 [some (.int (nI g)), some (.int (nI s))] [] M = some (some (.int (pu_q (g % 2 = 1 - s))), M) := by
  have e1 : nI g &&& 1 = nI (g % 2) := pk_andN (n := g) (by omega) 1 rfl
  have e2 : (1 : Int32) - nI s = nI (1 - s) := pk_sub (a := 1) (by omega)
  by_cases c : g % 2 = 1 - s
  · rw [pu_q1 c]
    rw [qX11_areDigitsOfSide]
    simp [a_ent, bX11_areDigitsOfSide_0, bX11_areDigitsOfSide_13, bX11_areDigitsOfSide_14, a_iand, a_icne, a_ild, a_isub, a_push, a_zret, pu_rv, pu_as, Value.category, pu_bk, pu_kl, List.replicate, pu_wi_1, pu_wi_2, nl_add, nl_ladd, nl_aa, nl_mul, nl_rmul, nl_mm, pu_qe0, pu_qe1, e1, e2, c]
    all_goals try simp (maxSteps := 400000) (disch := omega) [nl_tle, nl_fle, nl_tlt, nl_flt, nl_teq, nl_feq, nl_sub, nl_ss, nl_lt, nl_llt, nl_ltt, nl_le, nl_lle, nl_lee, nl_eq, nl_leq, nl_ee, nl_div, nl_rem, nl_cl, nl_n1, nl_n2, nl_n3, nl_n4, nl_add, nl_ladd, nl_aa, nl_mul, nl_rmul, nl_mm, pu_wi_1, pu_wi_2, bX11_areDigitsOfSide_0, bX11_areDigitsOfSide_13, bX11_areDigitsOfSide_14, a_iand, a_icne, a_ild, a_isub, a_push, a_zret, pu_rv, pu_as, Value.category, pu_bk, pu_kl, pu_qe0, pu_qe1, e1, e2, c]
    all_goals try simp [bX11_areDigitsOfSide_0, bX11_areDigitsOfSide_13, bX11_areDigitsOfSide_14, a_iand, a_icne, a_ild, a_isub, a_push, a_zret, pu_rv, pu_as, Value.category, pu_bk, pu_kl, List.replicate, pu_wi_1, pu_wi_2, nl_add, nl_ladd, nl_aa, nl_mul, nl_rmul, nl_mm, pu_qe0, pu_qe1, e1, e2, c]
    all_goals try simp (maxSteps := 400000) (disch := omega) [nl_tle, nl_fle, nl_tlt, nl_flt, nl_teq, nl_feq, nl_sub, nl_ss, nl_lt, nl_llt, nl_ltt, nl_le, nl_lle, nl_lee, nl_eq, nl_leq, nl_ee, nl_div, nl_rem, nl_cl, nl_n1, nl_n2, nl_n3, nl_n4, nl_add, nl_ladd, nl_aa, nl_mul, nl_rmul, nl_mm, pu_wi_1, pu_wi_2, bX11_areDigitsOfSide_0, bX11_areDigitsOfSide_13, bX11_areDigitsOfSide_14, a_iand, a_icne, a_ild, a_isub, a_push, a_zret, pu_rv, pu_as, Value.category, pu_bk, pu_kl, pu_qe0, pu_qe1, e1, e2, c]
  · rw [pu_q0 c]
    have c2 : ¬ nI (g % 2) = nI (1 - s) := fun q => c (by rw [nI_eq (by omega) (by omega)] at q; exact q)
    rw [qX11_areDigitsOfSide]
    simp [a_ent, bX11_areDigitsOfSide_0, bX11_areDigitsOfSide_13, bX11_areDigitsOfSide_14, a_iand, a_icne, a_ild, a_isub, a_push, a_zret, pu_rv, pu_as, Value.category, pu_bk, pu_kl, List.replicate, pu_wi_1, pu_wi_2, nl_add, nl_ladd, nl_aa, nl_mul, nl_rmul, nl_mm, pu_qe0, pu_qe1, e1, e2, c2]
    all_goals try simp (maxSteps := 400000) (disch := omega) [nl_tle, nl_fle, nl_tlt, nl_flt, nl_teq, nl_feq, nl_sub, nl_ss, nl_lt, nl_llt, nl_ltt, nl_le, nl_lle, nl_lee, nl_eq, nl_leq, nl_ee, nl_div, nl_rem, nl_cl, nl_n1, nl_n2, nl_n3, nl_n4, nl_add, nl_ladd, nl_aa, nl_mul, nl_rmul, nl_mm, pu_wi_1, pu_wi_2, bX11_areDigitsOfSide_0, bX11_areDigitsOfSide_13, bX11_areDigitsOfSide_14, a_iand, a_icne, a_ild, a_isub, a_push, a_zret, pu_rv, pu_as, Value.category, pu_bk, pu_kl, pu_qe0, pu_qe1, e1, e2, c2]
    all_goals try simp [bX11_areDigitsOfSide_0, bX11_areDigitsOfSide_13, bX11_areDigitsOfSide_14, a_iand, a_icne, a_ild, a_isub, a_push, a_zret, pu_rv, pu_as, Value.category, pu_bk, pu_kl, List.replicate, pu_wi_1, pu_wi_2, nl_add, nl_ladd, nl_aa, nl_mul, nl_rmul, nl_mm, pu_qe0, pu_qe1, e1, e2, c2]
    all_goals try simp (maxSteps := 400000) (disch := omega) [nl_tle, nl_fle, nl_tlt, nl_flt, nl_teq, nl_feq, nl_sub, nl_ss, nl_lt, nl_llt, nl_ltt, nl_le, nl_lle, nl_lee, nl_eq, nl_leq, nl_ee, nl_div, nl_rem, nl_cl, nl_n1, nl_n2, nl_n3, nl_n4, nl_add, nl_ladd, nl_aa, nl_mul, nl_rmul, nl_mm, pu_wi_1, pu_wi_2, bX11_areDigitsOfSide_0, bX11_areDigitsOfSide_13, bX11_areDigitsOfSide_14, a_iand, a_icne, a_ild, a_isub, a_push, a_zret, pu_rv, pu_as, Value.category, pu_bk, pu_kl, pu_qe0, pu_qe1, e1, e2, c2]
theorem c_digitsBy (s p : Nat) (hs : s < 2) (hp : p < 10000) (M : pu_M) : pu_r 78 [some (.int (nI s)), some (.int (nI p))] [] M = some (some (.int (nI (2 * (p / 10) + 1 + s))), M) := by
  have e1 : nI p / 10 = nI (p / 10) := pk_div (d := 10) (by omega) (by omega) (by omega)
  rw [qX11_digitsByPaces]
  simp [a_ent, bX11_digitsByPaces_0, a_iadd, a_idiv, a_ild, a_imul, a_iret, a_push, pu_rv, pu_as, Value.category, pu_bk, pu_kl, List.replicate, pu_wi_1, pu_wi_2, nl_add, nl_ladd, nl_aa, nl_mul, nl_rmul, nl_mm, pu_qe0, pu_qe1, e1]
  all_goals try simp (maxSteps := 400000) (disch := omega) [nl_tle, nl_fle, nl_tlt, nl_flt, nl_teq, nl_feq, nl_sub, nl_ss, nl_lt, nl_llt, nl_ltt, nl_le, nl_lle, nl_lee, nl_eq, nl_leq, nl_ee, nl_div, nl_rem, nl_cl, nl_n1, nl_n2, nl_n3, nl_n4, nl_add, nl_ladd, nl_aa, nl_mul, nl_rmul, nl_mm, pu_wi_1, pu_wi_2, bX11_digitsByPaces_0, a_iadd, a_idiv, a_ild, a_imul, a_iret, a_push, pu_rv, pu_as, Value.category, pu_bk, pu_kl, pu_qe0, pu_qe1, e1]
  all_goals try simp [bX11_digitsByPaces_0, a_iadd, a_idiv, a_ild, a_imul, a_iret, a_push, pu_rv, pu_as, Value.category, pu_bk, pu_kl, List.replicate, pu_wi_1, pu_wi_2, nl_add, nl_ladd, nl_aa, nl_mul, nl_rmul, nl_mm, pu_qe0, pu_qe1, e1]
  all_goals try simp (maxSteps := 400000) (disch := omega) [nl_tle, nl_fle, nl_tlt, nl_flt, nl_teq, nl_feq, nl_sub, nl_ss, nl_lt, nl_llt, nl_ltt, nl_le, nl_lle, nl_lee, nl_eq, nl_leq, nl_ee, nl_div, nl_rem, nl_cl, nl_n1, nl_n2, nl_n3, nl_n4, nl_add, nl_ladd, nl_aa, nl_mul, nl_rmul, nl_mm, pu_wi_1, pu_wi_2, bX11_digitsByPaces_0, a_iadd, a_idiv, a_ild, a_imul, a_iret, a_push, pu_rv, pu_as, Value.category, pu_bk, pu_kl, pu_qe0, pu_qe1, e1]
theorem c_isFree (hx : pu_fx M) (hw : pu_WF I L) (hst : st < cK I) (h : pz_vw M I st o V n) (v s p : Nat) (hv : v < 200000) (hs : s < 2) (hp : p < 10000) : pu_r 80 [some (.ref 62), some (.int (nI v)), some (.int (nI s)), some (.int (nI p))] [] M = some (some (.int (pu_q (pz_mb (I 27 st).toNatClampNeg s p (v / 16) ∧ ¬ pz_us I st (nI v) 0))), M) := by
  have hn := h.1
  have rr := pz_rule hw hst
  have e1 := c_areDigits (v / 16) s (by omega) hs M
  have e2 := c_digitsBy s p hs hp M
  have e3 := c_indexOf hx h.2.2.2.1.1 hn (nI v)
  have e4 := pz_idx h (nI v)
  have dv : nI v / 16 = nI (v / 16) := pk_div (d := 16) (by omega) (by omega) (by omega)
  have r1 := h.2.1
  rw [rr.1] at r1
  generalize (I 27 st).toNatClampNeg = r at *
  have z0 : (nI r = 0) = (r = 0) := propext (nI_eq (b := 0) (by omega) (by omega))
  have z2 : (nI r = 2) = (r = 2) := propext (nI_eq (b := 2) (by omega) (by omega))
  unfold pz_mb
  by_cases c : r = 0
  · subst c
    by_cases d : v / 16 % 2 = 1 - s
    · rw [pu_q1 d] at e1
      by_cases f : pz_us I st (nI v) 0
      · rw [pu_q0 (fun q => q.2 f)]
        have e5 : ¬ pu_f1 (fun a => M.1 65 a = nI v) n 0 = -1 := by rw [e4]; exact fun q => q f
        rw [qX9_isFreeByRule]
        simp [a_ent, bX9_isFreeByRule_0, bX9_isFreeByRule_24, bX9_isFreeByRule_44, bX9_isFreeByRule_57, bX9_isFreeByRule_58, a_ald, a_cs, a_cv, a_gi, a_iceq, a_icne, a_idiv, a_ifne, a_ild, a_ist, a_push, a_zret, sh_62, pu_rv, pu_as, Value.category, pu_bk, pu_kl, List.replicate, pu_wi_1, pu_wi_2, nl_add, nl_ladd, nl_aa, nl_mul, nl_rmul, nl_mm, pu_qe0, pu_qe1, dv, r1, e1, e3, e5]
        all_goals try simp (maxSteps := 400000) (disch := omega) [nl_tle, nl_fle, nl_tlt, nl_flt, nl_teq, nl_feq, nl_sub, nl_ss, nl_lt, nl_llt, nl_ltt, nl_le, nl_lle, nl_lee, nl_eq, nl_leq, nl_ee, nl_div, nl_rem, nl_cl, nl_n1, nl_n2, nl_n3, nl_n4, nl_add, nl_ladd, nl_aa, nl_mul, nl_rmul, nl_mm, pu_wi_1, pu_wi_2, bX9_isFreeByRule_0, bX9_isFreeByRule_24, bX9_isFreeByRule_44, bX9_isFreeByRule_57, bX9_isFreeByRule_58, a_ald, a_cs, a_cv, a_gi, a_iceq, a_icne, a_idiv, a_ifne, a_ild, a_ist, a_push, a_zret, sh_62, pu_rv, pu_as, Value.category, pu_bk, pu_kl, pu_qe0, pu_qe1, dv, r1, e1, e3, e5]
        all_goals try simp [bX9_isFreeByRule_0, bX9_isFreeByRule_24, bX9_isFreeByRule_44, bX9_isFreeByRule_57, bX9_isFreeByRule_58, a_ald, a_cs, a_cv, a_gi, a_iceq, a_icne, a_idiv, a_ifne, a_ild, a_ist, a_push, a_zret, sh_62, pu_rv, pu_as, Value.category, pu_bk, pu_kl, List.replicate, pu_wi_1, pu_wi_2, nl_add, nl_ladd, nl_aa, nl_mul, nl_rmul, nl_mm, pu_qe0, pu_qe1, dv, r1, e1, e3, e5]
        all_goals try simp (maxSteps := 400000) (disch := omega) [nl_tle, nl_fle, nl_tlt, nl_flt, nl_teq, nl_feq, nl_sub, nl_ss, nl_lt, nl_llt, nl_ltt, nl_le, nl_lle, nl_lee, nl_eq, nl_leq, nl_ee, nl_div, nl_rem, nl_cl, nl_n1, nl_n2, nl_n3, nl_n4, nl_add, nl_ladd, nl_aa, nl_mul, nl_rmul, nl_mm, pu_wi_1, pu_wi_2, bX9_isFreeByRule_0, bX9_isFreeByRule_24, bX9_isFreeByRule_44, bX9_isFreeByRule_57, bX9_isFreeByRule_58, a_ald, a_cs, a_cv, a_gi, a_iceq, a_icne, a_idiv, a_ifne, a_ild, a_ist, a_push, a_zret, sh_62, pu_rv, pu_as, Value.category, pu_bk, pu_kl, pu_qe0, pu_qe1, dv, r1, e1, e3, e5]
      · rw [pu_q1 ⟨⟨fun _ => d, fun q => by omega⟩, f⟩]
        have e5 : pu_f1 (fun a => M.1 65 a = nI v) n 0 = -1 := by rw [e4]; exact f
        rw [qX9_isFreeByRule]
        simp [a_ent, bX9_isFreeByRule_0, bX9_isFreeByRule_24, bX9_isFreeByRule_44, bX9_isFreeByRule_57, bX9_isFreeByRule_58, a_ald, a_cs, a_cv, a_gi, a_iceq, a_icne, a_idiv, a_ifne, a_ild, a_ist, a_push, a_zret, sh_62, pu_rv, pu_as, Value.category, pu_bk, pu_kl, List.replicate, pu_wi_1, pu_wi_2, nl_add, nl_ladd, nl_aa, nl_mul, nl_rmul, nl_mm, pu_qe0, pu_qe1, dv, r1, e1, e3, e5]
        all_goals try simp (maxSteps := 400000) (disch := omega) [nl_tle, nl_fle, nl_tlt, nl_flt, nl_teq, nl_feq, nl_sub, nl_ss, nl_lt, nl_llt, nl_ltt, nl_le, nl_lle, nl_lee, nl_eq, nl_leq, nl_ee, nl_div, nl_rem, nl_cl, nl_n1, nl_n2, nl_n3, nl_n4, nl_add, nl_ladd, nl_aa, nl_mul, nl_rmul, nl_mm, pu_wi_1, pu_wi_2, bX9_isFreeByRule_0, bX9_isFreeByRule_24, bX9_isFreeByRule_44, bX9_isFreeByRule_57, bX9_isFreeByRule_58, a_ald, a_cs, a_cv, a_gi, a_iceq, a_icne, a_idiv, a_ifne, a_ild, a_ist, a_push, a_zret, sh_62, pu_rv, pu_as, Value.category, pu_bk, pu_kl, pu_qe0, pu_qe1, dv, r1, e1, e3, e5]
        all_goals try simp [bX9_isFreeByRule_0, bX9_isFreeByRule_24, bX9_isFreeByRule_44, bX9_isFreeByRule_57, bX9_isFreeByRule_58, a_ald, a_cs, a_cv, a_gi, a_iceq, a_icne, a_idiv, a_ifne, a_ild, a_ist, a_push, a_zret, sh_62, pu_rv, pu_as, Value.category, pu_bk, pu_kl, List.replicate, pu_wi_1, pu_wi_2, nl_add, nl_ladd, nl_aa, nl_mul, nl_rmul, nl_mm, pu_qe0, pu_qe1, dv, r1, e1, e3, e5]
        all_goals try simp (maxSteps := 400000) (disch := omega) [nl_tle, nl_fle, nl_tlt, nl_flt, nl_teq, nl_feq, nl_sub, nl_ss, nl_lt, nl_llt, nl_ltt, nl_le, nl_lle, nl_lee, nl_eq, nl_leq, nl_ee, nl_div, nl_rem, nl_cl, nl_n1, nl_n2, nl_n3, nl_n4, nl_add, nl_ladd, nl_aa, nl_mul, nl_rmul, nl_mm, pu_wi_1, pu_wi_2, bX9_isFreeByRule_0, bX9_isFreeByRule_24, bX9_isFreeByRule_44, bX9_isFreeByRule_57, bX9_isFreeByRule_58, a_ald, a_cs, a_cv, a_gi, a_iceq, a_icne, a_idiv, a_ifne, a_ild, a_ist, a_push, a_zret, sh_62, pu_rv, pu_as, Value.category, pu_bk, pu_kl, pu_qe0, pu_qe1, dv, r1, e1, e3, e5]
    · rw [pu_q0 d] at e1
      rw [pu_q0 (fun q => d (q.1.1 rfl))]
      rw [qX9_isFreeByRule]
      simp [a_ent, bX9_isFreeByRule_0, bX9_isFreeByRule_24, bX9_isFreeByRule_44, bX9_isFreeByRule_57, bX9_isFreeByRule_58, a_ald, a_cs, a_cv, a_gi, a_iceq, a_icne, a_idiv, a_ifne, a_ild, a_ist, a_push, a_zret, sh_62, pu_rv, pu_as, Value.category, pu_bk, pu_kl, List.replicate, pu_wi_1, pu_wi_2, nl_add, nl_ladd, nl_aa, nl_mul, nl_rmul, nl_mm, pu_qe0, pu_qe1, dv, r1, e1]
      all_goals try simp (maxSteps := 400000) (disch := omega) [nl_tle, nl_fle, nl_tlt, nl_flt, nl_teq, nl_feq, nl_sub, nl_ss, nl_lt, nl_llt, nl_ltt, nl_le, nl_lle, nl_lee, nl_eq, nl_leq, nl_ee, nl_div, nl_rem, nl_cl, nl_n1, nl_n2, nl_n3, nl_n4, nl_add, nl_ladd, nl_aa, nl_mul, nl_rmul, nl_mm, pu_wi_1, pu_wi_2, bX9_isFreeByRule_0, bX9_isFreeByRule_24, bX9_isFreeByRule_44, bX9_isFreeByRule_57, bX9_isFreeByRule_58, a_ald, a_cs, a_cv, a_gi, a_iceq, a_icne, a_idiv, a_ifne, a_ild, a_ist, a_push, a_zret, sh_62, pu_rv, pu_as, Value.category, pu_bk, pu_kl, pu_qe0, pu_qe1, dv, r1, e1]
      all_goals try simp [bX9_isFreeByRule_0, bX9_isFreeByRule_24, bX9_isFreeByRule_44, bX9_isFreeByRule_57, bX9_isFreeByRule_58, a_ald, a_cs, a_cv, a_gi, a_iceq, a_icne, a_idiv, a_ifne, a_ild, a_ist, a_push, a_zret, sh_62, pu_rv, pu_as, Value.category, pu_bk, pu_kl, List.replicate, pu_wi_1, pu_wi_2, nl_add, nl_ladd, nl_aa, nl_mul, nl_rmul, nl_mm, pu_qe0, pu_qe1, dv, r1, e1]
      all_goals try simp (maxSteps := 400000) (disch := omega) [nl_tle, nl_fle, nl_tlt, nl_flt, nl_teq, nl_feq, nl_sub, nl_ss, nl_lt, nl_llt, nl_ltt, nl_le, nl_lle, nl_lee, nl_eq, nl_leq, nl_ee, nl_div, nl_rem, nl_cl, nl_n1, nl_n2, nl_n3, nl_n4, nl_add, nl_ladd, nl_aa, nl_mul, nl_rmul, nl_mm, pu_wi_1, pu_wi_2, bX9_isFreeByRule_0, bX9_isFreeByRule_24, bX9_isFreeByRule_44, bX9_isFreeByRule_57, bX9_isFreeByRule_58, a_ald, a_cs, a_cv, a_gi, a_iceq, a_icne, a_idiv, a_ifne, a_ild, a_ist, a_push, a_zret, sh_62, pu_rv, pu_as, Value.category, pu_bk, pu_kl, pu_qe0, pu_qe1, dv, r1, e1]
  · by_cases c2 : r = 2
    · subst c2
      by_cases d : v / 16 = 2 * (p / 10) + 1 + s
      · by_cases f : pz_us I st (nI v) 0
        · rw [pu_q0 (fun q => q.2 f)]
          have e5 : ¬ pu_f1 (fun a => M.1 65 a = nI v) n 0 = -1 := by rw [e4]; exact fun q => q f
          rw [← d] at e2
          rw [qX9_isFreeByRule]
          simp [a_ent, bX9_isFreeByRule_0, bX9_isFreeByRule_24, bX9_isFreeByRule_44, bX9_isFreeByRule_57, bX9_isFreeByRule_58, a_ald, a_cs, a_cv, a_gi, a_iceq, a_icne, a_idiv, a_ifne, a_ild, a_ist, a_push, a_zret, sh_62, pu_rv, pu_as, Value.category, pu_bk, pu_kl, List.replicate, pu_wi_1, pu_wi_2, nl_add, nl_ladd, nl_aa, nl_mul, nl_rmul, nl_mm, pu_qe0, pu_qe1, dv, r1, e2, e3, e5]
          all_goals try simp (maxSteps := 400000) (disch := omega) [nl_tle, nl_fle, nl_tlt, nl_flt, nl_teq, nl_feq, nl_sub, nl_ss, nl_lt, nl_llt, nl_ltt, nl_le, nl_lle, nl_lee, nl_eq, nl_leq, nl_ee, nl_div, nl_rem, nl_cl, nl_n1, nl_n2, nl_n3, nl_n4, nl_add, nl_ladd, nl_aa, nl_mul, nl_rmul, nl_mm, pu_wi_1, pu_wi_2, bX9_isFreeByRule_0, bX9_isFreeByRule_24, bX9_isFreeByRule_44, bX9_isFreeByRule_57, bX9_isFreeByRule_58, a_ald, a_cs, a_cv, a_gi, a_iceq, a_icne, a_idiv, a_ifne, a_ild, a_ist, a_push, a_zret, sh_62, pu_rv, pu_as, Value.category, pu_bk, pu_kl, pu_qe0, pu_qe1, dv, r1, e2, e3, e5]
          all_goals try simp [bX9_isFreeByRule_0, bX9_isFreeByRule_24, bX9_isFreeByRule_44, bX9_isFreeByRule_57, bX9_isFreeByRule_58, a_ald, a_cs, a_cv, a_gi, a_iceq, a_icne, a_idiv, a_ifne, a_ild, a_ist, a_push, a_zret, sh_62, pu_rv, pu_as, Value.category, pu_bk, pu_kl, List.replicate, pu_wi_1, pu_wi_2, nl_add, nl_ladd, nl_aa, nl_mul, nl_rmul, nl_mm, pu_qe0, pu_qe1, dv, r1, e2, e3, e5]
          all_goals try simp (maxSteps := 400000) (disch := omega) [nl_tle, nl_fle, nl_tlt, nl_flt, nl_teq, nl_feq, nl_sub, nl_ss, nl_lt, nl_llt, nl_ltt, nl_le, nl_lle, nl_lee, nl_eq, nl_leq, nl_ee, nl_div, nl_rem, nl_cl, nl_n1, nl_n2, nl_n3, nl_n4, nl_add, nl_ladd, nl_aa, nl_mul, nl_rmul, nl_mm, pu_wi_1, pu_wi_2, bX9_isFreeByRule_0, bX9_isFreeByRule_24, bX9_isFreeByRule_44, bX9_isFreeByRule_57, bX9_isFreeByRule_58, a_ald, a_cs, a_cv, a_gi, a_iceq, a_icne, a_idiv, a_ifne, a_ild, a_ist, a_push, a_zret, sh_62, pu_rv, pu_as, Value.category, pu_bk, pu_kl, pu_qe0, pu_qe1, dv, r1, e2, e3, e5]
        · rw [pu_q1 ⟨⟨fun q => by omega, fun _ => d⟩, f⟩]
          have e5 : pu_f1 (fun a => M.1 65 a = nI v) n 0 = -1 := by rw [e4]; exact f
          rw [← d] at e2
          rw [qX9_isFreeByRule]
          simp [a_ent, bX9_isFreeByRule_0, bX9_isFreeByRule_24, bX9_isFreeByRule_44, bX9_isFreeByRule_57, bX9_isFreeByRule_58, a_ald, a_cs, a_cv, a_gi, a_iceq, a_icne, a_idiv, a_ifne, a_ild, a_ist, a_push, a_zret, sh_62, pu_rv, pu_as, Value.category, pu_bk, pu_kl, List.replicate, pu_wi_1, pu_wi_2, nl_add, nl_ladd, nl_aa, nl_mul, nl_rmul, nl_mm, pu_qe0, pu_qe1, dv, r1, e2, e3, e5]
          all_goals try simp (maxSteps := 400000) (disch := omega) [nl_tle, nl_fle, nl_tlt, nl_flt, nl_teq, nl_feq, nl_sub, nl_ss, nl_lt, nl_llt, nl_ltt, nl_le, nl_lle, nl_lee, nl_eq, nl_leq, nl_ee, nl_div, nl_rem, nl_cl, nl_n1, nl_n2, nl_n3, nl_n4, nl_add, nl_ladd, nl_aa, nl_mul, nl_rmul, nl_mm, pu_wi_1, pu_wi_2, bX9_isFreeByRule_0, bX9_isFreeByRule_24, bX9_isFreeByRule_44, bX9_isFreeByRule_57, bX9_isFreeByRule_58, a_ald, a_cs, a_cv, a_gi, a_iceq, a_icne, a_idiv, a_ifne, a_ild, a_ist, a_push, a_zret, sh_62, pu_rv, pu_as, Value.category, pu_bk, pu_kl, pu_qe0, pu_qe1, dv, r1, e2, e3, e5]
          all_goals try simp [bX9_isFreeByRule_0, bX9_isFreeByRule_24, bX9_isFreeByRule_44, bX9_isFreeByRule_57, bX9_isFreeByRule_58, a_ald, a_cs, a_cv, a_gi, a_iceq, a_icne, a_idiv, a_ifne, a_ild, a_ist, a_push, a_zret, sh_62, pu_rv, pu_as, Value.category, pu_bk, pu_kl, List.replicate, pu_wi_1, pu_wi_2, nl_add, nl_ladd, nl_aa, nl_mul, nl_rmul, nl_mm, pu_qe0, pu_qe1, dv, r1, e2, e3, e5]
          all_goals try simp (maxSteps := 400000) (disch := omega) [nl_tle, nl_fle, nl_tlt, nl_flt, nl_teq, nl_feq, nl_sub, nl_ss, nl_lt, nl_llt, nl_ltt, nl_le, nl_lle, nl_lee, nl_eq, nl_leq, nl_ee, nl_div, nl_rem, nl_cl, nl_n1, nl_n2, nl_n3, nl_n4, nl_add, nl_ladd, nl_aa, nl_mul, nl_rmul, nl_mm, pu_wi_1, pu_wi_2, bX9_isFreeByRule_0, bX9_isFreeByRule_24, bX9_isFreeByRule_44, bX9_isFreeByRule_57, bX9_isFreeByRule_58, a_ald, a_cs, a_cv, a_gi, a_iceq, a_icne, a_idiv, a_ifne, a_ild, a_ist, a_push, a_zret, sh_62, pu_rv, pu_as, Value.category, pu_bk, pu_kl, pu_qe0, pu_qe1, dv, r1, e2, e3, e5]
      · rw [pu_q0 (fun q => d (q.1.2 rfl))]
        have d2 : ¬ nI (v / 16) = nI (2 * (p / 10) + 1 + s) := fun q => d (by rw [nI_eq (by omega) (by omega)] at q; exact q)
        rw [qX9_isFreeByRule]
        simp [a_ent, bX9_isFreeByRule_0, bX9_isFreeByRule_24, bX9_isFreeByRule_44, bX9_isFreeByRule_57, bX9_isFreeByRule_58, a_ald, a_cs, a_cv, a_gi, a_iceq, a_icne, a_idiv, a_ifne, a_ild, a_ist, a_push, a_zret, sh_62, pu_rv, pu_as, Value.category, pu_bk, pu_kl, List.replicate, pu_wi_1, pu_wi_2, nl_add, nl_ladd, nl_aa, nl_mul, nl_rmul, nl_mm, pu_qe0, pu_qe1, dv, r1, e2, d2]
        all_goals try simp (maxSteps := 400000) (disch := omega) [nl_tle, nl_fle, nl_tlt, nl_flt, nl_teq, nl_feq, nl_sub, nl_ss, nl_lt, nl_llt, nl_ltt, nl_le, nl_lle, nl_lee, nl_eq, nl_leq, nl_ee, nl_div, nl_rem, nl_cl, nl_n1, nl_n2, nl_n3, nl_n4, nl_add, nl_ladd, nl_aa, nl_mul, nl_rmul, nl_mm, pu_wi_1, pu_wi_2, bX9_isFreeByRule_0, bX9_isFreeByRule_24, bX9_isFreeByRule_44, bX9_isFreeByRule_57, bX9_isFreeByRule_58, a_ald, a_cs, a_cv, a_gi, a_iceq, a_icne, a_idiv, a_ifne, a_ild, a_ist, a_push, a_zret, sh_62, pu_rv, pu_as, Value.category, pu_bk, pu_kl, pu_qe0, pu_qe1, dv, r1, e2, d2]
        all_goals try simp [bX9_isFreeByRule_0, bX9_isFreeByRule_24, bX9_isFreeByRule_44, bX9_isFreeByRule_57, bX9_isFreeByRule_58, a_ald, a_cs, a_cv, a_gi, a_iceq, a_icne, a_idiv, a_ifne, a_ild, a_ist, a_push, a_zret, sh_62, pu_rv, pu_as, Value.category, pu_bk, pu_kl, List.replicate, pu_wi_1, pu_wi_2, nl_add, nl_ladd, nl_aa, nl_mul, nl_rmul, nl_mm, pu_qe0, pu_qe1, dv, r1, e2, d2]
        all_goals try simp (maxSteps := 400000) (disch := omega) [nl_tle, nl_fle, nl_tlt, nl_flt, nl_teq, nl_feq, nl_sub, nl_ss, nl_lt, nl_llt, nl_ltt, nl_le, nl_lle, nl_lee, nl_eq, nl_leq, nl_ee, nl_div, nl_rem, nl_cl, nl_n1, nl_n2, nl_n3, nl_n4, nl_add, nl_ladd, nl_aa, nl_mul, nl_rmul, nl_mm, pu_wi_1, pu_wi_2, bX9_isFreeByRule_0, bX9_isFreeByRule_24, bX9_isFreeByRule_44, bX9_isFreeByRule_57, bX9_isFreeByRule_58, a_ald, a_cs, a_cv, a_gi, a_iceq, a_icne, a_idiv, a_ifne, a_ild, a_ist, a_push, a_zret, sh_62, pu_rv, pu_as, Value.category, pu_bk, pu_kl, pu_qe0, pu_qe1, dv, r1, e2, d2]
    · by_cases f : pz_us I st (nI v) 0
      · rw [pu_q0 (fun q => q.2 f)]
        have e5 : ¬ pu_f1 (fun a => M.1 65 a = nI v) n 0 = -1 := by rw [e4]; exact fun q => q f
        rw [qX9_isFreeByRule]
        simp [a_ent, bX9_isFreeByRule_0, bX9_isFreeByRule_24, bX9_isFreeByRule_44, bX9_isFreeByRule_57, bX9_isFreeByRule_58, a_ald, a_cs, a_cv, a_gi, a_iceq, a_icne, a_idiv, a_ifne, a_ild, a_ist, a_push, a_zret, sh_62, pu_rv, pu_as, Value.category, pu_bk, pu_kl, List.replicate, pu_wi_1, pu_wi_2, nl_add, nl_ladd, nl_aa, nl_mul, nl_rmul, nl_mm, pu_qe0, pu_qe1, dv, r1, z0, z2, c, c2, e3, e5]
        all_goals try simp (maxSteps := 400000) (disch := omega) [nl_tle, nl_fle, nl_tlt, nl_flt, nl_teq, nl_feq, nl_sub, nl_ss, nl_lt, nl_llt, nl_ltt, nl_le, nl_lle, nl_lee, nl_eq, nl_leq, nl_ee, nl_div, nl_rem, nl_cl, nl_n1, nl_n2, nl_n3, nl_n4, nl_add, nl_ladd, nl_aa, nl_mul, nl_rmul, nl_mm, pu_wi_1, pu_wi_2, bX9_isFreeByRule_0, bX9_isFreeByRule_24, bX9_isFreeByRule_44, bX9_isFreeByRule_57, bX9_isFreeByRule_58, a_ald, a_cs, a_cv, a_gi, a_iceq, a_icne, a_idiv, a_ifne, a_ild, a_ist, a_push, a_zret, sh_62, pu_rv, pu_as, Value.category, pu_bk, pu_kl, pu_qe0, pu_qe1, dv, r1, z0, z2, c, c2, e3, e5]
        all_goals try simp [bX9_isFreeByRule_0, bX9_isFreeByRule_24, bX9_isFreeByRule_44, bX9_isFreeByRule_57, bX9_isFreeByRule_58, a_ald, a_cs, a_cv, a_gi, a_iceq, a_icne, a_idiv, a_ifne, a_ild, a_ist, a_push, a_zret, sh_62, pu_rv, pu_as, Value.category, pu_bk, pu_kl, List.replicate, pu_wi_1, pu_wi_2, nl_add, nl_ladd, nl_aa, nl_mul, nl_rmul, nl_mm, pu_qe0, pu_qe1, dv, r1, z0, z2, c, c2, e3, e5]
        all_goals try simp (maxSteps := 400000) (disch := omega) [nl_tle, nl_fle, nl_tlt, nl_flt, nl_teq, nl_feq, nl_sub, nl_ss, nl_lt, nl_llt, nl_ltt, nl_le, nl_lle, nl_lee, nl_eq, nl_leq, nl_ee, nl_div, nl_rem, nl_cl, nl_n1, nl_n2, nl_n3, nl_n4, nl_add, nl_ladd, nl_aa, nl_mul, nl_rmul, nl_mm, pu_wi_1, pu_wi_2, bX9_isFreeByRule_0, bX9_isFreeByRule_24, bX9_isFreeByRule_44, bX9_isFreeByRule_57, bX9_isFreeByRule_58, a_ald, a_cs, a_cv, a_gi, a_iceq, a_icne, a_idiv, a_ifne, a_ild, a_ist, a_push, a_zret, sh_62, pu_rv, pu_as, Value.category, pu_bk, pu_kl, pu_qe0, pu_qe1, dv, r1, z0, z2, c, c2, e3, e5]
      · rw [pu_q1 ⟨⟨fun q => absurd q c, fun q => absurd q c2⟩, f⟩]
        have e5 : pu_f1 (fun a => M.1 65 a = nI v) n 0 = -1 := by rw [e4]; exact f
        rw [qX9_isFreeByRule]
        simp [a_ent, bX9_isFreeByRule_0, bX9_isFreeByRule_24, bX9_isFreeByRule_44, bX9_isFreeByRule_57, bX9_isFreeByRule_58, a_ald, a_cs, a_cv, a_gi, a_iceq, a_icne, a_idiv, a_ifne, a_ild, a_ist, a_push, a_zret, sh_62, pu_rv, pu_as, Value.category, pu_bk, pu_kl, List.replicate, pu_wi_1, pu_wi_2, nl_add, nl_ladd, nl_aa, nl_mul, nl_rmul, nl_mm, pu_qe0, pu_qe1, dv, r1, z0, z2, c, c2, e3, e5]
        all_goals try simp (maxSteps := 400000) (disch := omega) [nl_tle, nl_fle, nl_tlt, nl_flt, nl_teq, nl_feq, nl_sub, nl_ss, nl_lt, nl_llt, nl_ltt, nl_le, nl_lle, nl_lee, nl_eq, nl_leq, nl_ee, nl_div, nl_rem, nl_cl, nl_n1, nl_n2, nl_n3, nl_n4, nl_add, nl_ladd, nl_aa, nl_mul, nl_rmul, nl_mm, pu_wi_1, pu_wi_2, bX9_isFreeByRule_0, bX9_isFreeByRule_24, bX9_isFreeByRule_44, bX9_isFreeByRule_57, bX9_isFreeByRule_58, a_ald, a_cs, a_cv, a_gi, a_iceq, a_icne, a_idiv, a_ifne, a_ild, a_ist, a_push, a_zret, sh_62, pu_rv, pu_as, Value.category, pu_bk, pu_kl, pu_qe0, pu_qe1, dv, r1, z0, z2, c, c2, e3, e5]
        all_goals try simp [bX9_isFreeByRule_0, bX9_isFreeByRule_24, bX9_isFreeByRule_44, bX9_isFreeByRule_57, bX9_isFreeByRule_58, a_ald, a_cs, a_cv, a_gi, a_iceq, a_icne, a_idiv, a_ifne, a_ild, a_ist, a_push, a_zret, sh_62, pu_rv, pu_as, Value.category, pu_bk, pu_kl, List.replicate, pu_wi_1, pu_wi_2, nl_add, nl_ladd, nl_aa, nl_mul, nl_rmul, nl_mm, pu_qe0, pu_qe1, dv, r1, z0, z2, c, c2, e3, e5]
        all_goals try simp (maxSteps := 400000) (disch := omega) [nl_tle, nl_fle, nl_tlt, nl_flt, nl_teq, nl_feq, nl_sub, nl_ss, nl_lt, nl_llt, nl_ltt, nl_le, nl_lle, nl_lee, nl_eq, nl_leq, nl_ee, nl_div, nl_rem, nl_cl, nl_n1, nl_n2, nl_n3, nl_n4, nl_add, nl_ladd, nl_aa, nl_mul, nl_rmul, nl_mm, pu_wi_1, pu_wi_2, bX9_isFreeByRule_0, bX9_isFreeByRule_24, bX9_isFreeByRule_44, bX9_isFreeByRule_57, bX9_isFreeByRule_58, a_ald, a_cs, a_cv, a_gi, a_iceq, a_icne, a_idiv, a_ifne, a_ild, a_ist, a_push, a_zret, sh_62, pu_rv, pu_as, Value.category, pu_bk, pu_kl, pu_qe0, pu_qe1, dv, r1, z0, z2, c, c2, e3, e5]
theorem c_hasDoorAt_l (hx : pu_fx M) (hn : M.1 62 0 = nI n) (hn2 : n ≤ 100) (s p : Int32) : ∀ m i x, x = nI i → i + m = n → pu_r 377 [some (.ref 62), some (.int s), some (.int p), some (.int x)] [] M = some (some (.int (pu_q (∃ a, i ≤ a ∧ a < n ∧ M.1 66 a = s ∧ M.1 67 a = p))), M)
  | 0, i, x, hi, h => by
    subst hi
    have hc : nI n ≤ nI i := nI_le (by omega) (by omega)
    rw [pu_q0 (fun ⟨a, a1, a2, _⟩ => by omega)]
    rw [qX9_hasDoorAt_2]
    simp [bX9_hasDoorAt_2, bX9_hasDoorAt_38, bX9_hasDoorAt_32, a_ai, a_ald, a_gi, a_gr, a_icge, a_icne, a_ild, a_inc, a_push, a_zret, fx_62_6 hx, fx_62_7 hx, sh_62, sh_66, sh_67, pu_rv, pu_as, Value.category, pu_bk, pu_kl, List.replicate, pu_wi_1, pu_wi_2, nl_add, nl_ladd, nl_aa, nl_mul, nl_rmul, nl_mm, pu_qe0, pu_qe1, hn, hc]
    all_goals try simp (maxSteps := 400000) (disch := omega) [nl_tle, nl_fle, nl_tlt, nl_flt, nl_teq, nl_feq, nl_sub, nl_ss, nl_lt, nl_llt, nl_ltt, nl_le, nl_lle, nl_lee, nl_eq, nl_leq, nl_ee, nl_div, nl_rem, nl_cl, nl_n1, nl_n2, nl_n3, nl_n4, nl_add, nl_ladd, nl_aa, nl_mul, nl_rmul, nl_mm, pu_wi_1, pu_wi_2, bX9_hasDoorAt_2, bX9_hasDoorAt_38, bX9_hasDoorAt_32, a_ai, a_ald, a_gi, a_gr, a_icge, a_icne, a_ild, a_inc, a_push, a_zret, fx_62_6 hx, fx_62_7 hx, sh_62, sh_66, sh_67, pu_rv, pu_as, Value.category, pu_bk, pu_kl, pu_qe0, pu_qe1, hn, hc]
    all_goals try simp [bX9_hasDoorAt_2, bX9_hasDoorAt_38, bX9_hasDoorAt_32, a_ai, a_ald, a_gi, a_gr, a_icge, a_icne, a_ild, a_inc, a_push, a_zret, fx_62_6 hx, fx_62_7 hx, sh_62, sh_66, sh_67, pu_rv, pu_as, Value.category, pu_bk, pu_kl, List.replicate, pu_wi_1, pu_wi_2, nl_add, nl_ladd, nl_aa, nl_mul, nl_rmul, nl_mm, pu_qe0, pu_qe1, hn, hc]
    all_goals try simp (maxSteps := 400000) (disch := omega) [nl_tle, nl_fle, nl_tlt, nl_flt, nl_teq, nl_feq, nl_sub, nl_ss, nl_lt, nl_llt, nl_ltt, nl_le, nl_lle, nl_lee, nl_eq, nl_leq, nl_ee, nl_div, nl_rem, nl_cl, nl_n1, nl_n2, nl_n3, nl_n4, nl_add, nl_ladd, nl_aa, nl_mul, nl_rmul, nl_mm, pu_wi_1, pu_wi_2, bX9_hasDoorAt_2, bX9_hasDoorAt_38, bX9_hasDoorAt_32, a_ai, a_ald, a_gi, a_gr, a_icge, a_icne, a_ild, a_inc, a_push, a_zret, fx_62_6 hx, fx_62_7 hx, sh_62, sh_66, sh_67, pu_rv, pu_as, Value.category, pu_bk, pu_kl, pu_qe0, pu_qe1, hn, hc]
  | m + 1, i, x, hi, h => by
    subst hi
    have hc : ¬ nI n ≤ nI i := nI_ge (by omega) (by omega)
    have ih := c_hasDoorAt_l hx hn hn2 s p m (i + 1) _ rfl (by omega)
    by_cases c1 : M.1 66 i = s ∧ M.1 67 i = p
    · rw [pu_q1 ⟨i, Nat.le_refl _, by omega, c1⟩]
      rw [qX9_hasDoorAt_2]
      simp [bX9_hasDoorAt_2, bX9_hasDoorAt_38, bX9_hasDoorAt_32, a_ai, a_ald, a_gi, a_gr, a_icge, a_icne, a_ild, a_inc, a_push, a_zret, fx_62_6 hx, fx_62_7 hx, sh_62, sh_66, sh_67, pu_rv, pu_as, Value.category, pu_bk, pu_kl, List.replicate, pu_wi_1, pu_wi_2, nl_add, nl_ladd, nl_aa, nl_mul, nl_rmul, nl_mm, pu_qe0, pu_qe1, hn, hc, c1.1, c1.2]
      all_goals try simp (maxSteps := 400000) (disch := omega) [nl_tle, nl_fle, nl_tlt, nl_flt, nl_teq, nl_feq, nl_sub, nl_ss, nl_lt, nl_llt, nl_ltt, nl_le, nl_lle, nl_lee, nl_eq, nl_leq, nl_ee, nl_div, nl_rem, nl_cl, nl_n1, nl_n2, nl_n3, nl_n4, nl_add, nl_ladd, nl_aa, nl_mul, nl_rmul, nl_mm, pu_wi_1, pu_wi_2, bX9_hasDoorAt_2, bX9_hasDoorAt_38, bX9_hasDoorAt_32, a_ai, a_ald, a_gi, a_gr, a_icge, a_icne, a_ild, a_inc, a_push, a_zret, fx_62_6 hx, fx_62_7 hx, sh_62, sh_66, sh_67, pu_rv, pu_as, Value.category, pu_bk, pu_kl, pu_qe0, pu_qe1, hn, hc, c1.1, c1.2]
      all_goals try simp [bX9_hasDoorAt_2, bX9_hasDoorAt_38, bX9_hasDoorAt_32, a_ai, a_ald, a_gi, a_gr, a_icge, a_icne, a_ild, a_inc, a_push, a_zret, fx_62_6 hx, fx_62_7 hx, sh_62, sh_66, sh_67, pu_rv, pu_as, Value.category, pu_bk, pu_kl, List.replicate, pu_wi_1, pu_wi_2, nl_add, nl_ladd, nl_aa, nl_mul, nl_rmul, nl_mm, pu_qe0, pu_qe1, hn, hc, c1.1, c1.2]
      all_goals try simp (maxSteps := 400000) (disch := omega) [nl_tle, nl_fle, nl_tlt, nl_flt, nl_teq, nl_feq, nl_sub, nl_ss, nl_lt, nl_llt, nl_ltt, nl_le, nl_lle, nl_lee, nl_eq, nl_leq, nl_ee, nl_div, nl_rem, nl_cl, nl_n1, nl_n2, nl_n3, nl_n4, nl_add, nl_ladd, nl_aa, nl_mul, nl_rmul, nl_mm, pu_wi_1, pu_wi_2, bX9_hasDoorAt_2, bX9_hasDoorAt_38, bX9_hasDoorAt_32, a_ai, a_ald, a_gi, a_gr, a_icge, a_icne, a_ild, a_inc, a_push, a_zret, fx_62_6 hx, fx_62_7 hx, sh_62, sh_66, sh_67, pu_rv, pu_as, Value.category, pu_bk, pu_kl, pu_qe0, pu_qe1, hn, hc, c1.1, c1.2]
    · have e : (∃ a, i ≤ a ∧ a < n ∧ M.1 66 a = s ∧ M.1 67 a = p) = (∃ a, i + 1 ≤ a ∧ a < n ∧ M.1 66 a = s ∧ M.1 67 a = p) := by
        apply propext
        constructor
        · rintro ⟨a, a1, a2, a3⟩
          refine ⟨a, ?_, a2, a3⟩
          have : a ≠ i := fun z => c1 (by rw [← z]; exact a3)
          omega
        · rintro ⟨a, a1, a2, a3⟩
          exact ⟨a, by omega, a2, a3⟩
      rw [e]
      by_cases c2 : M.1 66 i = s
      · have c3 : ¬ M.1 67 i = p := fun q => c1 ⟨c2, q⟩
        rw [qX9_hasDoorAt_2]
        simp [bX9_hasDoorAt_2, bX9_hasDoorAt_38, bX9_hasDoorAt_32, a_ai, a_ald, a_gi, a_gr, a_icge, a_icne, a_ild, a_inc, a_push, a_zret, fx_62_6 hx, fx_62_7 hx, sh_62, sh_66, sh_67, pu_rv, pu_as, Value.category, pu_bk, pu_kl, List.replicate, pu_wi_1, pu_wi_2, nl_add, nl_ladd, nl_aa, nl_mul, nl_rmul, nl_mm, pu_qe0, pu_qe1, hn, hc, c2, c3, ih]
        all_goals try simp (maxSteps := 400000) (disch := omega) [nl_tle, nl_fle, nl_tlt, nl_flt, nl_teq, nl_feq, nl_sub, nl_ss, nl_lt, nl_llt, nl_ltt, nl_le, nl_lle, nl_lee, nl_eq, nl_leq, nl_ee, nl_div, nl_rem, nl_cl, nl_n1, nl_n2, nl_n3, nl_n4, nl_add, nl_ladd, nl_aa, nl_mul, nl_rmul, nl_mm, pu_wi_1, pu_wi_2, bX9_hasDoorAt_2, bX9_hasDoorAt_38, bX9_hasDoorAt_32, a_ai, a_ald, a_gi, a_gr, a_icge, a_icne, a_ild, a_inc, a_push, a_zret, fx_62_6 hx, fx_62_7 hx, sh_62, sh_66, sh_67, pu_rv, pu_as, Value.category, pu_bk, pu_kl, pu_qe0, pu_qe1, hn, hc, c2, c3, ih]
        all_goals try simp [bX9_hasDoorAt_2, bX9_hasDoorAt_38, bX9_hasDoorAt_32, a_ai, a_ald, a_gi, a_gr, a_icge, a_icne, a_ild, a_inc, a_push, a_zret, fx_62_6 hx, fx_62_7 hx, sh_62, sh_66, sh_67, pu_rv, pu_as, Value.category, pu_bk, pu_kl, List.replicate, pu_wi_1, pu_wi_2, nl_add, nl_ladd, nl_aa, nl_mul, nl_rmul, nl_mm, pu_qe0, pu_qe1, hn, hc, c2, c3, ih]
        all_goals try simp (maxSteps := 400000) (disch := omega) [nl_tle, nl_fle, nl_tlt, nl_flt, nl_teq, nl_feq, nl_sub, nl_ss, nl_lt, nl_llt, nl_ltt, nl_le, nl_lle, nl_lee, nl_eq, nl_leq, nl_ee, nl_div, nl_rem, nl_cl, nl_n1, nl_n2, nl_n3, nl_n4, nl_add, nl_ladd, nl_aa, nl_mul, nl_rmul, nl_mm, pu_wi_1, pu_wi_2, bX9_hasDoorAt_2, bX9_hasDoorAt_38, bX9_hasDoorAt_32, a_ai, a_ald, a_gi, a_gr, a_icge, a_icne, a_ild, a_inc, a_push, a_zret, fx_62_6 hx, fx_62_7 hx, sh_62, sh_66, sh_67, pu_rv, pu_as, Value.category, pu_bk, pu_kl, pu_qe0, pu_qe1, hn, hc, c2, c3, ih]
      · rw [qX9_hasDoorAt_2]
        simp [bX9_hasDoorAt_2, bX9_hasDoorAt_38, bX9_hasDoorAt_32, a_ai, a_ald, a_gi, a_gr, a_icge, a_icne, a_ild, a_inc, a_push, a_zret, fx_62_6 hx, fx_62_7 hx, sh_62, sh_66, sh_67, pu_rv, pu_as, Value.category, pu_bk, pu_kl, List.replicate, pu_wi_1, pu_wi_2, nl_add, nl_ladd, nl_aa, nl_mul, nl_rmul, nl_mm, pu_qe0, pu_qe1, hn, hc, c2, ih]
        all_goals try simp (maxSteps := 400000) (disch := omega) [nl_tle, nl_fle, nl_tlt, nl_flt, nl_teq, nl_feq, nl_sub, nl_ss, nl_lt, nl_llt, nl_ltt, nl_le, nl_lle, nl_lee, nl_eq, nl_leq, nl_ee, nl_div, nl_rem, nl_cl, nl_n1, nl_n2, nl_n3, nl_n4, nl_add, nl_ladd, nl_aa, nl_mul, nl_rmul, nl_mm, pu_wi_1, pu_wi_2, bX9_hasDoorAt_2, bX9_hasDoorAt_38, bX9_hasDoorAt_32, a_ai, a_ald, a_gi, a_gr, a_icge, a_icne, a_ild, a_inc, a_push, a_zret, fx_62_6 hx, fx_62_7 hx, sh_62, sh_66, sh_67, pu_rv, pu_as, Value.category, pu_bk, pu_kl, pu_qe0, pu_qe1, hn, hc, c2, ih]
        all_goals try simp [bX9_hasDoorAt_2, bX9_hasDoorAt_38, bX9_hasDoorAt_32, a_ai, a_ald, a_gi, a_gr, a_icge, a_icne, a_ild, a_inc, a_push, a_zret, fx_62_6 hx, fx_62_7 hx, sh_62, sh_66, sh_67, pu_rv, pu_as, Value.category, pu_bk, pu_kl, List.replicate, pu_wi_1, pu_wi_2, nl_add, nl_ladd, nl_aa, nl_mul, nl_rmul, nl_mm, pu_qe0, pu_qe1, hn, hc, c2, ih]
        all_goals try simp (maxSteps := 400000) (disch := omega) [nl_tle, nl_fle, nl_tlt, nl_flt, nl_teq, nl_feq, nl_sub, nl_ss, nl_lt, nl_llt, nl_ltt, nl_le, nl_lle, nl_lee, nl_eq, nl_leq, nl_ee, nl_div, nl_rem, nl_cl, nl_n1, nl_n2, nl_n3, nl_n4, nl_add, nl_ladd, nl_aa, nl_mul, nl_rmul, nl_mm, pu_wi_1, pu_wi_2, bX9_hasDoorAt_2, bX9_hasDoorAt_38, bX9_hasDoorAt_32, a_ai, a_ald, a_gi, a_gr, a_icge, a_icne, a_ild, a_inc, a_push, a_zret, fx_62_6 hx, fx_62_7 hx, sh_62, sh_66, sh_67, pu_rv, pu_as, Value.category, pu_bk, pu_kl, pu_qe0, pu_qe1, hn, hc, c2, ih]
theorem c_hasDoorAt (hx : pu_fx M) (h : pz_vw M I st o V n) (s p : Int32) : pu_r 82 [some (.ref 62), some (.int s), some (.int p)] [] M = some (some (.int (pu_q (pz_oc I st s p 0))), M) := by
  have e := c_hasDoorAt_l hx h.2.2.2.1.1 h.1 s p n 0 0 rfl (by omega)
  have e2 : (∃ a, 0 ≤ a ∧ a < n ∧ M.1 66 a = s ∧ M.1 67 a = p) = pz_oc I st s p 0 := by
    apply propext
    constructor
    · rintro ⟨a, _, a2, a3, a4⟩
      have m := pz_vw_m h a2
      have c := pz_vw_c h a2
      exact ⟨V a, m.1, m.2.1, m.2.2, by rw [← c.2.2.1]; exact a3, by rw [← c.2.2.2.1]; exact a4, Nat.zero_le _⟩
    · rintro ⟨k, k1, k2, k3, k4, k5, _⟩
      obtain ⟨a, a1, a2⟩ := pz_vw_e h k1 k2 k3
      have c := pz_vw_c h a1
      exact ⟨a, Nat.zero_le _, a1, by rw [c.2.2.1, a2]; exact k4, by rw [c.2.2.2.1, a2]; exact k5⟩
  rw [e2] at e
  rw [qX9_hasDoorAt]
  simp [a_ent, bX9_hasDoorAt_0, a_ist, a_push, pu_rv, pu_as, Value.category, pu_bk, pu_kl, List.replicate, pu_wi_1, pu_wi_2, nl_add, nl_ladd, nl_aa, nl_mul, nl_rmul, nl_mm, pu_qe0, pu_qe1, e]
  all_goals try simp (maxSteps := 400000) (disch := omega) [nl_tle, nl_fle, nl_tlt, nl_flt, nl_teq, nl_feq, nl_sub, nl_ss, nl_lt, nl_llt, nl_ltt, nl_le, nl_lle, nl_lee, nl_eq, nl_leq, nl_ee, nl_div, nl_rem, nl_cl, nl_n1, nl_n2, nl_n3, nl_n4, nl_add, nl_ladd, nl_aa, nl_mul, nl_rmul, nl_mm, pu_wi_1, pu_wi_2, bX9_hasDoorAt_0, a_ist, a_push, pu_rv, pu_as, Value.category, pu_bk, pu_kl, pu_qe0, pu_qe1, e]
  all_goals try simp [bX9_hasDoorAt_0, a_ist, a_push, pu_rv, pu_as, Value.category, pu_bk, pu_kl, List.replicate, pu_wi_1, pu_wi_2, nl_add, nl_ladd, nl_aa, nl_mul, nl_rmul, nl_mm, pu_qe0, pu_qe1, e]
  all_goals try simp (maxSteps := 400000) (disch := omega) [nl_tle, nl_fle, nl_tlt, nl_flt, nl_teq, nl_feq, nl_sub, nl_ss, nl_lt, nl_llt, nl_ltt, nl_le, nl_lle, nl_lee, nl_eq, nl_leq, nl_ee, nl_div, nl_rem, nl_cl, nl_n1, nl_n2, nl_n3, nl_n4, nl_add, nl_ladd, nl_aa, nl_mul, nl_rmul, nl_mm, pu_wi_1, pu_wi_2, bX9_hasDoorAt_0, a_ist, a_push, pu_rv, pu_as, Value.category, pu_bk, pu_kl, pu_qe0, pu_qe1, e]
/-- the loops of fittingNumber -/
theorem c_fit_i (hx : pu_fx M) (hw : pu_WF I L) (hst : st < cK I) (h : pz_vw M I st o V n) (s p lo hi c first last : Nat) (rk : Int32) (hs : s < 2) (hp : p < 10000) (hlo : lo < 200000) (hhi : hi < 200000) (hc : c ≤ 9) (hl : last ≤ 9999) : ∀ (m g : Nat) (t : Option Value), g + m = last + 1 → 1 ≤ g → (∃ n2, g ≤ n2 ∧ n2 ≤ last ∧ pz_cn I st s p lo hi c n2 ∧ (∀ n3, g ≤ n3 → pz_cn I st s p lo hi c n3 → n2 ≤ n3) ∧ pu_r 376 [some (.ref 62), some (.int (nI s)), some (.int (nI p)), some (.int 0), some (.int rk), some (.int (nI lo)), some (.int (nI hi)), some (.int (nI first)), some (.int (nI last)), some (.int (nI c)), some (.int (nI g)), t] [] M = some (some (.int (nI (16 * n2 + c))), M)) ∨ ((∀ n3, g ≤ n3 → n3 ≤ last → ¬ pz_cn I st s p lo hi c n3) ∧ ∃ x y, pu_r 376 [some (.ref 62), some (.int (nI s)), some (.int (nI p)), some (.int 0), some (.int rk), some (.int (nI lo)), some (.int (nI hi)), some (.int (nI first)), some (.int (nI last)), some (.int (nI c)), some (.int (nI g)), t] [] M = pu_r 375 [some (.ref 62), some (.int (nI s)), some (.int (nI p)), some (.int 0), some (.int rk), some (.int (nI lo)), some (.int (nI hi)), some (.int (nI first)), some (.int (nI last)), some (.int (nI (c + 1))), x, y] [] M)
  | 0, g, t, h1, h2 => by
    have q : nI last < nI g := nI_lt (by omega) (by omega)
    refine Or.inr ⟨fun n3 a b => by omega, some (.int (nI g)), t, ?_⟩
    rw [qX9_fittingNumber_127]
    simp [bX9_fittingNumber_127, bX9_fittingNumber_178, bX9_fittingNumber_172, a_ald, a_cv, a_iadd, a_icge, a_icgt, a_icle, a_ifeq, a_ild, a_imul, a_inc, a_iret, a_ist, a_push, sh_62, pu_rv, pu_as, Value.category, pu_bk, pu_kl, List.replicate, pu_wi_1, pu_wi_2, nl_add, nl_ladd, nl_aa, nl_mul, nl_rmul, nl_mm, pu_qe0, pu_qe1, q]
    all_goals try simp (maxSteps := 400000) (disch := omega) [nl_tle, nl_fle, nl_tlt, nl_flt, nl_teq, nl_feq, nl_sub, nl_ss, nl_lt, nl_llt, nl_ltt, nl_le, nl_lle, nl_lee, nl_eq, nl_leq, nl_ee, nl_div, nl_rem, nl_cl, nl_n1, nl_n2, nl_n3, nl_n4, nl_add, nl_ladd, nl_aa, nl_mul, nl_rmul, nl_mm, pu_wi_1, pu_wi_2, bX9_fittingNumber_127, bX9_fittingNumber_178, bX9_fittingNumber_172, a_ald, a_cv, a_iadd, a_icge, a_icgt, a_icle, a_ifeq, a_ild, a_imul, a_inc, a_iret, a_ist, a_push, sh_62, pu_rv, pu_as, Value.category, pu_bk, pu_kl, pu_qe0, pu_qe1, q]
    all_goals try simp [bX9_fittingNumber_127, bX9_fittingNumber_178, bX9_fittingNumber_172, a_ald, a_cv, a_iadd, a_icge, a_icgt, a_icle, a_ifeq, a_ild, a_imul, a_inc, a_iret, a_ist, a_push, sh_62, pu_rv, pu_as, Value.category, pu_bk, pu_kl, List.replicate, pu_wi_1, pu_wi_2, nl_add, nl_ladd, nl_aa, nl_mul, nl_rmul, nl_mm, pu_qe0, pu_qe1, q]
    all_goals try simp (maxSteps := 400000) (disch := omega) [nl_tle, nl_fle, nl_tlt, nl_flt, nl_teq, nl_feq, nl_sub, nl_ss, nl_lt, nl_llt, nl_ltt, nl_le, nl_lle, nl_lee, nl_eq, nl_leq, nl_ee, nl_div, nl_rem, nl_cl, nl_n1, nl_n2, nl_n3, nl_n4, nl_add, nl_ladd, nl_aa, nl_mul, nl_rmul, nl_mm, pu_wi_1, pu_wi_2, bX9_fittingNumber_127, bX9_fittingNumber_178, bX9_fittingNumber_172, a_ald, a_cv, a_iadd, a_icge, a_icgt, a_icle, a_ifeq, a_ild, a_imul, a_inc, a_iret, a_ist, a_push, sh_62, pu_rv, pu_as, Value.category, pu_bk, pu_kl, pu_qe0, pu_qe1, q]
  | m + 1, g, t, h1, h2 => by
    have q : ¬ nI last < nI g := nI_nlt (by omega) (by omega)
    have ih := fun t => c_fit_i hx hw hst h s p lo hi c first last rk hs hp hlo hhi hc hl m (g + 1) t (by omega) (by omega)
    have e1 := c_isFree hx hw hst h (16 * g + c) s p (by omega) hs hp
    by_cases d : pz_cd I st s p lo hi (16 * g + c)
    · have d1 : ¬ nI (16 * g + c) ≤ nI lo := nI_ge d.1 (by omega)
      have d2 : ¬ nI hi ≤ nI (16 * g + c) := nI_ge d.2.1 (by omega)
      rw [pu_q1 ⟨d.2.2.1, d.2.2.2⟩] at e1
      refine Or.inl ⟨g, Nat.le_refl _, by omega, ⟨hc, by omega, by omega, d⟩, fun n3 y1 _ => y1, ?_⟩
      rw [qX9_fittingNumber_127]
      simp [bX9_fittingNumber_127, bX9_fittingNumber_178, bX9_fittingNumber_172, a_ald, a_cv, a_iadd, a_icge, a_icgt, a_icle, a_ifeq, a_ild, a_imul, a_inc, a_iret, a_ist, a_push, sh_62, pu_rv, pu_as, Value.category, pu_bk, pu_kl, List.replicate, pu_wi_1, pu_wi_2, nl_add, nl_ladd, nl_aa, nl_mul, nl_rmul, nl_mm, pu_qe0, pu_qe1, q, d1, d2, e1]
      all_goals try simp (maxSteps := 400000) (disch := omega) [nl_tle, nl_fle, nl_tlt, nl_flt, nl_teq, nl_feq, nl_sub, nl_ss, nl_lt, nl_llt, nl_ltt, nl_le, nl_lle, nl_lee, nl_eq, nl_leq, nl_ee, nl_div, nl_rem, nl_cl, nl_n1, nl_n2, nl_n3, nl_n4, nl_add, nl_ladd, nl_aa, nl_mul, nl_rmul, nl_mm, pu_wi_1, pu_wi_2, bX9_fittingNumber_127, bX9_fittingNumber_178, bX9_fittingNumber_172, a_ald, a_cv, a_iadd, a_icge, a_icgt, a_icle, a_ifeq, a_ild, a_imul, a_inc, a_iret, a_ist, a_push, sh_62, pu_rv, pu_as, Value.category, pu_bk, pu_kl, pu_qe0, pu_qe1, q, d1, d2, e1]
      all_goals try simp [bX9_fittingNumber_127, bX9_fittingNumber_178, bX9_fittingNumber_172, a_ald, a_cv, a_iadd, a_icge, a_icgt, a_icle, a_ifeq, a_ild, a_imul, a_inc, a_iret, a_ist, a_push, sh_62, pu_rv, pu_as, Value.category, pu_bk, pu_kl, List.replicate, pu_wi_1, pu_wi_2, nl_add, nl_ladd, nl_aa, nl_mul, nl_rmul, nl_mm, pu_qe0, pu_qe1, q, d1, d2, e1]
      all_goals try simp (maxSteps := 400000) (disch := omega) [nl_tle, nl_fle, nl_tlt, nl_flt, nl_teq, nl_feq, nl_sub, nl_ss, nl_lt, nl_llt, nl_ltt, nl_le, nl_lle, nl_lee, nl_eq, nl_leq, nl_ee, nl_div, nl_rem, nl_cl, nl_n1, nl_n2, nl_n3, nl_n4, nl_add, nl_ladd, nl_aa, nl_mul, nl_rmul, nl_mm, pu_wi_1, pu_wi_2, bX9_fittingNumber_127, bX9_fittingNumber_178, bX9_fittingNumber_172, a_ald, a_cv, a_iadd, a_icge, a_icgt, a_icle, a_ifeq, a_ild, a_imul, a_inc, a_iret, a_ist, a_push, sh_62, pu_rv, pu_as, Value.category, pu_bk, pu_kl, pu_qe0, pu_qe1, q, d1, d2, e1]
    · have st1 : pu_r 376 [some (.ref 62), some (.int (nI s)), some (.int (nI p)), some (.int 0), some (.int rk), some (.int (nI lo)), some (.int (nI hi)), some (.int (nI first)), some (.int (nI last)), some (.int (nI c)), some (.int (nI g)), t] [] M = pu_r 376 [some (.ref 62), some (.int (nI s)), some (.int (nI p)), some (.int 0), some (.int rk), some (.int (nI lo)), some (.int (nI hi)), some (.int (nI first)), some (.int (nI last)), some (.int (nI c)), some (.int (nI (g + 1))), some (.int (nI (16 * g + c)))] [] M := by
        by_cases a : lo < 16 * g + c
        · have a1 : ¬ nI (16 * g + c) ≤ nI lo := nI_ge a (by omega)
          by_cases b : 16 * g + c < hi
          · have b1 : ¬ nI hi ≤ nI (16 * g + c) := nI_ge b (by omega)
            rw [pu_q0 (fun z => d ⟨a, b, z.1, z.2⟩)] at e1
            rw [qX9_fittingNumber_127]
            simp [bX9_fittingNumber_127, bX9_fittingNumber_178, bX9_fittingNumber_172, a_ald, a_cv, a_iadd, a_icge, a_icgt, a_icle, a_ifeq, a_ild, a_imul, a_inc, a_iret, a_ist, a_push, sh_62, pu_rv, pu_as, Value.category, pu_bk, pu_kl, List.replicate, pu_wi_1, pu_wi_2, nl_add, nl_ladd, nl_aa, nl_mul, nl_rmul, nl_mm, pu_qe0, pu_qe1, q, a1, b1, e1]
            all_goals try simp (maxSteps := 400000) (disch := omega) [nl_tle, nl_fle, nl_tlt, nl_flt, nl_teq, nl_feq, nl_sub, nl_ss, nl_lt, nl_llt, nl_ltt, nl_le, nl_lle, nl_lee, nl_eq, nl_leq, nl_ee, nl_div, nl_rem, nl_cl, nl_n1, nl_n2, nl_n3, nl_n4, nl_add, nl_ladd, nl_aa, nl_mul, nl_rmul, nl_mm, pu_wi_1, pu_wi_2, bX9_fittingNumber_127, bX9_fittingNumber_178, bX9_fittingNumber_172, a_ald, a_cv, a_iadd, a_icge, a_icgt, a_icle, a_ifeq, a_ild, a_imul, a_inc, a_iret, a_ist, a_push, sh_62, pu_rv, pu_as, Value.category, pu_bk, pu_kl, pu_qe0, pu_qe1, q, a1, b1, e1]
            all_goals try simp [bX9_fittingNumber_127, bX9_fittingNumber_178, bX9_fittingNumber_172, a_ald, a_cv, a_iadd, a_icge, a_icgt, a_icle, a_ifeq, a_ild, a_imul, a_inc, a_iret, a_ist, a_push, sh_62, pu_rv, pu_as, Value.category, pu_bk, pu_kl, List.replicate, pu_wi_1, pu_wi_2, nl_add, nl_ladd, nl_aa, nl_mul, nl_rmul, nl_mm, pu_qe0, pu_qe1, q, a1, b1, e1]
            all_goals try simp (maxSteps := 400000) (disch := omega) [nl_tle, nl_fle, nl_tlt, nl_flt, nl_teq, nl_feq, nl_sub, nl_ss, nl_lt, nl_llt, nl_ltt, nl_le, nl_lle, nl_lee, nl_eq, nl_leq, nl_ee, nl_div, nl_rem, nl_cl, nl_n1, nl_n2, nl_n3, nl_n4, nl_add, nl_ladd, nl_aa, nl_mul, nl_rmul, nl_mm, pu_wi_1, pu_wi_2, bX9_fittingNumber_127, bX9_fittingNumber_178, bX9_fittingNumber_172, a_ald, a_cv, a_iadd, a_icge, a_icgt, a_icle, a_ifeq, a_ild, a_imul, a_inc, a_iret, a_ist, a_push, sh_62, pu_rv, pu_as, Value.category, pu_bk, pu_kl, pu_qe0, pu_qe1, q, a1, b1, e1]
          · have b1 : nI hi ≤ nI (16 * g + c) := nI_le (by omega) (by omega)
            rw [qX9_fittingNumber_127]
            simp [bX9_fittingNumber_127, bX9_fittingNumber_178, bX9_fittingNumber_172, a_ald, a_cv, a_iadd, a_icge, a_icgt, a_icle, a_ifeq, a_ild, a_imul, a_inc, a_iret, a_ist, a_push, sh_62, pu_rv, pu_as, Value.category, pu_bk, pu_kl, List.replicate, pu_wi_1, pu_wi_2, nl_add, nl_ladd, nl_aa, nl_mul, nl_rmul, nl_mm, pu_qe0, pu_qe1, q, a1, b1]
            all_goals try simp (maxSteps := 400000) (disch := omega) [nl_tle, nl_fle, nl_tlt, nl_flt, nl_teq, nl_feq, nl_sub, nl_ss, nl_lt, nl_llt, nl_ltt, nl_le, nl_lle, nl_lee, nl_eq, nl_leq, nl_ee, nl_div, nl_rem, nl_cl, nl_n1, nl_n2, nl_n3, nl_n4, nl_add, nl_ladd, nl_aa, nl_mul, nl_rmul, nl_mm, pu_wi_1, pu_wi_2, bX9_fittingNumber_127, bX9_fittingNumber_178, bX9_fittingNumber_172, a_ald, a_cv, a_iadd, a_icge, a_icgt, a_icle, a_ifeq, a_ild, a_imul, a_inc, a_iret, a_ist, a_push, sh_62, pu_rv, pu_as, Value.category, pu_bk, pu_kl, pu_qe0, pu_qe1, q, a1, b1]
            all_goals try simp [bX9_fittingNumber_127, bX9_fittingNumber_178, bX9_fittingNumber_172, a_ald, a_cv, a_iadd, a_icge, a_icgt, a_icle, a_ifeq, a_ild, a_imul, a_inc, a_iret, a_ist, a_push, sh_62, pu_rv, pu_as, Value.category, pu_bk, pu_kl, List.replicate, pu_wi_1, pu_wi_2, nl_add, nl_ladd, nl_aa, nl_mul, nl_rmul, nl_mm, pu_qe0, pu_qe1, q, a1, b1]
            all_goals try simp (maxSteps := 400000) (disch := omega) [nl_tle, nl_fle, nl_tlt, nl_flt, nl_teq, nl_feq, nl_sub, nl_ss, nl_lt, nl_llt, nl_ltt, nl_le, nl_lle, nl_lee, nl_eq, nl_leq, nl_ee, nl_div, nl_rem, nl_cl, nl_n1, nl_n2, nl_n3, nl_n4, nl_add, nl_ladd, nl_aa, nl_mul, nl_rmul, nl_mm, pu_wi_1, pu_wi_2, bX9_fittingNumber_127, bX9_fittingNumber_178, bX9_fittingNumber_172, a_ald, a_cv, a_iadd, a_icge, a_icgt, a_icle, a_ifeq, a_ild, a_imul, a_inc, a_iret, a_ist, a_push, sh_62, pu_rv, pu_as, Value.category, pu_bk, pu_kl, pu_qe0, pu_qe1, q, a1, b1]
        · have a1 : nI (16 * g + c) ≤ nI lo := nI_le (by omega) (by omega)
          rw [qX9_fittingNumber_127]
          simp [bX9_fittingNumber_127, bX9_fittingNumber_178, bX9_fittingNumber_172, a_ald, a_cv, a_iadd, a_icge, a_icgt, a_icle, a_ifeq, a_ild, a_imul, a_inc, a_iret, a_ist, a_push, sh_62, pu_rv, pu_as, Value.category, pu_bk, pu_kl, List.replicate, pu_wi_1, pu_wi_2, nl_add, nl_ladd, nl_aa, nl_mul, nl_rmul, nl_mm, pu_qe0, pu_qe1, q, a1]
          all_goals try simp (maxSteps := 400000) (disch := omega) [nl_tle, nl_fle, nl_tlt, nl_flt, nl_teq, nl_feq, nl_sub, nl_ss, nl_lt, nl_llt, nl_ltt, nl_le, nl_lle, nl_lee, nl_eq, nl_leq, nl_ee, nl_div, nl_rem, nl_cl, nl_n1, nl_n2, nl_n3, nl_n4, nl_add, nl_ladd, nl_aa, nl_mul, nl_rmul, nl_mm, pu_wi_1, pu_wi_2, bX9_fittingNumber_127, bX9_fittingNumber_178, bX9_fittingNumber_172, a_ald, a_cv, a_iadd, a_icge, a_icgt, a_icle, a_ifeq, a_ild, a_imul, a_inc, a_iret, a_ist, a_push, sh_62, pu_rv, pu_as, Value.category, pu_bk, pu_kl, pu_qe0, pu_qe1, q, a1]
          all_goals try simp [bX9_fittingNumber_127, bX9_fittingNumber_178, bX9_fittingNumber_172, a_ald, a_cv, a_iadd, a_icge, a_icgt, a_icle, a_ifeq, a_ild, a_imul, a_inc, a_iret, a_ist, a_push, sh_62, pu_rv, pu_as, Value.category, pu_bk, pu_kl, List.replicate, pu_wi_1, pu_wi_2, nl_add, nl_ladd, nl_aa, nl_mul, nl_rmul, nl_mm, pu_qe0, pu_qe1, q, a1]
          all_goals try simp (maxSteps := 400000) (disch := omega) [nl_tle, nl_fle, nl_tlt, nl_flt, nl_teq, nl_feq, nl_sub, nl_ss, nl_lt, nl_llt, nl_ltt, nl_le, nl_lle, nl_lee, nl_eq, nl_leq, nl_ee, nl_div, nl_rem, nl_cl, nl_n1, nl_n2, nl_n3, nl_n4, nl_add, nl_ladd, nl_aa, nl_mul, nl_rmul, nl_mm, pu_wi_1, pu_wi_2, bX9_fittingNumber_127, bX9_fittingNumber_178, bX9_fittingNumber_172, a_ald, a_cv, a_iadd, a_icge, a_icgt, a_icle, a_ifeq, a_ild, a_imul, a_inc, a_iret, a_ist, a_push, sh_62, pu_rv, pu_as, Value.category, pu_bk, pu_kl, pu_qe0, pu_qe1, q, a1]
      rw [st1]
      have ne : ∀ n3, g ≤ n3 → pz_cn I st s p lo hi c n3 → g + 1 ≤ n3 := fun n3 y1 y2 => by
        have : n3 ≠ g := fun z => d (by rw [← z]; exact y2.2.2.2)
        omega
      rcases ih (some (.int (nI (16 * g + c)))) with ⟨n2, x1, x2, x3, x4, x5⟩ | ⟨x1, x, y, x2⟩
      · exact Or.inl ⟨n2, by omega, x2, x3, fun n3 y1 y2 => x4 n3 (ne n3 y1 y2) y2, x5⟩
      · exact Or.inr ⟨fun n3 y1 y2 y3 => x1 n3 (ne n3 y1 y3) y2 y3, x, y, x2⟩
theorem c_fit_o (hx : pu_fx M) (hw : pu_WF I L) (hst : st < cK I) (h : pz_vw M I st o V n) (s p lo hi first last : Nat) (rk : Int32) (hs : s < 2) (hp : p < 10000) (hlo : lo < 200000) (hhi : hi < 200000) (hl : last ≤ 9999) (hf : first ≤ 10000) (hin : ∀ c n, pz_cn I st s p lo hi c n → first ≤ n ∧ n ≤ last) : ∀ (m c : Nat) (t u : Option Value), c + m = 10 → (∀ c2 n2, c2 < c → ¬ pz_cn I st s p lo hi c2 n2) → ∃ r, pz_fr (pz_cn I st s p lo hi) r ∧ pu_r 375 [some (.ref 62), some (.int (nI s)), some (.int (nI p)), some (.int 0), some (.int rk), some (.int (nI lo)), some (.int (nI hi)), some (.int (nI first)), some (.int (nI last)), some (.int (nI c)), t, u] [] M = some (some (.int r), M)
  | 0, c, t, u, h1, hn => by
    have e : c = 10 := by omega
    subst e
    refine ⟨-1, Or.inl ⟨rfl, fun c2 n2 q => hn c2 n2 (by have := q.1; omega) q⟩, ?_⟩
    have q : (9 : Int32) < nI 10 := by decide
    rw [qX9_fittingNumber_112]
    simp [bX9_fittingNumber_112, bX9_fittingNumber_184, a_icgt, a_ild, a_iret, a_ist, a_max, a_push, pu_rv, pu_as, Value.category, pu_bk, pu_kl, List.replicate, pu_wi_1, pu_wi_2, nl_add, nl_ladd, nl_aa, nl_mul, nl_rmul, nl_mm, pu_qe0, pu_qe1, q]
    all_goals try simp (maxSteps := 400000) (disch := omega) [nl_tle, nl_fle, nl_tlt, nl_flt, nl_teq, nl_feq, nl_sub, nl_ss, nl_lt, nl_llt, nl_ltt, nl_le, nl_lle, nl_lee, nl_eq, nl_leq, nl_ee, nl_div, nl_rem, nl_cl, nl_n1, nl_n2, nl_n3, nl_n4, nl_add, nl_ladd, nl_aa, nl_mul, nl_rmul, nl_mm, pu_wi_1, pu_wi_2, bX9_fittingNumber_112, bX9_fittingNumber_184, a_icgt, a_ild, a_iret, a_ist, a_max, a_push, pu_rv, pu_as, Value.category, pu_bk, pu_kl, pu_qe0, pu_qe1, q]
    all_goals try simp [bX9_fittingNumber_112, bX9_fittingNumber_184, a_icgt, a_ild, a_iret, a_ist, a_max, a_push, pu_rv, pu_as, Value.category, pu_bk, pu_kl, List.replicate, pu_wi_1, pu_wi_2, nl_add, nl_ladd, nl_aa, nl_mul, nl_rmul, nl_mm, pu_qe0, pu_qe1, q]
    all_goals try simp (maxSteps := 400000) (disch := omega) [nl_tle, nl_fle, nl_tlt, nl_flt, nl_teq, nl_feq, nl_sub, nl_ss, nl_lt, nl_llt, nl_ltt, nl_le, nl_lle, nl_lee, nl_eq, nl_leq, nl_ee, nl_div, nl_rem, nl_cl, nl_n1, nl_n2, nl_n3, nl_n4, nl_add, nl_ladd, nl_aa, nl_mul, nl_rmul, nl_mm, pu_wi_1, pu_wi_2, bX9_fittingNumber_112, bX9_fittingNumber_184, a_icgt, a_ild, a_iret, a_ist, a_max, a_push, pu_rv, pu_as, Value.category, pu_bk, pu_kl, pu_qe0, pu_qe1, q]
  | m + 1, c, t, u, h1, hn => by
    have q : ¬ (9 : Int32) < nI c := fun z => by rw [show (9 : Int32) = nI 9 from rfl, nI_ltI (by omega) (by omega)] at z; omega
    have mx : (if (1 : Int32) < nI first then nI first else 1) = nI (max 1 first) := by
      by_cases a : 1 < first
      · have a2 : (1 : Int32) < nI first := nI_lt (a := 1) a (by omega)
        rw [if_pos a2, show max 1 first = first by omega]
      · have a2 : ¬ (1 : Int32) < nI first := nI_nlt (a := 1) (b := first) (by omega) (by omega)
        rw [if_neg a2, show max 1 first = 1 by omega]
        rfl
    have z : pu_r 375 [some (.ref 62), some (.int (nI s)), some (.int (nI p)), some (.int 0), some (.int rk), some (.int (nI lo)), some (.int (nI hi)), some (.int (nI first)), some (.int (nI last)), some (.int (nI c)), t, u] [] M = pu_r 376 [some (.ref 62), some (.int (nI s)), some (.int (nI p)), some (.int 0), some (.int rk), some (.int (nI lo)), some (.int (nI hi)), some (.int (nI first)), some (.int (nI last)), some (.int (nI c)), some (.int (nI (max 1 first))), u] [] M := by
      rw [← mx]
      rw [qX9_fittingNumber_112]
      simp [bX9_fittingNumber_112, bX9_fittingNumber_184, a_icgt, a_ild, a_iret, a_ist, a_max, a_push, pu_rv, pu_as, Value.category, pu_bk, pu_kl, List.replicate, pu_wi_1, pu_wi_2, nl_add, nl_ladd, nl_aa, nl_mul, nl_rmul, nl_mm, pu_qe0, pu_qe1, q]
      all_goals try simp (maxSteps := 400000) (disch := omega) [nl_tle, nl_fle, nl_tlt, nl_flt, nl_teq, nl_feq, nl_sub, nl_ss, nl_lt, nl_llt, nl_ltt, nl_le, nl_lle, nl_lee, nl_eq, nl_leq, nl_ee, nl_div, nl_rem, nl_cl, nl_n1, nl_n2, nl_n3, nl_n4, nl_add, nl_ladd, nl_aa, nl_mul, nl_rmul, nl_mm, pu_wi_1, pu_wi_2, bX9_fittingNumber_112, bX9_fittingNumber_184, a_icgt, a_ild, a_iret, a_ist, a_max, a_push, pu_rv, pu_as, Value.category, pu_bk, pu_kl, pu_qe0, pu_qe1, q]
      all_goals try simp [bX9_fittingNumber_112, bX9_fittingNumber_184, a_icgt, a_ild, a_iret, a_ist, a_max, a_push, pu_rv, pu_as, Value.category, pu_bk, pu_kl, List.replicate, pu_wi_1, pu_wi_2, nl_add, nl_ladd, nl_aa, nl_mul, nl_rmul, nl_mm, pu_qe0, pu_qe1, q]
      all_goals try simp (maxSteps := 400000) (disch := omega) [nl_tle, nl_fle, nl_tlt, nl_flt, nl_teq, nl_feq, nl_sub, nl_ss, nl_lt, nl_llt, nl_ltt, nl_le, nl_lle, nl_lee, nl_eq, nl_leq, nl_ee, nl_div, nl_rem, nl_cl, nl_n1, nl_n2, nl_n3, nl_n4, nl_add, nl_ladd, nl_aa, nl_mul, nl_rmul, nl_mm, pu_wi_1, pu_wi_2, bX9_fittingNumber_112, bX9_fittingNumber_184, a_icgt, a_ild, a_iret, a_ist, a_max, a_push, pu_rv, pu_as, Value.category, pu_bk, pu_kl, pu_qe0, pu_qe1, q]
    rw [z]
    by_cases ex : max 1 first ≤ last + 1
    · rcases c_fit_i hx hw hst h s p lo hi c first last rk hs hp hlo hhi (by omega) hl (last + 1 - max 1 first) (max 1 first) u (by omega) (by omega) with ⟨n2, x1, x2, x3, x4, x5⟩ | ⟨x1, x, y, x2⟩
      · refine ⟨_, Or.inr ⟨c, n2, x3, rfl, fun c2 n3 y => ?_⟩, x5⟩
        by_cases a : c2 < c
        · exact absurd y (hn c2 n3 a)
        · by_cases b : c2 = c
          · have w := hin c2 n3 y
            rw [b] at y
            exact Or.inr ⟨b.symm, x4 n3 (by have := y.2.1; omega) y⟩
          · exact Or.inl (by omega)
      · obtain ⟨r, r1, r2⟩ := c_fit_o hx hw hst h s p lo hi first last rk hs hp hlo hhi hl hf hin m (c + 1) x y (by omega) (fun c2 n2 a y => by
          by_cases b : c2 = c
          · have w := hin c2 n2 y
            rw [b] at y
            exact x1 n2 (by have := y.2.1; omega) w.2 y
          · exact hn c2 n2 (by omega) y)
        exact ⟨r, r1, x2.trans r2⟩
    · have q2 : nI last < nI (max 1 first) := nI_lt (by omega) (by omega)
      obtain ⟨r, r1, r2⟩ := c_fit_o hx hw hst h s p lo hi first last rk hs hp hlo hhi hl hf hin m (c + 1) (some (.int (nI (max 1 first)))) u (by omega) (fun c2 n2 a y => by
        have w := hin c2 n2 y
        have := y.2.1
        omega)
      refine ⟨r, r1, ?_⟩
      rw [← r2]
      rw [qX9_fittingNumber_127]
      simp [bX9_fittingNumber_127, bX9_fittingNumber_178, bX9_fittingNumber_172, a_ald, a_cv, a_iadd, a_icge, a_icgt, a_icle, a_ifeq, a_ild, a_imul, a_inc, a_iret, a_ist, a_push, sh_62, pu_rv, pu_as, Value.category, pu_bk, pu_kl, List.replicate, pu_wi_1, pu_wi_2, nl_add, nl_ladd, nl_aa, nl_mul, nl_rmul, nl_mm, pu_qe0, pu_qe1, q2]
      all_goals try simp (maxSteps := 400000) (disch := omega) [nl_tle, nl_fle, nl_tlt, nl_flt, nl_teq, nl_feq, nl_sub, nl_ss, nl_lt, nl_llt, nl_ltt, nl_le, nl_lle, nl_lee, nl_eq, nl_leq, nl_ee, nl_div, nl_rem, nl_cl, nl_n1, nl_n2, nl_n3, nl_n4, nl_add, nl_ladd, nl_aa, nl_mul, nl_rmul, nl_mm, pu_wi_1, pu_wi_2, bX9_fittingNumber_127, bX9_fittingNumber_178, bX9_fittingNumber_172, a_ald, a_cv, a_iadd, a_icge, a_icgt, a_icle, a_ifeq, a_ild, a_imul, a_inc, a_iret, a_ist, a_push, sh_62, pu_rv, pu_as, Value.category, pu_bk, pu_kl, pu_qe0, pu_qe1, q2]
      all_goals try simp [bX9_fittingNumber_127, bX9_fittingNumber_178, bX9_fittingNumber_172, a_ald, a_cv, a_iadd, a_icge, a_icgt, a_icle, a_ifeq, a_ild, a_imul, a_inc, a_iret, a_ist, a_push, sh_62, pu_rv, pu_as, Value.category, pu_bk, pu_kl, List.replicate, pu_wi_1, pu_wi_2, nl_add, nl_ladd, nl_aa, nl_mul, nl_rmul, nl_mm, pu_qe0, pu_qe1, q2]
      all_goals try simp (maxSteps := 400000) (disch := omega) [nl_tle, nl_fle, nl_tlt, nl_flt, nl_teq, nl_feq, nl_sub, nl_ss, nl_lt, nl_llt, nl_ltt, nl_le, nl_lle, nl_lee, nl_eq, nl_leq, nl_ee, nl_div, nl_rem, nl_cl, nl_n1, nl_n2, nl_n3, nl_n4, nl_add, nl_ladd, nl_aa, nl_mul, nl_rmul, nl_mm, pu_wi_1, pu_wi_2, bX9_fittingNumber_127, bX9_fittingNumber_178, bX9_fittingNumber_172, a_ald, a_cv, a_iadd, a_icge, a_icgt, a_icle, a_ifeq, a_ild, a_imul, a_inc, a_iret, a_ist, a_push, sh_62, pu_rv, pu_as, Value.category, pu_bk, pu_kl, pu_qe0, pu_qe1, q2]
end
