/-! pairs, on the reference's side: all of two streets -/
section
variable {I : Nat → Nat → Int32} {L : Nat → Nat → Int64} {s0 : Nat → Int32}
theorem r_pb_e {s0 : Nat → Int32} {N : pu_M} {c : Nat} (h : pu_St I L s0) (hcl : c ≤ 200) (hN : py_rpr s0 N c) (a b : Nat) (lv v dr : Int32) (t7 t8 : Option Value) : pu_r 515 [some (.ref 71), some (.int (nI a)), some (.int (nI b)), some (.int lv), some (.int v), some (.int dr), some (.int (nI (cD I))), t7, t8] [] N = pu_r 512 [some (.ref 71), some (.int (nI a)), some (.int (nI b)), some (.int lv), some (.int v), some (.int dr), some (.int (nI (cD I))), t7, t8] [] N := by
  obtain ⟨hx, fr, h14⟩ := hN
  have hw := h.1
  have bD := wx_bD hw
  have h4 : N.1 72 4 = nI (cD I) := by rw [fr 4 (by omega) (by omega)]; exact rl_h4 h.2
  have hc : nI (cD I) ≤ nI (cD I) := nI_le (by omega) (by omega)
  generalize hR : pu_r 512 [some (.ref 71), some (.int (nI a)), some (.int (nI b)), some (.int lv), some (.int v), some (.int dr), some (.int (nI (cD I))), t7, t8] [] N = R
  rw [qX12_pairs_134]
  simp [bX12_pairs_134, bX12_pairs_267, a_ai, a_ald, a_gr, a_icge, a_ild, a_ist, a_push, fx_71_0 hx, sh_71, sh_72, pu_rv, pu_as, Value.category, pu_bk, pu_kl, List.replicate, pu_wi_1, pu_wi_2, nl_add, nl_ladd, nl_aa, nl_mul, nl_rmul, nl_mm, pu_qe0, pu_qe1, h4, hc, hR]
  all_goals try simp (maxSteps := 400000) (disch := omega) [nl_tle, nl_fle, nl_tlt, nl_flt, nl_teq, nl_feq, nl_sub, nl_ss, nl_lt, nl_llt, nl_ltt, nl_le, nl_lle, nl_lee, nl_eq, nl_leq, nl_ee, nl_div, nl_rem, nl_cl, nl_n1, nl_n2, nl_n3, nl_n4, nl_add, nl_ladd, nl_aa, nl_mul, nl_rmul, nl_mm, pu_wi_1, pu_wi_2, bX12_pairs_134, bX12_pairs_267, a_ai, a_ald, a_gr, a_icge, a_ild, a_ist, a_push, fx_71_0 hx, sh_71, sh_72, pu_rv, pu_as, Value.category, pu_bk, pu_kl, pu_qe0, pu_qe1, h4, hc, hR]
  all_goals try simp [bX12_pairs_134, bX12_pairs_267, a_ai, a_ald, a_gr, a_icge, a_ild, a_ist, a_push, fx_71_0 hx, sh_71, sh_72, pu_rv, pu_as, Value.category, pu_bk, pu_kl, List.replicate, pu_wi_1, pu_wi_2, nl_add, nl_ladd, nl_aa, nl_mul, nl_rmul, nl_mm, pu_qe0, pu_qe1, h4, hc, hR]
  all_goals try simp (maxSteps := 400000) (disch := omega) [nl_tle, nl_fle, nl_tlt, nl_flt, nl_teq, nl_feq, nl_sub, nl_ss, nl_lt, nl_llt, nl_ltt, nl_le, nl_lle, nl_lee, nl_eq, nl_leq, nl_ee, nl_div, nl_rem, nl_cl, nl_n1, nl_n2, nl_n3, nl_n4, nl_add, nl_ladd, nl_aa, nl_mul, nl_rmul, nl_mm, pu_wi_1, pu_wi_2, bX12_pairs_134, bX12_pairs_267, a_ai, a_ald, a_gr, a_icge, a_ild, a_ist, a_push, fx_71_0 hx, sh_71, sh_72, pu_rv, pu_as, Value.category, pu_bk, pu_kl, pu_qe0, pu_qe1, h4, hc, hR]
  all_goals try simp [bX12_pairs_134, bX12_pairs_267, a_ai, a_ald, a_gr, a_icge, a_ild, a_ist, a_push, fx_71_0 hx, sh_71, sh_72, pu_rv, pu_as, Value.category, pu_bk, pu_kl, List.replicate, pu_wi_1, pu_wi_2, nl_add, nl_ladd, nl_aa, nl_mul, nl_rmul, nl_mm, pu_qe0, pu_qe1, h4, hc, hR]
  all_goals try simp (maxSteps := 400000) (disch := omega) [nl_tle, nl_fle, nl_tlt, nl_flt, nl_teq, nl_feq, nl_sub, nl_ss, nl_lt, nl_llt, nl_ltt, nl_le, nl_lle, nl_lee, nl_eq, nl_leq, nl_ee, nl_div, nl_rem, nl_cl, nl_n1, nl_n2, nl_n3, nl_n4, nl_add, nl_ladd, nl_aa, nl_mul, nl_rmul, nl_mm, pu_wi_1, pu_wi_2, bX12_pairs_134, bX12_pairs_267, a_ai, a_ald, a_gr, a_icge, a_ild, a_ist, a_push, fx_71_0 hx, sh_71, sh_72, pu_rv, pu_as, Value.category, pu_bk, pu_kl, pu_qe0, pu_qe1, h4, hc, hR]
  all_goals try simp [bX12_pairs_134, bX12_pairs_267, a_ai, a_ald, a_gr, a_icge, a_ild, a_ist, a_push, fx_71_0 hx, sh_71, sh_72, pu_rv, pu_as, Value.category, pu_bk, pu_kl, List.replicate, pu_wi_1, pu_wi_2, nl_add, nl_ladd, nl_aa, nl_mul, nl_rmul, nl_mm, pu_qe0, pu_qe1, h4, hc, hR]
theorem r_pb_w {s0 : Nat → Int32} {N : pu_M} {c d : Nat} (h : pu_St I L s0) (hcl : c ≤ 200) (hd : d < cD I) (hN : py_rpr s0 N c) (a b : Nat) (lv v dr : Int32) (t7 t8 : Option Value) (R : Option (Option Value × pu_M)) (hR : pu_r 516 [some (.ref 71), some (.int (nI a)), some (.int (nI b)), some (.int lv), some (.int v), some (.int dr), some (.int (nI d)), some (.int 0), t8] [] N = R) : pu_r 515 [some (.ref 71), some (.int (nI a)), some (.int (nI b)), some (.int lv), some (.int v), some (.int dr), some (.int (nI d)), t7, t8] [] N = R := by
  obtain ⟨hx, fr, h14⟩ := hN
  have hw := h.1
  have bD := wx_bD hw
  have h4 : N.1 72 4 = nI (cD I) := by rw [fr 4 (by omega) (by omega)]; exact rl_h4 h.2
  have hc : ¬ nI (cD I) ≤ nI d := nI_ge (by omega) (by omega)
  rw [qX12_pairs_134]
  simp [bX12_pairs_134, bX12_pairs_267, a_ai, a_ald, a_gr, a_icge, a_ild, a_ist, a_push, fx_71_0 hx, sh_71, sh_72, pu_rv, pu_as, Value.category, pu_bk, pu_kl, List.replicate, pu_wi_1, pu_wi_2, nl_add, nl_ladd, nl_aa, nl_mul, nl_rmul, nl_mm, pu_qe0, pu_qe1, h4, hc, hR]
  all_goals try simp (maxSteps := 400000) (disch := omega) [nl_tle, nl_fle, nl_tlt, nl_flt, nl_teq, nl_feq, nl_sub, nl_ss, nl_lt, nl_llt, nl_ltt, nl_le, nl_lle, nl_lee, nl_eq, nl_leq, nl_ee, nl_div, nl_rem, nl_cl, nl_n1, nl_n2, nl_n3, nl_n4, nl_add, nl_ladd, nl_aa, nl_mul, nl_rmul, nl_mm, pu_wi_1, pu_wi_2, bX12_pairs_134, bX12_pairs_267, a_ai, a_ald, a_gr, a_icge, a_ild, a_ist, a_push, fx_71_0 hx, sh_71, sh_72, pu_rv, pu_as, Value.category, pu_bk, pu_kl, pu_qe0, pu_qe1, h4, hc, hR]
  all_goals try simp [bX12_pairs_134, bX12_pairs_267, a_ai, a_ald, a_gr, a_icge, a_ild, a_ist, a_push, fx_71_0 hx, sh_71, sh_72, pu_rv, pu_as, Value.category, pu_bk, pu_kl, List.replicate, pu_wi_1, pu_wi_2, nl_add, nl_ladd, nl_aa, nl_mul, nl_rmul, nl_mm, pu_qe0, pu_qe1, h4, hc, hR]
  all_goals try simp (maxSteps := 400000) (disch := omega) [nl_tle, nl_fle, nl_tlt, nl_flt, nl_teq, nl_feq, nl_sub, nl_ss, nl_lt, nl_llt, nl_ltt, nl_le, nl_lle, nl_lee, nl_eq, nl_leq, nl_ee, nl_div, nl_rem, nl_cl, nl_n1, nl_n2, nl_n3, nl_n4, nl_add, nl_ladd, nl_aa, nl_mul, nl_rmul, nl_mm, pu_wi_1, pu_wi_2, bX12_pairs_134, bX12_pairs_267, a_ai, a_ald, a_gr, a_icge, a_ild, a_ist, a_push, fx_71_0 hx, sh_71, sh_72, pu_rv, pu_as, Value.category, pu_bk, pu_kl, pu_qe0, pu_qe1, h4, hc, hR]
  all_goals try simp [bX12_pairs_134, bX12_pairs_267, a_ai, a_ald, a_gr, a_icge, a_ild, a_ist, a_push, fx_71_0 hx, sh_71, sh_72, pu_rv, pu_as, Value.category, pu_bk, pu_kl, List.replicate, pu_wi_1, pu_wi_2, nl_add, nl_ladd, nl_aa, nl_mul, nl_rmul, nl_mm, pu_qe0, pu_qe1, h4, hc, hR]
  all_goals try simp (maxSteps := 400000) (disch := omega) [nl_tle, nl_fle, nl_tlt, nl_flt, nl_teq, nl_feq, nl_sub, nl_ss, nl_lt, nl_llt, nl_ltt, nl_le, nl_lle, nl_lee, nl_eq, nl_leq, nl_ee, nl_div, nl_rem, nl_cl, nl_n1, nl_n2, nl_n3, nl_n4, nl_add, nl_ladd, nl_aa, nl_mul, nl_rmul, nl_mm, pu_wi_1, pu_wi_2, bX12_pairs_134, bX12_pairs_267, a_ai, a_ald, a_gr, a_icge, a_ild, a_ist, a_push, fx_71_0 hx, sh_71, sh_72, pu_rv, pu_as, Value.category, pu_bk, pu_kl, pu_qe0, pu_qe1, h4, hc, hR]
  all_goals try simp [bX12_pairs_134, bX12_pairs_267, a_ai, a_ald, a_gr, a_icge, a_ild, a_ist, a_push, fx_71_0 hx, sh_71, sh_72, pu_rv, pu_as, Value.category, pu_bk, pu_kl, List.replicate, pu_wi_1, pu_wi_2, nl_add, nl_ladd, nl_aa, nl_mul, nl_rmul, nl_mm, pu_qe0, pu_qe1, h4, hc, hR]
theorem r_pb_n {N : pu_M} (a b d : Nat) (lv v dr : Int32) (t8 : Option Value) : pu_r 516 [some (.ref 71), some (.int (nI a)), some (.int (nI b)), some (.int lv), some (.int v), some (.int dr), some (.int (nI d)), some (.int (nI (1 + 1))), t8] [] N = pu_r 515 [some (.ref 71), some (.int (nI a)), some (.int (nI b)), some (.int lv), some (.int v), some (.int dr), some (.int (nI (d + 1))), some (.int (nI (1 + 1))), t8] [] N := by
  have h2 : 2 ≤ nI (1 + 1) := by decide
  generalize hR : pu_r 515 [some (.ref 71), some (.int (nI a)), some (.int (nI b)), some (.int lv), some (.int v), some (.int dr), some (.int (nI (d + 1))), some (.int (nI (1 + 1))), t8] [] N = R
  rw [qX12_pairs_148]
  simp [bX12_pairs_148, bX12_pairs_261, bX12_pairs_255, bX12_pairs_202, bX12_pairs_241, bX12_pairs_199, a_ai, a_ald, a_cv, a_dup2, a_gr, a_iadd, a_iceq, a_icge, a_icne, a_ifeq, a_ild, a_imul, a_inc, a_push, a_wi, sh_71, sh_72, pu_rv, pu_as, Value.category, pu_bk, pu_kl, List.replicate, pu_wi_1, pu_wi_2, nl_add, nl_ladd, nl_aa, nl_mul, nl_rmul, nl_mm, pu_qe0, pu_qe1, h2, hR]
  all_goals try simp (maxSteps := 400000) (disch := omega) [nl_tle, nl_fle, nl_tlt, nl_flt, nl_teq, nl_feq, nl_sub, nl_ss, nl_lt, nl_llt, nl_ltt, nl_le, nl_lle, nl_lee, nl_eq, nl_leq, nl_ee, nl_div, nl_rem, nl_cl, nl_n1, nl_n2, nl_n3, nl_n4, nl_add, nl_ladd, nl_aa, nl_mul, nl_rmul, nl_mm, pu_wi_1, pu_wi_2, bX12_pairs_148, bX12_pairs_261, bX12_pairs_255, bX12_pairs_202, bX12_pairs_241, bX12_pairs_199, a_ai, a_ald, a_cv, a_dup2, a_gr, a_iadd, a_iceq, a_icge, a_icne, a_ifeq, a_ild, a_imul, a_inc, a_push, a_wi, sh_71, sh_72, pu_rv, pu_as, Value.category, pu_bk, pu_kl, pu_qe0, pu_qe1, h2, hR]
  all_goals try simp [bX12_pairs_148, bX12_pairs_261, bX12_pairs_255, bX12_pairs_202, bX12_pairs_241, bX12_pairs_199, a_ai, a_ald, a_cv, a_dup2, a_gr, a_iadd, a_iceq, a_icge, a_icne, a_ifeq, a_ild, a_imul, a_inc, a_push, a_wi, sh_71, sh_72, pu_rv, pu_as, Value.category, pu_bk, pu_kl, List.replicate, pu_wi_1, pu_wi_2, nl_add, nl_ladd, nl_aa, nl_mul, nl_rmul, nl_mm, pu_qe0, pu_qe1, h2, hR]
  all_goals try simp (maxSteps := 400000) (disch := omega) [nl_tle, nl_fle, nl_tlt, nl_flt, nl_teq, nl_feq, nl_sub, nl_ss, nl_lt, nl_llt, nl_ltt, nl_le, nl_lle, nl_lee, nl_eq, nl_leq, nl_ee, nl_div, nl_rem, nl_cl, nl_n1, nl_n2, nl_n3, nl_n4, nl_add, nl_ladd, nl_aa, nl_mul, nl_rmul, nl_mm, pu_wi_1, pu_wi_2, bX12_pairs_148, bX12_pairs_261, bX12_pairs_255, bX12_pairs_202, bX12_pairs_241, bX12_pairs_199, a_ai, a_ald, a_cv, a_dup2, a_gr, a_iadd, a_iceq, a_icge, a_icne, a_ifeq, a_ild, a_imul, a_inc, a_push, a_wi, sh_71, sh_72, pu_rv, pu_as, Value.category, pu_bk, pu_kl, pu_qe0, pu_qe1, h2, hR]
  all_goals try simp [bX12_pairs_148, bX12_pairs_261, bX12_pairs_255, bX12_pairs_202, bX12_pairs_241, bX12_pairs_199, a_ai, a_ald, a_cv, a_dup2, a_gr, a_iadd, a_iceq, a_icge, a_icne, a_ifeq, a_ild, a_imul, a_inc, a_push, a_wi, sh_71, sh_72, pu_rv, pu_as, Value.category, pu_bk, pu_kl, List.replicate, pu_wi_1, pu_wi_2, nl_add, nl_ladd, nl_aa, nl_mul, nl_rmul, nl_mm, pu_qe0, pu_qe1, h2, hR]
  all_goals try simp (maxSteps := 400000) (disch := omega) [nl_tle, nl_fle, nl_tlt, nl_flt, nl_teq, nl_feq, nl_sub, nl_ss, nl_lt, nl_llt, nl_ltt, nl_le, nl_lle, nl_lee, nl_eq, nl_leq, nl_ee, nl_div, nl_rem, nl_cl, nl_n1, nl_n2, nl_n3, nl_n4, nl_add, nl_ladd, nl_aa, nl_mul, nl_rmul, nl_mm, pu_wi_1, pu_wi_2, bX12_pairs_148, bX12_pairs_261, bX12_pairs_255, bX12_pairs_202, bX12_pairs_241, bX12_pairs_199, a_ai, a_ald, a_cv, a_dup2, a_gr, a_iadd, a_iceq, a_icge, a_icne, a_ifeq, a_ild, a_imul, a_inc, a_push, a_wi, sh_71, sh_72, pu_rv, pu_as, Value.category, pu_bk, pu_kl, pu_qe0, pu_qe1, h2, hR]
  all_goals try simp [bX12_pairs_148, bX12_pairs_261, bX12_pairs_255, bX12_pairs_202, bX12_pairs_241, bX12_pairs_199, a_ai, a_ald, a_cv, a_dup2, a_gr, a_iadd, a_iceq, a_icge, a_icne, a_ifeq, a_ild, a_imul, a_inc, a_push, a_wi, sh_71, sh_72, pu_rv, pu_as, Value.category, pu_bk, pu_kl, List.replicate, pu_wi_1, pu_wi_2, nl_add, nl_ladd, nl_aa, nl_mul, nl_rmul, nl_mm, pu_qe0, pu_qe1, h2, hR]
/-- no door of b from slot 2 d on -/
theorem r_pb0 (h : pu_St I L s0) (a b v c : Nat) (dr lv : Int32) (hcl : c ≤ 200) (hv : 0 < v) (hvl : v < 160000) (t8 : Option Value) (N : pu_M) (hN : py_rpr s0 N c) : ∀ (m d : Nat) (t7 : Option Value), d + m = cD I → (∀ j, py_kI I b j → py_k16 I j = v → ¬ 2 * d ≤ pu_sl0 I j) → ∃ u7, pu_r 515 [some (.ref 71), some (.int (nI a)), some (.int (nI b)), some (.int lv), some (.int (nI v)), some (.int dr), some (.int (nI d)), t7, t8] [] N = pu_r 512 [some (.ref 71), some (.int (nI a)), some (.int (nI b)), some (.int lv), some (.int (nI v)), some (.int dr), some (.int (nI (cD I))), u7, t8] [] N
  | 0, d, t7, hd, no => ⟨t7, by rw [show d = cD I by omega]; exact r_pb_e h hcl hN a b lv (nI v) dr t7 t8⟩
  | m + 1, d, t7, hd, no => by
    obtain ⟨u7, ih⟩ := r_pb0 h a b v c dr lv hcl hv hvl t8 N hN m (d + 1) (some (.int (nI (1 + 1)))) (by omega) (fun j hj e z => no j hj e (by omega))
    refine ⟨u7, r_pb_w h hcl (by omega) hN a b lv (nI v) dr t7 t8 _ ?_⟩
    rw [← ih, ← r_pb_n]
    have s1 := r_pb_i h a b v d 0 c dr hcl (fun ⟨j, j1, j2, j3⟩ => absurd (show 2 * d ≤ pu_sl0 I j by omega) (no j j1 j2)) (by omega) (by omega) hv hvl lv t8 N hN
    have s2 := r_pb_i h a b v d 1 c dr hcl (fun ⟨j, j1, j2, j3⟩ => absurd (show 2 * d ≤ pu_sl0 I j by omega) (no j j1 j2)) (by omega) (by omega) hv hvl lv t8 N hN
    rcases s1 with ⟨_, s1⟩ | ⟨j, j1, j2, j3, _⟩
    · rcases s2 with ⟨_, s2⟩ | ⟨j, j1, j2, j3, _⟩
      · rw [nI_0] at s1
        rw [s1, s2]
      · exact absurd (show 2 * d ≤ pu_sl0 I j by omega) (no j j1 j2)
    · exact absurd (show 2 * d ≤ pu_sl0 I j by omega) (no j j1 j2)
def py_pT (N : pu_M) (c : Nat) (dr dd : Int32) : pu_M := pu_wi (pu_wi (pu_wi N 72 (60008 + 2 * c) dr) 72 (60008 + 2 * c + 1) dd) 72 14 (nI (c + 1))
theorem py_pT_o {N : pu_M} {c : Nat} {dr dd : Int32} {a j : Nat} (h : ¬ (a = 72 ∧ (j = 14 ∨ j = 60008 + 2 * c ∨ j = 60008 + 2 * c + 1))) : (py_pT N c dr dd).1 a j = N.1 a j := by
  unfold py_pT
  rw [py_wi_o (by omega), py_wi_o (by omega), py_wi_o (by omega)]
theorem py_pT_r {N : pu_M} {c : Nat} {dr dd : Int32} (hc : c < 200) (hN : py_rpr s0 N c) : py_rpr s0 (py_pT N c dr dd) (c + 1) := by
  obtain ⟨hx, fr, h14⟩ := hN
  refine ⟨hx, fun j z1 z2 => by rw [py_pT_o (by omega)]; exact fr j z1 z2, ?_⟩
  unfold py_pT
  simp [pu_wi_1]
theorem r_pb1 (h : pu_St I L s0) (a b v c j0 : Nat) (dr lv : Int32) (hcl : c < 200) (hv : 0 < v) (hvl : v < 160000) (h1 : py_kI I b j0) (h2 : py_k16 I j0 = v) (t8 : Option Value) (N : pu_M) (hN : py_rpr s0 N c) : ∀ (m d : Nat) (t7 : Option Value), d + m = cD I → 2 * d ≤ pu_sl0 I j0 → ∃ u7, pu_r 515 [some (.ref 71), some (.int (nI a)), some (.int (nI b)), some (.int lv), some (.int (nI v)), some (.int dr), some (.int (nI d)), t7, t8] [] N = pu_r 512 [some (.ref 71), some (.int (nI a)), some (.int (nI b)), some (.int lv), some (.int (nI v)), some (.int dr), some (.int (nI (cD I))), u7, t8] [] (py_pT N c dr (nI (pu_sl0 I j0 / 2)))
  | 0, d, t7, hd, hs => by
    have := (pu_sl_lt h.1 h1.1).1
    omega
  | m + 1, d, t7, hd, hs => by
    have hw := h.1
    have U : ∀ j, py_kI I b j → py_k16 I j = v → j = j0 := fun j hj e => py_kI_u hw hj h1 (by rw [(py_k16_e hw hj.1).1, (py_k16_e hw h1.1).1, e, h2])
    have hT := py_pT_r (dr := dr) (dd := nI (pu_sl0 I j0 / 2)) hcl hN
    by_cases z : pu_sl0 I j0 = 2 * d ∨ pu_sl0 I j0 = 2 * d + 1
    · -- here
      have e2 : pu_sl0 I j0 / 2 = d := by omega
      obtain ⟨u7, ih⟩ := r_pb0 h a b v (c + 1) dr lv (by omega) hv hvl t8 _ hT m (d + 1) (some (.int (nI (1 + 1)))) (by omega) (fun j hj e => by rw [U j hj e]; omega)
      refine ⟨u7, r_pb_w h (by omega) (by omega) hN a b lv (nI v) dr t7 t8 _ ?_⟩
      rw [← ih, ← r_pb_n]
      have s1 := r_pb_i h a b v d 0 c dr (by omega) (fun _ => hcl) (by omega) (by omega) hv hvl lv t8 N hN
      rw [nI_0] at s1
      rcases s1 with ⟨no, s1⟩ | ⟨j, j1, j2, j3, s1⟩
      · have s2 := r_pb_i h a b v d 1 c dr (by omega) (fun _ => hcl) (by omega) (by omega) hv hvl lv t8 N hN
        rcases s2 with ⟨no2, _⟩ | ⟨j, j1, j2, j3, s2⟩
        · exact absurd z (fun q => q.elim (fun q => no j0 h1 h2 (by omega)) (fun q => no2 j0 h1 h2 q))
        · rw [s1, s2, e2]
          rfl
      · have j0e := U j j1 j2
        rw [j0e] at j3
        have s2 := r_pb_i h a b v d 1 (c + 1) dr (by omega) (fun ⟨j, q1, q2, q3⟩ => by rw [U j q1 q2] at q3; omega) (by omega) (by omega) hv hvl lv t8 _ hT
        rcases s2 with ⟨_, s2⟩ | ⟨j, q1, q2, q3, _⟩
        · rw [s1, ← s2, e2]
          rfl
        · rw [U j q1 q2] at q3
          omega
    · obtain ⟨u7, ih⟩ := r_pb1 h a b v c j0 dr lv hcl hv hvl h1 h2 t8 N hN m (d + 1) (some (.int (nI (1 + 1)))) (by omega) (by omega)
      refine ⟨u7, r_pb_w h (by omega) (by omega) hN a b lv (nI v) dr t7 t8 _ ?_⟩
      rw [← ih, ← r_pb_n]
      have s1 := r_pb_i h a b v d 0 c dr (by omega) (fun _ => hcl) (by omega) (by omega) hv hvl lv t8 N hN
      have s2 := r_pb_i h a b v d 1 c dr (by omega) (fun _ => hcl) (by omega) (by omega) hv hvl lv t8 N hN
      rw [nI_0] at s1
      rcases s1 with ⟨_, s1⟩ | ⟨j, j1, j2, j3, _⟩
      · rcases s2 with ⟨_, s2⟩ | ⟨j, j1, j2, j3, _⟩
        · rw [s1, s2]
        · rw [U j j1 j2] at j3
          omega
      · rw [U j j1 j2] at j3
        omega
theorem r_pw_l (h : pu_St I L s0) {a b c0 : Nat} (HB : ∀ (W : Nat → Nat) (n : Nat), (∀ t, t < n → py_kI I a (W t)) → (∀ s t, s < t → t < n → W s ≠ W t) → c0 + n ≤ 200) : ∀ (m lv : Nat) (N : pu_M) (X : Nat → Nat) (n : Nat) (t4 t5 t6 t7 t8 : Option Value), 160000 < lv + m → lv ≤ 160000 → py_rpr s0 N (c0 + n) → (∀ t, t < n → N.1 72 (60008 + 2 * (c0 + t)) = py_d1x I (X t) ∧ N.1 72 (60008 + 2 * (c0 + t) + 1) = py_d2x I b (X t)) → py_SL (py_k16 I) (fun l => py_k16 I l ≤ lv ∧ py_pa I a b l) X n → ∃ N1 X1 n1, c0 + n1 ≤ 200 ∧ py_rpr s0 N1 (c0 + n1) ∧ N1.2 = N.2 ∧ (∀ x j, x ≠ 72 → N1.1 x j = N.1 x j) ∧ (∀ j, j < c0 → N1.1 72 (60008 + 2 * j) = N.1 72 (60008 + 2 * j) ∧ N1.1 72 (60008 + 2 * j + 1) = N.1 72 (60008 + 2 * j + 1)) ∧ (∀ t, t < n1 → N1.1 72 (60008 + 2 * (c0 + t)) = py_d1x I (X1 t) ∧ N1.1 72 (60008 + 2 * (c0 + t) + 1) = py_d2x I b (X1 t)) ∧ py_SL (py_k16 I) (py_pa I a b) X1 n1 ∧ pu_r 512 [some (.ref 71), some (.int (nI a)), some (.int (nI b)), some (.int (nI lv)), t4, t5, t6, t7, t8] [] N = some (none, N1)
  | 0, lv, N, X, n, t4, t5, t6, t7, t8, hm, hl, hN, hf, sl => by omega
  | m + 1, lv, N, X, n, t4, t5, t6, t7, t8, hm, hl, hN, hf, sl => by
    have hw := h.1
    have bD := wx_bD hw
    have BB := HB X n (fun t ht => (sl.1 t ht).2.1) (fun s t hst ht e => by have := py_SL_i sl (by omega) ht e; omega)
    by_cases c1 : lv = 160000
    · have hc : 160000 ≤ nI lv := by rw [c1]; decide
      refine ⟨N, X, n, BB, hN, rfl, fun _ _ _ => rfl, fun _ _ => ⟨rfl, rfl⟩, hf, py_SL_c sl (fun l => ⟨fun z => z.2, fun z => ⟨by have := (py_k16_e hw z.1.1).2; omega, z⟩⟩), ?_⟩
      rw [qX12_pairs_2]
      simp [bX12_pairs_2, bX12_pairs_270, a_icge, a_ild, a_ist, a_push, a_vret, pu_rv, pu_as, Value.category, pu_bk, pu_kl, List.replicate, pu_wi_1, pu_wi_2, nl_add, nl_ladd, nl_aa, nl_mul, nl_rmul, nl_mm, pu_qe0, pu_qe1, hc]
      all_goals try simp (maxSteps := 400000) (disch := omega) [nl_tle, nl_fle, nl_tlt, nl_flt, nl_teq, nl_feq, nl_sub, nl_ss, nl_lt, nl_llt, nl_ltt, nl_le, nl_lle, nl_lee, nl_eq, nl_leq, nl_ee, nl_div, nl_rem, nl_cl, nl_n1, nl_n2, nl_n3, nl_n4, nl_add, nl_ladd, nl_aa, nl_mul, nl_rmul, nl_mm, pu_wi_1, pu_wi_2, bX12_pairs_2, bX12_pairs_270, a_icge, a_ild, a_ist, a_push, a_vret, pu_rv, pu_as, Value.category, pu_bk, pu_kl, pu_qe0, pu_qe1, hc]
      all_goals try simp [bX12_pairs_2, bX12_pairs_270, a_icge, a_ild, a_ist, a_push, a_vret, pu_rv, pu_as, Value.category, pu_bk, pu_kl, List.replicate, pu_wi_1, pu_wi_2, nl_add, nl_ladd, nl_aa, nl_mul, nl_rmul, nl_mm, pu_qe0, pu_qe1, hc]
      all_goals try simp (maxSteps := 400000) (disch := omega) [nl_tle, nl_fle, nl_tlt, nl_flt, nl_teq, nl_feq, nl_sub, nl_ss, nl_lt, nl_llt, nl_ltt, nl_le, nl_lle, nl_lee, nl_eq, nl_leq, nl_ee, nl_div, nl_rem, nl_cl, nl_n1, nl_n2, nl_n3, nl_n4, nl_add, nl_ladd, nl_aa, nl_mul, nl_rmul, nl_mm, pu_wi_1, pu_wi_2, bX12_pairs_2, bX12_pairs_270, a_icge, a_ild, a_ist, a_push, a_vret, pu_rv, pu_as, Value.category, pu_bk, pu_kl, pu_qe0, pu_qe1, hc]
      all_goals try simp [bX12_pairs_2, bX12_pairs_270, a_icge, a_ild, a_ist, a_push, a_vret, pu_rv, pu_as, Value.category, pu_bk, pu_kl, List.replicate, pu_wi_1, pu_wi_2, nl_add, nl_ladd, nl_aa, nl_mul, nl_rmul, nl_mm, pu_qe0, pu_qe1, hc]
      all_goals try simp (maxSteps := 400000) (disch := omega) [nl_tle, nl_fle, nl_tlt, nl_flt, nl_teq, nl_feq, nl_sub, nl_ss, nl_lt, nl_llt, nl_ltt, nl_le, nl_lle, nl_lee, nl_eq, nl_leq, nl_ee, nl_div, nl_rem, nl_cl, nl_n1, nl_n2, nl_n3, nl_n4, nl_add, nl_ladd, nl_aa, nl_mul, nl_rmul, nl_mm, pu_wi_1, pu_wi_2, bX12_pairs_2, bX12_pairs_270, a_icge, a_ild, a_ist, a_push, a_vret, pu_rv, pu_as, Value.category, pu_bk, pu_kl, pu_qe0, pu_qe1, hc]
      all_goals try simp [bX12_pairs_2, bX12_pairs_270, a_icge, a_ild, a_ist, a_push, a_vret, pu_rv, pu_as, Value.category, pu_bk, pu_kl, List.replicate, pu_wi_1, pu_wi_2, nl_add, nl_ladd, nl_aa, nl_mul, nl_rmul, nl_mm, pu_qe0, pu_qe1, hc]
    have hc : ¬ 160000 ≤ nI lv := nI_ge (b := 160000) (by omega) (by omega)
    have hx := hN.1
    have SJ := St_JP h (c := c0 + n) (s' := N.1 72) BB hN.2.1 hN.2.2
    obtain ⟨v, dr, u7, u8, v1, v2, v3⟩ := r_pm_l hx SJ.2 SJ.1 a b lv (by omega) (cD I) 0 160000 (-1) t7 t8 (show 0 + cD I = cD I by omega) (by omega) (Or.inl ⟨rfl, rfl, fun i _ z => by omega⟩)
    have v2' : py_pm I a lv (2 * cD I) v dr := v2
    rw [nI_0, show nI 160000 = (160000 : Int32) from rfl] at v3
    have A : pu_r 512 [some (.ref 71), some (.int (nI a)), some (.int (nI b)), some (.int (nI lv)), t4, t5, t6, t7, t8] [] N = kX12_pairs_119 pu_r [some (.ref 71), some (.int (nI a)), some (.int (nI b)), some (.int (nI lv)), some (.int (nI v)), some (.int dr), some (.int (nI (cD I))), u7, u8] [] N := by
      have v3' : pu_r 513 [some (.ref 71), some (.int (nI a)), some (.int (nI b)), some (.int (nI lv)), some (.int 160000), some (.int (-1)), some (.int 0), t7, t8] [] N = kX12_pairs_119 pu_r [some (.ref 71), some (.int (nI a)), some (.int (nI b)), some (.int (nI lv)), some (.int (nI v)), some (.int dr), some (.int (nI (cD I))), u7, u8] [] N := v3
      rw [← v3']
      rw [qX12_pairs_2]
      simp [bX12_pairs_2, bX12_pairs_270, a_icge, a_ild, a_ist, a_push, a_vret, pu_rv, pu_as, Value.category, pu_bk, pu_kl, List.replicate, pu_wi_1, pu_wi_2, nl_add, nl_ladd, nl_aa, nl_mul, nl_rmul, nl_mm, pu_qe0, pu_qe1, hc]
      all_goals try simp (maxSteps := 400000) (disch := omega) [nl_tle, nl_fle, nl_tlt, nl_flt, nl_teq, nl_feq, nl_sub, nl_ss, nl_lt, nl_llt, nl_ltt, nl_le, nl_lle, nl_lee, nl_eq, nl_leq, nl_ee, nl_div, nl_rem, nl_cl, nl_n1, nl_n2, nl_n3, nl_n4, nl_add, nl_ladd, nl_aa, nl_mul, nl_rmul, nl_mm, pu_wi_1, pu_wi_2, bX12_pairs_2, bX12_pairs_270, a_icge, a_ild, a_ist, a_push, a_vret, pu_rv, pu_as, Value.category, pu_bk, pu_kl, pu_qe0, pu_qe1, hc]
      all_goals try simp [bX12_pairs_2, bX12_pairs_270, a_icge, a_ild, a_ist, a_push, a_vret, pu_rv, pu_as, Value.category, pu_bk, pu_kl, List.replicate, pu_wi_1, pu_wi_2, nl_add, nl_ladd, nl_aa, nl_mul, nl_rmul, nl_mm, pu_qe0, pu_qe1, hc]
      all_goals try simp (maxSteps := 400000) (disch := omega) [nl_tle, nl_fle, nl_tlt, nl_flt, nl_teq, nl_feq, nl_sub, nl_ss, nl_lt, nl_llt, nl_ltt, nl_le, nl_lle, nl_lee, nl_eq, nl_leq, nl_ee, nl_div, nl_rem, nl_cl, nl_n1, nl_n2, nl_n3, nl_n4, nl_add, nl_ladd, nl_aa, nl_mul, nl_rmul, nl_mm, pu_wi_1, pu_wi_2, bX12_pairs_2, bX12_pairs_270, a_icge, a_ild, a_ist, a_push, a_vret, pu_rv, pu_as, Value.category, pu_bk, pu_kl, pu_qe0, pu_qe1, hc]
      all_goals try simp [bX12_pairs_2, bX12_pairs_270, a_icge, a_ild, a_ist, a_push, a_vret, pu_rv, pu_as, Value.category, pu_bk, pu_kl, List.replicate, pu_wi_1, pu_wi_2, nl_add, nl_ladd, nl_aa, nl_mul, nl_rmul, nl_mm, pu_qe0, pu_qe1, hc]
      all_goals try simp (maxSteps := 400000) (disch := omega) [nl_tle, nl_fle, nl_tlt, nl_flt, nl_teq, nl_feq, nl_sub, nl_ss, nl_lt, nl_llt, nl_ltt, nl_le, nl_lle, nl_lee, nl_eq, nl_leq, nl_ee, nl_div, nl_rem, nl_cl, nl_n1, nl_n2, nl_n3, nl_n4, nl_add, nl_ladd, nl_aa, nl_mul, nl_rmul, nl_mm, pu_wi_1, pu_wi_2, bX12_pairs_2, bX12_pairs_270, a_icge, a_ild, a_ist, a_push, a_vret, pu_rv, pu_as, Value.category, pu_bk, pu_kl, pu_qe0, pu_qe1, hc]
      all_goals try simp [bX12_pairs_2, bX12_pairs_270, a_icge, a_ild, a_ist, a_push, a_vret, pu_rv, pu_as, Value.category, pu_bk, pu_kl, List.replicate, pu_wi_1, pu_wi_2, nl_add, nl_ladd, nl_aa, nl_mul, nl_rmul, nl_mm, pu_qe0, pu_qe1, hc]
    rw [A]
    rcases v2' with ⟨a1, a2, a3⟩ | ⟨i, i1, i2, i3, i4, i5, i6⟩
    · -- no more
      have B : kX12_pairs_119 pu_r [some (.ref 71), some (.int (nI a)), some (.int (nI b)), some (.int (nI lv)), some (.int (nI v)), some (.int dr), some (.int (nI (cD I))), u7, u8] [] N = pu_r 512 [some (.ref 71), some (.int (nI a)), some (.int (nI b)), some (.int (nI v)), some (.int (nI v)), some (.int dr), some (.int (nI (cD I))), u7, u8] [] N := by
        rw [a2]
        simp [bX12_pairs_119, bX12_pairs_131, a_icne, a_ild, a_ist, a_push, pu_rv, pu_as, Value.category, pu_bk, pu_kl, List.replicate, pu_wi_1, pu_wi_2, nl_add, nl_ladd, nl_aa, nl_mul, nl_rmul, nl_mm, pu_qe0, pu_qe1]
        all_goals try simp (maxSteps := 400000) (disch := omega) [nl_tle, nl_fle, nl_tlt, nl_flt, nl_teq, nl_feq, nl_sub, nl_ss, nl_lt, nl_llt, nl_ltt, nl_le, nl_lle, nl_lee, nl_eq, nl_leq, nl_ee, nl_div, nl_rem, nl_cl, nl_n1, nl_n2, nl_n3, nl_n4, nl_add, nl_ladd, nl_aa, nl_mul, nl_rmul, nl_mm, pu_wi_1, pu_wi_2, bX12_pairs_119, bX12_pairs_131, a_icne, a_ild, a_ist, a_push, pu_rv, pu_as, Value.category, pu_bk, pu_kl, pu_qe0, pu_qe1]
        all_goals try simp [bX12_pairs_119, bX12_pairs_131, a_icne, a_ild, a_ist, a_push, pu_rv, pu_as, Value.category, pu_bk, pu_kl, List.replicate, pu_wi_1, pu_wi_2, nl_add, nl_ladd, nl_aa, nl_mul, nl_rmul, nl_mm, pu_qe0, pu_qe1]
        all_goals try simp (maxSteps := 400000) (disch := omega) [nl_tle, nl_fle, nl_tlt, nl_flt, nl_teq, nl_feq, nl_sub, nl_ss, nl_lt, nl_llt, nl_ltt, nl_le, nl_lle, nl_lee, nl_eq, nl_leq, nl_ee, nl_div, nl_rem, nl_cl, nl_n1, nl_n2, nl_n3, nl_n4, nl_add, nl_ladd, nl_aa, nl_mul, nl_rmul, nl_mm, pu_wi_1, pu_wi_2, bX12_pairs_119, bX12_pairs_131, a_icne, a_ild, a_ist, a_push, pu_rv, pu_as, Value.category, pu_bk, pu_kl, pu_qe0, pu_qe1]
        all_goals try simp [bX12_pairs_119, bX12_pairs_131, a_icne, a_ild, a_ist, a_push, pu_rv, pu_as, Value.category, pu_bk, pu_kl, List.replicate, pu_wi_1, pu_wi_2, nl_add, nl_ladd, nl_aa, nl_mul, nl_rmul, nl_mm, pu_qe0, pu_qe1]
        all_goals try simp (maxSteps := 400000) (disch := omega) [nl_tle, nl_fle, nl_tlt, nl_flt, nl_teq, nl_feq, nl_sub, nl_ss, nl_lt, nl_llt, nl_ltt, nl_le, nl_lle, nl_lee, nl_eq, nl_leq, nl_ee, nl_div, nl_rem, nl_cl, nl_n1, nl_n2, nl_n3, nl_n4, nl_add, nl_ladd, nl_aa, nl_mul, nl_rmul, nl_mm, pu_wi_1, pu_wi_2, bX12_pairs_119, bX12_pairs_131, a_icne, a_ild, a_ist, a_push, pu_rv, pu_as, Value.category, pu_bk, pu_kl, pu_qe0, pu_qe1]
        all_goals try simp [bX12_pairs_119, bX12_pairs_131, a_icne, a_ild, a_ist, a_push, pu_rv, pu_as, Value.category, pu_bk, pu_kl, List.replicate, pu_wi_1, pu_wi_2, nl_add, nl_ladd, nl_aa, nl_mul, nl_rmul, nl_mm, pu_qe0, pu_qe1]
      rw [B]
      exact r_pw_l h HB m v N X n (some (.int (nI v))) (some (.int dr)) (some (.int (nI (cD I)))) u7 u8 (by omega) v1 hN hf (py_SL_c sl (fun l => ⟨fun z => ⟨by omega, z.2⟩, fun z => ⟨Nat.not_lt.mp (a3 l z.2.1 (pu_sl_lt hw z.2.1.1).1), z.2⟩⟩))
    · have i1' := i1.1
      have sl1 := (pu_sl_lt hw i1').1
      have ke := py_k16_e hw i1'
      have drn : ¬ dr = -1 := by
        rw [i5]
        exact fun z => by rw [nl_n1 _ (by omega)] at z; exact z
      have B : kX12_pairs_119 pu_r [some (.ref 71), some (.int (nI a)), some (.int (nI b)), some (.int (nI lv)), some (.int (nI v)), some (.int dr), some (.int (nI (cD I))), u7, u8] [] N = pu_r 515 [some (.ref 71), some (.int (nI a)), some (.int (nI b)), some (.int (nI v)), some (.int (nI v)), some (.int dr), some (.int 0), u7, u8] [] N := by
        simp [bX12_pairs_119, bX12_pairs_131, a_icne, a_ild, a_ist, a_push, pu_rv, pu_as, Value.category, pu_bk, pu_kl, List.replicate, pu_wi_1, pu_wi_2, nl_add, nl_ladd, nl_aa, nl_mul, nl_rmul, nl_mm, pu_qe0, pu_qe1, drn]
        all_goals try simp (maxSteps := 400000) (disch := omega) [nl_tle, nl_fle, nl_tlt, nl_flt, nl_teq, nl_feq, nl_sub, nl_ss, nl_lt, nl_llt, nl_ltt, nl_le, nl_lle, nl_lee, nl_eq, nl_leq, nl_ee, nl_div, nl_rem, nl_cl, nl_n1, nl_n2, nl_n3, nl_n4, nl_add, nl_ladd, nl_aa, nl_mul, nl_rmul, nl_mm, pu_wi_1, pu_wi_2, bX12_pairs_119, bX12_pairs_131, a_icne, a_ild, a_ist, a_push, pu_rv, pu_as, Value.category, pu_bk, pu_kl, pu_qe0, pu_qe1, drn]
        all_goals try simp [bX12_pairs_119, bX12_pairs_131, a_icne, a_ild, a_ist, a_push, pu_rv, pu_as, Value.category, pu_bk, pu_kl, List.replicate, pu_wi_1, pu_wi_2, nl_add, nl_ladd, nl_aa, nl_mul, nl_rmul, nl_mm, pu_qe0, pu_qe1, drn]
        all_goals try simp (maxSteps := 400000) (disch := omega) [nl_tle, nl_fle, nl_tlt, nl_flt, nl_teq, nl_feq, nl_sub, nl_ss, nl_lt, nl_llt, nl_ltt, nl_le, nl_lle, nl_lee, nl_eq, nl_leq, nl_ee, nl_div, nl_rem, nl_cl, nl_n1, nl_n2, nl_n3, nl_n4, nl_add, nl_ladd, nl_aa, nl_mul, nl_rmul, nl_mm, pu_wi_1, pu_wi_2, bX12_pairs_119, bX12_pairs_131, a_icne, a_ild, a_ist, a_push, pu_rv, pu_as, Value.category, pu_bk, pu_kl, pu_qe0, pu_qe1, drn]
        all_goals try simp [bX12_pairs_119, bX12_pairs_131, a_icne, a_ild, a_ist, a_push, pu_rv, pu_as, Value.category, pu_bk, pu_kl, List.replicate, pu_wi_1, pu_wi_2, nl_add, nl_ladd, nl_aa, nl_mul, nl_rmul, nl_mm, pu_qe0, pu_qe1, drn]
        all_goals try simp (maxSteps := 400000) (disch := omega) [nl_tle, nl_fle, nl_tlt, nl_flt, nl_teq, nl_feq, nl_sub, nl_ss, nl_lt, nl_llt, nl_ltt, nl_le, nl_lle, nl_lee, nl_eq, nl_leq, nl_ee, nl_div, nl_rem, nl_cl, nl_n1, nl_n2, nl_n3, nl_n4, nl_add, nl_ladd, nl_aa, nl_mul, nl_rmul, nl_mm, pu_wi_1, pu_wi_2, bX12_pairs_119, bX12_pairs_131, a_icne, a_ild, a_ist, a_push, pu_rv, pu_as, Value.category, pu_bk, pu_kl, pu_qe0, pu_qe1, drn]
        all_goals try simp [bX12_pairs_119, bX12_pairs_131, a_icne, a_ild, a_ist, a_push, pu_rv, pu_as, Value.category, pu_bk, pu_kl, List.replicate, pu_wi_1, pu_wi_2, nl_add, nl_ladd, nl_aa, nl_mul, nl_rmul, nl_mm, pu_qe0, pu_qe1, drn]
      rw [B]
      by_cases c2 : ∃ j, py_kI I b j ∧ I 16 j = I 16 i
      rotate_left
      · -- none in b
        obtain ⟨w7, P⟩ := r_pb0 h a b v (c0 + n) dr (nI v) BB (by omega) (by omega) u8 N hN (cD I) 0 u7 (by omega) (fun j hj e _ => c2 ⟨j, hj, by rw [(py_k16_e hw hj.1).1, ke.1, e, i4]⟩)
        rw [nI_0] at P
        rw [P]
        exact r_pw_l h HB m v N X n (some (.int (nI v))) (some (.int dr)) (some (.int (nI (cD I)))) w7 u8 (by omega) v1 hN hf (py_SL_c sl (fun l => ⟨fun z => ⟨by omega, z.2⟩, fun z => ⟨Nat.not_lt.mp (fun q => by
          have q2 := i6 l z.2.1 (pu_sl_lt hw z.2.1.1).1 q
          have e : l = i := py_kI_u hw z.2.1 i1 (by rw [(py_k16_e hw z.2.1.1).1, ke.1, show py_k16 I l = py_k16 I i by omega])
          rw [e] at z
          exact c2 z.2.2), z.2⟩⟩))
      · obtain ⟨j0, j1, j2⟩ := c2
        have pai : py_pa I a b i := ⟨i1, j0, j1, j2⟩
        have kj : py_k16 I j0 = v := by
          have q := py_k16_e hw j1.1
          have ql := q.2
          have : nI (py_k16 I j0) = nI (py_k16 I i) := by rw [← q.1, ← ke.1, j2]
          rw [nI_eq (by omega) (by omega)] at this
          omega
        have NI : ∀ t, t < n → X t ≠ i := fun t ht e => by
          have := (sl.1 t ht).1
          rw [e] at this
          omega
        have BN := HB (fun t => if t < n then X t else i) (n + 1) (fun t ht => by
          show py_kI I a (if t < n then X t else i)
          by_cases z : t < n
          · rw [if_pos z]; exact (sl.1 t z).2.1
          · rw [if_neg z]; exact i1) (fun s t hst ht => by
          show (if s < n then X s else i) ≠ (if t < n then X t else i)
          rw [if_pos (show s < n by omega)]
          by_cases z : t < n
          · rw [if_pos z]
            exact fun e => by have := py_SL_i sl (by omega) z e; omega
          · rw [if_neg z]
            exact NI s (by omega))
        obtain ⟨w7, P⟩ := r_pb1 h a b v (c0 + n) j0 dr (nI v) (by omega) (by omega) (by omega) j1 kj u8 N hN (cD I) 0 u7 (by omega) (by omega)
        rw [nI_0] at P
        rw [P]
        have hT := py_pT_r (dr := dr) (dd := nI (pu_sl0 I j0 / 2)) (show c0 + n < 200 by omega) hN
        obtain ⟨T, hTe⟩ : ∃ T, py_pT N (c0 + n) dr (nI (pu_sl0 I j0 / 2)) = T := ⟨_, rfl⟩
        have To : ∀ x j, ¬ (x = 72 ∧ (j = 14 ∨ j = 60008 + 2 * (c0 + n) ∨ j = 60008 + 2 * (c0 + n) + 1)) → T.1 x j = N.1 x j := fun x j z => by rw [← hTe]; exact py_pT_o z
        have Ta : T.1 72 (60008 + 2 * (c0 + n)) = dr := by rw [← hTe]; unfold py_pT; rw [py_wi_o (by omega), py_wi_o (by omega)]; simp [pu_wi_1]
        have Tb : T.1 72 (60008 + 2 * (c0 + n) + 1) = nI (pu_sl0 I j0 / 2) := by rw [← hTe]; unfold py_pT; rw [py_wi_o (by omega)]; simp [pu_wi_1]
        rw [hTe] at hT
        rw [hTe]
        have ADD := py_SL_add (k := i) sl (Nat.le_refl n) (fun j z1 z2 => by omega) (by
          by_cases z : n = 0
          · exact Or.inl z
          · refine Or.inr ?_
            have := (sl.1 (n - 1) (by omega)).1
            omega)
        obtain ⟨N1, X1, n1, x1, x2, x3, x4, x5, x6, x7, x8⟩ := r_pw_l h HB m v T (pu_vi X n i) (n + 1) (some (.int (nI v))) (some (.int dr)) (some (.int (nI (cD I)))) w7 u8 (by omega) v1 (by rw [← Nat.add_assoc]; exact hT) (fun t ht => by
          unfold pu_vi
          by_cases z : t = n
          · rw [if_neg (by omega), if_pos z, z, Ta, Tb, i5]
            unfold py_d1x py_d2x
            rw [py_pj_e hw j1 j2]
            exact ⟨rfl, rfl⟩
          · rw [if_pos (by omega), To 72 _ (by omega), To 72 _ (by omega)]
            exact hf t (by omega)) (py_SL_c ADD (fun l => by
          constructor
          · rintro (z | z)
            · exact ⟨by omega, z.2⟩
            · rw [z]; exact ⟨by omega, pai⟩
          · rintro ⟨z1, z2⟩
            by_cases q : lv < py_k16 I l
            · have q2 := i6 l z2.1 (pu_sl_lt hw z2.1.1).1 q
              exact Or.inr (py_kI_u hw z2.1 i1 (by rw [(py_k16_e hw z2.1.1).1, ke.1, show py_k16 I l = py_k16 I i by omega]))
            · exact Or.inl ⟨by omega, z2⟩))
        refine ⟨N1, X1, n1, x1, x2, by rw [x3, ← hTe]; rfl, fun x j z => by rw [x4 x j z, To x j (by omega)], fun j hj => ?_, x6, x7, x8⟩
        rw [(x5 j hj).1, (x5 j hj).2, To 72 _ (by omega), To 72 _ (by omega)]
        exact ⟨rfl, rfl⟩
theorem r_pairs (h : pu_St I L s0) {a b c0 : Nat} (HB : ∀ (W : Nat → Nat) (n : Nat), (∀ t, t < n → py_kI I a (W t)) → (∀ s t, s < t → t < n → W s ≠ W t) → c0 + n ≤ 200) (N : pu_M) (hN : py_rpr s0 N c0) : ∃ N1 X1 n1, c0 + n1 ≤ 200 ∧ py_rpr s0 N1 (c0 + n1) ∧ N1.2 = N.2 ∧ (∀ x j, x ≠ 72 → N1.1 x j = N.1 x j) ∧ (∀ j, j < c0 → N1.1 72 (60008 + 2 * j) = N.1 72 (60008 + 2 * j) ∧ N1.1 72 (60008 + 2 * j + 1) = N.1 72 (60008 + 2 * j + 1)) ∧ (∀ t, t < n1 → N1.1 72 (60008 + 2 * (c0 + t)) = py_d1x I (X1 t) ∧ N1.1 72 (60008 + 2 * (c0 + t) + 1) = py_d2x I b (X1 t)) ∧ py_SL (py_k16 I) (py_pa I a b) X1 n1 ∧ pu_r 339 [some (.ref 71), some (.int (nI a)), some (.int (nI b))] [] N = some (none, N1) := by
  obtain ⟨N1, X1, n1, x1, x2, x3, x4, x5, x6, x7, x8⟩ := r_pw_l h HB 160001 0 N (fun _ => 0) 0 none none none none none (by omega) (by omega) hN (fun t ht => by omega) ⟨fun a ha => by omega, fun k hk => by
    have w := wx_uw h.1 k hk.2.1.1
    have ke := py_k16_e h.1 hk.2.1.1
    have z : py_k16 I k = 0 := by have := hk.1; omega
    rw [z] at ke
    exact absurd ke.1 hk.2.1.2.2.1, fun a b _ hb => by omega⟩
  refine ⟨N1, X1, n1, x1, x2, x3, x4, x5, x6, x7, ?_⟩
  rw [nI_0] at x8
  rw [qX12_pairs]
  simp [a_ent, bX12_pairs_0, a_ist, a_push, pu_rv, pu_as, Value.category, pu_bk, pu_kl, List.replicate, pu_wi_1, pu_wi_2, nl_add, nl_ladd, nl_aa, nl_mul, nl_rmul, nl_mm, pu_qe0, pu_qe1, x8]
  all_goals try simp (maxSteps := 400000) (disch := omega) [nl_tle, nl_fle, nl_tlt, nl_flt, nl_teq, nl_feq, nl_sub, nl_ss, nl_lt, nl_llt, nl_ltt, nl_le, nl_lle, nl_lee, nl_eq, nl_leq, nl_ee, nl_div, nl_rem, nl_cl, nl_n1, nl_n2, nl_n3, nl_n4, nl_add, nl_ladd, nl_aa, nl_mul, nl_rmul, nl_mm, pu_wi_1, pu_wi_2, bX12_pairs_0, a_ist, a_push, pu_rv, pu_as, Value.category, pu_bk, pu_kl, pu_qe0, pu_qe1, x8]
  all_goals try simp [bX12_pairs_0, a_ist, a_push, pu_rv, pu_as, Value.category, pu_bk, pu_kl, List.replicate, pu_wi_1, pu_wi_2, nl_add, nl_ladd, nl_aa, nl_mul, nl_rmul, nl_mm, pu_qe0, pu_qe1, x8]
  all_goals try simp (maxSteps := 400000) (disch := omega) [nl_tle, nl_fle, nl_tlt, nl_flt, nl_teq, nl_feq, nl_sub, nl_ss, nl_lt, nl_llt, nl_ltt, nl_le, nl_lle, nl_lee, nl_eq, nl_leq, nl_ee, nl_div, nl_rem, nl_cl, nl_n1, nl_n2, nl_n3, nl_n4, nl_add, nl_ladd, nl_aa, nl_mul, nl_rmul, nl_mm, pu_wi_1, pu_wi_2, bX12_pairs_0, a_ist, a_push, pu_rv, pu_as, Value.category, pu_bk, pu_kl, pu_qe0, pu_qe1, x8]
  all_goals try simp [bX12_pairs_0, a_ist, a_push, pu_rv, pu_as, Value.category, pu_bk, pu_kl, List.replicate, pu_wi_1, pu_wi_2, nl_add, nl_ladd, nl_aa, nl_mul, nl_rmul, nl_mm, pu_qe0, pu_qe1, x8]
  all_goals try simp (maxSteps := 400000) (disch := omega) [nl_tle, nl_fle, nl_tlt, nl_flt, nl_teq, nl_feq, nl_sub, nl_ss, nl_lt, nl_llt, nl_ltt, nl_le, nl_lle, nl_lee, nl_eq, nl_leq, nl_ee, nl_div, nl_rem, nl_cl, nl_n1, nl_n2, nl_n3, nl_n4, nl_add, nl_ladd, nl_aa, nl_mul, nl_rmul, nl_mm, pu_wi_1, pu_wi_2, bX12_pairs_0, a_ist, a_push, pu_rv, pu_as, Value.category, pu_bk, pu_kl, pu_qe0, pu_qe1, x8]
  all_goals try simp [bX12_pairs_0, a_ist, a_push, pu_rv, pu_as, Value.category, pu_bk, pu_kl, List.replicate, pu_wi_1, pu_wi_2, nl_add, nl_ladd, nl_aa, nl_mul, nl_rmul, nl_mm, pu_qe0, pu_qe1, x8]
end
