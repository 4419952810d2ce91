/-! towns, the latest paper, open names -/
section
variable {M : pu_M} {I : Nat → Nat → Int32} {L : Nat → Nat → Int64} {s : Nat → Int32}
theorem c_isTown (hx : pu_fx M) (hI : pu_ag M I) (hw : pu_WF I L) (x : Int32) : pu_r 41 [some (.ref 25), some (.int x)] [] M = some (some (.int (pu_q (¬ x < 0 ∧ x < nI (cT I)))), M) := by
  have hn := wx_cT hw
  rw [qX10_isTown]
  simp [a_ent, bX10_isTown_0, bX10_isTown_16, bX10_isTown_17, a_ald, a_gi, a_icge, a_iflt, a_ild, a_push, a_zret, ag_25 hI, sh_25, pu_rv, pu_as, Value.category, pu_bk, pu_kl, List.replicate, pu_wi_1, pu_wi_2, nl_add, nl_ladd, nl_aa, nl_mul, nl_rmul, nl_mm, pu_qe0, pu_qe1, hn]
  all_goals try simp (maxSteps := 400000) (disch := omega) [nl_tle, nl_fle, nl_tlt, nl_flt, nl_teq, nl_feq, nl_sub, nl_ss, nl_lt, nl_llt, nl_ltt, nl_le, nl_lle, nl_lee, nl_eq, nl_leq, nl_ee, nl_div, nl_rem, nl_cl, nl_n1, nl_n2, nl_n3, nl_n4, nl_add, nl_ladd, nl_aa, nl_mul, nl_rmul, nl_mm, pu_wi_1, pu_wi_2, bX10_isTown_0, bX10_isTown_16, bX10_isTown_17, a_ald, a_gi, a_icge, a_iflt, a_ild, a_push, a_zret, ag_25 hI, sh_25, pu_rv, pu_as, Value.category, pu_bk, pu_kl, pu_qe0, pu_qe1, hn]
  all_goals try simp [bX10_isTown_0, bX10_isTown_16, bX10_isTown_17, a_ald, a_gi, a_icge, a_iflt, a_ild, a_push, a_zret, ag_25 hI, sh_25, pu_rv, pu_as, Value.category, pu_bk, pu_kl, List.replicate, pu_wi_1, pu_wi_2, nl_add, nl_ladd, nl_aa, nl_mul, nl_rmul, nl_mm, pu_qe0, pu_qe1, hn]
  all_goals try simp (maxSteps := 400000) (disch := omega) [nl_tle, nl_fle, nl_tlt, nl_flt, nl_teq, nl_feq, nl_sub, nl_ss, nl_lt, nl_llt, nl_ltt, nl_le, nl_lle, nl_lee, nl_eq, nl_leq, nl_ee, nl_div, nl_rem, nl_cl, nl_n1, nl_n2, nl_n3, nl_n4, nl_add, nl_ladd, nl_aa, nl_mul, nl_rmul, nl_mm, pu_wi_1, pu_wi_2, bX10_isTown_0, bX10_isTown_16, bX10_isTown_17, a_ald, a_gi, a_icge, a_iflt, a_ild, a_push, a_zret, ag_25 hI, sh_25, pu_rv, pu_as, Value.category, pu_bk, pu_kl, pu_qe0, pu_qe1, hn]
  grind [pu_q]
theorem r_isTown (hx : pu_fx M) (hr : pu_Rel I L (M.1 72)) (x : Int32) : pu_r 252 [some (.ref 71), some (.int x)] [] M = some (some (.int (pu_q (¬ x < 0 ∧ x < nI (cT I)))), M) := by
  rw [qX12_isTown]
  simp [a_ent, bX12_isTown_0, bX12_isTown_18, bX12_isTown_19, a_ai, a_ald, a_gr, a_icge, a_iflt, a_ild, a_push, a_zret, fx_71_0 hx, sh_71, sh_72, pu_rv, pu_as, Value.category, pu_bk, pu_kl, List.replicate, pu_wi_1, pu_wi_2, nl_add, nl_ladd, nl_aa, nl_mul, nl_rmul, nl_mm, pu_qe0, pu_qe1, rl_h2 hr]
  all_goals try simp (maxSteps := 400000) (disch := omega) [nl_tle, nl_fle, nl_tlt, nl_flt, nl_teq, nl_feq, nl_sub, nl_ss, nl_lt, nl_llt, nl_ltt, nl_le, nl_lle, nl_lee, nl_eq, nl_leq, nl_ee, nl_div, nl_rem, nl_cl, nl_n1, nl_n2, nl_n3, nl_n4, nl_add, nl_ladd, nl_aa, nl_mul, nl_rmul, nl_mm, pu_wi_1, pu_wi_2, bX12_isTown_0, bX12_isTown_18, bX12_isTown_19, a_ai, a_ald, a_gr, a_icge, a_iflt, a_ild, a_push, a_zret, fx_71_0 hx, sh_71, sh_72, pu_rv, pu_as, Value.category, pu_bk, pu_kl, pu_qe0, pu_qe1, rl_h2 hr]
  all_goals try simp [bX12_isTown_0, bX12_isTown_18, bX12_isTown_19, a_ai, a_ald, a_gr, a_icge, a_iflt, a_ild, a_push, a_zret, fx_71_0 hx, sh_71, sh_72, pu_rv, pu_as, Value.category, pu_bk, pu_kl, List.replicate, pu_wi_1, pu_wi_2, nl_add, nl_ladd, nl_aa, nl_mul, nl_rmul, nl_mm, pu_qe0, pu_qe1, rl_h2 hr]
  all_goals try simp (maxSteps := 400000) (disch := omega) [nl_tle, nl_fle, nl_tlt, nl_flt, nl_teq, nl_feq, nl_sub, nl_ss, nl_lt, nl_llt, nl_ltt, nl_le, nl_lle, nl_lee, nl_eq, nl_leq, nl_ee, nl_div, nl_rem, nl_cl, nl_n1, nl_n2, nl_n3, nl_n4, nl_add, nl_ladd, nl_aa, nl_mul, nl_rmul, nl_mm, pu_wi_1, pu_wi_2, bX12_isTown_0, bX12_isTown_18, bX12_isTown_19, a_ai, a_ald, a_gr, a_icge, a_iflt, a_ild, a_push, a_zret, fx_71_0 hx, sh_71, sh_72, pu_rv, pu_as, Value.category, pu_bk, pu_kl, pu_qe0, pu_qe1, rl_h2 hr]
  grind [pu_q]
theorem c_wasJoined_l (hx : pu_fx M) (hI : pu_ag M I) (hw : pu_WF I L) (t : Int32) : ∀ m i x, x = nI i → i + m = cP I → pu_r 366 [some (.ref 6), some (.int t), some (.int x)] [] M = some (some (.int (pu_q (∃ p, i ≤ p ∧ p < cP I ∧ I 12 p = t))), M)
  | 0, i, x, hi, h => by
    subst hi
    have hb := wx_bP hw
    have hn := wx_cP hw
    have hc : nI (cP I) ≤ nI i := nI_le (by omega) (by omega)
    rw [pu_q0 (fun ⟨p, h1, h2, _⟩ => by omega)]
    rw [qX6_wasJoined_2]
    simp [bX6_wasJoined_2, bX6_wasJoined_28, bX6_wasJoined_22, a_ai, a_ald, a_gi, a_gr, a_icge, a_icne, a_ild, a_inc, a_push, a_zret, ag_12 hI, ag_6 hI, fx_6_8 hx, sh_12, sh_6, pu_rv, pu_as, Value.category, pu_bk, pu_kl, List.replicate, pu_wi_1, pu_wi_2, nl_add, nl_ladd, nl_aa, nl_mul, nl_rmul, nl_mm, pu_qe0, pu_qe1, hn, hc]
    all_goals try simp (maxSteps := 400000) (disch := omega) [nl_tle, nl_fle, nl_tlt, nl_flt, nl_teq, nl_feq, nl_sub, nl_ss, nl_lt, nl_llt, nl_ltt, nl_le, nl_lle, nl_lee, nl_eq, nl_leq, nl_ee, nl_div, nl_rem, nl_cl, nl_n1, nl_n2, nl_n3, nl_n4, nl_add, nl_ladd, nl_aa, nl_mul, nl_rmul, nl_mm, pu_wi_1, pu_wi_2, bX6_wasJoined_2, bX6_wasJoined_28, bX6_wasJoined_22, a_ai, a_ald, a_gi, a_gr, a_icge, a_icne, a_ild, a_inc, a_push, a_zret, ag_12 hI, ag_6 hI, fx_6_8 hx, sh_12, sh_6, pu_rv, pu_as, Value.category, pu_bk, pu_kl, pu_qe0, pu_qe1, hn, hc]
    all_goals try simp [bX6_wasJoined_2, bX6_wasJoined_28, bX6_wasJoined_22, a_ai, a_ald, a_gi, a_gr, a_icge, a_icne, a_ild, a_inc, a_push, a_zret, ag_12 hI, ag_6 hI, fx_6_8 hx, sh_12, sh_6, pu_rv, pu_as, Value.category, pu_bk, pu_kl, List.replicate, pu_wi_1, pu_wi_2, nl_add, nl_ladd, nl_aa, nl_mul, nl_rmul, nl_mm, pu_qe0, pu_qe1, hn, hc]
    all_goals try simp (maxSteps := 400000) (disch := omega) [nl_tle, nl_fle, nl_tlt, nl_flt, nl_teq, nl_feq, nl_sub, nl_ss, nl_lt, nl_llt, nl_ltt, nl_le, nl_lle, nl_lee, nl_eq, nl_leq, nl_ee, nl_div, nl_rem, nl_cl, nl_n1, nl_n2, nl_n3, nl_n4, nl_add, nl_ladd, nl_aa, nl_mul, nl_rmul, nl_mm, pu_wi_1, pu_wi_2, bX6_wasJoined_2, bX6_wasJoined_28, bX6_wasJoined_22, a_ai, a_ald, a_gi, a_gr, a_icge, a_icne, a_ild, a_inc, a_push, a_zret, ag_12 hI, ag_6 hI, fx_6_8 hx, sh_12, sh_6, pu_rv, pu_as, Value.category, pu_bk, pu_kl, pu_qe0, pu_qe1, hn, hc]
  | m + 1, i, x, hi, h => by
    subst hi
    have hb := wx_bP hw
    have hn := wx_cP hw
    have hc : ¬ nI (cP I) ≤ nI i := nI_ge (by omega) (by omega)
    have ih := c_wasJoined_l hx hI hw t m (i + 1) _ rfl (by omega)
    by_cases c : I 12 i = t
    · rw [pu_q1 ⟨i, by omega, by omega, c⟩]
      rw [qX6_wasJoined_2]
      simp [bX6_wasJoined_2, bX6_wasJoined_28, bX6_wasJoined_22, a_ai, a_ald, a_gi, a_gr, a_icge, a_icne, a_ild, a_inc, a_push, a_zret, ag_12 hI, ag_6 hI, fx_6_8 hx, sh_12, sh_6, pu_rv, pu_as, Value.category, pu_bk, pu_kl, List.replicate, pu_wi_1, pu_wi_2, nl_add, nl_ladd, nl_aa, nl_mul, nl_rmul, nl_mm, pu_qe0, pu_qe1, hn, hc, c]
      all_goals try simp (maxSteps := 400000) (disch := omega) [nl_tle, nl_fle, nl_tlt, nl_flt, nl_teq, nl_feq, nl_sub, nl_ss, nl_lt, nl_llt, nl_ltt, nl_le, nl_lle, nl_lee, nl_eq, nl_leq, nl_ee, nl_div, nl_rem, nl_cl, nl_n1, nl_n2, nl_n3, nl_n4, nl_add, nl_ladd, nl_aa, nl_mul, nl_rmul, nl_mm, pu_wi_1, pu_wi_2, bX6_wasJoined_2, bX6_wasJoined_28, bX6_wasJoined_22, a_ai, a_ald, a_gi, a_gr, a_icge, a_icne, a_ild, a_inc, a_push, a_zret, ag_12 hI, ag_6 hI, fx_6_8 hx, sh_12, sh_6, pu_rv, pu_as, Value.category, pu_bk, pu_kl, pu_qe0, pu_qe1, hn, hc, c]
      all_goals try simp [bX6_wasJoined_2, bX6_wasJoined_28, bX6_wasJoined_22, a_ai, a_ald, a_gi, a_gr, a_icge, a_icne, a_ild, a_inc, a_push, a_zret, ag_12 hI, ag_6 hI, fx_6_8 hx, sh_12, sh_6, pu_rv, pu_as, Value.category, pu_bk, pu_kl, List.replicate, pu_wi_1, pu_wi_2, nl_add, nl_ladd, nl_aa, nl_mul, nl_rmul, nl_mm, pu_qe0, pu_qe1, hn, hc, c]
      all_goals try simp (maxSteps := 400000) (disch := omega) [nl_tle, nl_fle, nl_tlt, nl_flt, nl_teq, nl_feq, nl_sub, nl_ss, nl_lt, nl_llt, nl_ltt, nl_le, nl_lle, nl_lee, nl_eq, nl_leq, nl_ee, nl_div, nl_rem, nl_cl, nl_n1, nl_n2, nl_n3, nl_n4, nl_add, nl_ladd, nl_aa, nl_mul, nl_rmul, nl_mm, pu_wi_1, pu_wi_2, bX6_wasJoined_2, bX6_wasJoined_28, bX6_wasJoined_22, a_ai, a_ald, a_gi, a_gr, a_icge, a_icne, a_ild, a_inc, a_push, a_zret, ag_12 hI, ag_6 hI, fx_6_8 hx, sh_12, sh_6, pu_rv, pu_as, Value.category, pu_bk, pu_kl, pu_qe0, pu_qe1, hn, hc, c]
    · have e : (∃ p, i ≤ p ∧ p < cP I ∧ I 12 p = t) = (∃ p, i + 1 ≤ p ∧ p < cP I ∧ I 12 p = t) := by
        apply propext
        constructor
        · intro ⟨p, h1, h2, h3⟩
          refine ⟨p, ?_, h2, h3⟩
          have : p ≠ i := fun q => c (by rw [← q]; exact h3)
          omega
        · intro ⟨p, h1, h2, h3⟩
          exact ⟨p, by omega, h2, h3⟩
      rw [e]
      rw [qX6_wasJoined_2]
      simp [bX6_wasJoined_2, bX6_wasJoined_28, bX6_wasJoined_22, a_ai, a_ald, a_gi, a_gr, a_icge, a_icne, a_ild, a_inc, a_push, a_zret, ag_12 hI, ag_6 hI, fx_6_8 hx, sh_12, sh_6, pu_rv, pu_as, Value.category, pu_bk, pu_kl, List.replicate, pu_wi_1, pu_wi_2, nl_add, nl_ladd, nl_aa, nl_mul, nl_rmul, nl_mm, pu_qe0, pu_qe1, hn, hc, c, ih]
      all_goals try simp (maxSteps := 400000) (disch := omega) [nl_tle, nl_fle, nl_tlt, nl_flt, nl_teq, nl_feq, nl_sub, nl_ss, nl_lt, nl_llt, nl_ltt, nl_le, nl_lle, nl_lee, nl_eq, nl_leq, nl_ee, nl_div, nl_rem, nl_cl, nl_n1, nl_n2, nl_n3, nl_n4, nl_add, nl_ladd, nl_aa, nl_mul, nl_rmul, nl_mm, pu_wi_1, pu_wi_2, bX6_wasJoined_2, bX6_wasJoined_28, bX6_wasJoined_22, a_ai, a_ald, a_gi, a_gr, a_icge, a_icne, a_ild, a_inc, a_push, a_zret, ag_12 hI, ag_6 hI, fx_6_8 hx, sh_12, sh_6, pu_rv, pu_as, Value.category, pu_bk, pu_kl, pu_qe0, pu_qe1, hn, hc, c, ih]
      all_goals try simp [bX6_wasJoined_2, bX6_wasJoined_28, bX6_wasJoined_22, a_ai, a_ald, a_gi, a_gr, a_icge, a_icne, a_ild, a_inc, a_push, a_zret, ag_12 hI, ag_6 hI, fx_6_8 hx, sh_12, sh_6, pu_rv, pu_as, Value.category, pu_bk, pu_kl, List.replicate, pu_wi_1, pu_wi_2, nl_add, nl_ladd, nl_aa, nl_mul, nl_rmul, nl_mm, pu_qe0, pu_qe1, hn, hc, c, ih]
      all_goals try simp (maxSteps := 400000) (disch := omega) [nl_tle, nl_fle, nl_tlt, nl_flt, nl_teq, nl_feq, nl_sub, nl_ss, nl_lt, nl_llt, nl_ltt, nl_le, nl_lle, nl_lee, nl_eq, nl_leq, nl_ee, nl_div, nl_rem, nl_cl, nl_n1, nl_n2, nl_n3, nl_n4, nl_add, nl_ladd, nl_aa, nl_mul, nl_rmul, nl_mm, pu_wi_1, pu_wi_2, bX6_wasJoined_2, bX6_wasJoined_28, bX6_wasJoined_22, a_ai, a_ald, a_gi, a_gr, a_icge, a_icne, a_ild, a_inc, a_push, a_zret, ag_12 hI, ag_6 hI, fx_6_8 hx, sh_12, sh_6, pu_rv, pu_as, Value.category, pu_bk, pu_kl, pu_qe0, pu_qe1, hn, hc, c, ih]
/-- town t is a town that was joined to none -/
def pu_own (I : Nat → Nat → Int32) (t : Nat) : Prop := ∀ p, p < cP I → I 12 p ≠ nI t
theorem c_own (hx : pu_fx M) (hI : pu_ag M I) (hw : pu_WF I L) (t : Nat) (ht : t < cT I) : pu_r 43 [some (.ref 0), some (.int (nI t))] [] M = some (some (.int (pu_q (pu_own I t))), M) := by
  have hb := wx_bT hw
  have e1 := c_isTown hx hI hw (nI t)
  rw [pu_q1 ⟨nI_pos (by omega), nI_lt ht (by omega)⟩] at e1
  have e2 := c_wasJoined_l hx hI hw (nI t) (cP I) 0 0 rfl (by omega)
  have e3 : pu_r 42 [some (.ref 6), some (.int (nI t))] [] M = some (some (.int (pu_q (∃ p, 0 ≤ p ∧ p < cP I ∧ I 12 p = nI t))), M) := by
    rw [qX6_wasJoined]
    simp [a_ent, bX6_wasJoined_0, a_ist, a_push, pu_rv, pu_as, Value.category, pu_bk, pu_kl, List.replicate, pu_wi_1, pu_wi_2, nl_add, nl_ladd, nl_aa, nl_mul, nl_rmul, nl_mm, pu_qe0, pu_qe1, e2]
    all_goals try simp (maxSteps := 400000) (disch := omega) [nl_tle, nl_fle, nl_tlt, nl_flt, nl_teq, nl_feq, nl_sub, nl_ss, nl_lt, nl_llt, nl_ltt, nl_le, nl_lle, nl_lee, nl_eq, nl_leq, nl_ee, nl_div, nl_rem, nl_cl, nl_n1, nl_n2, nl_n3, nl_n4, nl_add, nl_ladd, nl_aa, nl_mul, nl_rmul, nl_mm, pu_wi_1, pu_wi_2, bX6_wasJoined_0, a_ist, a_push, pu_rv, pu_as, Value.category, pu_bk, pu_kl, pu_qe0, pu_qe1, e2]
    all_goals try simp [bX6_wasJoined_0, a_ist, a_push, pu_rv, pu_as, Value.category, pu_bk, pu_kl, List.replicate, pu_wi_1, pu_wi_2, nl_add, nl_ladd, nl_aa, nl_mul, nl_rmul, nl_mm, pu_qe0, pu_qe1, e2]
    all_goals try simp (maxSteps := 400000) (disch := omega) [nl_tle, nl_fle, nl_tlt, nl_flt, nl_teq, nl_feq, nl_sub, nl_ss, nl_lt, nl_llt, nl_ltt, nl_le, nl_lle, nl_lee, nl_eq, nl_leq, nl_ee, nl_div, nl_rem, nl_cl, nl_n1, nl_n2, nl_n3, nl_n4, nl_add, nl_ladd, nl_aa, nl_mul, nl_rmul, nl_mm, pu_wi_1, pu_wi_2, bX6_wasJoined_0, a_ist, a_push, pu_rv, pu_as, Value.category, pu_bk, pu_kl, pu_qe0, pu_qe1, e2]
  rw [qX11_isTownOfItsOwn]
  simp [a_ent, bX11_isTownOfItsOwn_0, bX11_isTownOfItsOwn_32, bX11_isTownOfItsOwn_33, a_ald, a_cv, a_gr, a_ifeq, a_ifne, a_ild, a_push, a_zret, ag_25 hI, ag_6 hI, fx_0_2 hx, fx_5_0 hx, fx_5_3 hx, sh_0, sh_25, sh_5, sh_6, pu_rv, pu_as, Value.category, pu_bk, pu_kl, List.replicate, pu_wi_1, pu_wi_2, nl_add, nl_ladd, nl_aa, nl_mul, nl_rmul, nl_mm, pu_qe0, pu_qe1, e1, e3]
  all_goals try simp (maxSteps := 400000) (disch := omega) [nl_tle, nl_fle, nl_tlt, nl_flt, nl_teq, nl_feq, nl_sub, nl_ss, nl_lt, nl_llt, nl_ltt, nl_le, nl_lle, nl_lee, nl_eq, nl_leq, nl_ee, nl_div, nl_rem, nl_cl, nl_n1, nl_n2, nl_n3, nl_n4, nl_add, nl_ladd, nl_aa, nl_mul, nl_rmul, nl_mm, pu_wi_1, pu_wi_2, bX11_isTownOfItsOwn_0, bX11_isTownOfItsOwn_32, bX11_isTownOfItsOwn_33, a_ald, a_cv, a_gr, a_ifeq, a_ifne, a_ild, a_push, a_zret, ag_25 hI, ag_6 hI, fx_0_2 hx, fx_5_0 hx, fx_5_3 hx, sh_0, sh_25, sh_5, sh_6, pu_rv, pu_as, Value.category, pu_bk, pu_kl, pu_qe0, pu_qe1, e1, e3]
  all_goals try simp [bX11_isTownOfItsOwn_0, bX11_isTownOfItsOwn_32, bX11_isTownOfItsOwn_33, a_ald, a_cv, a_gr, a_ifeq, a_ifne, a_ild, a_push, a_zret, ag_25 hI, ag_6 hI, fx_0_2 hx, fx_5_0 hx, fx_5_3 hx, sh_0, sh_25, sh_5, sh_6, pu_rv, pu_as, Value.category, pu_bk, pu_kl, List.replicate, pu_wi_1, pu_wi_2, nl_add, nl_ladd, nl_aa, nl_mul, nl_rmul, nl_mm, pu_qe0, pu_qe1, e1, e3]
  all_goals try simp (maxSteps := 400000) (disch := omega) [nl_tle, nl_fle, nl_tlt, nl_flt, nl_teq, nl_feq, nl_sub, nl_ss, nl_lt, nl_llt, nl_ltt, nl_le, nl_lle, nl_lee, nl_eq, nl_leq, nl_ee, nl_div, nl_rem, nl_cl, nl_n1, nl_n2, nl_n3, nl_n4, nl_add, nl_ladd, nl_aa, nl_mul, nl_rmul, nl_mm, pu_wi_1, pu_wi_2, bX11_isTownOfItsOwn_0, bX11_isTownOfItsOwn_32, bX11_isTownOfItsOwn_33, a_ald, a_cv, a_gr, a_ifeq, a_ifne, a_ild, a_push, a_zret, ag_25 hI, ag_6 hI, fx_0_2 hx, fx_5_0 hx, fx_5_3 hx, sh_0, sh_25, sh_5, sh_6, pu_rv, pu_as, Value.category, pu_bk, pu_kl, pu_qe0, pu_qe1, e1, e3]
  grind [pu_q, pu_own]
theorem c_own0 (hx : pu_fx M) (hI : pu_ag M I) (hw : pu_WF I L) (x : Int32) (h : ¬ (¬ x < 0 ∧ x < nI (cT I))) : pu_r 43 [some (.ref 0), some (.int x)] [] M = some (some (.int 0), M) := by
  have e1 := c_isTown hx hI hw x
  rw [pu_q0 h] at e1
  rw [qX11_isTownOfItsOwn]
  simp [a_ent, bX11_isTownOfItsOwn_0, bX11_isTownOfItsOwn_32, bX11_isTownOfItsOwn_33, a_ald, a_cv, a_gr, a_ifeq, a_ifne, a_ild, a_push, a_zret, ag_25 hI, ag_6 hI, fx_0_2 hx, fx_5_0 hx, fx_5_3 hx, sh_0, sh_25, sh_5, sh_6, pu_rv, pu_as, Value.category, pu_bk, pu_kl, List.replicate, pu_wi_1, pu_wi_2, nl_add, nl_ladd, nl_aa, nl_mul, nl_rmul, nl_mm, pu_qe0, pu_qe1, e1]
  all_goals try simp (maxSteps := 400000) (disch := omega) [nl_tle, nl_fle, nl_tlt, nl_flt, nl_teq, nl_feq, nl_sub, nl_ss, nl_lt, nl_llt, nl_ltt, nl_le, nl_lle, nl_lee, nl_eq, nl_leq, nl_ee, nl_div, nl_rem, nl_cl, nl_n1, nl_n2, nl_n3, nl_n4, nl_add, nl_ladd, nl_aa, nl_mul, nl_rmul, nl_mm, pu_wi_1, pu_wi_2, bX11_isTownOfItsOwn_0, bX11_isTownOfItsOwn_32, bX11_isTownOfItsOwn_33, a_ald, a_cv, a_gr, a_ifeq, a_ifne, a_ild, a_push, a_zret, ag_25 hI, ag_6 hI, fx_0_2 hx, fx_5_0 hx, fx_5_3 hx, sh_0, sh_25, sh_5, sh_6, pu_rv, pu_as, Value.category, pu_bk, pu_kl, pu_qe0, pu_qe1, e1]
  all_goals try simp [bX11_isTownOfItsOwn_0, bX11_isTownOfItsOwn_32, bX11_isTownOfItsOwn_33, a_ald, a_cv, a_gr, a_ifeq, a_ifne, a_ild, a_push, a_zret, ag_25 hI, ag_6 hI, fx_0_2 hx, fx_5_0 hx, fx_5_3 hx, sh_0, sh_25, sh_5, sh_6, pu_rv, pu_as, Value.category, pu_bk, pu_kl, List.replicate, pu_wi_1, pu_wi_2, nl_add, nl_ladd, nl_aa, nl_mul, nl_rmul, nl_mm, pu_qe0, pu_qe1, e1]
  all_goals try simp (maxSteps := 400000) (disch := omega) [nl_tle, nl_fle, nl_tlt, nl_flt, nl_teq, nl_feq, nl_sub, nl_ss, nl_lt, nl_llt, nl_ltt, nl_le, nl_lle, nl_lee, nl_eq, nl_leq, nl_ee, nl_div, nl_rem, nl_cl, nl_n1, nl_n2, nl_n3, nl_n4, nl_add, nl_ladd, nl_aa, nl_mul, nl_rmul, nl_mm, pu_wi_1, pu_wi_2, bX11_isTownOfItsOwn_0, bX11_isTownOfItsOwn_32, bX11_isTownOfItsOwn_33, a_ald, a_cv, a_gr, a_ifeq, a_ifne, a_ild, a_push, a_zret, ag_25 hI, ag_6 hI, fx_0_2 hx, fx_5_0 hx, fx_5_3 hx, sh_0, sh_25, sh_5, sh_6, pu_rv, pu_as, Value.category, pu_bk, pu_kl, pu_qe0, pu_qe1, e1]
theorem r_own (hr : pu_Rel I L (M.1 72)) (hw : pu_WF I L) (t : Nat) (ht : t < cT I) : (M.1 72 (7520 + t) = -1) = pu_own I t := by
  have hb := wx_bP hw
  rcases rl_tj hr t ht with ⟨h1, h2⟩ | ⟨p, h1, h2, h3, _⟩
  · exact propext ⟨fun _ => h2, fun _ => h1⟩
  · apply propext
    constructor
    · intro q
      rw [q] at h2
      exact absurd h2 (fun z => by rw [nl_n2 p (by omega)] at z; exact z)
    · intro q
      exact absurd h3 (q p h1)
/-- the latest day of papers on street st or town tn, l at least -/
theorem c_latestOn_l (hx : pu_fx M) (hI : pu_ag M I) (hw : pu_WF I L) (st tn : Int32) : ∀ m i x l t u, x = nI i → i + m = cP I → pu_r 367 [some (.ref 6), some (.int st), some (.int tn), some (.int l), some (.int x), t, u] [] M = some (some (.int (pu_lat I st tn m i l)), M)
  | 0, i, x, l, t, u, hi, h => by
    subst hi
    have hb := wx_bP hw
    have hn := wx_cP hw
    have hc : nI (cP I) ≤ nI i := nI_le (by omega) (by omega)
    rw [qX6_latestOn_5]
    simp [bX6_latestOn_5, bX6_latestOn_110, bX6_latestOn_45, bX6_latestOn_46, bX6_latestOn_79, bX6_latestOn_80, bX6_latestOn_92, bX6_latestOn_104, bX6_latestOn_75, bX6_latestOn_41, a_ai, a_ald, a_gi, a_gr, a_iceq, a_icge, a_icne, a_ifeq, a_ifne, a_ild, a_inc, a_iret, a_ist, a_max, a_push, ag_10 hI, ag_11 hI, ag_12 hI, ag_6 hI, ag_7 hI, ag_9 hI, fx_6_3 hx, fx_6_5 hx, fx_6_6 hx, fx_6_7 hx, fx_6_8 hx, sh_10, sh_11, sh_12, sh_6, sh_7, sh_9, pu_rv, pu_as, Value.category, pu_bk, pu_kl, List.replicate, pu_wi_1, pu_wi_2, nl_add, nl_ladd, nl_aa, nl_mul, nl_rmul, nl_mm, pu_qe0, pu_qe1, hn, hc, pu_lat]
    all_goals try simp (maxSteps := 400000) (disch := omega) [nl_tle, nl_fle, nl_tlt, nl_flt, nl_teq, nl_feq, nl_sub, nl_ss, nl_lt, nl_llt, nl_ltt, nl_le, nl_lle, nl_lee, nl_eq, nl_leq, nl_ee, nl_div, nl_rem, nl_cl, nl_n1, nl_n2, nl_n3, nl_n4, nl_add, nl_ladd, nl_aa, nl_mul, nl_rmul, nl_mm, pu_wi_1, pu_wi_2, bX6_latestOn_5, bX6_latestOn_110, bX6_latestOn_45, bX6_latestOn_46, bX6_latestOn_79, bX6_latestOn_80, bX6_latestOn_92, bX6_latestOn_104, bX6_latestOn_75, bX6_latestOn_41, a_ai, a_ald, a_gi, a_gr, a_iceq, a_icge, a_icne, a_ifeq, a_ifne, a_ild, a_inc, a_iret, a_ist, a_max, a_push, ag_10 hI, ag_11 hI, ag_12 hI, ag_6 hI, ag_7 hI, ag_9 hI, fx_6_3 hx, fx_6_5 hx, fx_6_6 hx, fx_6_7 hx, fx_6_8 hx, sh_10, sh_11, sh_12, sh_6, sh_7, sh_9, pu_rv, pu_as, Value.category, pu_bk, pu_kl, pu_qe0, pu_qe1, hn, hc, pu_lat]
    all_goals try simp [bX6_latestOn_5, bX6_latestOn_110, bX6_latestOn_45, bX6_latestOn_46, bX6_latestOn_79, bX6_latestOn_80, bX6_latestOn_92, bX6_latestOn_104, bX6_latestOn_75, bX6_latestOn_41, a_ai, a_ald, a_gi, a_gr, a_iceq, a_icge, a_icne, a_ifeq, a_ifne, a_ild, a_inc, a_iret, a_ist, a_max, a_push, ag_10 hI, ag_11 hI, ag_12 hI, ag_6 hI, ag_7 hI, ag_9 hI, fx_6_3 hx, fx_6_5 hx, fx_6_6 hx, fx_6_7 hx, fx_6_8 hx, sh_10, sh_11, sh_12, sh_6, sh_7, sh_9, pu_rv, pu_as, Value.category, pu_bk, pu_kl, List.replicate, pu_wi_1, pu_wi_2, nl_add, nl_ladd, nl_aa, nl_mul, nl_rmul, nl_mm, pu_qe0, pu_qe1, hn, hc, pu_lat]
    all_goals try simp (maxSteps := 400000) (disch := omega) [nl_tle, nl_fle, nl_tlt, nl_flt, nl_teq, nl_feq, nl_sub, nl_ss, nl_lt, nl_llt, nl_ltt, nl_le, nl_lle, nl_lee, nl_eq, nl_leq, nl_ee, nl_div, nl_rem, nl_cl, nl_n1, nl_n2, nl_n3, nl_n4, nl_add, nl_ladd, nl_aa, nl_mul, nl_rmul, nl_mm, pu_wi_1, pu_wi_2, bX6_latestOn_5, bX6_latestOn_110, bX6_latestOn_45, bX6_latestOn_46, bX6_latestOn_79, bX6_latestOn_80, bX6_latestOn_92, bX6_latestOn_104, bX6_latestOn_75, bX6_latestOn_41, a_ai, a_ald, a_gi, a_gr, a_iceq, a_icge, a_icne, a_ifeq, a_ifne, a_ild, a_inc, a_iret, a_ist, a_max, a_push, ag_10 hI, ag_11 hI, ag_12 hI, ag_6 hI, ag_7 hI, ag_9 hI, fx_6_3 hx, fx_6_5 hx, fx_6_6 hx, fx_6_7 hx, fx_6_8 hx, sh_10, sh_11, sh_12, sh_6, sh_7, sh_9, pu_rv, pu_as, Value.category, pu_bk, pu_kl, pu_qe0, pu_qe1, hn, hc, pu_lat]
  | m + 1, i, x, l, t, u, hi, h => by
    subst hi
    have hb := wx_bP hw
    have hn := wx_cP hw
    have hc : ¬ nI (cP I) ≤ nI i := nI_ge (by omega) (by omega)
    have ih := fun l t u => c_latestOn_l hx hI hw st tn m (i + 1) _ l t u rfl (by omega)
    unfold pu_lat
    by_cases h5 : pu_la I st tn i
    · rw [if_pos h5]
      rw [qX6_latestOn_5]
      simp [bX6_latestOn_5, bX6_latestOn_110, bX6_latestOn_45, bX6_latestOn_46, bX6_latestOn_79, bX6_latestOn_80, bX6_latestOn_92, bX6_latestOn_104, bX6_latestOn_75, bX6_latestOn_41, a_ai, a_ald, a_gi, a_gr, a_iceq, a_icge, a_icne, a_ifeq, a_ifne, a_ild, a_inc, a_iret, a_ist, a_max, a_push, ag_10 hI, ag_11 hI, ag_12 hI, ag_6 hI, ag_7 hI, ag_9 hI, fx_6_3 hx, fx_6_5 hx, fx_6_6 hx, fx_6_7 hx, fx_6_8 hx, sh_10, sh_11, sh_12, sh_6, sh_7, sh_9, pu_rv, pu_as, Value.category, pu_bk, pu_kl, List.replicate, pu_wi_1, pu_wi_2, nl_add, nl_ladd, nl_aa, nl_mul, nl_rmul, nl_mm, pu_qe0, pu_qe1, hn, hc, ih]
      all_goals try simp (maxSteps := 400000) (disch := omega) [nl_tle, nl_fle, nl_tlt, nl_flt, nl_teq, nl_feq, nl_sub, nl_ss, nl_lt, nl_llt, nl_ltt, nl_le, nl_lle, nl_lee, nl_eq, nl_leq, nl_ee, nl_div, nl_rem, nl_cl, nl_n1, nl_n2, nl_n3, nl_n4, nl_add, nl_ladd, nl_aa, nl_mul, nl_rmul, nl_mm, pu_wi_1, pu_wi_2, bX6_latestOn_5, bX6_latestOn_110, bX6_latestOn_45, bX6_latestOn_46, bX6_latestOn_79, bX6_latestOn_80, bX6_latestOn_92, bX6_latestOn_104, bX6_latestOn_75, bX6_latestOn_41, a_ai, a_ald, a_gi, a_gr, a_iceq, a_icge, a_icne, a_ifeq, a_ifne, a_ild, a_inc, a_iret, a_ist, a_max, a_push, ag_10 hI, ag_11 hI, ag_12 hI, ag_6 hI, ag_7 hI, ag_9 hI, fx_6_3 hx, fx_6_5 hx, fx_6_6 hx, fx_6_7 hx, fx_6_8 hx, sh_10, sh_11, sh_12, sh_6, sh_7, sh_9, pu_rv, pu_as, Value.category, pu_bk, pu_kl, pu_qe0, pu_qe1, hn, hc, ih]
      all_goals try simp [bX6_latestOn_5, bX6_latestOn_110, bX6_latestOn_45, bX6_latestOn_46, bX6_latestOn_79, bX6_latestOn_80, bX6_latestOn_92, bX6_latestOn_104, bX6_latestOn_75, bX6_latestOn_41, a_ai, a_ald, a_gi, a_gr, a_iceq, a_icge, a_icne, a_ifeq, a_ifne, a_ild, a_inc, a_iret, a_ist, a_max, a_push, ag_10 hI, ag_11 hI, ag_12 hI, ag_6 hI, ag_7 hI, ag_9 hI, fx_6_3 hx, fx_6_5 hx, fx_6_6 hx, fx_6_7 hx, fx_6_8 hx, sh_10, sh_11, sh_12, sh_6, sh_7, sh_9, pu_rv, pu_as, Value.category, pu_bk, pu_kl, List.replicate, pu_wi_1, pu_wi_2, nl_add, nl_ladd, nl_aa, nl_mul, nl_rmul, nl_mm, pu_qe0, pu_qe1, hn, hc, ih]
      all_goals try simp (maxSteps := 400000) (disch := omega) [nl_tle, nl_fle, nl_tlt, nl_flt, nl_teq, nl_feq, nl_sub, nl_ss, nl_lt, nl_llt, nl_ltt, nl_le, nl_lle, nl_lee, nl_eq, nl_leq, nl_ee, nl_div, nl_rem, nl_cl, nl_n1, nl_n2, nl_n3, nl_n4, nl_add, nl_ladd, nl_aa, nl_mul, nl_rmul, nl_mm, pu_wi_1, pu_wi_2, bX6_latestOn_5, bX6_latestOn_110, bX6_latestOn_45, bX6_latestOn_46, bX6_latestOn_79, bX6_latestOn_80, bX6_latestOn_92, bX6_latestOn_104, bX6_latestOn_75, bX6_latestOn_41, a_ai, a_ald, a_gi, a_gr, a_iceq, a_icge, a_icne, a_ifeq, a_ifne, a_ild, a_inc, a_iret, a_ist, a_max, a_push, ag_10 hI, ag_11 hI, ag_12 hI, ag_6 hI, ag_7 hI, ag_9 hI, fx_6_3 hx, fx_6_5 hx, fx_6_6 hx, fx_6_7 hx, fx_6_8 hx, sh_10, sh_11, sh_12, sh_6, sh_7, sh_9, pu_rv, pu_as, Value.category, pu_bk, pu_kl, pu_qe0, pu_qe1, hn, hc, ih]
      simp only [pu_la] at h5
      grind
    · rw [if_neg h5]
      rw [qX6_latestOn_5]
      simp [bX6_latestOn_5, bX6_latestOn_110, bX6_latestOn_45, bX6_latestOn_46, bX6_latestOn_79, bX6_latestOn_80, bX6_latestOn_92, bX6_latestOn_104, bX6_latestOn_75, bX6_latestOn_41, a_ai, a_ald, a_gi, a_gr, a_iceq, a_icge, a_icne, a_ifeq, a_ifne, a_ild, a_inc, a_iret, a_ist, a_max, a_push, ag_10 hI, ag_11 hI, ag_12 hI, ag_6 hI, ag_7 hI, ag_9 hI, fx_6_3 hx, fx_6_5 hx, fx_6_6 hx, fx_6_7 hx, fx_6_8 hx, sh_10, sh_11, sh_12, sh_6, sh_7, sh_9, pu_rv, pu_as, Value.category, pu_bk, pu_kl, List.replicate, pu_wi_1, pu_wi_2, nl_add, nl_ladd, nl_aa, nl_mul, nl_rmul, nl_mm, pu_qe0, pu_qe1, hn, hc, ih]
      all_goals try simp (maxSteps := 400000) (disch := omega) [nl_tle, nl_fle, nl_tlt, nl_flt, nl_teq, nl_feq, nl_sub, nl_ss, nl_lt, nl_llt, nl_ltt, nl_le, nl_lle, nl_lee, nl_eq, nl_leq, nl_ee, nl_div, nl_rem, nl_cl, nl_n1, nl_n2, nl_n3, nl_n4, nl_add, nl_ladd, nl_aa, nl_mul, nl_rmul, nl_mm, pu_wi_1, pu_wi_2, bX6_latestOn_5, bX6_latestOn_110, bX6_latestOn_45, bX6_latestOn_46, bX6_latestOn_79, bX6_latestOn_80, bX6_latestOn_92, bX6_latestOn_104, bX6_latestOn_75, bX6_latestOn_41, a_ai, a_ald, a_gi, a_gr, a_iceq, a_icge, a_icne, a_ifeq, a_ifne, a_ild, a_inc, a_iret, a_ist, a_max, a_push, ag_10 hI, ag_11 hI, ag_12 hI, ag_6 hI, ag_7 hI, ag_9 hI, fx_6_3 hx, fx_6_5 hx, fx_6_6 hx, fx_6_7 hx, fx_6_8 hx, sh_10, sh_11, sh_12, sh_6, sh_7, sh_9, pu_rv, pu_as, Value.category, pu_bk, pu_kl, pu_qe0, pu_qe1, hn, hc, ih]
      all_goals try simp [bX6_latestOn_5, bX6_latestOn_110, bX6_latestOn_45, bX6_latestOn_46, bX6_latestOn_79, bX6_latestOn_80, bX6_latestOn_92, bX6_latestOn_104, bX6_latestOn_75, bX6_latestOn_41, a_ai, a_ald, a_gi, a_gr, a_iceq, a_icge, a_icne, a_ifeq, a_ifne, a_ild, a_inc, a_iret, a_ist, a_max, a_push, ag_10 hI, ag_11 hI, ag_12 hI, ag_6 hI, ag_7 hI, ag_9 hI, fx_6_3 hx, fx_6_5 hx, fx_6_6 hx, fx_6_7 hx, fx_6_8 hx, sh_10, sh_11, sh_12, sh_6, sh_7, sh_9, pu_rv, pu_as, Value.category, pu_bk, pu_kl, List.replicate, pu_wi_1, pu_wi_2, nl_add, nl_ladd, nl_aa, nl_mul, nl_rmul, nl_mm, pu_qe0, pu_qe1, hn, hc, ih]
      all_goals try simp (maxSteps := 400000) (disch := omega) [nl_tle, nl_fle, nl_tlt, nl_flt, nl_teq, nl_feq, nl_sub, nl_ss, nl_lt, nl_llt, nl_ltt, nl_le, nl_lle, nl_lee, nl_eq, nl_leq, nl_ee, nl_div, nl_rem, nl_cl, nl_n1, nl_n2, nl_n3, nl_n4, nl_add, nl_ladd, nl_aa, nl_mul, nl_rmul, nl_mm, pu_wi_1, pu_wi_2, bX6_latestOn_5, bX6_latestOn_110, bX6_latestOn_45, bX6_latestOn_46, bX6_latestOn_79, bX6_latestOn_80, bX6_latestOn_92, bX6_latestOn_104, bX6_latestOn_75, bX6_latestOn_41, a_ai, a_ald, a_gi, a_gr, a_iceq, a_icge, a_icne, a_ifeq, a_ifne, a_ild, a_inc, a_iret, a_ist, a_max, a_push, ag_10 hI, ag_11 hI, ag_12 hI, ag_6 hI, ag_7 hI, ag_9 hI, fx_6_3 hx, fx_6_5 hx, fx_6_6 hx, fx_6_7 hx, fx_6_8 hx, sh_10, sh_11, sh_12, sh_6, sh_7, sh_9, pu_rv, pu_as, Value.category, pu_bk, pu_kl, pu_qe0, pu_qe1, hn, hc, ih]
      simp only [pu_la] at h5
      grind
theorem c_latestOn (hx : pu_fx M) (hI : pu_ag M I) (hw : pu_WF I L) (st tn : Int32) : pu_r 45 [some (.ref 6), some (.int st), some (.int tn)] [] M = some (some (.int (pu_lat I st tn (cP I) 0 0)), M) := by
  have e := c_latestOn_l hx hI hw st tn (cP I) 0 0 0 none none rfl (by omega)
  rw [qX6_latestOn]
  simp [a_ent, bX6_latestOn_0, a_ist, a_push, pu_rv, pu_as, Value.category, pu_bk, pu_kl, List.replicate, pu_wi_1, pu_wi_2, nl_add, nl_ladd, nl_aa, nl_mul, nl_rmul, nl_mm, pu_qe0, pu_qe1, e]
  all_goals try simp (maxSteps := 400000) (disch := omega) [nl_tle, nl_fle, nl_tlt, nl_flt, nl_teq, nl_feq, nl_sub, nl_ss, nl_lt, nl_llt, nl_ltt, nl_le, nl_lle, nl_lee, nl_eq, nl_leq, nl_ee, nl_div, nl_rem, nl_cl, nl_n1, nl_n2, nl_n3, nl_n4, nl_add, nl_ladd, nl_aa, nl_mul, nl_rmul, nl_mm, pu_wi_1, pu_wi_2, bX6_latestOn_0, a_ist, a_push, pu_rv, pu_as, Value.category, pu_bk, pu_kl, pu_qe0, pu_qe1, e]
  all_goals try simp [bX6_latestOn_0, a_ist, a_push, pu_rv, pu_as, Value.category, pu_bk, pu_kl, List.replicate, pu_wi_1, pu_wi_2, nl_add, nl_ladd, nl_aa, nl_mul, nl_rmul, nl_mm, pu_qe0, pu_qe1, e]
  all_goals try simp (maxSteps := 400000) (disch := omega) [nl_tle, nl_fle, nl_tlt, nl_flt, nl_teq, nl_feq, nl_sub, nl_ss, nl_lt, nl_llt, nl_ltt, nl_le, nl_lle, nl_lee, nl_eq, nl_leq, nl_ee, nl_div, nl_rem, nl_cl, nl_n1, nl_n2, nl_n3, nl_n4, nl_add, nl_ladd, nl_aa, nl_mul, nl_rmul, nl_mm, pu_wi_1, pu_wi_2, bX6_latestOn_0, a_ist, a_push, pu_rv, pu_as, Value.category, pu_bk, pu_kl, pu_qe0, pu_qe1, e]
theorem r_latest_l (hx : pu_fx M) (hr : pu_Rel I L (M.1 72)) (hw : pu_WF I L) (st tn : Int32) : ∀ m i x l t u, x = nI i → i + m = cP I → pu_r 451 [some (.ref 71), some (.int st), some (.int tn), some (.int l), some (.int x), t, u] [] M = some (some (.int (pu_lat I st tn m i l)), M)
  | 0, i, x, l, t, u, hi, h => by
    subst hi
    have hb := wx_bP hw
    have hc : nI (cP I) ≤ nI i := nI_le (by omega) (by omega)
    rw [qX12_latest_5]
    simp [bX12_latest_5, bX12_latest_130, bX12_latest_58, bX12_latest_93, bX12_latest_94, bX12_latest_124, bX12_latest_89, bX12_latest_46, a_ai, a_ald, a_gr, a_iadd, a_iceq, a_icge, a_icle, a_icne, a_ifeq, a_ild, a_imul, a_inc, a_iret, a_ist, a_push, fx_71_0 hx, sh_71, sh_72, pu_rv, pu_as, Value.category, pu_bk, pu_kl, List.replicate, pu_wi_1, pu_wi_2, nl_add, nl_ladd, nl_aa, nl_mul, nl_rmul, nl_mm, pu_qe0, pu_qe1, rl_h5 hr, hc, pu_lat]
    all_goals try simp (maxSteps := 400000) (disch := omega) [nl_tle, nl_fle, nl_tlt, nl_flt, nl_teq, nl_feq, nl_sub, nl_ss, nl_lt, nl_llt, nl_ltt, nl_le, nl_lle, nl_lee, nl_eq, nl_leq, nl_ee, nl_div, nl_rem, nl_cl, nl_n1, nl_n2, nl_n3, nl_n4, nl_add, nl_ladd, nl_aa, nl_mul, nl_rmul, nl_mm, pu_wi_1, pu_wi_2, bX12_latest_5, bX12_latest_130, bX12_latest_58, bX12_latest_93, bX12_latest_94, bX12_latest_124, bX12_latest_89, bX12_latest_46, a_ai, a_ald, a_gr, a_iadd, a_iceq, a_icge, a_icle, a_icne, a_ifeq, a_ild, a_imul, a_inc, a_iret, a_ist, a_push, fx_71_0 hx, sh_71, sh_72, pu_rv, pu_as, Value.category, pu_bk, pu_kl, pu_qe0, pu_qe1, rl_h5 hr, hc, pu_lat]
    all_goals try simp [bX12_latest_5, bX12_latest_130, bX12_latest_58, bX12_latest_93, bX12_latest_94, bX12_latest_124, bX12_latest_89, bX12_latest_46, a_ai, a_ald, a_gr, a_iadd, a_iceq, a_icge, a_icle, a_icne, a_ifeq, a_ild, a_imul, a_inc, a_iret, a_ist, a_push, fx_71_0 hx, sh_71, sh_72, pu_rv, pu_as, Value.category, pu_bk, pu_kl, List.replicate, pu_wi_1, pu_wi_2, nl_add, nl_ladd, nl_aa, nl_mul, nl_rmul, nl_mm, pu_qe0, pu_qe1, rl_h5 hr, hc, pu_lat]
    all_goals try simp (maxSteps := 400000) (disch := omega) [nl_tle, nl_fle, nl_tlt, nl_flt, nl_teq, nl_feq, nl_sub, nl_ss, nl_lt, nl_llt, nl_ltt, nl_le, nl_lle, nl_lee, nl_eq, nl_leq, nl_ee, nl_div, nl_rem, nl_cl, nl_n1, nl_n2, nl_n3, nl_n4, nl_add, nl_ladd, nl_aa, nl_mul, nl_rmul, nl_mm, pu_wi_1, pu_wi_2, bX12_latest_5, bX12_latest_130, bX12_latest_58, bX12_latest_93, bX12_latest_94, bX12_latest_124, bX12_latest_89, bX12_latest_46, a_ai, a_ald, a_gr, a_iadd, a_iceq, a_icge, a_icle, a_icne, a_ifeq, a_ild, a_imul, a_inc, a_iret, a_ist, a_push, fx_71_0 hx, sh_71, sh_72, pu_rv, pu_as, Value.category, pu_bk, pu_kl, pu_qe0, pu_qe1, rl_h5 hr, hc, pu_lat]
  | m + 1, i, x, l, t, u, hi, h => by
    subst hi
    have hb := wx_bP hw
    have hc : ¬ nI (cP I) ≤ nI i := nI_ge (by omega) (by omega)
    have ih := fun l t u => r_latest_l hx hr hw st tn m (i + 1) _ l t u rfl (by omega)
    unfold pu_lat
    by_cases h5 : pu_la I st tn i
    · rw [if_pos h5]
      by_cases h6 : l < I 7 i
      · have h7 : ¬ I 7 i ≤ l := Int32.not_le.mpr h6
        rw [if_pos h6]
        rw [qX12_latest_5]
        simp [bX12_latest_5, bX12_latest_130, bX12_latest_58, bX12_latest_93, bX12_latest_94, bX12_latest_124, bX12_latest_89, bX12_latest_46, a_ai, a_ald, a_gr, a_iadd, a_iceq, a_icge, a_icle, a_icne, a_ifeq, a_ild, a_imul, a_inc, a_iret, a_ist, a_push, fx_71_0 hx, sh_71, sh_72, pu_rv, pu_as, Value.category, pu_bk, pu_kl, List.replicate, pu_wi_1, pu_wi_2, nl_add, nl_ladd, nl_aa, nl_mul, nl_rmul, nl_mm, pu_qe0, pu_qe1, rl_h5 hr, hc, ih, rl_p1 hr, rl_p2 hr, rl_p3 hr, rl_p4 hr, rl_p5 hr, h7]
        all_goals try simp (maxSteps := 400000) (disch := omega) [nl_tle, nl_fle, nl_tlt, nl_flt, nl_teq, nl_feq, nl_sub, nl_ss, nl_lt, nl_llt, nl_ltt, nl_le, nl_lle, nl_lee, nl_eq, nl_leq, nl_ee, nl_div, nl_rem, nl_cl, nl_n1, nl_n2, nl_n3, nl_n4, nl_add, nl_ladd, nl_aa, nl_mul, nl_rmul, nl_mm, pu_wi_1, pu_wi_2, bX12_latest_5, bX12_latest_130, bX12_latest_58, bX12_latest_93, bX12_latest_94, bX12_latest_124, bX12_latest_89, bX12_latest_46, a_ai, a_ald, a_gr, a_iadd, a_iceq, a_icge, a_icle, a_icne, a_ifeq, a_ild, a_imul, a_inc, a_iret, a_ist, a_push, fx_71_0 hx, sh_71, sh_72, pu_rv, pu_as, Value.category, pu_bk, pu_kl, pu_qe0, pu_qe1, rl_h5 hr, hc, ih, rl_p1 hr, rl_p2 hr, rl_p3 hr, rl_p4 hr, rl_p5 hr, h7]
        all_goals try simp [bX12_latest_5, bX12_latest_130, bX12_latest_58, bX12_latest_93, bX12_latest_94, bX12_latest_124, bX12_latest_89, bX12_latest_46, a_ai, a_ald, a_gr, a_iadd, a_iceq, a_icge, a_icle, a_icne, a_ifeq, a_ild, a_imul, a_inc, a_iret, a_ist, a_push, fx_71_0 hx, sh_71, sh_72, pu_rv, pu_as, Value.category, pu_bk, pu_kl, List.replicate, pu_wi_1, pu_wi_2, nl_add, nl_ladd, nl_aa, nl_mul, nl_rmul, nl_mm, pu_qe0, pu_qe1, rl_h5 hr, hc, ih, rl_p1 hr, rl_p2 hr, rl_p3 hr, rl_p4 hr, rl_p5 hr, h7]
        all_goals try simp (maxSteps := 400000) (disch := omega) [nl_tle, nl_fle, nl_tlt, nl_flt, nl_teq, nl_feq, nl_sub, nl_ss, nl_lt, nl_llt, nl_ltt, nl_le, nl_lle, nl_lee, nl_eq, nl_leq, nl_ee, nl_div, nl_rem, nl_cl, nl_n1, nl_n2, nl_n3, nl_n4, nl_add, nl_ladd, nl_aa, nl_mul, nl_rmul, nl_mm, pu_wi_1, pu_wi_2, bX12_latest_5, bX12_latest_130, bX12_latest_58, bX12_latest_93, bX12_latest_94, bX12_latest_124, bX12_latest_89, bX12_latest_46, a_ai, a_ald, a_gr, a_iadd, a_iceq, a_icge, a_icle, a_icne, a_ifeq, a_ild, a_imul, a_inc, a_iret, a_ist, a_push, fx_71_0 hx, sh_71, sh_72, pu_rv, pu_as, Value.category, pu_bk, pu_kl, pu_qe0, pu_qe1, rl_h5 hr, hc, ih, rl_p1 hr, rl_p2 hr, rl_p3 hr, rl_p4 hr, rl_p5 hr, h7]
        simp only [pu_la] at h5
        grind
      · have h7 : I 7 i ≤ l := Int32.not_lt.mp h6
        rw [if_neg h6]
        rw [qX12_latest_5]
        simp [bX12_latest_5, bX12_latest_130, bX12_latest_58, bX12_latest_93, bX12_latest_94, bX12_latest_124, bX12_latest_89, bX12_latest_46, a_ai, a_ald, a_gr, a_iadd, a_iceq, a_icge, a_icle, a_icne, a_ifeq, a_ild, a_imul, a_inc, a_iret, a_ist, a_push, fx_71_0 hx, sh_71, sh_72, pu_rv, pu_as, Value.category, pu_bk, pu_kl, List.replicate, pu_wi_1, pu_wi_2, nl_add, nl_ladd, nl_aa, nl_mul, nl_rmul, nl_mm, pu_qe0, pu_qe1, rl_h5 hr, hc, ih, rl_p1 hr, rl_p2 hr, rl_p3 hr, rl_p4 hr, rl_p5 hr, h7]
        all_goals try simp (maxSteps := 400000) (disch := omega) [nl_tle, nl_fle, nl_tlt, nl_flt, nl_teq, nl_feq, nl_sub, nl_ss, nl_lt, nl_llt, nl_ltt, nl_le, nl_lle, nl_lee, nl_eq, nl_leq, nl_ee, nl_div, nl_rem, nl_cl, nl_n1, nl_n2, nl_n3, nl_n4, nl_add, nl_ladd, nl_aa, nl_mul, nl_rmul, nl_mm, pu_wi_1, pu_wi_2, bX12_latest_5, bX12_latest_130, bX12_latest_58, bX12_latest_93, bX12_latest_94, bX12_latest_124, bX12_latest_89, bX12_latest_46, a_ai, a_ald, a_gr, a_iadd, a_iceq, a_icge, a_icle, a_icne, a_ifeq, a_ild, a_imul, a_inc, a_iret, a_ist, a_push, fx_71_0 hx, sh_71, sh_72, pu_rv, pu_as, Value.category, pu_bk, pu_kl, pu_qe0, pu_qe1, rl_h5 hr, hc, ih, rl_p1 hr, rl_p2 hr, rl_p3 hr, rl_p4 hr, rl_p5 hr, h7]
        all_goals try simp [bX12_latest_5, bX12_latest_130, bX12_latest_58, bX12_latest_93, bX12_latest_94, bX12_latest_124, bX12_latest_89, bX12_latest_46, a_ai, a_ald, a_gr, a_iadd, a_iceq, a_icge, a_icle, a_icne, a_ifeq, a_ild, a_imul, a_inc, a_iret, a_ist, a_push, fx_71_0 hx, sh_71, sh_72, pu_rv, pu_as, Value.category, pu_bk, pu_kl, List.replicate, pu_wi_1, pu_wi_2, nl_add, nl_ladd, nl_aa, nl_mul, nl_rmul, nl_mm, pu_qe0, pu_qe1, rl_h5 hr, hc, ih, rl_p1 hr, rl_p2 hr, rl_p3 hr, rl_p4 hr, rl_p5 hr, h7]
        all_goals try simp (maxSteps := 400000) (disch := omega) [nl_tle, nl_fle, nl_tlt, nl_flt, nl_teq, nl_feq, nl_sub, nl_ss, nl_lt, nl_llt, nl_ltt, nl_le, nl_lle, nl_lee, nl_eq, nl_leq, nl_ee, nl_div, nl_rem, nl_cl, nl_n1, nl_n2, nl_n3, nl_n4, nl_add, nl_ladd, nl_aa, nl_mul, nl_rmul, nl_mm, pu_wi_1, pu_wi_2, bX12_latest_5, bX12_latest_130, bX12_latest_58, bX12_latest_93, bX12_latest_94, bX12_latest_124, bX12_latest_89, bX12_latest_46, a_ai, a_ald, a_gr, a_iadd, a_iceq, a_icge, a_icle, a_icne, a_ifeq, a_ild, a_imul, a_inc, a_iret, a_ist, a_push, fx_71_0 hx, sh_71, sh_72, pu_rv, pu_as, Value.category, pu_bk, pu_kl, pu_qe0, pu_qe1, rl_h5 hr, hc, ih, rl_p1 hr, rl_p2 hr, rl_p3 hr, rl_p4 hr, rl_p5 hr, h7]
        try grind
    · rw [if_neg h5]
      rw [qX12_latest_5]
      simp [bX12_latest_5, bX12_latest_130, bX12_latest_58, bX12_latest_93, bX12_latest_94, bX12_latest_124, bX12_latest_89, bX12_latest_46, a_ai, a_ald, a_gr, a_iadd, a_iceq, a_icge, a_icle, a_icne, a_ifeq, a_ild, a_imul, a_inc, a_iret, a_ist, a_push, fx_71_0 hx, sh_71, sh_72, pu_rv, pu_as, Value.category, pu_bk, pu_kl, List.replicate, pu_wi_1, pu_wi_2, nl_add, nl_ladd, nl_aa, nl_mul, nl_rmul, nl_mm, pu_qe0, pu_qe1, rl_h5 hr, hc, ih, rl_p1 hr, rl_p2 hr, rl_p3 hr, rl_p4 hr, rl_p5 hr]
      all_goals try simp (maxSteps := 400000) (disch := omega) [nl_tle, nl_fle, nl_tlt, nl_flt, nl_teq, nl_feq, nl_sub, nl_ss, nl_lt, nl_llt, nl_ltt, nl_le, nl_lle, nl_lee, nl_eq, nl_leq, nl_ee, nl_div, nl_rem, nl_cl, nl_n1, nl_n2, nl_n3, nl_n4, nl_add, nl_ladd, nl_aa, nl_mul, nl_rmul, nl_mm, pu_wi_1, pu_wi_2, bX12_latest_5, bX12_latest_130, bX12_latest_58, bX12_latest_93, bX12_latest_94, bX12_latest_124, bX12_latest_89, bX12_latest_46, a_ai, a_ald, a_gr, a_iadd, a_iceq, a_icge, a_icle, a_icne, a_ifeq, a_ild, a_imul, a_inc, a_iret, a_ist, a_push, fx_71_0 hx, sh_71, sh_72, pu_rv, pu_as, Value.category, pu_bk, pu_kl, pu_qe0, pu_qe1, rl_h5 hr, hc, ih, rl_p1 hr, rl_p2 hr, rl_p3 hr, rl_p4 hr, rl_p5 hr]
      all_goals try simp [bX12_latest_5, bX12_latest_130, bX12_latest_58, bX12_latest_93, bX12_latest_94, bX12_latest_124, bX12_latest_89, bX12_latest_46, a_ai, a_ald, a_gr, a_iadd, a_iceq, a_icge, a_icle, a_icne, a_ifeq, a_ild, a_imul, a_inc, a_iret, a_ist, a_push, fx_71_0 hx, sh_71, sh_72, pu_rv, pu_as, Value.category, pu_bk, pu_kl, List.replicate, pu_wi_1, pu_wi_2, nl_add, nl_ladd, nl_aa, nl_mul, nl_rmul, nl_mm, pu_qe0, pu_qe1, rl_h5 hr, hc, ih, rl_p1 hr, rl_p2 hr, rl_p3 hr, rl_p4 hr, rl_p5 hr]
      all_goals try simp (maxSteps := 400000) (disch := omega) [nl_tle, nl_fle, nl_tlt, nl_flt, nl_teq, nl_feq, nl_sub, nl_ss, nl_lt, nl_llt, nl_ltt, nl_le, nl_lle, nl_lee, nl_eq, nl_leq, nl_ee, nl_div, nl_rem, nl_cl, nl_n1, nl_n2, nl_n3, nl_n4, nl_add, nl_ladd, nl_aa, nl_mul, nl_rmul, nl_mm, pu_wi_1, pu_wi_2, bX12_latest_5, bX12_latest_130, bX12_latest_58, bX12_latest_93, bX12_latest_94, bX12_latest_124, bX12_latest_89, bX12_latest_46, a_ai, a_ald, a_gr, a_iadd, a_iceq, a_icge, a_icle, a_icne, a_ifeq, a_ild, a_imul, a_inc, a_iret, a_ist, a_push, fx_71_0 hx, sh_71, sh_72, pu_rv, pu_as, Value.category, pu_bk, pu_kl, pu_qe0, pu_qe1, rl_h5 hr, hc, ih, rl_p1 hr, rl_p2 hr, rl_p3 hr, rl_p4 hr, rl_p5 hr]
      simp only [pu_la] at h5
      grind
theorem r_latest (hx : pu_fx M) (hr : pu_Rel I L (M.1 72)) (hw : pu_WF I L) (st tn : Int32) : pu_r 255 [some (.ref 71), some (.int st), some (.int tn)] [] M = some (some (.int (pu_lat I st tn (cP I) 0 (-1))), M) := by
  have e := r_latest_l hx hr hw st tn (cP I) 0 0 (-1) none none rfl (by omega)
  rw [qX12_latest]
  simp [a_ent, bX12_latest_0, a_ist, a_push, pu_rv, pu_as, Value.category, pu_bk, pu_kl, List.replicate, pu_wi_1, pu_wi_2, nl_add, nl_ladd, nl_aa, nl_mul, nl_rmul, nl_mm, pu_qe0, pu_qe1, e]
  all_goals try simp (maxSteps := 400000) (disch := omega) [nl_tle, nl_fle, nl_tlt, nl_flt, nl_teq, nl_feq, nl_sub, nl_ss, nl_lt, nl_llt, nl_ltt, nl_le, nl_lle, nl_lee, nl_eq, nl_leq, nl_ee, nl_div, nl_rem, nl_cl, nl_n1, nl_n2, nl_n3, nl_n4, nl_add, nl_ladd, nl_aa, nl_mul, nl_rmul, nl_mm, pu_wi_1, pu_wi_2, bX12_latest_0, a_ist, a_push, pu_rv, pu_as, Value.category, pu_bk, pu_kl, pu_qe0, pu_qe1, e]
  all_goals try simp [bX12_latest_0, a_ist, a_push, pu_rv, pu_as, Value.category, pu_bk, pu_kl, List.replicate, pu_wi_1, pu_wi_2, nl_add, nl_ladd, nl_aa, nl_mul, nl_rmul, nl_mm, pu_qe0, pu_qe1, e]
  all_goals try simp (maxSteps := 400000) (disch := omega) [nl_tle, nl_fle, nl_tlt, nl_flt, nl_teq, nl_feq, nl_sub, nl_ss, nl_lt, nl_llt, nl_ltt, nl_le, nl_lle, nl_lee, nl_eq, nl_leq, nl_ee, nl_div, nl_rem, nl_cl, nl_n1, nl_n2, nl_n3, nl_n4, nl_add, nl_ladd, nl_aa, nl_mul, nl_rmul, nl_mm, pu_wi_1, pu_wi_2, bX12_latest_0, a_ist, a_push, pu_rv, pu_as, Value.category, pu_bk, pu_kl, pu_qe0, pu_qe1, e]
/-- a paper on the street or of the town begins behind day y -/
def pu_ey (I : Nat → Nat → Int32) (st tn y : Int32) : Prop := ∃ p, p < cP I ∧ pu_la I st tn p ∧ y < I 7 p
theorem pu_lat_lt (st tn y : Int32) : ∀ m i l, (y < pu_lat I st tn m i l) ↔ (y < l ∨ ∃ p, i ≤ p ∧ p < i + m ∧ pu_la I st tn p ∧ y < I 7 p)
  | 0, i, l => by
    unfold pu_lat
    constructor
    · exact fun h => Or.inl h
    · rintro (h | ⟨p, h1, h2, _⟩)
      · exact h
      · omega
  | m + 1, i, l => by
    unfold pu_lat
    rw [pu_lat_lt st tn y m (i + 1)]
    constructor
    · rintro (h | ⟨p, h1, h2, h3⟩)
      · by_cases q : pu_la I st tn i
        · rw [if_pos q] at h
          by_cases z : l < I 7 i
          · rw [if_pos z] at h
            exact Or.inr ⟨i, by omega, by omega, q, h⟩
          · rw [if_neg z] at h
            exact Or.inl h
        · rw [if_neg q] at h
          exact Or.inl h
      · exact Or.inr ⟨p, by omega, by omega, h3⟩
    · rintro (h | ⟨p, h1, h2, h3, h4⟩)
      · refine Or.inl ?_
        by_cases q : pu_la I st tn i
        · rw [if_pos q]
          by_cases z : l < I 7 i
          · rw [if_pos z]
            exact Int32.lt_trans h z
          · rw [if_neg z]
            exact h
        · rw [if_neg q]
          exact h
      · by_cases e : p = i
        · subst e
          refine Or.inl ?_
          rw [if_pos h3]
          by_cases z : l < I 7 p
          · rw [if_pos z]
            exact h4
          · rw [if_neg z]
            exact Int32.lt_of_lt_of_le h4 (Int32.not_lt.mp z)
        · exact Or.inr ⟨p, by omega, by omega, h3, h4⟩
theorem pu_lat_ey (st tn y : Int32) (l : Int32) (hl : ¬ y < l) : (y < pu_lat I st tn (cP I) 0 l) = pu_ey I st tn y := by
  apply propext
  rw [pu_lat_lt]
  constructor
  · rintro (h | ⟨p, _, h2, h3⟩)
    · exact absurd h hl
    · exact ⟨p, by omega, h3⟩
  · rintro ⟨p, h2, h3⟩
    exact Or.inr ⟨p, by omega, by omega, h3⟩
/-- k is the open name of street st -/
def pu_no (I : Nat → Nat → Int32) (st k : Nat) : Prop := k < cN I ∧ I 20 k = nI st ∧ I 23 k = -1
theorem pu_opq (hw : pu_WF I L) {k : Nat} (hk : k < cN I) : pu_oq (I 22 k) (I 23 k) (cP I) = (I 23 k = -1) := by
  have h1 := wx_no hw k hk
  have h2 := wx_nc hw k hk
  apply propext
  constructor
  · intro h
    rcases h.2 with q | q
    · exact q
    · omega
  · intro h
    exact ⟨by omega, Or.inl h⟩
theorem pu_no_ex (hw : pu_WF I L) {st : Nat} (h : st < cK I) : ∃ k, pu_no I st k := by
  obtain ⟨l, h1, h2, h3⟩ := wx_n3 hw (cP I) st (Nat.le_refl _) h (by have := wx_ko hw st h; omega)
  rw [pu_opq hw h1] at h2
  exact ⟨l, h1, h3, h2⟩
theorem pu_no_un (hw : pu_WF I L) {st k l : Nat} (h1 : pu_no I st k) (h2 : pu_no I st l) : k = l :=
  wx_n1 hw (cP I) k l (Nat.le_refl _) h1.1 h2.1 (by rw [pu_opq hw h1.1]; exact h1.2.2) (by rw [pu_opq hw h2.1]; exact h2.2.2) (h1.2.1.trans h2.2.1.symm)
theorem c_openOf_l (hx : pu_fx M) (hI : pu_ag M I) (hw : pu_WF I L) (a : Int32) : ∀ m i x, x = nI i → i + m = cN I → pu_r 369 [some (.ref 19), some (.int a), some (.int x)] [] M = some (some (.int (pu_f1 (fun k => I 20 k = a ∧ I 23 k = -1) m i)), M)
  | 0, i, x, hi, h => by
    subst hi
    have hb := wx_bN hw
    have hn := wx_cN hw
    have hc : nI (cN I) ≤ nI i := nI_le (by omega) (by omega)
    rw [qX3_openOf_2]
    simp [bX3_openOf_2, bX3_openOf_38, bX3_openOf_32, a_ai, a_ald, a_gi, a_gr, a_icge, a_icne, a_ild, a_inc, a_iret, a_push, ag_19 hI, ag_20 hI, ag_23 hI, fx_19_1 hx, fx_19_4 hx, sh_19, sh_20, sh_23, pu_rv, pu_as, Value.category, pu_bk, pu_kl, List.replicate, pu_wi_1, pu_wi_2, nl_add, nl_ladd, nl_aa, nl_mul, nl_rmul, nl_mm, pu_qe0, pu_qe1, hn, hc, pu_f1]
    all_goals try simp (maxSteps := 400000) (disch := omega) [nl_tle, nl_fle, nl_tlt, nl_flt, nl_teq, nl_feq, nl_sub, nl_ss, nl_lt, nl_llt, nl_ltt, nl_le, nl_lle, nl_lee, nl_eq, nl_leq, nl_ee, nl_div, nl_rem, nl_cl, nl_n1, nl_n2, nl_n3, nl_n4, nl_add, nl_ladd, nl_aa, nl_mul, nl_rmul, nl_mm, pu_wi_1, pu_wi_2, bX3_openOf_2, bX3_openOf_38, bX3_openOf_32, a_ai, a_ald, a_gi, a_gr, a_icge, a_icne, a_ild, a_inc, a_iret, a_push, ag_19 hI, ag_20 hI, ag_23 hI, fx_19_1 hx, fx_19_4 hx, sh_19, sh_20, sh_23, pu_rv, pu_as, Value.category, pu_bk, pu_kl, pu_qe0, pu_qe1, hn, hc, pu_f1]
    all_goals try simp [bX3_openOf_2, bX3_openOf_38, bX3_openOf_32, a_ai, a_ald, a_gi, a_gr, a_icge, a_icne, a_ild, a_inc, a_iret, a_push, ag_19 hI, ag_20 hI, ag_23 hI, fx_19_1 hx, fx_19_4 hx, sh_19, sh_20, sh_23, pu_rv, pu_as, Value.category, pu_bk, pu_kl, List.replicate, pu_wi_1, pu_wi_2, nl_add, nl_ladd, nl_aa, nl_mul, nl_rmul, nl_mm, pu_qe0, pu_qe1, hn, hc, pu_f1]
    all_goals try simp (maxSteps := 400000) (disch := omega) [nl_tle, nl_fle, nl_tlt, nl_flt, nl_teq, nl_feq, nl_sub, nl_ss, nl_lt, nl_llt, nl_ltt, nl_le, nl_lle, nl_lee, nl_eq, nl_leq, nl_ee, nl_div, nl_rem, nl_cl, nl_n1, nl_n2, nl_n3, nl_n4, nl_add, nl_ladd, nl_aa, nl_mul, nl_rmul, nl_mm, pu_wi_1, pu_wi_2, bX3_openOf_2, bX3_openOf_38, bX3_openOf_32, a_ai, a_ald, a_gi, a_gr, a_icge, a_icne, a_ild, a_inc, a_iret, a_push, ag_19 hI, ag_20 hI, ag_23 hI, fx_19_1 hx, fx_19_4 hx, sh_19, sh_20, sh_23, pu_rv, pu_as, Value.category, pu_bk, pu_kl, pu_qe0, pu_qe1, hn, hc, pu_f1]
  | m + 1, i, x, hi, h => by
    subst hi
    have hb := wx_bN hw
    have hn := wx_cN hw
    have hc : ¬ nI (cN I) ≤ nI i := nI_ge (by omega) (by omega)
    have ih := c_openOf_l hx hI hw a m (i + 1) _ rfl (by omega)
    by_cases c1 : I 20 i = a ∧ I 23 i = -1
    · rw [pu_f1_t c1]
      rw [qX3_openOf_2]
      simp [bX3_openOf_2, bX3_openOf_38, bX3_openOf_32, a_ai, a_ald, a_gi, a_gr, a_icge, a_icne, a_ild, a_inc, a_iret, a_push, ag_19 hI, ag_20 hI, ag_23 hI, fx_19_1 hx, fx_19_4 hx, sh_19, sh_20, sh_23, pu_rv, pu_as, Value.category, pu_bk, pu_kl, List.replicate, pu_wi_1, pu_wi_2, nl_add, nl_ladd, nl_aa, nl_mul, nl_rmul, nl_mm, pu_qe0, pu_qe1, hn, hc, c1.1, c1.2]
      all_goals try simp (maxSteps := 400000) (disch := omega) [nl_tle, nl_fle, nl_tlt, nl_flt, nl_teq, nl_feq, nl_sub, nl_ss, nl_lt, nl_llt, nl_ltt, nl_le, nl_lle, nl_lee, nl_eq, nl_leq, nl_ee, nl_div, nl_rem, nl_cl, nl_n1, nl_n2, nl_n3, nl_n4, nl_add, nl_ladd, nl_aa, nl_mul, nl_rmul, nl_mm, pu_wi_1, pu_wi_2, bX3_openOf_2, bX3_openOf_38, bX3_openOf_32, a_ai, a_ald, a_gi, a_gr, a_icge, a_icne, a_ild, a_inc, a_iret, a_push, ag_19 hI, ag_20 hI, ag_23 hI, fx_19_1 hx, fx_19_4 hx, sh_19, sh_20, sh_23, pu_rv, pu_as, Value.category, pu_bk, pu_kl, pu_qe0, pu_qe1, hn, hc, c1.1, c1.2]
      all_goals try simp [bX3_openOf_2, bX3_openOf_38, bX3_openOf_32, a_ai, a_ald, a_gi, a_gr, a_icge, a_icne, a_ild, a_inc, a_iret, a_push, ag_19 hI, ag_20 hI, ag_23 hI, fx_19_1 hx, fx_19_4 hx, sh_19, sh_20, sh_23, pu_rv, pu_as, Value.category, pu_bk, pu_kl, List.replicate, pu_wi_1, pu_wi_2, nl_add, nl_ladd, nl_aa, nl_mul, nl_rmul, nl_mm, pu_qe0, pu_qe1, hn, hc, c1.1, c1.2]
      all_goals try simp (maxSteps := 400000) (disch := omega) [nl_tle, nl_fle, nl_tlt, nl_flt, nl_teq, nl_feq, nl_sub, nl_ss, nl_lt, nl_llt, nl_ltt, nl_le, nl_lle, nl_lee, nl_eq, nl_leq, nl_ee, nl_div, nl_rem, nl_cl, nl_n1, nl_n2, nl_n3, nl_n4, nl_add, nl_ladd, nl_aa, nl_mul, nl_rmul, nl_mm, pu_wi_1, pu_wi_2, bX3_openOf_2, bX3_openOf_38, bX3_openOf_32, a_ai, a_ald, a_gi, a_gr, a_icge, a_icne, a_ild, a_inc, a_iret, a_push, ag_19 hI, ag_20 hI, ag_23 hI, fx_19_1 hx, fx_19_4 hx, sh_19, sh_20, sh_23, pu_rv, pu_as, Value.category, pu_bk, pu_kl, pu_qe0, pu_qe1, hn, hc, c1.1, c1.2]
    · rw [pu_f1_f c1]
      by_cases c2 : I 20 i = a
      · have c3 : ¬ I 23 i = -1 := fun q => c1 ⟨c2, q⟩
        rw [qX3_openOf_2]
        simp [bX3_openOf_2, bX3_openOf_38, bX3_openOf_32, a_ai, a_ald, a_gi, a_gr, a_icge, a_icne, a_ild, a_inc, a_iret, a_push, ag_19 hI, ag_20 hI, ag_23 hI, fx_19_1 hx, fx_19_4 hx, sh_19, sh_20, sh_23, pu_rv, pu_as, Value.category, pu_bk, pu_kl, List.replicate, pu_wi_1, pu_wi_2, nl_add, nl_ladd, nl_aa, nl_mul, nl_rmul, nl_mm, pu_qe0, pu_qe1, hn, hc, c2, c3, ih]
        all_goals try simp (maxSteps := 400000) (disch := omega) [nl_tle, nl_fle, nl_tlt, nl_flt, nl_teq, nl_feq, nl_sub, nl_ss, nl_lt, nl_llt, nl_ltt, nl_le, nl_lle, nl_lee, nl_eq, nl_leq, nl_ee, nl_div, nl_rem, nl_cl, nl_n1, nl_n2, nl_n3, nl_n4, nl_add, nl_ladd, nl_aa, nl_mul, nl_rmul, nl_mm, pu_wi_1, pu_wi_2, bX3_openOf_2, bX3_openOf_38, bX3_openOf_32, a_ai, a_ald, a_gi, a_gr, a_icge, a_icne, a_ild, a_inc, a_iret, a_push, ag_19 hI, ag_20 hI, ag_23 hI, fx_19_1 hx, fx_19_4 hx, sh_19, sh_20, sh_23, pu_rv, pu_as, Value.category, pu_bk, pu_kl, pu_qe0, pu_qe1, hn, hc, c2, c3, ih]
        all_goals try simp [bX3_openOf_2, bX3_openOf_38, bX3_openOf_32, a_ai, a_ald, a_gi, a_gr, a_icge, a_icne, a_ild, a_inc, a_iret, a_push, ag_19 hI, ag_20 hI, ag_23 hI, fx_19_1 hx, fx_19_4 hx, sh_19, sh_20, sh_23, pu_rv, pu_as, Value.category, pu_bk, pu_kl, List.replicate, pu_wi_1, pu_wi_2, nl_add, nl_ladd, nl_aa, nl_mul, nl_rmul, nl_mm, pu_qe0, pu_qe1, hn, hc, c2, c3, ih]
        all_goals try simp (maxSteps := 400000) (disch := omega) [nl_tle, nl_fle, nl_tlt, nl_flt, nl_teq, nl_feq, nl_sub, nl_ss, nl_lt, nl_llt, nl_ltt, nl_le, nl_lle, nl_lee, nl_eq, nl_leq, nl_ee, nl_div, nl_rem, nl_cl, nl_n1, nl_n2, nl_n3, nl_n4, nl_add, nl_ladd, nl_aa, nl_mul, nl_rmul, nl_mm, pu_wi_1, pu_wi_2, bX3_openOf_2, bX3_openOf_38, bX3_openOf_32, a_ai, a_ald, a_gi, a_gr, a_icge, a_icne, a_ild, a_inc, a_iret, a_push, ag_19 hI, ag_20 hI, ag_23 hI, fx_19_1 hx, fx_19_4 hx, sh_19, sh_20, sh_23, pu_rv, pu_as, Value.category, pu_bk, pu_kl, pu_qe0, pu_qe1, hn, hc, c2, c3, ih]
      · rw [qX3_openOf_2]
        simp [bX3_openOf_2, bX3_openOf_38, bX3_openOf_32, a_ai, a_ald, a_gi, a_gr, a_icge, a_icne, a_ild, a_inc, a_iret, a_push, ag_19 hI, ag_20 hI, ag_23 hI, fx_19_1 hx, fx_19_4 hx, sh_19, sh_20, sh_23, pu_rv, pu_as, Value.category, pu_bk, pu_kl, List.replicate, pu_wi_1, pu_wi_2, nl_add, nl_ladd, nl_aa, nl_mul, nl_rmul, nl_mm, pu_qe0, pu_qe1, hn, hc, c2, ih]
        all_goals try simp (maxSteps := 400000) (disch := omega) [nl_tle, nl_fle, nl_tlt, nl_flt, nl_teq, nl_feq, nl_sub, nl_ss, nl_lt, nl_llt, nl_ltt, nl_le, nl_lle, nl_lee, nl_eq, nl_leq, nl_ee, nl_div, nl_rem, nl_cl, nl_n1, nl_n2, nl_n3, nl_n4, nl_add, nl_ladd, nl_aa, nl_mul, nl_rmul, nl_mm, pu_wi_1, pu_wi_2, bX3_openOf_2, bX3_openOf_38, bX3_openOf_32, a_ai, a_ald, a_gi, a_gr, a_icge, a_icne, a_ild, a_inc, a_iret, a_push, ag_19 hI, ag_20 hI, ag_23 hI, fx_19_1 hx, fx_19_4 hx, sh_19, sh_20, sh_23, pu_rv, pu_as, Value.category, pu_bk, pu_kl, pu_qe0, pu_qe1, hn, hc, c2, ih]
        all_goals try simp [bX3_openOf_2, bX3_openOf_38, bX3_openOf_32, a_ai, a_ald, a_gi, a_gr, a_icge, a_icne, a_ild, a_inc, a_iret, a_push, ag_19 hI, ag_20 hI, ag_23 hI, fx_19_1 hx, fx_19_4 hx, sh_19, sh_20, sh_23, pu_rv, pu_as, Value.category, pu_bk, pu_kl, List.replicate, pu_wi_1, pu_wi_2, nl_add, nl_ladd, nl_aa, nl_mul, nl_rmul, nl_mm, pu_qe0, pu_qe1, hn, hc, c2, ih]
        all_goals try simp (maxSteps := 400000) (disch := omega) [nl_tle, nl_fle, nl_tlt, nl_flt, nl_teq, nl_feq, nl_sub, nl_ss, nl_lt, nl_llt, nl_ltt, nl_le, nl_lle, nl_lee, nl_eq, nl_leq, nl_ee, nl_div, nl_rem, nl_cl, nl_n1, nl_n2, nl_n3, nl_n4, nl_add, nl_ladd, nl_aa, nl_mul, nl_rmul, nl_mm, pu_wi_1, pu_wi_2, bX3_openOf_2, bX3_openOf_38, bX3_openOf_32, a_ai, a_ald, a_gi, a_gr, a_icge, a_icne, a_ild, a_inc, a_iret, a_push, ag_19 hI, ag_20 hI, ag_23 hI, fx_19_1 hx, fx_19_4 hx, sh_19, sh_20, sh_23, pu_rv, pu_as, Value.category, pu_bk, pu_kl, pu_qe0, pu_qe1, hn, hc, c2, ih]
theorem c_openOf (hx : pu_fx M) (hI : pu_ag M I) (hw : pu_WF I L) (a : Int32) : pu_r 61 [some (.ref 19), some (.int a)] [] M = some (some (.int (pu_f1 (fun k => I 20 k = a ∧ I 23 k = -1) (cN I) 0)), M) := by
  have e := c_openOf_l hx hI hw a (cN I) 0 0 rfl (by omega)
  rw [qX3_openOf]
  simp [a_ent, bX3_openOf_0, a_ist, a_push, pu_rv, pu_as, Value.category, pu_bk, pu_kl, List.replicate, pu_wi_1, pu_wi_2, nl_add, nl_ladd, nl_aa, nl_mul, nl_rmul, nl_mm, pu_qe0, pu_qe1, e]
  all_goals try simp (maxSteps := 400000) (disch := omega) [nl_tle, nl_fle, nl_tlt, nl_flt, nl_teq, nl_feq, nl_sub, nl_ss, nl_lt, nl_llt, nl_ltt, nl_le, nl_lle, nl_lee, nl_eq, nl_leq, nl_ee, nl_div, nl_rem, nl_cl, nl_n1, nl_n2, nl_n3, nl_n4, nl_add, nl_ladd, nl_aa, nl_mul, nl_rmul, nl_mm, pu_wi_1, pu_wi_2, bX3_openOf_0, a_ist, a_push, pu_rv, pu_as, Value.category, pu_bk, pu_kl, pu_qe0, pu_qe1, e]
  all_goals try simp [bX3_openOf_0, a_ist, a_push, pu_rv, pu_as, Value.category, pu_bk, pu_kl, List.replicate, pu_wi_1, pu_wi_2, nl_add, nl_ladd, nl_aa, nl_mul, nl_rmul, nl_mm, pu_qe0, pu_qe1, e]
  all_goals try simp (maxSteps := 400000) (disch := omega) [nl_tle, nl_fle, nl_tlt, nl_flt, nl_teq, nl_feq, nl_sub, nl_ss, nl_lt, nl_llt, nl_ltt, nl_le, nl_lle, nl_lee, nl_eq, nl_leq, nl_ee, nl_div, nl_rem, nl_cl, nl_n1, nl_n2, nl_n3, nl_n4, nl_add, nl_ladd, nl_aa, nl_mul, nl_rmul, nl_mm, pu_wi_1, pu_wi_2, bX3_openOf_0, a_ist, a_push, pu_rv, pu_as, Value.category, pu_bk, pu_kl, pu_qe0, pu_qe1, e]
theorem pu_f1_no (hw : pu_WF I L) {st k : Nat} (h : pu_no I st k) : pu_f1 (fun k => I 20 k = nI st ∧ I 23 k = -1) (cN I) 0 = nI k := by
  rcases pu_f1_spec (fun k => I 20 k = nI st ∧ I 23 k = -1) (cN I) 0 with ⟨_, q⟩ | ⟨j, _, h2, h3, h4, _⟩
  · exact absurd ⟨h.2.1, h.2.2⟩ (q k (by omega) (by have := h.1; omega))
  · rw [h3, pu_no_un hw h ⟨by omega, h4.1, h4.2⟩]
theorem c_townOf (hx : pu_fx M) (hI : pu_ag M I) (hw : pu_WF I L) {st k : Nat} (h : pu_no I st k) : pu_r 62 [some (.ref 19), some (.int (nI st))] [] M = some (some (.int (I 21 k)), M) := by
  have e := c_openOf hx hI hw (nI st)
  rw [pu_f1_no hw h] at e
  have hb := wx_bN hw
  have h1 := h.1
  have n1 : ¬ nI k = -1 := fun q => by rw [nl_n1 k (by omega)] at q; exact q
  rw [qX3_townOf]
  simp [a_ent, bX3_townOf_0, bX3_townOf_15, bX3_townOf_21, a_ai, a_ald, a_cv, a_gr, a_icne, a_ild, a_iret, a_ist, a_push, ag_21 hI, fx_19_2 hx, sh_19, sh_21, pu_rv, pu_as, Value.category, pu_bk, pu_kl, List.replicate, pu_wi_1, pu_wi_2, nl_add, nl_ladd, nl_aa, nl_mul, nl_rmul, nl_mm, pu_qe0, pu_qe1, e, n1]
  all_goals try simp (maxSteps := 400000) (disch := omega) [nl_tle, nl_fle, nl_tlt, nl_flt, nl_teq, nl_feq, nl_sub, nl_ss, nl_lt, nl_llt, nl_ltt, nl_le, nl_lle, nl_lee, nl_eq, nl_leq, nl_ee, nl_div, nl_rem, nl_cl, nl_n1, nl_n2, nl_n3, nl_n4, nl_add, nl_ladd, nl_aa, nl_mul, nl_rmul, nl_mm, pu_wi_1, pu_wi_2, bX3_townOf_0, bX3_townOf_15, bX3_townOf_21, a_ai, a_ald, a_cv, a_gr, a_icne, a_ild, a_iret, a_ist, a_push, ag_21 hI, fx_19_2 hx, sh_19, sh_21, pu_rv, pu_as, Value.category, pu_bk, pu_kl, pu_qe0, pu_qe1, e, n1]
  all_goals try simp [bX3_townOf_0, bX3_townOf_15, bX3_townOf_21, a_ai, a_ald, a_cv, a_gr, a_icne, a_ild, a_iret, a_ist, a_push, ag_21 hI, fx_19_2 hx, sh_19, sh_21, pu_rv, pu_as, Value.category, pu_bk, pu_kl, List.replicate, pu_wi_1, pu_wi_2, nl_add, nl_ladd, nl_aa, nl_mul, nl_rmul, nl_mm, pu_qe0, pu_qe1, e, n1]
  all_goals try simp (maxSteps := 400000) (disch := omega) [nl_tle, nl_fle, nl_tlt, nl_flt, nl_teq, nl_feq, nl_sub, nl_ss, nl_lt, nl_llt, nl_ltt, nl_le, nl_lle, nl_lee, nl_eq, nl_leq, nl_ee, nl_div, nl_rem, nl_cl, nl_n1, nl_n2, nl_n3, nl_n4, nl_add, nl_ladd, nl_aa, nl_mul, nl_rmul, nl_mm, pu_wi_1, pu_wi_2, bX3_townOf_0, bX3_townOf_15, bX3_townOf_21, a_ai, a_ald, a_cv, a_gr, a_icne, a_ild, a_iret, a_ist, a_push, ag_21 hI, fx_19_2 hx, sh_19, sh_21, pu_rv, pu_as, Value.category, pu_bk, pu_kl, pu_qe0, pu_qe1, e, n1]
theorem pz_nr_un (hr : pu_Rel I L s) {j l k k' : Nat} (hj : j < cN I) (hl : l < cN I) (h1 : pz_nr I L s j k) (h2 : pz_nr I L s l k') (e1 : I 20 k = I 20 k') (e2 : I 22 k = I 22 k') : j = l :=
  rl_ni hr j l hj hl (by rw [h1.1, h2.1, e1]) (by rw [h1.2.2.1, h2.2.2.1, e2])
theorem r_openName_l (hx : pu_fx M) (hr : pu_Rel I L (M.1 72)) (hw : pu_WF I L) {st k l : Nat} (hk : pu_no I st k) (hl : l < cN I) (hlk : pz_nr I L (M.1 72) l k) : ∀ m i x f, x = nI i → i + m = cN I → (l < i → f = nI l) → pu_r 450 [some (.ref 71), some (.int (nI st)), some (.int f), some (.int x)] [] M = some (some (.int (nI l)), M)
  | 0, i, x, f, hi, h, hf => by
    subst hi
    have hb := wx_bN hw
    have hc : nI (cN I) ≤ nI i := nI_le (by omega) (by omega)
    have hf2 := hf (by omega)
    rw [qX12_openName_4]
    simp [bX12_openName_4, bX12_openName_57, bX12_openName_51, bX12_openName_43, a_ai, a_ald, a_gr, a_iadd, a_icge, a_icne, a_ild, a_imul, a_inc, a_iret, a_ist, a_push, fx_71_0 hx, sh_71, sh_72, pu_rv, pu_as, Value.category, pu_bk, pu_kl, List.replicate, pu_wi_1, pu_wi_2, nl_add, nl_ladd, nl_aa, nl_mul, nl_rmul, nl_mm, pu_qe0, pu_qe1, rl_h7 hr, hc, hf2]
    all_goals try simp (maxSteps := 400000) (disch := omega) [nl_tle, nl_fle, nl_tlt, nl_flt, nl_teq, nl_feq, nl_sub, nl_ss, nl_lt, nl_llt, nl_ltt, nl_le, nl_lle, nl_lee, nl_eq, nl_leq, nl_ee, nl_div, nl_rem, nl_cl, nl_n1, nl_n2, nl_n3, nl_n4, nl_add, nl_ladd, nl_aa, nl_mul, nl_rmul, nl_mm, pu_wi_1, pu_wi_2, bX12_openName_4, bX12_openName_57, bX12_openName_51, bX12_openName_43, a_ai, a_ald, a_gr, a_iadd, a_icge, a_icne, a_ild, a_imul, a_inc, a_iret, a_ist, a_push, fx_71_0 hx, sh_71, sh_72, pu_rv, pu_as, Value.category, pu_bk, pu_kl, pu_qe0, pu_qe1, rl_h7 hr, hc, hf2]
    all_goals try simp [bX12_openName_4, bX12_openName_57, bX12_openName_51, bX12_openName_43, a_ai, a_ald, a_gr, a_iadd, a_icge, a_icne, a_ild, a_imul, a_inc, a_iret, a_ist, a_push, fx_71_0 hx, sh_71, sh_72, pu_rv, pu_as, Value.category, pu_bk, pu_kl, List.replicate, pu_wi_1, pu_wi_2, nl_add, nl_ladd, nl_aa, nl_mul, nl_rmul, nl_mm, pu_qe0, pu_qe1, rl_h7 hr, hc, hf2]
    all_goals try simp (maxSteps := 400000) (disch := omega) [nl_tle, nl_fle, nl_tlt, nl_flt, nl_teq, nl_feq, nl_sub, nl_ss, nl_lt, nl_llt, nl_ltt, nl_le, nl_lle, nl_lee, nl_eq, nl_leq, nl_ee, nl_div, nl_rem, nl_cl, nl_n1, nl_n2, nl_n3, nl_n4, nl_add, nl_ladd, nl_aa, nl_mul, nl_rmul, nl_mm, pu_wi_1, pu_wi_2, bX12_openName_4, bX12_openName_57, bX12_openName_51, bX12_openName_43, a_ai, a_ald, a_gr, a_iadd, a_icge, a_icne, a_ild, a_imul, a_inc, a_iret, a_ist, a_push, fx_71_0 hx, sh_71, sh_72, pu_rv, pu_as, Value.category, pu_bk, pu_kl, pu_qe0, pu_qe1, rl_h7 hr, hc, hf2]
  | m + 1, i, x, f, hi, h, hf => by
    subst hi
    have hb := wx_bN hw
    have hc : ¬ nI (cN I) ≤ nI i := nI_ge (by omega) (by omega)
    obtain ⟨k', k1, k2⟩ := rl_nb hr i (by omega)
    have g1 := k2.1
    have g2 := k2.2.2.2.1
    by_cases c1 : I 20 k' = nI st
    · by_cases c2 : I 23 k' = -1
      · have e := pu_no_un hw hk ⟨k1, c1, c2⟩
        subst e
        have e := pz_nr_un hr (by omega) hl k2 hlk rfl rfl
        subst e
        have ih := r_openName_l hx hr hw hk hl hlk m (i + 1) _ (nI i) rfl (by omega) (fun _ => rfl)
        rw [qX12_openName_4]
        simp [bX12_openName_4, bX12_openName_57, bX12_openName_51, bX12_openName_43, a_ai, a_ald, a_gr, a_iadd, a_icge, a_icne, a_ild, a_imul, a_inc, a_iret, a_ist, a_push, fx_71_0 hx, sh_71, sh_72, pu_rv, pu_as, Value.category, pu_bk, pu_kl, List.replicate, pu_wi_1, pu_wi_2, nl_add, nl_ladd, nl_aa, nl_mul, nl_rmul, nl_mm, pu_qe0, pu_qe1, rl_h7 hr, hc, c1, c2, ih, g1, g2]
        all_goals try simp (maxSteps := 400000) (disch := omega) [nl_tle, nl_fle, nl_tlt, nl_flt, nl_teq, nl_feq, nl_sub, nl_ss, nl_lt, nl_llt, nl_ltt, nl_le, nl_lle, nl_lee, nl_eq, nl_leq, nl_ee, nl_div, nl_rem, nl_cl, nl_n1, nl_n2, nl_n3, nl_n4, nl_add, nl_ladd, nl_aa, nl_mul, nl_rmul, nl_mm, pu_wi_1, pu_wi_2, bX12_openName_4, bX12_openName_57, bX12_openName_51, bX12_openName_43, a_ai, a_ald, a_gr, a_iadd, a_icge, a_icne, a_ild, a_imul, a_inc, a_iret, a_ist, a_push, fx_71_0 hx, sh_71, sh_72, pu_rv, pu_as, Value.category, pu_bk, pu_kl, pu_qe0, pu_qe1, rl_h7 hr, hc, c1, c2, ih, g1, g2]
        all_goals try simp [bX12_openName_4, bX12_openName_57, bX12_openName_51, bX12_openName_43, a_ai, a_ald, a_gr, a_iadd, a_icge, a_icne, a_ild, a_imul, a_inc, a_iret, a_ist, a_push, fx_71_0 hx, sh_71, sh_72, pu_rv, pu_as, Value.category, pu_bk, pu_kl, List.replicate, pu_wi_1, pu_wi_2, nl_add, nl_ladd, nl_aa, nl_mul, nl_rmul, nl_mm, pu_qe0, pu_qe1, rl_h7 hr, hc, c1, c2, ih, g1, g2]
        all_goals try simp (maxSteps := 400000) (disch := omega) [nl_tle, nl_fle, nl_tlt, nl_flt, nl_teq, nl_feq, nl_sub, nl_ss, nl_lt, nl_llt, nl_ltt, nl_le, nl_lle, nl_lee, nl_eq, nl_leq, nl_ee, nl_div, nl_rem, nl_cl, nl_n1, nl_n2, nl_n3, nl_n4, nl_add, nl_ladd, nl_aa, nl_mul, nl_rmul, nl_mm, pu_wi_1, pu_wi_2, bX12_openName_4, bX12_openName_57, bX12_openName_51, bX12_openName_43, a_ai, a_ald, a_gr, a_iadd, a_icge, a_icne, a_ild, a_imul, a_inc, a_iret, a_ist, a_push, fx_71_0 hx, sh_71, sh_72, pu_rv, pu_as, Value.category, pu_bk, pu_kl, pu_qe0, pu_qe1, rl_h7 hr, hc, c1, c2, ih, g1, g2]
      · have ih := r_openName_l hx hr hw hk hl hlk m (i + 1) _ f rfl (by omega) (fun z => hf (by
          have : l ≠ i := fun y => by
            subst y
            have e1 := hlk.2.2.2.1
            rw [g2, hk.2.2] at e1
            exact c2 e1
          omega))
        rw [qX12_openName_4]
        simp [bX12_openName_4, bX12_openName_57, bX12_openName_51, bX12_openName_43, a_ai, a_ald, a_gr, a_iadd, a_icge, a_icne, a_ild, a_imul, a_inc, a_iret, a_ist, a_push, fx_71_0 hx, sh_71, sh_72, pu_rv, pu_as, Value.category, pu_bk, pu_kl, List.replicate, pu_wi_1, pu_wi_2, nl_add, nl_ladd, nl_aa, nl_mul, nl_rmul, nl_mm, pu_qe0, pu_qe1, rl_h7 hr, hc, c1, c2, ih, g1, g2]
        all_goals try simp (maxSteps := 400000) (disch := omega) [nl_tle, nl_fle, nl_tlt, nl_flt, nl_teq, nl_feq, nl_sub, nl_ss, nl_lt, nl_llt, nl_ltt, nl_le, nl_lle, nl_lee, nl_eq, nl_leq, nl_ee, nl_div, nl_rem, nl_cl, nl_n1, nl_n2, nl_n3, nl_n4, nl_add, nl_ladd, nl_aa, nl_mul, nl_rmul, nl_mm, pu_wi_1, pu_wi_2, bX12_openName_4, bX12_openName_57, bX12_openName_51, bX12_openName_43, a_ai, a_ald, a_gr, a_iadd, a_icge, a_icne, a_ild, a_imul, a_inc, a_iret, a_ist, a_push, fx_71_0 hx, sh_71, sh_72, pu_rv, pu_as, Value.category, pu_bk, pu_kl, pu_qe0, pu_qe1, rl_h7 hr, hc, c1, c2, ih, g1, g2]
        all_goals try simp [bX12_openName_4, bX12_openName_57, bX12_openName_51, bX12_openName_43, a_ai, a_ald, a_gr, a_iadd, a_icge, a_icne, a_ild, a_imul, a_inc, a_iret, a_ist, a_push, fx_71_0 hx, sh_71, sh_72, pu_rv, pu_as, Value.category, pu_bk, pu_kl, List.replicate, pu_wi_1, pu_wi_2, nl_add, nl_ladd, nl_aa, nl_mul, nl_rmul, nl_mm, pu_qe0, pu_qe1, rl_h7 hr, hc, c1, c2, ih, g1, g2]
        all_goals try simp (maxSteps := 400000) (disch := omega) [nl_tle, nl_fle, nl_tlt, nl_flt, nl_teq, nl_feq, nl_sub, nl_ss, nl_lt, nl_llt, nl_ltt, nl_le, nl_lle, nl_lee, nl_eq, nl_leq, nl_ee, nl_div, nl_rem, nl_cl, nl_n1, nl_n2, nl_n3, nl_n4, nl_add, nl_ladd, nl_aa, nl_mul, nl_rmul, nl_mm, pu_wi_1, pu_wi_2, bX12_openName_4, bX12_openName_57, bX12_openName_51, bX12_openName_43, a_ai, a_ald, a_gr, a_iadd, a_icge, a_icne, a_ild, a_imul, a_inc, a_iret, a_ist, a_push, fx_71_0 hx, sh_71, sh_72, pu_rv, pu_as, Value.category, pu_bk, pu_kl, pu_qe0, pu_qe1, rl_h7 hr, hc, c1, c2, ih, g1, g2]
    · have ih := r_openName_l hx hr hw hk hl hlk m (i + 1) _ f rfl (by omega) (fun z => hf (by
          have : l ≠ i := fun y => by
            subst y
            have e1 := hlk.1
            rw [g1, hk.2.1] at e1
            exact c1 e1
          omega))
      rw [qX12_openName_4]
      simp [bX12_openName_4, bX12_openName_57, bX12_openName_51, bX12_openName_43, a_ai, a_ald, a_gr, a_iadd, a_icge, a_icne, a_ild, a_imul, a_inc, a_iret, a_ist, a_push, fx_71_0 hx, sh_71, sh_72, pu_rv, pu_as, Value.category, pu_bk, pu_kl, List.replicate, pu_wi_1, pu_wi_2, nl_add, nl_ladd, nl_aa, nl_mul, nl_rmul, nl_mm, pu_qe0, pu_qe1, rl_h7 hr, hc, c1, ih, g1, g2]
      all_goals try simp (maxSteps := 400000) (disch := omega) [nl_tle, nl_fle, nl_tlt, nl_flt, nl_teq, nl_feq, nl_sub, nl_ss, nl_lt, nl_llt, nl_ltt, nl_le, nl_lle, nl_lee, nl_eq, nl_leq, nl_ee, nl_div, nl_rem, nl_cl, nl_n1, nl_n2, nl_n3, nl_n4, nl_add, nl_ladd, nl_aa, nl_mul, nl_rmul, nl_mm, pu_wi_1, pu_wi_2, bX12_openName_4, bX12_openName_57, bX12_openName_51, bX12_openName_43, a_ai, a_ald, a_gr, a_iadd, a_icge, a_icne, a_ild, a_imul, a_inc, a_iret, a_ist, a_push, fx_71_0 hx, sh_71, sh_72, pu_rv, pu_as, Value.category, pu_bk, pu_kl, pu_qe0, pu_qe1, rl_h7 hr, hc, c1, ih, g1, g2]
      all_goals try simp [bX12_openName_4, bX12_openName_57, bX12_openName_51, bX12_openName_43, a_ai, a_ald, a_gr, a_iadd, a_icge, a_icne, a_ild, a_imul, a_inc, a_iret, a_ist, a_push, fx_71_0 hx, sh_71, sh_72, pu_rv, pu_as, Value.category, pu_bk, pu_kl, List.replicate, pu_wi_1, pu_wi_2, nl_add, nl_ladd, nl_aa, nl_mul, nl_rmul, nl_mm, pu_qe0, pu_qe1, rl_h7 hr, hc, c1, ih, g1, g2]
      all_goals try simp (maxSteps := 400000) (disch := omega) [nl_tle, nl_fle, nl_tlt, nl_flt, nl_teq, nl_feq, nl_sub, nl_ss, nl_lt, nl_llt, nl_ltt, nl_le, nl_lle, nl_lee, nl_eq, nl_leq, nl_ee, nl_div, nl_rem, nl_cl, nl_n1, nl_n2, nl_n3, nl_n4, nl_add, nl_ladd, nl_aa, nl_mul, nl_rmul, nl_mm, pu_wi_1, pu_wi_2, bX12_openName_4, bX12_openName_57, bX12_openName_51, bX12_openName_43, a_ai, a_ald, a_gr, a_iadd, a_icge, a_icne, a_ild, a_imul, a_inc, a_iret, a_ist, a_push, fx_71_0 hx, sh_71, sh_72, pu_rv, pu_as, Value.category, pu_bk, pu_kl, pu_qe0, pu_qe1, rl_h7 hr, hc, c1, ih, g1, g2]
theorem r_openName (hx : pu_fx M) (hr : pu_Rel I L (M.1 72)) (hw : pu_WF I L) {st k l : Nat} (hk : pu_no I st k) (hl : l < cN I) (hlk : pz_nr I L (M.1 72) l k) : pu_r 253 [some (.ref 71), some (.int (nI st))] [] M = some (some (.int (nI l)), M) := by
  have e := r_openName_l hx hr hw hk hl hlk (cN I) 0 0 (-1) rfl (by omega) (fun z => by omega)
  rw [qX12_openName]
  simp [a_ent, bX12_openName_0, a_ist, a_push, pu_rv, pu_as, Value.category, pu_bk, pu_kl, List.replicate, pu_wi_1, pu_wi_2, nl_add, nl_ladd, nl_aa, nl_mul, nl_rmul, nl_mm, pu_qe0, pu_qe1, e]
  all_goals try simp (maxSteps := 400000) (disch := omega) [nl_tle, nl_fle, nl_tlt, nl_flt, nl_teq, nl_feq, nl_sub, nl_ss, nl_lt, nl_llt, nl_ltt, nl_le, nl_lle, nl_lee, nl_eq, nl_leq, nl_ee, nl_div, nl_rem, nl_cl, nl_n1, nl_n2, nl_n3, nl_n4, nl_add, nl_ladd, nl_aa, nl_mul, nl_rmul, nl_mm, pu_wi_1, pu_wi_2, bX12_openName_0, a_ist, a_push, pu_rv, pu_as, Value.category, pu_bk, pu_kl, pu_qe0, pu_qe1, e]
  all_goals try simp [bX12_openName_0, a_ist, a_push, pu_rv, pu_as, Value.category, pu_bk, pu_kl, List.replicate, pu_wi_1, pu_wi_2, nl_add, nl_ladd, nl_aa, nl_mul, nl_rmul, nl_mm, pu_qe0, pu_qe1, e]
  all_goals try simp (maxSteps := 400000) (disch := omega) [nl_tle, nl_fle, nl_tlt, nl_flt, nl_teq, nl_feq, nl_sub, nl_ss, nl_lt, nl_llt, nl_ltt, nl_le, nl_lle, nl_lee, nl_eq, nl_leq, nl_ee, nl_div, nl_rem, nl_cl, nl_n1, nl_n2, nl_n3, nl_n4, nl_add, nl_ladd, nl_aa, nl_mul, nl_rmul, nl_mm, pu_wi_1, pu_wi_2, bX12_openName_0, a_ist, a_push, pu_rv, pu_as, Value.category, pu_bk, pu_kl, pu_qe0, pu_qe1, e]
theorem r_townOf (hx : pu_fx M) (hr : pu_Rel I L (M.1 72)) (hw : pu_WF I L) {st k : Nat} (hk : pu_no I st k) : pu_r 254 [some (.ref 71), some (.int (nI st))] [] M = some (some (.int (I 21 k)), M) := by
  obtain ⟨l, l1, l2⟩ := rl_na hr k hk.1
  have e := r_openName hx hr hw hk l1 l2
  have hb := wx_bN hw
  have g := l2.2.1
  rw [qX12_townOf]
  simp [a_ent, bX12_townOf_0, a_ai, a_ald, a_cv, a_gr, a_iadd, a_ild, a_imul, a_iret, a_push, fx_71_0 hx, sh_71, sh_72, pu_rv, pu_as, Value.category, pu_bk, pu_kl, List.replicate, pu_wi_1, pu_wi_2, nl_add, nl_ladd, nl_aa, nl_mul, nl_rmul, nl_mm, pu_qe0, pu_qe1, e, g]
  all_goals try simp (maxSteps := 400000) (disch := omega) [nl_tle, nl_fle, nl_tlt, nl_flt, nl_teq, nl_feq, nl_sub, nl_ss, nl_lt, nl_llt, nl_ltt, nl_le, nl_lle, nl_lee, nl_eq, nl_leq, nl_ee, nl_div, nl_rem, nl_cl, nl_n1, nl_n2, nl_n3, nl_n4, nl_add, nl_ladd, nl_aa, nl_mul, nl_rmul, nl_mm, pu_wi_1, pu_wi_2, bX12_townOf_0, a_ai, a_ald, a_cv, a_gr, a_iadd, a_ild, a_imul, a_iret, a_push, fx_71_0 hx, sh_71, sh_72, pu_rv, pu_as, Value.category, pu_bk, pu_kl, pu_qe0, pu_qe1, e, g]
  all_goals try simp [bX12_townOf_0, a_ai, a_ald, a_cv, a_gr, a_iadd, a_ild, a_imul, a_iret, a_push, fx_71_0 hx, sh_71, sh_72, pu_rv, pu_as, Value.category, pu_bk, pu_kl, List.replicate, pu_wi_1, pu_wi_2, nl_add, nl_ladd, nl_aa, nl_mul, nl_rmul, nl_mm, pu_qe0, pu_qe1, e, g]
  all_goals try simp (maxSteps := 400000) (disch := omega) [nl_tle, nl_fle, nl_tlt, nl_flt, nl_teq, nl_feq, nl_sub, nl_ss, nl_lt, nl_llt, nl_ltt, nl_le, nl_lle, nl_lee, nl_eq, nl_leq, nl_ee, nl_div, nl_rem, nl_cl, nl_n1, nl_n2, nl_n3, nl_n4, nl_add, nl_ladd, nl_aa, nl_mul, nl_rmul, nl_mm, pu_wi_1, pu_wi_2, bX12_townOf_0, a_ai, a_ald, a_cv, a_gr, a_iadd, a_ild, a_imul, a_iret, a_push, fx_71_0 hx, sh_71, sh_72, pu_rv, pu_as, Value.category, pu_bk, pu_kl, pu_qe0, pu_qe1, e, g]
theorem c_earliestOn (hx : pu_fx M) (hI : pu_ag M I) (hw : pu_WF I L) {st k : Nat} (h : pu_no I st k) : pu_r 63 [some (.ref 5), some (.int (nI st))] [] M = some (some (.int (pu_lat I (nI st) (I 21 k) (cP I) 0 0)), M) := by
  have e1 := c_townOf hx hI hw h
  have e2 := c_latestOn hx hI hw (nI st) (I 21 k)
  rw [qX5_earliestOn]
  simp [a_ent, bX5_earliestOn_0, a_ald, a_cv, a_gr, a_ild, a_iret, ag_19 hI, ag_6 hI, fx_5_0 hx, fx_5_2 hx, sh_19, sh_5, sh_6, pu_rv, pu_as, Value.category, pu_bk, pu_kl, List.replicate, pu_wi_1, pu_wi_2, nl_add, nl_ladd, nl_aa, nl_mul, nl_rmul, nl_mm, pu_qe0, pu_qe1, e1, e2]
  all_goals try simp (maxSteps := 400000) (disch := omega) [nl_tle, nl_fle, nl_tlt, nl_flt, nl_teq, nl_feq, nl_sub, nl_ss, nl_lt, nl_llt, nl_ltt, nl_le, nl_lle, nl_lee, nl_eq, nl_leq, nl_ee, nl_div, nl_rem, nl_cl, nl_n1, nl_n2, nl_n3, nl_n4, nl_add, nl_ladd, nl_aa, nl_mul, nl_rmul, nl_mm, pu_wi_1, pu_wi_2, bX5_earliestOn_0, a_ald, a_cv, a_gr, a_ild, a_iret, ag_19 hI, ag_6 hI, fx_5_0 hx, fx_5_2 hx, sh_19, sh_5, sh_6, pu_rv, pu_as, Value.category, pu_bk, pu_kl, pu_qe0, pu_qe1, e1, e2]
  all_goals try simp [bX5_earliestOn_0, a_ald, a_cv, a_gr, a_ild, a_iret, ag_19 hI, ag_6 hI, fx_5_0 hx, fx_5_2 hx, sh_19, sh_5, sh_6, pu_rv, pu_as, Value.category, pu_bk, pu_kl, List.replicate, pu_wi_1, pu_wi_2, nl_add, nl_ladd, nl_aa, nl_mul, nl_rmul, nl_mm, pu_qe0, pu_qe1, e1, e2]
  all_goals try simp (maxSteps := 400000) (disch := omega) [nl_tle, nl_fle, nl_tlt, nl_flt, nl_teq, nl_feq, nl_sub, nl_ss, nl_lt, nl_llt, nl_ltt, nl_le, nl_lle, nl_lee, nl_eq, nl_leq, nl_ee, nl_div, nl_rem, nl_cl, nl_n1, nl_n2, nl_n3, nl_n4, nl_add, nl_ladd, nl_aa, nl_mul, nl_rmul, nl_mm, pu_wi_1, pu_wi_2, bX5_earliestOn_0, a_ald, a_cv, a_gr, a_ild, a_iret, ag_19 hI, ag_6 hI, fx_5_0 hx, fx_5_2 hx, sh_19, sh_5, sh_6, pu_rv, pu_as, Value.category, pu_bk, pu_kl, pu_qe0, pu_qe1, e1, e2]
theorem r_isEarly (hx : pu_fx M) (hr : pu_Rel I L (M.1 72)) (hw : pu_WF I L) {st k : Nat} (h : pu_no I st k) (y : Int32) (hy : ¬ y < 0) : pu_r 256 [some (.ref 71), some (.int (nI st)), some (.int y)] [] M = some (some (.int (pu_q (pu_ey I (nI st) (I 21 k) y))), M) := by
  have e1 := r_townOf hx hr hw h
  have e2 := r_latest hx hr hw (nI st) (I 21 k)
  have e3 := pu_lat_ey (I := I) (nI st) (I 21 k) y (-1) (fun q => hy (by grind))
  by_cases c : pu_ey I (nI st) (I 21 k) y
  · rw [pu_q1 c]
    rw [← e3] at c
    have c2 := Int32.not_le.mpr c
    rw [qX12_isEarly]
    simp [a_ent, bX12_isEarly_0, bX12_isEarly_18, bX12_isEarly_19, a_ald, a_cv, a_icge, a_ild, a_push, a_zret, sh_71, pu_rv, pu_as, Value.category, pu_bk, pu_kl, List.replicate, pu_wi_1, pu_wi_2, nl_add, nl_ladd, nl_aa, nl_mul, nl_rmul, nl_mm, pu_qe0, pu_qe1, e1, e2, c, c2]
    all_goals try simp (maxSteps := 400000) (disch := omega) [nl_tle, nl_fle, nl_tlt, nl_flt, nl_teq, nl_feq, nl_sub, nl_ss, nl_lt, nl_llt, nl_ltt, nl_le, nl_lle, nl_lee, nl_eq, nl_leq, nl_ee, nl_div, nl_rem, nl_cl, nl_n1, nl_n2, nl_n3, nl_n4, nl_add, nl_ladd, nl_aa, nl_mul, nl_rmul, nl_mm, pu_wi_1, pu_wi_2, bX12_isEarly_0, bX12_isEarly_18, bX12_isEarly_19, a_ald, a_cv, a_icge, a_ild, a_push, a_zret, sh_71, pu_rv, pu_as, Value.category, pu_bk, pu_kl, pu_qe0, pu_qe1, e1, e2, c, c2]
    all_goals try simp [bX12_isEarly_0, bX12_isEarly_18, bX12_isEarly_19, a_ald, a_cv, a_icge, a_ild, a_push, a_zret, sh_71, pu_rv, pu_as, Value.category, pu_bk, pu_kl, List.replicate, pu_wi_1, pu_wi_2, nl_add, nl_ladd, nl_aa, nl_mul, nl_rmul, nl_mm, pu_qe0, pu_qe1, e1, e2, c, c2]
    all_goals try simp (maxSteps := 400000) (disch := omega) [nl_tle, nl_fle, nl_tlt, nl_flt, nl_teq, nl_feq, nl_sub, nl_ss, nl_lt, nl_llt, nl_ltt, nl_le, nl_lle, nl_lee, nl_eq, nl_leq, nl_ee, nl_div, nl_rem, nl_cl, nl_n1, nl_n2, nl_n3, nl_n4, nl_add, nl_ladd, nl_aa, nl_mul, nl_rmul, nl_mm, pu_wi_1, pu_wi_2, bX12_isEarly_0, bX12_isEarly_18, bX12_isEarly_19, a_ald, a_cv, a_icge, a_ild, a_push, a_zret, sh_71, pu_rv, pu_as, Value.category, pu_bk, pu_kl, pu_qe0, pu_qe1, e1, e2, c, c2]
  · rw [pu_q0 c]
    rw [← e3] at c
    have c2 := Int32.not_lt.mp c
    rw [qX12_isEarly]
    simp [a_ent, bX12_isEarly_0, bX12_isEarly_18, bX12_isEarly_19, a_ald, a_cv, a_icge, a_ild, a_push, a_zret, sh_71, pu_rv, pu_as, Value.category, pu_bk, pu_kl, List.replicate, pu_wi_1, pu_wi_2, nl_add, nl_ladd, nl_aa, nl_mul, nl_rmul, nl_mm, pu_qe0, pu_qe1, e1, e2, c, c2]
    all_goals try simp (maxSteps := 400000) (disch := omega) [nl_tle, nl_fle, nl_tlt, nl_flt, nl_teq, nl_feq, nl_sub, nl_ss, nl_lt, nl_llt, nl_ltt, nl_le, nl_lle, nl_lee, nl_eq, nl_leq, nl_ee, nl_div, nl_rem, nl_cl, nl_n1, nl_n2, nl_n3, nl_n4, nl_add, nl_ladd, nl_aa, nl_mul, nl_rmul, nl_mm, pu_wi_1, pu_wi_2, bX12_isEarly_0, bX12_isEarly_18, bX12_isEarly_19, a_ald, a_cv, a_icge, a_ild, a_push, a_zret, sh_71, pu_rv, pu_as, Value.category, pu_bk, pu_kl, pu_qe0, pu_qe1, e1, e2, c, c2]
    all_goals try simp [bX12_isEarly_0, bX12_isEarly_18, bX12_isEarly_19, a_ald, a_cv, a_icge, a_ild, a_push, a_zret, sh_71, pu_rv, pu_as, Value.category, pu_bk, pu_kl, List.replicate, pu_wi_1, pu_wi_2, nl_add, nl_ladd, nl_aa, nl_mul, nl_rmul, nl_mm, pu_qe0, pu_qe1, e1, e2, c, c2]
    all_goals try simp (maxSteps := 400000) (disch := omega) [nl_tle, nl_fle, nl_tlt, nl_flt, nl_teq, nl_feq, nl_sub, nl_ss, nl_lt, nl_llt, nl_ltt, nl_le, nl_lle, nl_lee, nl_eq, nl_leq, nl_ee, nl_div, nl_rem, nl_cl, nl_n1, nl_n2, nl_n3, nl_n4, nl_add, nl_ladd, nl_aa, nl_mul, nl_rmul, nl_mm, pu_wi_1, pu_wi_2, bX12_isEarly_0, bX12_isEarly_18, bX12_isEarly_19, a_ald, a_cv, a_icge, a_ild, a_push, a_zret, sh_71, pu_rv, pu_as, Value.category, pu_bk, pu_kl, pu_qe0, pu_qe1, e1, e2, c, c2]
end
