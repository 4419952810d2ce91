/-! town -/
theorem c_townNamed_l {M : pu_M} {I : Nat → Nat → Int32} {L : Nat → Nat → Int64} (hx : pu_fx M) (hI : pu_ag M I) (hw : pu_WF I L) (a : Nat) (sa : pu_sh a = (3, 3)) : ∀ m i, i + m = cT I → pu_r 363 [some (.ref 25), some (.ref a), some (.int (nI i))] [] M = some (some (.int (pu_f1 (fun i => py_lk (M.2.1 26) (M.2.1 a) (3 * i) 0) m i)), M)
  | 0, i, h => by
    have hb := wx_bT hw
    have hn := wx_cT hw
    have hc : nI (cT I) ≤ nI i := nI_le (by omega) (by omega)
    rw [qX10_townNamed_2]
    simp [bX10_townNamed_2, bX10_townNamed_33, bX10_townNamed_27, a_ald, a_cs, a_gi, a_gr, a_icge, a_ifeq, a_ild, a_imul, a_inc, a_iret, a_push, fx_25_2 hx, sh_25, sh_26, pu_rv, pu_as, Value.category, pu_bk, pu_kl, List.replicate, pu_wi_1, pu_wi_2, nl_add, nl_ladd, nl_aa, nl_mul, nl_rmul, nl_mm, pu_qe0, pu_qe1, hn, hc, pu_f1, ag_25 hI]
    all_goals try simp (maxSteps := 400000) (disch := omega) [nl_tle, nl_fle, nl_tlt, nl_flt, nl_teq, nl_feq, nl_sub, nl_ss, nl_lt, nl_llt, nl_ltt, nl_le, nl_lle, nl_lee, nl_eq, nl_leq, nl_ee, nl_div, nl_rem, nl_cl, nl_n1, nl_n2, nl_n3, nl_n4, nl_add, nl_ladd, nl_aa, nl_mul, nl_rmul, nl_mm, pu_wi_1, pu_wi_2, bX10_townNamed_2, bX10_townNamed_33, bX10_townNamed_27, a_ald, a_cs, a_gi, a_gr, a_icge, a_ifeq, a_ild, a_imul, a_inc, a_iret, a_push, fx_25_2 hx, sh_25, sh_26, pu_rv, pu_as, Value.category, pu_bk, pu_kl, pu_qe0, pu_qe1, hn, hc, pu_f1, ag_25 hI]
    all_goals try simp [bX10_townNamed_2, bX10_townNamed_33, bX10_townNamed_27, a_ald, a_cs, a_gi, a_gr, a_icge, a_ifeq, a_ild, a_imul, a_inc, a_iret, a_push, fx_25_2 hx, sh_25, sh_26, pu_rv, pu_as, Value.category, pu_bk, pu_kl, List.replicate, pu_wi_1, pu_wi_2, nl_add, nl_ladd, nl_aa, nl_mul, nl_rmul, nl_mm, pu_qe0, pu_qe1, hn, hc, pu_f1, ag_25 hI]
    all_goals try simp (maxSteps := 400000) (disch := omega) [nl_tle, nl_fle, nl_tlt, nl_flt, nl_teq, nl_feq, nl_sub, nl_ss, nl_lt, nl_llt, nl_ltt, nl_le, nl_lle, nl_lee, nl_eq, nl_leq, nl_ee, nl_div, nl_rem, nl_cl, nl_n1, nl_n2, nl_n3, nl_n4, nl_add, nl_ladd, nl_aa, nl_mul, nl_rmul, nl_mm, pu_wi_1, pu_wi_2, bX10_townNamed_2, bX10_townNamed_33, bX10_townNamed_27, a_ald, a_cs, a_gi, a_gr, a_icge, a_ifeq, a_ild, a_imul, a_inc, a_iret, a_push, fx_25_2 hx, sh_25, sh_26, pu_rv, pu_as, Value.category, pu_bk, pu_kl, pu_qe0, pu_qe1, hn, hc, pu_f1, ag_25 hI]
  | m + 1, i, h => by
    have hb := wx_bT hw
    have hn := wx_cT hw
    have hc : ¬ nI (cT I) ≤ nI i := nI_ge (by omega) (by omega)
    have ih := c_townNamed_l hx hI hw a sa m (i + 1) (by omega)
    have e := c_areLike (M := M) 26 a 24 3 (3 * i) 0 sh_26 sa (by omega) (by omega) (by omega) (by omega)
    rw [nI_0] at e
    by_cases c : py_lk (M.2.1 26) (M.2.1 a) (3 * i) 0
    · rw [pu_f1_t (c := fun i => py_lk (M.2.1 26) (M.2.1 a) (3 * i) 0) c]
      rw [pu_q1 c] at e
      rw [qX10_townNamed_2]
      simp [bX10_townNamed_2, bX10_townNamed_33, bX10_townNamed_27, a_ald, a_cs, a_gi, a_gr, a_icge, a_ifeq, a_ild, a_imul, a_inc, a_iret, a_push, fx_25_2 hx, sh_25, sh_26, pu_rv, pu_as, Value.category, pu_bk, pu_kl, List.replicate, pu_wi_1, pu_wi_2, nl_add, nl_ladd, nl_aa, nl_mul, nl_rmul, nl_mm, pu_qe0, pu_qe1, hn, hc, e, ag_25 hI]
      all_goals try simp (maxSteps := 400000) (disch := omega) [nl_tle, nl_fle, nl_tlt, nl_flt, nl_teq, nl_feq, nl_sub, nl_ss, nl_lt, nl_llt, nl_ltt, nl_le, nl_lle, nl_lee, nl_eq, nl_leq, nl_ee, nl_div, nl_rem, nl_cl, nl_n1, nl_n2, nl_n3, nl_n4, nl_add, nl_ladd, nl_aa, nl_mul, nl_rmul, nl_mm, pu_wi_1, pu_wi_2, bX10_townNamed_2, bX10_townNamed_33, bX10_townNamed_27, a_ald, a_cs, a_gi, a_gr, a_icge, a_ifeq, a_ild, a_imul, a_inc, a_iret, a_push, fx_25_2 hx, sh_25, sh_26, pu_rv, pu_as, Value.category, pu_bk, pu_kl, pu_qe0, pu_qe1, hn, hc, e, ag_25 hI]
      all_goals try simp [bX10_townNamed_2, bX10_townNamed_33, bX10_townNamed_27, a_ald, a_cs, a_gi, a_gr, a_icge, a_ifeq, a_ild, a_imul, a_inc, a_iret, a_push, fx_25_2 hx, sh_25, sh_26, pu_rv, pu_as, Value.category, pu_bk, pu_kl, List.replicate, pu_wi_1, pu_wi_2, nl_add, nl_ladd, nl_aa, nl_mul, nl_rmul, nl_mm, pu_qe0, pu_qe1, hn, hc, e, ag_25 hI]
      all_goals try simp (maxSteps := 400000) (disch := omega) [nl_tle, nl_fle, nl_tlt, nl_flt, nl_teq, nl_feq, nl_sub, nl_ss, nl_lt, nl_llt, nl_ltt, nl_le, nl_lle, nl_lee, nl_eq, nl_leq, nl_ee, nl_div, nl_rem, nl_cl, nl_n1, nl_n2, nl_n3, nl_n4, nl_add, nl_ladd, nl_aa, nl_mul, nl_rmul, nl_mm, pu_wi_1, pu_wi_2, bX10_townNamed_2, bX10_townNamed_33, bX10_townNamed_27, a_ald, a_cs, a_gi, a_gr, a_icge, a_ifeq, a_ild, a_imul, a_inc, a_iret, a_push, fx_25_2 hx, sh_25, sh_26, pu_rv, pu_as, Value.category, pu_bk, pu_kl, pu_qe0, pu_qe1, hn, hc, e, ag_25 hI]
    · rw [pu_f1_f (c := fun i => py_lk (M.2.1 26) (M.2.1 a) (3 * i) 0) c]
      rw [pu_q0 c] at e
      rw [qX10_townNamed_2]
      simp [bX10_townNamed_2, bX10_townNamed_33, bX10_townNamed_27, a_ald, a_cs, a_gi, a_gr, a_icge, a_ifeq, a_ild, a_imul, a_inc, a_iret, a_push, fx_25_2 hx, sh_25, sh_26, pu_rv, pu_as, Value.category, pu_bk, pu_kl, List.replicate, pu_wi_1, pu_wi_2, nl_add, nl_ladd, nl_aa, nl_mul, nl_rmul, nl_mm, pu_qe0, pu_qe1, hn, hc, e, ih, ag_25 hI]
      all_goals try simp (maxSteps := 400000) (disch := omega) [nl_tle, nl_fle, nl_tlt, nl_flt, nl_teq, nl_feq, nl_sub, nl_ss, nl_lt, nl_llt, nl_ltt, nl_le, nl_lle, nl_lee, nl_eq, nl_leq, nl_ee, nl_div, nl_rem, nl_cl, nl_n1, nl_n2, nl_n3, nl_n4, nl_add, nl_ladd, nl_aa, nl_mul, nl_rmul, nl_mm, pu_wi_1, pu_wi_2, bX10_townNamed_2, bX10_townNamed_33, bX10_townNamed_27, a_ald, a_cs, a_gi, a_gr, a_icge, a_ifeq, a_ild, a_imul, a_inc, a_iret, a_push, fx_25_2 hx, sh_25, sh_26, pu_rv, pu_as, Value.category, pu_bk, pu_kl, pu_qe0, pu_qe1, hn, hc, e, ih, ag_25 hI]
      all_goals try simp [bX10_townNamed_2, bX10_townNamed_33, bX10_townNamed_27, a_ald, a_cs, a_gi, a_gr, a_icge, a_ifeq, a_ild, a_imul, a_inc, a_iret, a_push, fx_25_2 hx, sh_25, sh_26, pu_rv, pu_as, Value.category, pu_bk, pu_kl, List.replicate, pu_wi_1, pu_wi_2, nl_add, nl_ladd, nl_aa, nl_mul, nl_rmul, nl_mm, pu_qe0, pu_qe1, hn, hc, e, ih, ag_25 hI]
      all_goals try simp (maxSteps := 400000) (disch := omega) [nl_tle, nl_fle, nl_tlt, nl_flt, nl_teq, nl_feq, nl_sub, nl_ss, nl_lt, nl_llt, nl_ltt, nl_le, nl_lle, nl_lee, nl_eq, nl_leq, nl_ee, nl_div, nl_rem, nl_cl, nl_n1, nl_n2, nl_n3, nl_n4, nl_add, nl_ladd, nl_aa, nl_mul, nl_rmul, nl_mm, pu_wi_1, pu_wi_2, bX10_townNamed_2, bX10_townNamed_33, bX10_townNamed_27, a_ald, a_cs, a_gi, a_gr, a_icge, a_ifeq, a_ild, a_imul, a_inc, a_iret, a_push, fx_25_2 hx, sh_25, sh_26, pu_rv, pu_as, Value.category, pu_bk, pu_kl, pu_qe0, pu_qe1, hn, hc, e, ih, ag_25 hI]
theorem c_townNamed {M : pu_M} {I : Nat → Nat → Int32} {L : Nat → Nat → Int64} (hx : pu_fx M) (hI : pu_ag M I) (hw : pu_WF I L) (a : Nat) (sa : pu_sh a = (3, 3)) : pu_r 33 [some (.ref 25), some (.ref a)] [] M = some (some (.int (pu_f1 (fun i => py_lk (M.2.1 26) (M.2.1 a) (3 * i) 0) (cT I) 0)), M) := by
  have e := c_townNamed_l hx hI hw a sa (cT I) 0 (by omega)
  rw [nI_0] at e
  rw [qX10_townNamed]
  simp [a_ent, bX10_townNamed_0, a_ist, a_push, pu_rv, pu_as, Value.category, pu_bk, pu_kl, List.replicate, pu_wi_1, pu_wi_2, nl_add, nl_ladd, nl_aa, nl_mul, nl_rmul, nl_mm, pu_qe0, pu_qe1, e]
  all_goals try simp (maxSteps := 400000) (disch := omega) [nl_tle, nl_fle, nl_tlt, nl_flt, nl_teq, nl_feq, nl_sub, nl_ss, nl_lt, nl_llt, nl_ltt, nl_le, nl_lle, nl_lee, nl_eq, nl_leq, nl_ee, nl_div, nl_rem, nl_cl, nl_n1, nl_n2, nl_n3, nl_n4, nl_add, nl_ladd, nl_aa, nl_mul, nl_rmul, nl_mm, pu_wi_1, pu_wi_2, bX10_townNamed_0, a_ist, a_push, pu_rv, pu_as, Value.category, pu_bk, pu_kl, pu_qe0, pu_qe1, e]
  all_goals try simp [bX10_townNamed_0, a_ist, a_push, pu_rv, pu_as, Value.category, pu_bk, pu_kl, List.replicate, pu_wi_1, pu_wi_2, nl_add, nl_ladd, nl_aa, nl_mul, nl_rmul, nl_mm, pu_qe0, pu_qe1, e]
  all_goals try simp (maxSteps := 400000) (disch := omega) [nl_tle, nl_fle, nl_tlt, nl_flt, nl_teq, nl_feq, nl_sub, nl_ss, nl_lt, nl_llt, nl_ltt, nl_le, nl_lle, nl_lee, nl_eq, nl_leq, nl_ee, nl_div, nl_rem, nl_cl, nl_n1, nl_n2, nl_n3, nl_n4, nl_add, nl_ladd, nl_aa, nl_mul, nl_rmul, nl_mm, pu_wi_1, pu_wi_2, bX10_townNamed_0, a_ist, a_push, pu_rv, pu_as, Value.category, pu_bk, pu_kl, pu_qe0, pu_qe1, e]
theorem c_addTown {M : pu_M} (hx : pu_fx M) (n : Nat) (hn : M.1 25 0 = nI n) (hl : n < 8) (a : Nat) (sa : pu_sh a = (3, 3)) : pu_r 34 [some (.ref 25), some (.ref a)] [] M = some (some (.int (nI n)), pu_wi (pu_cl M a 0 26 (3 * n) 3) 25 0 (nI (n + 1))) := by
  have pp : nI (n + 1) - 1 = nI n := nI_pred n
  rw [qX10_addTown]
  simp [a_ent, bX10_addTown_0, bX10_addTown_11, a_ald, a_cp3, a_dup, a_gi, a_gr, a_iadd, a_iclt, a_imul, a_iret, a_isub, a_pi, a_push, fx_25_2 hx, sh_25, sh_26, pu_rv, pu_as, Value.category, pu_bk, pu_kl, List.replicate, pu_wi_1, pu_wi_2, nl_add, nl_ladd, nl_aa, nl_mul, nl_rmul, nl_mm, pu_qe0, pu_qe1, hn, sa, pp, pu_cl_1]
  all_goals try simp (maxSteps := 400000) (disch := omega) [nl_tle, nl_fle, nl_tlt, nl_flt, nl_teq, nl_feq, nl_sub, nl_ss, nl_lt, nl_llt, nl_ltt, nl_le, nl_lle, nl_lee, nl_eq, nl_leq, nl_ee, nl_div, nl_rem, nl_cl, nl_n1, nl_n2, nl_n3, nl_n4, nl_add, nl_ladd, nl_aa, nl_mul, nl_rmul, nl_mm, pu_wi_1, pu_wi_2, bX10_addTown_0, bX10_addTown_11, a_ald, a_cp3, a_dup, a_gi, a_gr, a_iadd, a_iclt, a_imul, a_iret, a_isub, a_pi, a_push, fx_25_2 hx, sh_25, sh_26, pu_rv, pu_as, Value.category, pu_bk, pu_kl, pu_qe0, pu_qe1, hn, sa, pp, pu_cl_1]
  all_goals try simp [bX10_addTown_0, bX10_addTown_11, a_ald, a_cp3, a_dup, a_gi, a_gr, a_iadd, a_iclt, a_imul, a_iret, a_isub, a_pi, a_push, fx_25_2 hx, sh_25, sh_26, pu_rv, pu_as, Value.category, pu_bk, pu_kl, List.replicate, pu_wi_1, pu_wi_2, nl_add, nl_ladd, nl_aa, nl_mul, nl_rmul, nl_mm, pu_qe0, pu_qe1, hn, sa, pp, pu_cl_1]
  all_goals try simp (maxSteps := 400000) (disch := omega) [nl_tle, nl_fle, nl_tlt, nl_flt, nl_teq, nl_feq, nl_sub, nl_ss, nl_lt, nl_llt, nl_ltt, nl_le, nl_lle, nl_lee, nl_eq, nl_leq, nl_ee, nl_div, nl_rem, nl_cl, nl_n1, nl_n2, nl_n3, nl_n4, nl_add, nl_ladd, nl_aa, nl_mul, nl_rmul, nl_mm, pu_wi_1, pu_wi_2, bX10_addTown_0, bX10_addTown_11, a_ald, a_cp3, a_dup, a_gi, a_gr, a_iadd, a_iclt, a_imul, a_iret, a_isub, a_pi, a_push, fx_25_2 hx, sh_25, sh_26, pu_rv, pu_as, Value.category, pu_bk, pu_kl, pu_qe0, pu_qe1, hn, sa, pp, pu_cl_1]
/-- a name kept -/
def py_kn (M : pu_M) (k i : Nat) : pu_M := (fun a j => if a = 72 ∧ 32 + 36 * k ≤ j ∧ j < 32 + 36 * k + i then M.1 78 (j - (32 + 36 * k)) else M.1 a j, M.2)
theorem py_kn_s (M : pu_M) (k i : Nat) : pu_wi (py_kn M k i) 72 (32 + 36 * k + i) (M.1 78 i) = py_kn M k (i + 1) := by
  unfold pu_wi py_kn
  congr 1
  funext a j
  by_cases e : a = 72
  · by_cases f : j = 32 + 36 * k + i
    · simp only [e, f, if_true]
      rw [if_pos ⟨trivial, by omega⟩, show 32 + 36 * k + i - (32 + 36 * k) = i by omega]
    · simp only [e, f, if_true, if_false]
      by_cases g : 32 + 36 * k ≤ j ∧ j < 32 + 36 * k + i
      · rw [if_pos ⟨trivial, g⟩, if_pos ⟨trivial, by omega⟩]
      · rw [if_neg (fun q => g q.2), if_neg (fun q => g (by omega))]
  · simp [e]
theorem r_keep_l {M : pu_M} (hx : pu_fx M) (k : Nat) (hk : k < 208) : ∀ m i, i + m = 36 → pu_r 441 [some (.ref 71), some (.int (nI k)), some (.int (nI i))] [] (py_kn M k i) = some (none, py_kn M k 36)
  | 0, i, h => by
    have e : i = 36 := by omega
    subst e
    have hc : 36 ≤ nI 36 := by decide
    generalize py_kn M k 36 = N at *
    rw [qX12_keepName_2]
    simp [bX12_keepName_2, bX12_keepName_34, a_ai, a_ald, a_gr, a_iadd, a_icge, a_ild, a_imul, a_inc, a_push, a_vret, a_wi, sh_71, sh_72, sh_78, pu_rv, pu_as, Value.category, pu_bk, pu_kl, List.replicate, pu_wi_1, pu_wi_2, nl_add, nl_ladd, nl_aa, nl_mul, nl_rmul, nl_mm, pu_qe0, pu_qe1, hc]
    all_goals try simp (maxSteps := 400000) (disch := omega) [nl_tle, nl_fle, nl_tlt, nl_flt, nl_teq, nl_feq, nl_sub, nl_ss, nl_lt, nl_llt, nl_ltt, nl_le, nl_lle, nl_lee, nl_eq, nl_leq, nl_ee, nl_div, nl_rem, nl_cl, nl_n1, nl_n2, nl_n3, nl_n4, nl_add, nl_ladd, nl_aa, nl_mul, nl_rmul, nl_mm, pu_wi_1, pu_wi_2, bX12_keepName_2, bX12_keepName_34, a_ai, a_ald, a_gr, a_iadd, a_icge, a_ild, a_imul, a_inc, a_push, a_vret, a_wi, sh_71, sh_72, sh_78, pu_rv, pu_as, Value.category, pu_bk, pu_kl, pu_qe0, pu_qe1, hc]
    all_goals try simp [bX12_keepName_2, bX12_keepName_34, a_ai, a_ald, a_gr, a_iadd, a_icge, a_ild, a_imul, a_inc, a_push, a_vret, a_wi, sh_71, sh_72, sh_78, pu_rv, pu_as, Value.category, pu_bk, pu_kl, List.replicate, pu_wi_1, pu_wi_2, nl_add, nl_ladd, nl_aa, nl_mul, nl_rmul, nl_mm, pu_qe0, pu_qe1, hc]
    all_goals try simp (maxSteps := 400000) (disch := omega) [nl_tle, nl_fle, nl_tlt, nl_flt, nl_teq, nl_feq, nl_sub, nl_ss, nl_lt, nl_llt, nl_ltt, nl_le, nl_lle, nl_lee, nl_eq, nl_leq, nl_ee, nl_div, nl_rem, nl_cl, nl_n1, nl_n2, nl_n3, nl_n4, nl_add, nl_ladd, nl_aa, nl_mul, nl_rmul, nl_mm, pu_wi_1, pu_wi_2, bX12_keepName_2, bX12_keepName_34, a_ai, a_ald, a_gr, a_iadd, a_icge, a_ild, a_imul, a_inc, a_push, a_vret, a_wi, sh_71, sh_72, sh_78, pu_rv, pu_as, Value.category, pu_bk, pu_kl, pu_qe0, pu_qe1, hc]
  | m + 1, i, h => by
    have hc : ¬ 36 ≤ nI i := nI_ge (b := 36) (by omega) (by omega)
    have ih := r_keep_l hx k hk m (i + 1) (by omega)
    rw [← py_kn_s] at ih
    have f : (py_kn M k i).2.2.1 71 0 = some 72 := fx_71_0 hx
    have f9 : (py_kn M k i).2.2.1 71 9 = some 78 := fx_71_9 hx
    have v : (py_kn M k i).1 78 i = M.1 78 i := by
      show (if 78 = 72 ∧ 32 + 36 * k ≤ i ∧ i < 32 + 36 * k + i then M.1 78 (i - (32 + 36 * k)) else M.1 78 i) = M.1 78 i
      rw [if_neg (by omega)]
    generalize py_kn M k i = N at *
    rw [qX12_keepName_2]
    simp [bX12_keepName_2, bX12_keepName_34, a_ai, a_ald, a_gr, a_iadd, a_icge, a_ild, a_imul, a_inc, a_push, a_vret, a_wi, sh_71, sh_72, sh_78, pu_rv, pu_as, Value.category, pu_bk, pu_kl, List.replicate, pu_wi_1, pu_wi_2, nl_add, nl_ladd, nl_aa, nl_mul, nl_rmul, nl_mm, pu_qe0, pu_qe1, hc, f, f9, v, ih]
    all_goals try simp (maxSteps := 400000) (disch := omega) [nl_tle, nl_fle, nl_tlt, nl_flt, nl_teq, nl_feq, nl_sub, nl_ss, nl_lt, nl_llt, nl_ltt, nl_le, nl_lle, nl_lee, nl_eq, nl_leq, nl_ee, nl_div, nl_rem, nl_cl, nl_n1, nl_n2, nl_n3, nl_n4, nl_add, nl_ladd, nl_aa, nl_mul, nl_rmul, nl_mm, pu_wi_1, pu_wi_2, bX12_keepName_2, bX12_keepName_34, a_ai, a_ald, a_gr, a_iadd, a_icge, a_ild, a_imul, a_inc, a_push, a_vret, a_wi, sh_71, sh_72, sh_78, pu_rv, pu_as, Value.category, pu_bk, pu_kl, pu_qe0, pu_qe1, hc, f, f9, v, ih]
    all_goals try simp [bX12_keepName_2, bX12_keepName_34, a_ai, a_ald, a_gr, a_iadd, a_icge, a_ild, a_imul, a_inc, a_push, a_vret, a_wi, sh_71, sh_72, sh_78, pu_rv, pu_as, Value.category, pu_bk, pu_kl, List.replicate, pu_wi_1, pu_wi_2, nl_add, nl_ladd, nl_aa, nl_mul, nl_rmul, nl_mm, pu_qe0, pu_qe1, hc, f, f9, v, ih]
    all_goals try simp (maxSteps := 400000) (disch := omega) [nl_tle, nl_fle, nl_tlt, nl_flt, nl_teq, nl_feq, nl_sub, nl_ss, nl_lt, nl_llt, nl_ltt, nl_le, nl_lle, nl_lee, nl_eq, nl_leq, nl_ee, nl_div, nl_rem, nl_cl, nl_n1, nl_n2, nl_n3, nl_n4, nl_add, nl_ladd, nl_aa, nl_mul, nl_rmul, nl_mm, pu_wi_1, pu_wi_2, bX12_keepName_2, bX12_keepName_34, a_ai, a_ald, a_gr, a_iadd, a_icge, a_ild, a_imul, a_inc, a_push, a_vret, a_wi, sh_71, sh_72, sh_78, pu_rv, pu_as, Value.category, pu_bk, pu_kl, pu_qe0, pu_qe1, hc, f, f9, v, ih]
theorem r_keepName {M : pu_M} (hx : pu_fx M) (k : Nat) (hk : k < 208) : pu_r 247 [some (.ref 71), some (.int (nI k))] [] M = some (none, py_kn M k 36) := by
  have e := r_keep_l hx k hk 36 0 (by omega)
  have Z : py_kn M k 0 = M := by
    unfold py_kn
    have : (fun a j => if a = 72 ∧ 32 + 36 * k ≤ j ∧ j < 32 + 36 * k + 0 then M.1 78 (j - (32 + 36 * k)) else M.1 a j) = M.1 := by
      funext a j
      rw [if_neg (by omega)]
    rw [this]
  rw [Z, nI_0] at e
  rw [qX12_keepName]
  simp [a_ent, bX12_keepName_0, a_ist, a_push, pu_rv, pu_as, Value.category, pu_bk, pu_kl, List.replicate, pu_wi_1, pu_wi_2, nl_add, nl_ladd, nl_aa, nl_mul, nl_rmul, nl_mm, pu_qe0, pu_qe1, e]
  all_goals try simp (maxSteps := 400000) (disch := omega) [nl_tle, nl_fle, nl_tlt, nl_flt, nl_teq, nl_feq, nl_sub, nl_ss, nl_lt, nl_llt, nl_ltt, nl_le, nl_lle, nl_lee, nl_eq, nl_leq, nl_ee, nl_div, nl_rem, nl_cl, nl_n1, nl_n2, nl_n3, nl_n4, nl_add, nl_ladd, nl_aa, nl_mul, nl_rmul, nl_mm, pu_wi_1, pu_wi_2, bX12_keepName_0, a_ist, a_push, pu_rv, pu_as, Value.category, pu_bk, pu_kl, pu_qe0, pu_qe1, e]
  all_goals try simp [bX12_keepName_0, a_ist, a_push, pu_rv, pu_as, Value.category, pu_bk, pu_kl, List.replicate, pu_wi_1, pu_wi_2, nl_add, nl_ladd, nl_aa, nl_mul, nl_rmul, nl_mm, pu_qe0, pu_qe1, e]
  all_goals try simp (maxSteps := 400000) (disch := omega) [nl_tle, nl_fle, nl_tlt, nl_flt, nl_teq, nl_feq, nl_sub, nl_ss, nl_lt, nl_llt, nl_ltt, nl_le, nl_lle, nl_lee, nl_eq, nl_leq, nl_ee, nl_div, nl_rem, nl_cl, nl_n1, nl_n2, nl_n3, nl_n4, nl_add, nl_ladd, nl_aa, nl_mul, nl_rmul, nl_mm, pu_wi_1, pu_wi_2, bX12_keepName_0, a_ist, a_push, pu_rv, pu_as, Value.category, pu_bk, pu_kl, pu_qe0, pu_qe1, e]
theorem py_kn_o {M : pu_M} {k a j : Nat} (h : ¬ (a = 72 ∧ 32 + 36 * k ≤ j ∧ j < 32 + 36 * k + 36)) : (py_kn M k 36).1 a j = M.1 a j := if_neg h
theorem py_kn_v {M : pu_M} {k i : Nat} (h : i < 36) : (py_kn M k 36).1 72 (32 + 36 * k + i) = M.1 78 i := by
  show (if 72 = 72 ∧ 32 + 36 * k ≤ 32 + 36 * k + i ∧ 32 + 36 * k + i < 32 + 36 * k + 36 then M.1 78 (32 + 36 * k + i - (32 + 36 * k)) else _) = _
  rw [if_pos ⟨rfl, by omega, by omega⟩, show 32 + 36 * k + i - (32 + 36 * k) = i by omega]
/-- a town more -/
theorem St_town {I J : Nat → Nat → Int32} {L L' : Nat → Nat → Int64} {s s' : Nat → Int32} (h : pu_St I L s) (hT : cT I < 8) (F : ∀ x j, ¬ (x = 25 ∧ j = 0) → J x j = I x j) (v : J 25 0 = nI (cT I + 1)) (FL : ∀ x j, ¬ (x = 26 ∧ 3 * cT I ≤ j) → L' x j = L x j) (hne : ∀ k, k < cT I → ¬ py_lk (L 26) (L' 26) (3 * k) (3 * cT I)) (hd : ∀ w, w < 3 → pu_Wd s' (32 + 36 * cT I + 12 * w) (L' 26 (3 * cT I + w))) (G : ∀ j, j ≠ 2 → ¬ (32 + 36 * cT I ≤ j ∧ j < 32 + 36 * cT I + 36) → j ≠ 7520 + cT I → s' j = s j) (g2 : s' 2 = nI (cT I + 1)) (gj : s' (7520 + cT I) = -1) : pu_St J L' s' := by
  obtain ⟨hw, hr⟩ := h
  have cTJ : cT J = cT I + 1 := pz_cc v (by omega)
  have Y : ∀ x, x ≠ 25 → J x = I x := fun x hx => funext (fun j => F x j (by omega))
  have cP' : cP J = cP I := by unfold cP; rw [Y 6 (by omega)]
  have cU' : cU J = cU I := by unfold cU; rw [Y 14 (by omega)]
  have cN' : cN J = cN I := by unfold cN; rw [Y 19 (by omega)]
  have cK' : cK J = cK I := by unfold cK; rw [F 25 1 (by omega)]
  have cD' : cD J = cD I := by unfold cD; rw [Y 31 (by omega)]
  have cF' : cF J = cF I := by unfold cF; rw [Y 42 (by omega)]
  have bN := wx_bN hw
  have bK := wx_bK hw
  have bP := wx_bP hw
  have slE : ∀ k, pu_sl0 J k = pu_sl0 I k := fun k => by unfold pu_sl0; rw [Y 15 (by omega)]
  have tcE : ∀ p k, pu_tc J p k = pu_tc I p k := fun p k => by unfold pu_tc; rw [Y 9 (by omega), Y 10 (by omega)]
  have wp : w_p J := by
    unfold w_p
    simp only [tcE]
    rw [cP', cK', cTJ, Y 6 (by omega), Y 7 (by omega), Y 8 (by omega), Y 9 (by omega), Y 10 (by omega), Y 11 (by omega), Y 12 (by omega), Y 13 (by omega)]
    exact ⟨wx_p0 hw, wx_p1 hw, wx_pf hw, wx_pk hw, wx_pa hw, wx_pb hw, fun p hp => by have := wx_pt hw p hp; omega, fun p hp => by have := wx_pu hw p hp; omega, wx_pr hw, wx_pm hw, wx_po hw, wx_pj hw⟩
  have wu : w_u J := by
    unfold w_u
    simp only [tcE, slE]
    rw [cP', cU', cD', cK', Y 15 (by omega), Y 16 (by omega), Y 17 (by omega), Y 18 (by omega), Y 32 (by omega), Y 36 (by omega), Y 37 (by omega), Y 38 (by omega), Y 39 (by omega), Y 40 (by omega), Y 41 (by omega)]
    exact wg_u hw
  have ctE : ∀ q t, pu_ct J q t = pu_ct I q t := fun q t => pz_ctc (fun p _ => by rw [Y 12 (by omega)]) t
  have wn : w_n J L' := by
    unfold w_n
    simp only [ctE]
    rw [cP', cN', cK', cTJ, Y 7 (by omega), Y 9 (by omega), Y 11 (by omega), Y 12 (by omega), Y 20 (by omega), Y 21 (by omega), Y 22 (by omega), Y 23 (by omega), Y 28 (by omega), show L' 24 = L 24 from funext (fun j => FL 24 j (by omega))]
    exact ⟨wx_ns hw, fun k hk => by have := wx_nt hw k hk; omega, wx_no hw, wx_nc hw, wx_nm hw, wx_n3 hw, wx_n4 hw, wx_n5 hw, wx_n6 hw, wx_n7 hw, wx_n8 hw, wx_n9 hw⟩
  have wk : w_k J L' := by
    unfold w_k
    simp only [tcE]
    rw [cP', cK', cTJ, Y 9 (by omega), Y 27 (by omega), Y 28 (by omega), Y 29 (by omega), Y 30 (by omega)]
    refine ⟨fun k l hk hl e => ?_, wx_kr hw, wx_ko hw, wx_km hw, wx_kl hw, wx_kw hw, wx_kp hw⟩
    have old : ∀ k, k < cT I → ∀ w, w < 3 → L' 26 (3 * k + w) = L 26 (3 * k + w) := fun k hk w hw => FL 26 _ (by omega)
    by_cases k1 : k < cT I
    · by_cases l1 : l < cT I
      · exact wx_kt hw k l k1 l1 (fun w hw2 => by rw [← old k k1 w hw2, ← old l l1 w hw2]; exact e w hw2)
      · exfalso
        refine hne k k1 (fun w hw2 => ?_)
        rw [← old k k1 w hw2, e w hw2, show l = cT I by omega]
    · by_cases l1 : l < cT I
      · exfalso
        refine hne l l1 (fun w hw2 => ?_)
        rw [← old l l1 w hw2, ← e w hw2, show k = cT I by omega]
      · omega
  have wd : w_d J := by
    unfold w_d
    simp only [tcE]
    rw [cP', cK', cD', Y 32 (by omega), Y 33 (by omega), Y 34 (by omega), Y 35 (by omega), Y 36 (by omega), Y 37 (by omega), Y 38 (by omega), Y 39 (by omega), Y 40 (by omega), Y 41 (by omega)]
    exact wg_d hw
  have GG : ∀ j, (3 ≤ j ∧ j < 32) ∨ j < 2 ∨ 320 ≤ j ∧ (j < 7520 ∨ 7528 ≤ j) → s' j = s j := fun j hj => G j (by omega) (by omega) (by omega)
  refine St_join (I := I) ⟨by rw [cP', Y 6 (by omega)]; exact wx_cP hw, by rw [cU', Y 14 (by omega)]; exact wx_cU hw, by rw [cN', Y 19 (by omega)]; exact wx_cN hw, by rw [cTJ]; exact v, by rw [cK', F 25 1 (by omega)]; exact wx_cK hw, by rw [cD', Y 31 (by omega)]; exact wx_cD hw, by rw [cF', Y 42 (by omega)]; exact wx_cF hw⟩ ⟨by rw [cP']; exact bP, by rw [cU']; exact wx_bU hw, by rw [cN']; exact bN, by omega, by rw [cK']; exact bK, by rw [cD']; exact wx_bD hw, by rw [cF']; exact wx_bF hw⟩ hw (fun x j h1 h2 => F x j (by omega)) cF' (fun j _ => ⟨FL 43 j (by omega), FL 44 j (by omega)⟩) wp wu wn wk wd (F 6 0 (by omega)) (F 6 1 (by omega)) hr (fun j hj => GG j (by omega)) ⟨by rw [cTJ]; exact g2, by rw [cK', GG 3 (by omega)]; exact rl_h3 hr, by rw [cD', GG 4 (by omega)]; exact rl_h4 hr, by rw [cP', GG 5 (by omega)]; exact rl_h5 hr, by rw [cU', GG 6 (by omega)]; exact rl_h6 hr, by rw [cN', GG 7 (by omega)]; exact rl_h7 hr⟩ ?_ ?_ ?_ ?_ ?_ ?_ (fun j h1 h2 => GG j (by omega)) (fun j h1 h2 => GG j (by omega))
  · have T := rf_p (rg_p hr) bP (s' := s') (fun j _ _ => GG j (by omega))
    unfold rl_p
    rw [cP', Y 7 (by omega), Y 8 (by omega), Y 9 (by omega), Y 10 (by omega), Y 11 (by omega), Y 12 (by omega), Y 13 (by omega)]
    exact T
  · exact ru_same cU' (fun x _ _ k _ => F x k (by omega)) (fun k _ => F 39 _ (by omega)) (rf_u (rg_u hr) (wx_bU hw) (fun j _ _ => GG j (by omega)))
  · refine rn_same cN' (fun x _ _ k _ => F x k (by omega)) (fun j _ => FL 24 j (by omega)) ?_
    -- the names of streets lie behind those of the towns
    have R : ∀ j k, j < cN I → pz_nr I L s j k → pz_nr I L s' j k := fun j k hj q => by
      obtain ⟨a1, a2, a3, a4, m, m1, m2, m3, m4, m5⟩ := q
      exact ⟨(GG _ (by omega)).trans a1, (GG _ (by omega)).trans a2, (GG _ (by omega)).trans a3, (GG _ (by omega)).trans a4, m, m1, m2, m3, (GG _ (by omega)).trans m4, fun w hw2 => pu_Wd_fr (m5 w hw2) (fun i hi => GG _ (by omega))⟩
    refine ⟨fun k hk => ?_, fun j hj => ?_, fun k hk => ?_, fun j l hj hl a c => ?_⟩
    · obtain ⟨j, j1, j2⟩ := rl_na hr k hk
      exact ⟨j, j1, R j k j1 j2⟩
    · obtain ⟨k, k1, k2⟩ := rl_nb hr j hj
      exact ⟨k, k1, R j k hj k2⟩
    · rw [GG _ (by omega)]; exact rl_n3 hr k hk
    · rw [GG _ (by omega), GG (7552 + 5 * l) (by omega)] at a
      rw [GG _ (by omega), GG (7552 + 5 * l + 3) (by omega)] at c
      exact rl_ni hr j l hj hl a c
  · unfold rl_t
    rw [cP', cTJ, Y 12 (by omega)]
    refine ⟨fun k hk w hw2 => ?_, fun k hk => ?_⟩
    · by_cases k1 : k < cT I
      · rw [FL 26 _ (by omega)]
        exact pu_Wd_fr (rl_tw hr k k1 w hw2) (fun i hi => G _ (by omega) (by omega) (by omega))
      · rw [show k = cT I by omega]
        exact hd w hw2
    · by_cases k1 : k < cT I
      · rw [G _ (by omega) (by omega) (by omega)]
        exact rl_tj hr k k1
      · rw [show k = cT I by omega]
        refine Or.inl ⟨gj, fun p hp q => ?_⟩
        have := (wx_pu hw p hp).2
        rw [q, nl_n0 (by omega)] at this
        omega
  · have T := rf_k (rg_k hr) bK (s' := s') (fun j _ _ => GG j (by omega)) (fun j _ _ => GG j (by omega))
    unfold rl_k
    rw [cK', Y 27 (by omega), Y 29 (by omega), Y 30 (by omega)]
    exact T
  · exact rd_same cD' (fun x _ _ k _ => F x k (by omega)) (fun x _ _ k _ => F x k (by omega)) (rf_d (rg_d hr) (wx_bD hw) (fun j _ _ => GG j (by omega)))
