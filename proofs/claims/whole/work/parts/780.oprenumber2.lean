/-! renumber, both sides: the call -/
theorem r_rn1 {G : pu_M} (hx : pu_fx G) {P U c : Nat} (hP : P ≤ 200) (hU : U ≤ 3000) (hc : c ≤ 3000) (h5 : G.1 72 5 = nI P) (h6 : G.1 72 6 = nI U) (x1 x2 x3 : Int32) (t5 t6 t7 t8 : Option Value) : kX12_renumber_116 pu_r [some (.ref 71), some (.int x1), some (.int x2), some (.int x3), some (.int (nI c)), t5, t6, t7, t8] [] G = @ite _ (P < 200 ∧ U + c ≤ 3000) (Classical.propDecidable _) (kX12_renumber_147 pu_r [some (.ref 71), some (.int x1), some (.int x2), some (.int x3), some (.int (nI c)), t5, t6, t7, t8] [] G) (some (some (.int (-6)), G)) := by
  by_cases c1 : P < 200
  · have e1 : ¬ nI P = 200 := fun z => by rw [show (200 : Int32) = nI 200 from rfl, nI_eq (by omega) (by omega)] at z; omega
    by_cases c2 : U + c ≤ 3000
    · rw [if_pos ⟨c1, c2⟩]
      have c4 : nI (U + c) ≤ (3000 : Int32) := nI_le (b := 3000) c2 (by omega)
      simp [bX12_renumber_116, bX12_renumber_144, a_ai, a_ald, a_gr, a_iadd, a_iceq, a_icle, a_ild, a_iret, a_push, fx_71_0 hx, sh_71, sh_72, pu_rv, pu_as, Value.category, pu_bk, pu_kl, List.replicate, pu_wi_1, pu_wi_2, nl_add, nl_ladd, nl_aa, nl_mul, nl_rmul, nl_mm, pu_qe0, pu_qe1, h5, e1, h6, c4]
      all_goals try simp (maxSteps := 400000) (disch := omega) [nl_tle, nl_fle, nl_tlt, nl_flt, nl_teq, nl_feq, nl_sub, nl_ss, nl_lt, nl_llt, nl_ltt, nl_le, nl_lle, nl_lee, nl_eq, nl_leq, nl_ee, nl_div, nl_rem, nl_cl, nl_n1, nl_n2, nl_n3, nl_n4, nl_add, nl_ladd, nl_aa, nl_mul, nl_rmul, nl_mm, pu_wi_1, pu_wi_2, bX12_renumber_116, bX12_renumber_144, a_ai, a_ald, a_gr, a_iadd, a_iceq, a_icle, a_ild, a_iret, a_push, fx_71_0 hx, sh_71, sh_72, pu_rv, pu_as, Value.category, pu_bk, pu_kl, pu_qe0, pu_qe1, h5, e1, h6, c4]
      all_goals try simp [bX12_renumber_116, bX12_renumber_144, a_ai, a_ald, a_gr, a_iadd, a_iceq, a_icle, a_ild, a_iret, a_push, fx_71_0 hx, sh_71, sh_72, pu_rv, pu_as, Value.category, pu_bk, pu_kl, List.replicate, pu_wi_1, pu_wi_2, nl_add, nl_ladd, nl_aa, nl_mul, nl_rmul, nl_mm, pu_qe0, pu_qe1, h5, e1, h6, c4]
      all_goals try simp (maxSteps := 400000) (disch := omega) [nl_tle, nl_fle, nl_tlt, nl_flt, nl_teq, nl_feq, nl_sub, nl_ss, nl_lt, nl_llt, nl_ltt, nl_le, nl_lle, nl_lee, nl_eq, nl_leq, nl_ee, nl_div, nl_rem, nl_cl, nl_n1, nl_n2, nl_n3, nl_n4, nl_add, nl_ladd, nl_aa, nl_mul, nl_rmul, nl_mm, pu_wi_1, pu_wi_2, bX12_renumber_116, bX12_renumber_144, a_ai, a_ald, a_gr, a_iadd, a_iceq, a_icle, a_ild, a_iret, a_push, fx_71_0 hx, sh_71, sh_72, pu_rv, pu_as, Value.category, pu_bk, pu_kl, pu_qe0, pu_qe1, h5, e1, h6, c4]
      all_goals try simp [bX12_renumber_116, bX12_renumber_144, a_ai, a_ald, a_gr, a_iadd, a_iceq, a_icle, a_ild, a_iret, a_push, fx_71_0 hx, sh_71, sh_72, pu_rv, pu_as, Value.category, pu_bk, pu_kl, List.replicate, pu_wi_1, pu_wi_2, nl_add, nl_ladd, nl_aa, nl_mul, nl_rmul, nl_mm, pu_qe0, pu_qe1, h5, e1, h6, c4]
      all_goals try simp (maxSteps := 400000) (disch := omega) [nl_tle, nl_fle, nl_tlt, nl_flt, nl_teq, nl_feq, nl_sub, nl_ss, nl_lt, nl_llt, nl_ltt, nl_le, nl_lle, nl_lee, nl_eq, nl_leq, nl_ee, nl_div, nl_rem, nl_cl, nl_n1, nl_n2, nl_n3, nl_n4, nl_add, nl_ladd, nl_aa, nl_mul, nl_rmul, nl_mm, pu_wi_1, pu_wi_2, bX12_renumber_116, bX12_renumber_144, a_ai, a_ald, a_gr, a_iadd, a_iceq, a_icle, a_ild, a_iret, a_push, fx_71_0 hx, sh_71, sh_72, pu_rv, pu_as, Value.category, pu_bk, pu_kl, pu_qe0, pu_qe1, h5, e1, h6, c4]
      all_goals try simp [bX12_renumber_116, bX12_renumber_144, a_ai, a_ald, a_gr, a_iadd, a_iceq, a_icle, a_ild, a_iret, a_push, fx_71_0 hx, sh_71, sh_72, pu_rv, pu_as, Value.category, pu_bk, pu_kl, List.replicate, pu_wi_1, pu_wi_2, nl_add, nl_ladd, nl_aa, nl_mul, nl_rmul, nl_mm, pu_qe0, pu_qe1, h5, e1, h6, c4]
    · rw [if_neg (fun z => c2 z.2)]
      have c3 : (3000 : Int32) < nI (U + c) := nI_lt (a := 3000) (by omega) (by omega)
      have c4 := Int32.not_le.mpr c3
      simp [bX12_renumber_116, bX12_renumber_144, a_ai, a_ald, a_gr, a_iadd, a_iceq, a_icle, a_ild, a_iret, a_push, fx_71_0 hx, sh_71, sh_72, pu_rv, pu_as, Value.category, pu_bk, pu_kl, List.replicate, pu_wi_1, pu_wi_2, nl_add, nl_ladd, nl_aa, nl_mul, nl_rmul, nl_mm, pu_qe0, pu_qe1, h5, e1, h6, c3, c4]
      all_goals try simp (maxSteps := 400000) (disch := omega) [nl_tle, nl_fle, nl_tlt, nl_flt, nl_teq, nl_feq, nl_sub, nl_ss, nl_lt, nl_llt, nl_ltt, nl_le, nl_lle, nl_lee, nl_eq, nl_leq, nl_ee, nl_div, nl_rem, nl_cl, nl_n1, nl_n2, nl_n3, nl_n4, nl_add, nl_ladd, nl_aa, nl_mul, nl_rmul, nl_mm, pu_wi_1, pu_wi_2, bX12_renumber_116, bX12_renumber_144, a_ai, a_ald, a_gr, a_iadd, a_iceq, a_icle, a_ild, a_iret, a_push, fx_71_0 hx, sh_71, sh_72, pu_rv, pu_as, Value.category, pu_bk, pu_kl, pu_qe0, pu_qe1, h5, e1, h6, c3, c4]
      all_goals try simp [bX12_renumber_116, bX12_renumber_144, a_ai, a_ald, a_gr, a_iadd, a_iceq, a_icle, a_ild, a_iret, a_push, fx_71_0 hx, sh_71, sh_72, pu_rv, pu_as, Value.category, pu_bk, pu_kl, List.replicate, pu_wi_1, pu_wi_2, nl_add, nl_ladd, nl_aa, nl_mul, nl_rmul, nl_mm, pu_qe0, pu_qe1, h5, e1, h6, c3, c4]
      all_goals try simp (maxSteps := 400000) (disch := omega) [nl_tle, nl_fle, nl_tlt, nl_flt, nl_teq, nl_feq, nl_sub, nl_ss, nl_lt, nl_llt, nl_ltt, nl_le, nl_lle, nl_lee, nl_eq, nl_leq, nl_ee, nl_div, nl_rem, nl_cl, nl_n1, nl_n2, nl_n3, nl_n4, nl_add, nl_ladd, nl_aa, nl_mul, nl_rmul, nl_mm, pu_wi_1, pu_wi_2, bX12_renumber_116, bX12_renumber_144, a_ai, a_ald, a_gr, a_iadd, a_iceq, a_icle, a_ild, a_iret, a_push, fx_71_0 hx, sh_71, sh_72, pu_rv, pu_as, Value.category, pu_bk, pu_kl, pu_qe0, pu_qe1, h5, e1, h6, c3, c4]
      all_goals try simp [bX12_renumber_116, bX12_renumber_144, a_ai, a_ald, a_gr, a_iadd, a_iceq, a_icle, a_ild, a_iret, a_push, fx_71_0 hx, sh_71, sh_72, pu_rv, pu_as, Value.category, pu_bk, pu_kl, List.replicate, pu_wi_1, pu_wi_2, nl_add, nl_ladd, nl_aa, nl_mul, nl_rmul, nl_mm, pu_qe0, pu_qe1, h5, e1, h6, c3, c4]
      all_goals try simp (maxSteps := 400000) (disch := omega) [nl_tle, nl_fle, nl_tlt, nl_flt, nl_teq, nl_feq, nl_sub, nl_ss, nl_lt, nl_llt, nl_ltt, nl_le, nl_lle, nl_lee, nl_eq, nl_leq, nl_ee, nl_div, nl_rem, nl_cl, nl_n1, nl_n2, nl_n3, nl_n4, nl_add, nl_ladd, nl_aa, nl_mul, nl_rmul, nl_mm, pu_wi_1, pu_wi_2, bX12_renumber_116, bX12_renumber_144, a_ai, a_ald, a_gr, a_iadd, a_iceq, a_icle, a_ild, a_iret, a_push, fx_71_0 hx, sh_71, sh_72, pu_rv, pu_as, Value.category, pu_bk, pu_kl, pu_qe0, pu_qe1, h5, e1, h6, c3, c4]
      all_goals try simp [bX12_renumber_116, bX12_renumber_144, a_ai, a_ald, a_gr, a_iadd, a_iceq, a_icle, a_ild, a_iret, a_push, fx_71_0 hx, sh_71, sh_72, pu_rv, pu_as, Value.category, pu_bk, pu_kl, List.replicate, pu_wi_1, pu_wi_2, nl_add, nl_ladd, nl_aa, nl_mul, nl_rmul, nl_mm, pu_qe0, pu_qe1, h5, e1, h6, c3, c4]
  · rw [if_neg (fun z => c1 z.1)]
    have e1 : P = 200 := by omega
    rw [e1, show nI 200 = (200 : Int32) from rfl] at h5
    simp [bX12_renumber_116, bX12_renumber_144, a_ai, a_ald, a_gr, a_iadd, a_iceq, a_icle, a_ild, a_iret, a_push, fx_71_0 hx, sh_71, sh_72, pu_rv, pu_as, Value.category, pu_bk, pu_kl, List.replicate, pu_wi_1, pu_wi_2, nl_add, nl_ladd, nl_aa, nl_mul, nl_rmul, nl_mm, pu_qe0, pu_qe1, h5]
    all_goals try simp (maxSteps := 400000) (disch := omega) [nl_tle, nl_fle, nl_tlt, nl_flt, nl_teq, nl_feq, nl_sub, nl_ss, nl_lt, nl_llt, nl_ltt, nl_le, nl_lle, nl_lee, nl_eq, nl_leq, nl_ee, nl_div, nl_rem, nl_cl, nl_n1, nl_n2, nl_n3, nl_n4, nl_add, nl_ladd, nl_aa, nl_mul, nl_rmul, nl_mm, pu_wi_1, pu_wi_2, bX12_renumber_116, bX12_renumber_144, a_ai, a_ald, a_gr, a_iadd, a_iceq, a_icle, a_ild, a_iret, a_push, fx_71_0 hx, sh_71, sh_72, pu_rv, pu_as, Value.category, pu_bk, pu_kl, pu_qe0, pu_qe1, h5]
    all_goals try simp [bX12_renumber_116, bX12_renumber_144, a_ai, a_ald, a_gr, a_iadd, a_iceq, a_icle, a_ild, a_iret, a_push, fx_71_0 hx, sh_71, sh_72, pu_rv, pu_as, Value.category, pu_bk, pu_kl, List.replicate, pu_wi_1, pu_wi_2, nl_add, nl_ladd, nl_aa, nl_mul, nl_rmul, nl_mm, pu_qe0, pu_qe1, h5]
    all_goals try simp (maxSteps := 400000) (disch := omega) [nl_tle, nl_fle, nl_tlt, nl_flt, nl_teq, nl_feq, nl_sub, nl_ss, nl_lt, nl_llt, nl_ltt, nl_le, nl_lle, nl_lee, nl_eq, nl_leq, nl_ee, nl_div, nl_rem, nl_cl, nl_n1, nl_n2, nl_n3, nl_n4, nl_add, nl_ladd, nl_aa, nl_mul, nl_rmul, nl_mm, pu_wi_1, pu_wi_2, bX12_renumber_116, bX12_renumber_144, a_ai, a_ald, a_gr, a_iadd, a_iceq, a_icle, a_ild, a_iret, a_push, fx_71_0 hx, sh_71, sh_72, pu_rv, pu_as, Value.category, pu_bk, pu_kl, pu_qe0, pu_qe1, h5]
    all_goals try simp [bX12_renumber_116, bX12_renumber_144, a_ai, a_ald, a_gr, a_iadd, a_iceq, a_icle, a_ild, a_iret, a_push, fx_71_0 hx, sh_71, sh_72, pu_rv, pu_as, Value.category, pu_bk, pu_kl, List.replicate, pu_wi_1, pu_wi_2, nl_add, nl_ladd, nl_aa, nl_mul, nl_rmul, nl_mm, pu_qe0, pu_qe1, h5]
    all_goals try simp (maxSteps := 400000) (disch := omega) [nl_tle, nl_fle, nl_tlt, nl_flt, nl_teq, nl_feq, nl_sub, nl_ss, nl_lt, nl_llt, nl_ltt, nl_le, nl_lle, nl_lee, nl_eq, nl_leq, nl_ee, nl_div, nl_rem, nl_cl, nl_n1, nl_n2, nl_n3, nl_n4, nl_add, nl_ladd, nl_aa, nl_mul, nl_rmul, nl_mm, pu_wi_1, pu_wi_2, bX12_renumber_116, bX12_renumber_144, a_ai, a_ald, a_gr, a_iadd, a_iceq, a_icle, a_ild, a_iret, a_push, fx_71_0 hx, sh_71, sh_72, pu_rv, pu_as, Value.category, pu_bk, pu_kl, pu_qe0, pu_qe1, h5]
    all_goals try simp [bX12_renumber_116, bX12_renumber_144, a_ai, a_ald, a_gr, a_iadd, a_iceq, a_icle, a_ild, a_iret, a_push, fx_71_0 hx, sh_71, sh_72, pu_rv, pu_as, Value.category, pu_bk, pu_kl, List.replicate, pu_wi_1, pu_wi_2, nl_add, nl_ladd, nl_aa, nl_mul, nl_rmul, nl_mm, pu_qe0, pu_qe1, h5]
theorem r_rn2 {G : pu_M} (hx : pu_fx G) {st P : Nat} (hP : P < 200) (hst : st < 24) {v : Int32} (h5 : G.1 72 5 = nI P) (hv : G.1 72 (7528 + st) = v) (x2 x3 x4 : Int32) (t5 t6 t7 t8 : Option Value) : kX12_renumber_147 pu_r [some (.ref 71), some (.int (nI st)), some (.int x2), some (.int x3), some (.int x4), t5, t6, t7, t8] [] G = pu_r 477 [some (.ref 71), some (.int (nI st)), some (.int x2), some (.int x3), some (.int x4), some (.int (nI P)), some (.int 0), t7, t8] [] (pu_wi (pu_wi (py_rp G P (G.1 72 0) x3 (nI st) (-1) (-1) (-1)) 72 (28752 + 7 * P + 6) v) 72 (7528 + st) x2) := by
  have ep := r_paper hx P h5 hP x3 (nI st) (-1) (-1) (-1)
  obtain ⟨A, hA⟩ : ∃ A, py_rp G P (G.1 72 0) x3 (nI st) (-1) (-1) (-1) = A := ⟨_, rfl⟩
  have hxA : pu_fx A := by rw [← hA]; exact hx
  have av : A.1 72 (7528 + st) = v := by rw [← hA, py_rp_o (by omega) (by omega)]; exact hv
  rw [hA] at ep ⊢
  have F0 := fx_71_0 hxA
  obtain ⟨B, hB⟩ : ∃ B, pu_wi A 72 (28752 + 7 * P + 6) v = B := ⟨_, rfl⟩
  have F1 : B.2.2.1 71 0 = some 72 := by rw [← hB]; exact F0
  rw [hB]
  obtain ⟨C, hC⟩ : ∃ C, pu_wi B 72 (7528 + st) x2 = C := ⟨_, rfl⟩
  rw [hC]
  simp [bX12_renumber_147, a_ai, a_ald, a_cv, a_gr, a_iadd, a_ild, a_imul, a_ist, a_push, a_wi, fx_71_0 hx, sh_71, sh_72, pu_rv, pu_as, Value.category, pu_bk, pu_kl, List.replicate, pu_wi_1, pu_wi_2, nl_add, nl_ladd, nl_aa, nl_mul, nl_rmul, nl_mm, pu_qe0, pu_qe1, ep, F0, hP, hst, av, hB]
  all_goals try simp (maxSteps := 400000) (disch := omega) [nl_tle, nl_fle, nl_tlt, nl_flt, nl_teq, nl_feq, nl_sub, nl_ss, nl_lt, nl_llt, nl_ltt, nl_le, nl_lle, nl_lee, nl_eq, nl_leq, nl_ee, nl_div, nl_rem, nl_cl, nl_n1, nl_n2, nl_n3, nl_n4, nl_add, nl_ladd, nl_aa, nl_mul, nl_rmul, nl_mm, pu_wi_1, pu_wi_2, bX12_renumber_147, a_ai, a_ald, a_cv, a_gr, a_iadd, a_ild, a_imul, a_ist, a_push, a_wi, fx_71_0 hx, sh_71, sh_72, pu_rv, pu_as, Value.category, pu_bk, pu_kl, pu_qe0, pu_qe1, ep, F0, hP, hst, av, hB]
  all_goals try simp [bX12_renumber_147, a_ai, a_ald, a_cv, a_gr, a_iadd, a_ild, a_imul, a_ist, a_push, a_wi, fx_71_0 hx, sh_71, sh_72, pu_rv, pu_as, Value.category, pu_bk, pu_kl, List.replicate, pu_wi_1, pu_wi_2, nl_add, nl_ladd, nl_aa, nl_mul, nl_rmul, nl_mm, pu_qe0, pu_qe1, ep, F0, hP, hst, av, hB]
  all_goals try simp (maxSteps := 400000) (disch := omega) [nl_tle, nl_fle, nl_tlt, nl_flt, nl_teq, nl_feq, nl_sub, nl_ss, nl_lt, nl_llt, nl_ltt, nl_le, nl_lle, nl_lee, nl_eq, nl_leq, nl_ee, nl_div, nl_rem, nl_cl, nl_n1, nl_n2, nl_n3, nl_n4, nl_add, nl_ladd, nl_aa, nl_mul, nl_rmul, nl_mm, pu_wi_1, pu_wi_2, bX12_renumber_147, a_ai, a_ald, a_cv, a_gr, a_iadd, a_ild, a_imul, a_ist, a_push, a_wi, fx_71_0 hx, sh_71, sh_72, pu_rv, pu_as, Value.category, pu_bk, pu_kl, pu_qe0, pu_qe1, ep, F0, hP, hst, av, hB]
  all_goals try simp [bX12_renumber_147, a_ai, a_ald, a_cv, a_gr, a_iadd, a_ild, a_imul, a_ist, a_push, a_wi, fx_71_0 hx, sh_71, sh_72, pu_rv, pu_as, Value.category, pu_bk, pu_kl, List.replicate, pu_wi_1, pu_wi_2, nl_add, nl_ladd, nl_aa, nl_mul, nl_rmul, nl_mm, pu_qe0, pu_qe1, ep, F0, hP, hst, av, hB]
  all_goals try simp (maxSteps := 400000) (disch := omega) [nl_tle, nl_fle, nl_tlt, nl_flt, nl_teq, nl_feq, nl_sub, nl_ss, nl_lt, nl_llt, nl_ltt, nl_le, nl_lle, nl_lee, nl_eq, nl_leq, nl_ee, nl_div, nl_rem, nl_cl, nl_n1, nl_n2, nl_n3, nl_n4, nl_add, nl_ladd, nl_aa, nl_mul, nl_rmul, nl_mm, pu_wi_1, pu_wi_2, bX12_renumber_147, a_ai, a_ald, a_cv, a_gr, a_iadd, a_ild, a_imul, a_ist, a_push, a_wi, fx_71_0 hx, sh_71, sh_72, pu_rv, pu_as, Value.category, pu_bk, pu_kl, pu_qe0, pu_qe1, ep, F0, hP, hst, av, hB]
  all_goals try simp [bX12_renumber_147, a_ai, a_ald, a_cv, a_gr, a_iadd, a_ild, a_imul, a_ist, a_push, a_wi, fx_71_0 hx, sh_71, sh_72, pu_rv, pu_as, Value.category, pu_bk, pu_kl, List.replicate, pu_wi_1, pu_wi_2, nl_add, nl_ladd, nl_aa, nl_mul, nl_rmul, nl_mm, pu_qe0, pu_qe1, ep, F0, hP, hst, av, hB]
  simp [bX12_renumber_185, a_ald, a_gr, a_iadd, a_ild, a_ist, a_push, a_wi, sh_71, sh_72, pu_rv, pu_as, Value.category, pu_bk, pu_kl, List.replicate, pu_wi_1, pu_wi_2, nl_add, nl_ladd, nl_aa, nl_mul, nl_rmul, nl_mm, pu_qe0, pu_qe1, F1, sh_71, sh_72, hst, hC]
  all_goals try simp (maxSteps := 400000) (disch := omega) [nl_tle, nl_fle, nl_tlt, nl_flt, nl_teq, nl_feq, nl_sub, nl_ss, nl_lt, nl_llt, nl_ltt, nl_le, nl_lle, nl_lee, nl_eq, nl_leq, nl_ee, nl_div, nl_rem, nl_cl, nl_n1, nl_n2, nl_n3, nl_n4, nl_add, nl_ladd, nl_aa, nl_mul, nl_rmul, nl_mm, pu_wi_1, pu_wi_2, bX12_renumber_185, a_ald, a_gr, a_iadd, a_ild, a_ist, a_push, a_wi, sh_71, sh_72, pu_rv, pu_as, Value.category, pu_bk, pu_kl, pu_qe0, pu_qe1, F1, sh_71, sh_72, hst, hC]
  all_goals try simp [bX12_renumber_185, a_ald, a_gr, a_iadd, a_ild, a_ist, a_push, a_wi, sh_71, sh_72, pu_rv, pu_as, Value.category, pu_bk, pu_kl, List.replicate, pu_wi_1, pu_wi_2, nl_add, nl_ladd, nl_aa, nl_mul, nl_rmul, nl_mm, pu_qe0, pu_qe1, F1, sh_71, sh_72, hst, hC]
  all_goals try simp (maxSteps := 400000) (disch := omega) [nl_tle, nl_fle, nl_tlt, nl_flt, nl_teq, nl_feq, nl_sub, nl_ss, nl_lt, nl_llt, nl_ltt, nl_le, nl_lle, nl_lee, nl_eq, nl_leq, nl_ee, nl_div, nl_rem, nl_cl, nl_n1, nl_n2, nl_n3, nl_n4, nl_add, nl_ladd, nl_aa, nl_mul, nl_rmul, nl_mm, pu_wi_1, pu_wi_2, bX12_renumber_185, a_ald, a_gr, a_iadd, a_ild, a_ist, a_push, a_wi, sh_71, sh_72, pu_rv, pu_as, Value.category, pu_bk, pu_kl, pu_qe0, pu_qe1, F1, sh_71, sh_72, hst, hC]
  all_goals try simp [bX12_renumber_185, a_ald, a_gr, a_iadd, a_ild, a_ist, a_push, a_wi, sh_71, sh_72, pu_rv, pu_as, Value.category, pu_bk, pu_kl, List.replicate, pu_wi_1, pu_wi_2, nl_add, nl_ladd, nl_aa, nl_mul, nl_rmul, nl_mm, pu_qe0, pu_qe1, F1, sh_71, sh_72, hst, hC]
  all_goals try simp (maxSteps := 400000) (disch := omega) [nl_tle, nl_fle, nl_tlt, nl_flt, nl_teq, nl_feq, nl_sub, nl_ss, nl_lt, nl_llt, nl_ltt, nl_le, nl_lle, nl_lee, nl_eq, nl_leq, nl_ee, nl_div, nl_rem, nl_cl, nl_n1, nl_n2, nl_n3, nl_n4, nl_add, nl_ladd, nl_aa, nl_mul, nl_rmul, nl_mm, pu_wi_1, pu_wi_2, bX12_renumber_185, a_ald, a_gr, a_iadd, a_ild, a_ist, a_push, a_wi, sh_71, sh_72, pu_rv, pu_as, Value.category, pu_bk, pu_kl, pu_qe0, pu_qe1, F1, sh_71, sh_72, hst, hC]
  all_goals try simp [bX12_renumber_185, a_ald, a_gr, a_iadd, a_ild, a_ist, a_push, a_wi, sh_71, sh_72, pu_rv, pu_as, Value.category, pu_bk, pu_kl, List.replicate, pu_wi_1, pu_wi_2, nl_add, nl_ladd, nl_aa, nl_mul, nl_rmul, nl_mm, pu_qe0, pu_qe1, F1, sh_71, sh_72, hst, hC]
set_option maxRecDepth 8000 in
theorem op_renumber (x r f : Int32) : pu_op pu_Inv 114 297 [.int x, .int r, .int f] := by
  intro M h
  have hx := h.1
  have hI := pu_ag5 M
  have hS : pu_St (pu_si M 5) (pu_sj M 5) (M.1 72) := h.2.2.2.1
  have hr := hS.2
  have hw := hS.1
  have bK := wx_bK hw
  have bP := wx_bP hw
  have bU := wx_bU hw
  have e1 := c_isStreet hx hI hw x
  have e2 := r_isStreet hx hr x
  have e3 := c_isRule r M
  have e5 := c_isDay f M
  have e6 := r_isDay f M
  by_cases hd : ¬ x < 0 ∧ x < nI (cK (pu_si M 5))
  rotate_left
  · rw [pu_q0 hd] at e1 e2
    refine ⟨-1, M, M, ?_, ?_, h⟩
    · rw [qX11_renumber]
      simp [a_ent, bX11_renumber_0, a_ald, a_cv, a_gr, a_ifne, a_ild, a_iret, a_push, ag_25 hI, fx_0_2 hx, fx_5_3 hx, sh_0, sh_25, sh_5, pu_rv, pu_as, Value.category, pu_bk, pu_kl, List.replicate, pu_wi_1, pu_wi_2, nl_add, nl_ladd, nl_aa, nl_mul, nl_rmul, nl_mm, pu_qe0, pu_qe1, e1]
      all_goals try simp (maxSteps := 400000) (disch := omega) [nl_tle, nl_fle, nl_tlt, nl_flt, nl_teq, nl_feq, nl_sub, nl_ss, nl_lt, nl_llt, nl_ltt, nl_le, nl_lle, nl_lee, nl_eq, nl_leq, nl_ee, nl_div, nl_rem, nl_cl, nl_n1, nl_n2, nl_n3, nl_n4, nl_add, nl_ladd, nl_aa, nl_mul, nl_rmul, nl_mm, pu_wi_1, pu_wi_2, bX11_renumber_0, a_ald, a_cv, a_gr, a_ifne, a_ild, a_iret, a_push, ag_25 hI, fx_0_2 hx, fx_5_3 hx, sh_0, sh_25, sh_5, pu_rv, pu_as, Value.category, pu_bk, pu_kl, pu_qe0, pu_qe1, e1]
      all_goals try simp [bX11_renumber_0, a_ald, a_cv, a_gr, a_ifne, a_ild, a_iret, a_push, ag_25 hI, fx_0_2 hx, fx_5_3 hx, sh_0, sh_25, sh_5, pu_rv, pu_as, Value.category, pu_bk, pu_kl, List.replicate, pu_wi_1, pu_wi_2, nl_add, nl_ladd, nl_aa, nl_mul, nl_rmul, nl_mm, pu_qe0, pu_qe1, e1]
      all_goals try simp (maxSteps := 400000) (disch := omega) [nl_tle, nl_fle, nl_tlt, nl_flt, nl_teq, nl_feq, nl_sub, nl_ss, nl_lt, nl_llt, nl_ltt, nl_le, nl_lle, nl_lee, nl_eq, nl_leq, nl_ee, nl_div, nl_rem, nl_cl, nl_n1, nl_n2, nl_n3, nl_n4, nl_add, nl_ladd, nl_aa, nl_mul, nl_rmul, nl_mm, pu_wi_1, pu_wi_2, bX11_renumber_0, a_ald, a_cv, a_gr, a_ifne, a_ild, a_iret, a_push, ag_25 hI, fx_0_2 hx, fx_5_3 hx, sh_0, sh_25, sh_5, pu_rv, pu_as, Value.category, pu_bk, pu_kl, pu_qe0, pu_qe1, e1]
      all_goals try simp [bX11_renumber_0, a_ald, a_cv, a_gr, a_ifne, a_ild, a_iret, a_push, ag_25 hI, fx_0_2 hx, fx_5_3 hx, sh_0, sh_25, sh_5, pu_rv, pu_as, Value.category, pu_bk, pu_kl, List.replicate, pu_wi_1, pu_wi_2, nl_add, nl_ladd, nl_aa, nl_mul, nl_rmul, nl_mm, pu_qe0, pu_qe1, e1]
      all_goals try simp (maxSteps := 400000) (disch := omega) [nl_tle, nl_fle, nl_tlt, nl_flt, nl_teq, nl_feq, nl_sub, nl_ss, nl_lt, nl_llt, nl_ltt, nl_le, nl_lle, nl_lee, nl_eq, nl_leq, nl_ee, nl_div, nl_rem, nl_cl, nl_n1, nl_n2, nl_n3, nl_n4, nl_add, nl_ladd, nl_aa, nl_mul, nl_rmul, nl_mm, pu_wi_1, pu_wi_2, bX11_renumber_0, a_ald, a_cv, a_gr, a_ifne, a_ild, a_iret, a_push, ag_25 hI, fx_0_2 hx, fx_5_3 hx, sh_0, sh_25, sh_5, pu_rv, pu_as, Value.category, pu_bk, pu_kl, pu_qe0, pu_qe1, e1]
      all_goals try simp [bX11_renumber_0, a_ald, a_cv, a_gr, a_ifne, a_ild, a_iret, a_push, ag_25 hI, fx_0_2 hx, fx_5_3 hx, sh_0, sh_25, sh_5, pu_rv, pu_as, Value.category, pu_bk, pu_kl, List.replicate, pu_wi_1, pu_wi_2, nl_add, nl_ladd, nl_aa, nl_mul, nl_rmul, nl_mm, pu_qe0, pu_qe1, e1]
    · rw [qX12_renumber]
      simp [a_ent, bX12_renumber_0, a_ald, a_cv, a_ifne, a_ild, a_iret, a_push, sh_71, pu_rv, pu_as, Value.category, pu_bk, pu_kl, List.replicate, pu_wi_1, pu_wi_2, nl_add, nl_ladd, nl_aa, nl_mul, nl_rmul, nl_mm, pu_qe0, pu_qe1, e2]
      all_goals try simp (maxSteps := 400000) (disch := omega) [nl_tle, nl_fle, nl_tlt, nl_flt, nl_teq, nl_feq, nl_sub, nl_ss, nl_lt, nl_llt, nl_ltt, nl_le, nl_lle, nl_lee, nl_eq, nl_leq, nl_ee, nl_div, nl_rem, nl_cl, nl_n1, nl_n2, nl_n3, nl_n4, nl_add, nl_ladd, nl_aa, nl_mul, nl_rmul, nl_mm, pu_wi_1, pu_wi_2, bX12_renumber_0, a_ald, a_cv, a_ifne, a_ild, a_iret, a_push, sh_71, pu_rv, pu_as, Value.category, pu_bk, pu_kl, pu_qe0, pu_qe1, e2]
      all_goals try simp [bX12_renumber_0, a_ald, a_cv, a_ifne, a_ild, a_iret, a_push, sh_71, pu_rv, pu_as, Value.category, pu_bk, pu_kl, List.replicate, pu_wi_1, pu_wi_2, nl_add, nl_ladd, nl_aa, nl_mul, nl_rmul, nl_mm, pu_qe0, pu_qe1, e2]
      all_goals try simp (maxSteps := 400000) (disch := omega) [nl_tle, nl_fle, nl_tlt, nl_flt, nl_teq, nl_feq, nl_sub, nl_ss, nl_lt, nl_llt, nl_ltt, nl_le, nl_lle, nl_lee, nl_eq, nl_leq, nl_ee, nl_div, nl_rem, nl_cl, nl_n1, nl_n2, nl_n3, nl_n4, nl_add, nl_ladd, nl_aa, nl_mul, nl_rmul, nl_mm, pu_wi_1, pu_wi_2, bX12_renumber_0, a_ald, a_cv, a_ifne, a_ild, a_iret, a_push, sh_71, pu_rv, pu_as, Value.category, pu_bk, pu_kl, pu_qe0, pu_qe1, e2]
      all_goals try simp [bX12_renumber_0, a_ald, a_cv, a_ifne, a_ild, a_iret, a_push, sh_71, pu_rv, pu_as, Value.category, pu_bk, pu_kl, List.replicate, pu_wi_1, pu_wi_2, nl_add, nl_ladd, nl_aa, nl_mul, nl_rmul, nl_mm, pu_qe0, pu_qe1, e2]
      all_goals try simp (maxSteps := 400000) (disch := omega) [nl_tle, nl_fle, nl_tlt, nl_flt, nl_teq, nl_feq, nl_sub, nl_ss, nl_lt, nl_llt, nl_ltt, nl_le, nl_lle, nl_lee, nl_eq, nl_leq, nl_ee, nl_div, nl_rem, nl_cl, nl_n1, nl_n2, nl_n3, nl_n4, nl_add, nl_ladd, nl_aa, nl_mul, nl_rmul, nl_mm, pu_wi_1, pu_wi_2, bX12_renumber_0, a_ald, a_cv, a_ifne, a_ild, a_iret, a_push, sh_71, pu_rv, pu_as, Value.category, pu_bk, pu_kl, pu_qe0, pu_qe1, e2]
      all_goals try simp [bX12_renumber_0, a_ald, a_cv, a_ifne, a_ild, a_iret, a_push, sh_71, pu_rv, pu_as, Value.category, pu_bk, pu_kl, List.replicate, pu_wi_1, pu_wi_2, nl_add, nl_ladd, nl_aa, nl_mul, nl_rmul, nl_mm, pu_qe0, pu_qe1, e2]
  rw [pu_q1 hd] at e1 e2
  obtain ⟨st, st1, st2⟩ : ∃ st, st < cK (pu_si M 5) ∧ x = nI st := by
    have q1 := Int32.le_iff_toInt_le.mp (Int32.not_lt.mp hd.1)
    have q2 := Int32.lt_iff_toInt_lt.mp hd.2
    rw [nl_n0 (a := cK (pu_si M 5)) (by omega)] at q2
    have z0 : (0 : Int32).toInt = 0 := by decide
    have := pu_on (x := x) (n := cK (pu_si M 5)) ⟨by omega, q2⟩
    exact ⟨_, this.2, this.1⟩
  by_cases h2 : (¬ r < 0 ∧ ¬ 3 < r) ∧ (¬ f < 0 ∧ ¬ 109574 < f)
  rotate_left
  · refine ⟨-2, M, M, ?_, ?_, h⟩
    · by_cases c1 : ¬ r < 0 ∧ ¬ 3 < r
      · rw [pu_q1 c1] at e3
        rw [pu_q0 (fun z => h2 ⟨c1, z⟩)] at e5
        rw [qX11_renumber]
        simp [a_ent, bX11_renumber_0, bX11_renumber_16, bX11_renumber_30, a_ald, a_cs, a_cv, a_gr, a_ifeq, a_ifne, a_ild, a_iret, a_push, ag_25 hI, fx_0_2 hx, fx_5_3 hx, sh_0, sh_25, sh_5, pu_rv, pu_as, Value.category, pu_bk, pu_kl, List.replicate, pu_wi_1, pu_wi_2, nl_add, nl_ladd, nl_aa, nl_mul, nl_rmul, nl_mm, pu_qe0, pu_qe1, e1, e3, e5]
        all_goals try simp (maxSteps := 400000) (disch := omega) [nl_tle, nl_fle, nl_tlt, nl_flt, nl_teq, nl_feq, nl_sub, nl_ss, nl_lt, nl_llt, nl_ltt, nl_le, nl_lle, nl_lee, nl_eq, nl_leq, nl_ee, nl_div, nl_rem, nl_cl, nl_n1, nl_n2, nl_n3, nl_n4, nl_add, nl_ladd, nl_aa, nl_mul, nl_rmul, nl_mm, pu_wi_1, pu_wi_2, bX11_renumber_0, bX11_renumber_16, bX11_renumber_30, a_ald, a_cs, a_cv, a_gr, a_ifeq, a_ifne, a_ild, a_iret, a_push, ag_25 hI, fx_0_2 hx, fx_5_3 hx, sh_0, sh_25, sh_5, pu_rv, pu_as, Value.category, pu_bk, pu_kl, pu_qe0, pu_qe1, e1, e3, e5]
        all_goals try simp [bX11_renumber_0, bX11_renumber_16, bX11_renumber_30, a_ald, a_cs, a_cv, a_gr, a_ifeq, a_ifne, a_ild, a_iret, a_push, ag_25 hI, fx_0_2 hx, fx_5_3 hx, sh_0, sh_25, sh_5, pu_rv, pu_as, Value.category, pu_bk, pu_kl, List.replicate, pu_wi_1, pu_wi_2, nl_add, nl_ladd, nl_aa, nl_mul, nl_rmul, nl_mm, pu_qe0, pu_qe1, e1, e3, e5]
        all_goals try simp (maxSteps := 400000) (disch := omega) [nl_tle, nl_fle, nl_tlt, nl_flt, nl_teq, nl_feq, nl_sub, nl_ss, nl_lt, nl_llt, nl_ltt, nl_le, nl_lle, nl_lee, nl_eq, nl_leq, nl_ee, nl_div, nl_rem, nl_cl, nl_n1, nl_n2, nl_n3, nl_n4, nl_add, nl_ladd, nl_aa, nl_mul, nl_rmul, nl_mm, pu_wi_1, pu_wi_2, bX11_renumber_0, bX11_renumber_16, bX11_renumber_30, a_ald, a_cs, a_cv, a_gr, a_ifeq, a_ifne, a_ild, a_iret, a_push, ag_25 hI, fx_0_2 hx, fx_5_3 hx, sh_0, sh_25, sh_5, pu_rv, pu_as, Value.category, pu_bk, pu_kl, pu_qe0, pu_qe1, e1, e3, e5]
        all_goals try simp [bX11_renumber_0, bX11_renumber_16, bX11_renumber_30, a_ald, a_cs, a_cv, a_gr, a_ifeq, a_ifne, a_ild, a_iret, a_push, ag_25 hI, fx_0_2 hx, fx_5_3 hx, sh_0, sh_25, sh_5, pu_rv, pu_as, Value.category, pu_bk, pu_kl, List.replicate, pu_wi_1, pu_wi_2, nl_add, nl_ladd, nl_aa, nl_mul, nl_rmul, nl_mm, pu_qe0, pu_qe1, e1, e3, e5]
        all_goals try simp (maxSteps := 400000) (disch := omega) [nl_tle, nl_fle, nl_tlt, nl_flt, nl_teq, nl_feq, nl_sub, nl_ss, nl_lt, nl_llt, nl_ltt, nl_le, nl_lle, nl_lee, nl_eq, nl_leq, nl_ee, nl_div, nl_rem, nl_cl, nl_n1, nl_n2, nl_n3, nl_n4, nl_add, nl_ladd, nl_aa, nl_mul, nl_rmul, nl_mm, pu_wi_1, pu_wi_2, bX11_renumber_0, bX11_renumber_16, bX11_renumber_30, a_ald, a_cs, a_cv, a_gr, a_ifeq, a_ifne, a_ild, a_iret, a_push, ag_25 hI, fx_0_2 hx, fx_5_3 hx, sh_0, sh_25, sh_5, pu_rv, pu_as, Value.category, pu_bk, pu_kl, pu_qe0, pu_qe1, e1, e3, e5]
        all_goals try simp [bX11_renumber_0, bX11_renumber_16, bX11_renumber_30, a_ald, a_cs, a_cv, a_gr, a_ifeq, a_ifne, a_ild, a_iret, a_push, ag_25 hI, fx_0_2 hx, fx_5_3 hx, sh_0, sh_25, sh_5, pu_rv, pu_as, Value.category, pu_bk, pu_kl, List.replicate, pu_wi_1, pu_wi_2, nl_add, nl_ladd, nl_aa, nl_mul, nl_rmul, nl_mm, pu_qe0, pu_qe1, e1, e3, e5]
      · rw [pu_q0 c1] at e3
        rw [qX11_renumber]
        simp [a_ent, bX11_renumber_0, bX11_renumber_16, bX11_renumber_30, a_ald, a_cs, a_cv, a_gr, a_ifeq, a_ifne, a_ild, a_iret, a_push, ag_25 hI, fx_0_2 hx, fx_5_3 hx, sh_0, sh_25, sh_5, pu_rv, pu_as, Value.category, pu_bk, pu_kl, List.replicate, pu_wi_1, pu_wi_2, nl_add, nl_ladd, nl_aa, nl_mul, nl_rmul, nl_mm, pu_qe0, pu_qe1, e1, e3]
        all_goals try simp (maxSteps := 400000) (disch := omega) [nl_tle, nl_fle, nl_tlt, nl_flt, nl_teq, nl_feq, nl_sub, nl_ss, nl_lt, nl_llt, nl_ltt, nl_le, nl_lle, nl_lee, nl_eq, nl_leq, nl_ee, nl_div, nl_rem, nl_cl, nl_n1, nl_n2, nl_n3, nl_n4, nl_add, nl_ladd, nl_aa, nl_mul, nl_rmul, nl_mm, pu_wi_1, pu_wi_2, bX11_renumber_0, bX11_renumber_16, bX11_renumber_30, a_ald, a_cs, a_cv, a_gr, a_ifeq, a_ifne, a_ild, a_iret, a_push, ag_25 hI, fx_0_2 hx, fx_5_3 hx, sh_0, sh_25, sh_5, pu_rv, pu_as, Value.category, pu_bk, pu_kl, pu_qe0, pu_qe1, e1, e3]
        all_goals try simp [bX11_renumber_0, bX11_renumber_16, bX11_renumber_30, a_ald, a_cs, a_cv, a_gr, a_ifeq, a_ifne, a_ild, a_iret, a_push, ag_25 hI, fx_0_2 hx, fx_5_3 hx, sh_0, sh_25, sh_5, pu_rv, pu_as, Value.category, pu_bk, pu_kl, List.replicate, pu_wi_1, pu_wi_2, nl_add, nl_ladd, nl_aa, nl_mul, nl_rmul, nl_mm, pu_qe0, pu_qe1, e1, e3]
        all_goals try simp (maxSteps := 400000) (disch := omega) [nl_tle, nl_fle, nl_tlt, nl_flt, nl_teq, nl_feq, nl_sub, nl_ss, nl_lt, nl_llt, nl_ltt, nl_le, nl_lle, nl_lee, nl_eq, nl_leq, nl_ee, nl_div, nl_rem, nl_cl, nl_n1, nl_n2, nl_n3, nl_n4, nl_add, nl_ladd, nl_aa, nl_mul, nl_rmul, nl_mm, pu_wi_1, pu_wi_2, bX11_renumber_0, bX11_renumber_16, bX11_renumber_30, a_ald, a_cs, a_cv, a_gr, a_ifeq, a_ifne, a_ild, a_iret, a_push, ag_25 hI, fx_0_2 hx, fx_5_3 hx, sh_0, sh_25, sh_5, pu_rv, pu_as, Value.category, pu_bk, pu_kl, pu_qe0, pu_qe1, e1, e3]
        all_goals try simp [bX11_renumber_0, bX11_renumber_16, bX11_renumber_30, a_ald, a_cs, a_cv, a_gr, a_ifeq, a_ifne, a_ild, a_iret, a_push, ag_25 hI, fx_0_2 hx, fx_5_3 hx, sh_0, sh_25, sh_5, pu_rv, pu_as, Value.category, pu_bk, pu_kl, List.replicate, pu_wi_1, pu_wi_2, nl_add, nl_ladd, nl_aa, nl_mul, nl_rmul, nl_mm, pu_qe0, pu_qe1, e1, e3]
        all_goals try simp (maxSteps := 400000) (disch := omega) [nl_tle, nl_fle, nl_tlt, nl_flt, nl_teq, nl_feq, nl_sub, nl_ss, nl_lt, nl_llt, nl_ltt, nl_le, nl_lle, nl_lee, nl_eq, nl_leq, nl_ee, nl_div, nl_rem, nl_cl, nl_n1, nl_n2, nl_n3, nl_n4, nl_add, nl_ladd, nl_aa, nl_mul, nl_rmul, nl_mm, pu_wi_1, pu_wi_2, bX11_renumber_0, bX11_renumber_16, bX11_renumber_30, a_ald, a_cs, a_cv, a_gr, a_ifeq, a_ifne, a_ild, a_iret, a_push, ag_25 hI, fx_0_2 hx, fx_5_3 hx, sh_0, sh_25, sh_5, pu_rv, pu_as, Value.category, pu_bk, pu_kl, pu_qe0, pu_qe1, e1, e3]
        all_goals try simp [bX11_renumber_0, bX11_renumber_16, bX11_renumber_30, a_ald, a_cs, a_cv, a_gr, a_ifeq, a_ifne, a_ild, a_iret, a_push, ag_25 hI, fx_0_2 hx, fx_5_3 hx, sh_0, sh_25, sh_5, pu_rv, pu_as, Value.category, pu_bk, pu_kl, List.replicate, pu_wi_1, pu_wi_2, nl_add, nl_ladd, nl_aa, nl_mul, nl_rmul, nl_mm, pu_qe0, pu_qe1, e1, e3]
    · by_cases c1 : r < 0
      · rw [qX12_renumber]
        simp [a_ent, bX12_renumber_0, bX12_renumber_10, bX12_renumber_26, a_ald, a_cs, a_cv, a_icgt, a_iflt, a_ifne, a_ild, a_iret, a_push, sh_71, pu_rv, pu_as, Value.category, pu_bk, pu_kl, List.replicate, pu_wi_1, pu_wi_2, nl_add, nl_ladd, nl_aa, nl_mul, nl_rmul, nl_mm, pu_qe0, pu_qe1, e2, c1]
        all_goals try simp (maxSteps := 400000) (disch := omega) [nl_tle, nl_fle, nl_tlt, nl_flt, nl_teq, nl_feq, nl_sub, nl_ss, nl_lt, nl_llt, nl_ltt, nl_le, nl_lle, nl_lee, nl_eq, nl_leq, nl_ee, nl_div, nl_rem, nl_cl, nl_n1, nl_n2, nl_n3, nl_n4, nl_add, nl_ladd, nl_aa, nl_mul, nl_rmul, nl_mm, pu_wi_1, pu_wi_2, bX12_renumber_0, bX12_renumber_10, bX12_renumber_26, a_ald, a_cs, a_cv, a_icgt, a_iflt, a_ifne, a_ild, a_iret, a_push, sh_71, pu_rv, pu_as, Value.category, pu_bk, pu_kl, pu_qe0, pu_qe1, e2, c1]
        all_goals try simp [bX12_renumber_0, bX12_renumber_10, bX12_renumber_26, a_ald, a_cs, a_cv, a_icgt, a_iflt, a_ifne, a_ild, a_iret, a_push, sh_71, pu_rv, pu_as, Value.category, pu_bk, pu_kl, List.replicate, pu_wi_1, pu_wi_2, nl_add, nl_ladd, nl_aa, nl_mul, nl_rmul, nl_mm, pu_qe0, pu_qe1, e2, c1]
        all_goals try simp (maxSteps := 400000) (disch := omega) [nl_tle, nl_fle, nl_tlt, nl_flt, nl_teq, nl_feq, nl_sub, nl_ss, nl_lt, nl_llt, nl_ltt, nl_le, nl_lle, nl_lee, nl_eq, nl_leq, nl_ee, nl_div, nl_rem, nl_cl, nl_n1, nl_n2, nl_n3, nl_n4, nl_add, nl_ladd, nl_aa, nl_mul, nl_rmul, nl_mm, pu_wi_1, pu_wi_2, bX12_renumber_0, bX12_renumber_10, bX12_renumber_26, a_ald, a_cs, a_cv, a_icgt, a_iflt, a_ifne, a_ild, a_iret, a_push, sh_71, pu_rv, pu_as, Value.category, pu_bk, pu_kl, pu_qe0, pu_qe1, e2, c1]
        all_goals try simp [bX12_renumber_0, bX12_renumber_10, bX12_renumber_26, a_ald, a_cs, a_cv, a_icgt, a_iflt, a_ifne, a_ild, a_iret, a_push, sh_71, pu_rv, pu_as, Value.category, pu_bk, pu_kl, List.replicate, pu_wi_1, pu_wi_2, nl_add, nl_ladd, nl_aa, nl_mul, nl_rmul, nl_mm, pu_qe0, pu_qe1, e2, c1]
        all_goals try simp (maxSteps := 400000) (disch := omega) [nl_tle, nl_fle, nl_tlt, nl_flt, nl_teq, nl_feq, nl_sub, nl_ss, nl_lt, nl_llt, nl_ltt, nl_le, nl_lle, nl_lee, nl_eq, nl_leq, nl_ee, nl_div, nl_rem, nl_cl, nl_n1, nl_n2, nl_n3, nl_n4, nl_add, nl_ladd, nl_aa, nl_mul, nl_rmul, nl_mm, pu_wi_1, pu_wi_2, bX12_renumber_0, bX12_renumber_10, bX12_renumber_26, a_ald, a_cs, a_cv, a_icgt, a_iflt, a_ifne, a_ild, a_iret, a_push, sh_71, pu_rv, pu_as, Value.category, pu_bk, pu_kl, pu_qe0, pu_qe1, e2, c1]
        all_goals try simp [bX12_renumber_0, bX12_renumber_10, bX12_renumber_26, a_ald, a_cs, a_cv, a_icgt, a_iflt, a_ifne, a_ild, a_iret, a_push, sh_71, pu_rv, pu_as, Value.category, pu_bk, pu_kl, List.replicate, pu_wi_1, pu_wi_2, nl_add, nl_ladd, nl_aa, nl_mul, nl_rmul, nl_mm, pu_qe0, pu_qe1, e2, c1]
      · by_cases c2 : 3 < r
        · have c2' := Int32.not_le.mpr c2
          rw [qX12_renumber]
          simp [a_ent, bX12_renumber_0, bX12_renumber_10, bX12_renumber_26, a_ald, a_cs, a_cv, a_icgt, a_iflt, a_ifne, a_ild, a_iret, a_push, sh_71, pu_rv, pu_as, Value.category, pu_bk, pu_kl, List.replicate, pu_wi_1, pu_wi_2, nl_add, nl_ladd, nl_aa, nl_mul, nl_rmul, nl_mm, pu_qe0, pu_qe1, e2, c1, c2, c2']
          all_goals try simp (maxSteps := 400000) (disch := omega) [nl_tle, nl_fle, nl_tlt, nl_flt, nl_teq, nl_feq, nl_sub, nl_ss, nl_lt, nl_llt, nl_ltt, nl_le, nl_lle, nl_lee, nl_eq, nl_leq, nl_ee, nl_div, nl_rem, nl_cl, nl_n1, nl_n2, nl_n3, nl_n4, nl_add, nl_ladd, nl_aa, nl_mul, nl_rmul, nl_mm, pu_wi_1, pu_wi_2, bX12_renumber_0, bX12_renumber_10, bX12_renumber_26, a_ald, a_cs, a_cv, a_icgt, a_iflt, a_ifne, a_ild, a_iret, a_push, sh_71, pu_rv, pu_as, Value.category, pu_bk, pu_kl, pu_qe0, pu_qe1, e2, c1, c2, c2']
          all_goals try simp [bX12_renumber_0, bX12_renumber_10, bX12_renumber_26, a_ald, a_cs, a_cv, a_icgt, a_iflt, a_ifne, a_ild, a_iret, a_push, sh_71, pu_rv, pu_as, Value.category, pu_bk, pu_kl, List.replicate, pu_wi_1, pu_wi_2, nl_add, nl_ladd, nl_aa, nl_mul, nl_rmul, nl_mm, pu_qe0, pu_qe1, e2, c1, c2, c2']
          all_goals try simp (maxSteps := 400000) (disch := omega) [nl_tle, nl_fle, nl_tlt, nl_flt, nl_teq, nl_feq, nl_sub, nl_ss, nl_lt, nl_llt, nl_ltt, nl_le, nl_lle, nl_lee, nl_eq, nl_leq, nl_ee, nl_div, nl_rem, nl_cl, nl_n1, nl_n2, nl_n3, nl_n4, nl_add, nl_ladd, nl_aa, nl_mul, nl_rmul, nl_mm, pu_wi_1, pu_wi_2, bX12_renumber_0, bX12_renumber_10, bX12_renumber_26, a_ald, a_cs, a_cv, a_icgt, a_iflt, a_ifne, a_ild, a_iret, a_push, sh_71, pu_rv, pu_as, Value.category, pu_bk, pu_kl, pu_qe0, pu_qe1, e2, c1, c2, c2']
          all_goals try simp [bX12_renumber_0, bX12_renumber_10, bX12_renumber_26, a_ald, a_cs, a_cv, a_icgt, a_iflt, a_ifne, a_ild, a_iret, a_push, sh_71, pu_rv, pu_as, Value.category, pu_bk, pu_kl, List.replicate, pu_wi_1, pu_wi_2, nl_add, nl_ladd, nl_aa, nl_mul, nl_rmul, nl_mm, pu_qe0, pu_qe1, e2, c1, c2, c2']
          all_goals try simp (maxSteps := 400000) (disch := omega) [nl_tle, nl_fle, nl_tlt, nl_flt, nl_teq, nl_feq, nl_sub, nl_ss, nl_lt, nl_llt, nl_ltt, nl_le, nl_lle, nl_lee, nl_eq, nl_leq, nl_ee, nl_div, nl_rem, nl_cl, nl_n1, nl_n2, nl_n3, nl_n4, nl_add, nl_ladd, nl_aa, nl_mul, nl_rmul, nl_mm, pu_wi_1, pu_wi_2, bX12_renumber_0, bX12_renumber_10, bX12_renumber_26, a_ald, a_cs, a_cv, a_icgt, a_iflt, a_ifne, a_ild, a_iret, a_push, sh_71, pu_rv, pu_as, Value.category, pu_bk, pu_kl, pu_qe0, pu_qe1, e2, c1, c2, c2']
          all_goals try simp [bX12_renumber_0, bX12_renumber_10, bX12_renumber_26, a_ald, a_cs, a_cv, a_icgt, a_iflt, a_ifne, a_ild, a_iret, a_push, sh_71, pu_rv, pu_as, Value.category, pu_bk, pu_kl, List.replicate, pu_wi_1, pu_wi_2, nl_add, nl_ladd, nl_aa, nl_mul, nl_rmul, nl_mm, pu_qe0, pu_qe1, e2, c1, c2, c2']
        · have c2' := Int32.not_lt.mp c2
          rw [pu_q0 (fun z => h2 ⟨⟨c1, c2⟩, z⟩)] at e6
          rw [qX12_renumber]
          simp [a_ent, bX12_renumber_0, bX12_renumber_10, bX12_renumber_26, a_ald, a_cs, a_cv, a_icgt, a_iflt, a_ifne, a_ild, a_iret, a_push, sh_71, pu_rv, pu_as, Value.category, pu_bk, pu_kl, List.replicate, pu_wi_1, pu_wi_2, nl_add, nl_ladd, nl_aa, nl_mul, nl_rmul, nl_mm, pu_qe0, pu_qe1, e2, c1, c2, c2', e6]
          all_goals try simp (maxSteps := 400000) (disch := omega) [nl_tle, nl_fle, nl_tlt, nl_flt, nl_teq, nl_feq, nl_sub, nl_ss, nl_lt, nl_llt, nl_ltt, nl_le, nl_lle, nl_lee, nl_eq, nl_leq, nl_ee, nl_div, nl_rem, nl_cl, nl_n1, nl_n2, nl_n3, nl_n4, nl_add, nl_ladd, nl_aa, nl_mul, nl_rmul, nl_mm, pu_wi_1, pu_wi_2, bX12_renumber_0, bX12_renumber_10, bX12_renumber_26, a_ald, a_cs, a_cv, a_icgt, a_iflt, a_ifne, a_ild, a_iret, a_push, sh_71, pu_rv, pu_as, Value.category, pu_bk, pu_kl, pu_qe0, pu_qe1, e2, c1, c2, c2', e6]
          all_goals try simp [bX12_renumber_0, bX12_renumber_10, bX12_renumber_26, a_ald, a_cs, a_cv, a_icgt, a_iflt, a_ifne, a_ild, a_iret, a_push, sh_71, pu_rv, pu_as, Value.category, pu_bk, pu_kl, List.replicate, pu_wi_1, pu_wi_2, nl_add, nl_ladd, nl_aa, nl_mul, nl_rmul, nl_mm, pu_qe0, pu_qe1, e2, c1, c2, c2', e6]
          all_goals try simp (maxSteps := 400000) (disch := omega) [nl_tle, nl_fle, nl_tlt, nl_flt, nl_teq, nl_feq, nl_sub, nl_ss, nl_lt, nl_llt, nl_ltt, nl_le, nl_lle, nl_lee, nl_eq, nl_leq, nl_ee, nl_div, nl_rem, nl_cl, nl_n1, nl_n2, nl_n3, nl_n4, nl_add, nl_ladd, nl_aa, nl_mul, nl_rmul, nl_mm, pu_wi_1, pu_wi_2, bX12_renumber_0, bX12_renumber_10, bX12_renumber_26, a_ald, a_cs, a_cv, a_icgt, a_iflt, a_ifne, a_ild, a_iret, a_push, sh_71, pu_rv, pu_as, Value.category, pu_bk, pu_kl, pu_qe0, pu_qe1, e2, c1, c2, c2', e6]
          all_goals try simp [bX12_renumber_0, bX12_renumber_10, bX12_renumber_26, a_ald, a_cs, a_cv, a_icgt, a_iflt, a_ifne, a_ild, a_iret, a_push, sh_71, pu_rv, pu_as, Value.category, pu_bk, pu_kl, List.replicate, pu_wi_1, pu_wi_2, nl_add, nl_ladd, nl_aa, nl_mul, nl_rmul, nl_mm, pu_qe0, pu_qe1, e2, c1, c2, c2', e6]
          all_goals try simp (maxSteps := 400000) (disch := omega) [nl_tle, nl_fle, nl_tlt, nl_flt, nl_teq, nl_feq, nl_sub, nl_ss, nl_lt, nl_llt, nl_ltt, nl_le, nl_lle, nl_lee, nl_eq, nl_leq, nl_ee, nl_div, nl_rem, nl_cl, nl_n1, nl_n2, nl_n3, nl_n4, nl_add, nl_ladd, nl_aa, nl_mul, nl_rmul, nl_mm, pu_wi_1, pu_wi_2, bX12_renumber_0, bX12_renumber_10, bX12_renumber_26, a_ald, a_cs, a_cv, a_icgt, a_iflt, a_ifne, a_ild, a_iret, a_push, sh_71, pu_rv, pu_as, Value.category, pu_bk, pu_kl, pu_qe0, pu_qe1, e2, c1, c2, c2', e6]
          all_goals try simp [bX12_renumber_0, bX12_renumber_10, bX12_renumber_26, a_ald, a_cs, a_cv, a_icgt, a_iflt, a_ifne, a_ild, a_iret, a_push, sh_71, pu_rv, pu_as, Value.category, pu_bk, pu_kl, List.replicate, pu_wi_1, pu_wi_2, nl_add, nl_ladd, nl_aa, nl_mul, nl_rmul, nl_mm, pu_qe0, pu_qe1, e2, c1, c2, c2', e6]
  obtain ⟨h3, hy⟩ := h2
  obtain ⟨c1, c2⟩ := id h3
  have c2' := Int32.not_lt.mp c2
  rw [pu_q1 h3] at e3
  rw [pu_q1 hy] at e5 e6
  obtain ⟨ru, ru1, ru2⟩ : ∃ ru, ru < 4 ∧ r = nI ru := by
    have q1 := Int32.le_iff_toInt_le.mp (Int32.not_lt.mp c1)
    have q2 := Int32.le_iff_toInt_le.mp c2'
    have z0 : (0 : Int32).toInt = 0 := by decide
    have z3 : (3 : Int32).toInt = 3 := by decide
    have := pu_on (x := r) (n := 4) ⟨by omega, by omega⟩
    exact ⟨_, this.2, this.1⟩
  have hf : 0 ≤ f.toInt ∧ f.toInt ≤ 109574 := by
    have q1 := Int32.le_iff_toInt_le.mp (Int32.not_lt.mp hy.1)
    have q2 := Int32.le_iff_toInt_le.mp (Int32.not_lt.mp hy.2)
    have z0 : (0 : Int32).toInt = 0 := by decide
    have z3 : (109574 : Int32).toInt = 109574 := by decide
    exact ⟨by omega, by omega⟩
  obtain ⟨k0, hk⟩ := pu_no_ex hw st1
  have e7 := c_earliestOn hx hI hw hk
  have y1 := pu_lat_ey (I := pu_si M 5) (nI st) (pu_si M 5 21 k0) f 0 hy.1
  -- the reference up to the numbers, from a memory with this row
  have R1 : ∀ Q : pu_M, pu_fx Q → Q.1 72 = M.1 72 → (pu_ey (pu_si M 5) (nI st) (pu_si M 5 21 k0) f → pu_r 297 [some (.ref 71), some (.int x), some (.int r), some (.int f)] [] Q = some (some (.int (-3)), Q)) ∧ (¬ pu_ey (pu_si M 5) (nI st) (pu_si M 5 21 k0) f → pu_r 297 [some (.ref 71), some (.int x), some (.int r), some (.int f)] [] Q = kX12_renumber_41 pu_r [some (.ref 71), some (.int x), some (.int r), some (.int f), none, none, none, none, none] [] Q) := fun Q q1 q2 => by
    have a2 := r_isStreet q1 (L := pu_sj M 5) (I := pu_si M 5) (by rw [q2]; exact hr) x
    rw [pu_q1 hd] at a2
    have a6 := r_isDay f Q
    rw [pu_q1 hy] at a6
    have a8 := r_isEarly q1 (L := pu_sj M 5) (I := pu_si M 5) (by rw [q2]; exact hr) hw hk f hy.1
    refine ⟨fun z => ?_, fun z => ?_⟩
    · rw [pu_q1 z, ← st2] at a8
      rw [qX12_renumber]
      simp [a_ent, bX12_renumber_0, bX12_renumber_10, bX12_renumber_26, bX12_renumber_29, a_ald, a_cs, a_cv, a_icgt, a_ifeq, a_iflt, a_ifne, a_ild, a_iret, a_push, sh_71, pu_rv, pu_as, Value.category, pu_bk, pu_kl, List.replicate, pu_wi_1, pu_wi_2, nl_add, nl_ladd, nl_aa, nl_mul, nl_rmul, nl_mm, pu_qe0, pu_qe1, a2, c1, c2, c2', a6, a8]
      all_goals try simp (maxSteps := 400000) (disch := omega) [nl_tle, nl_fle, nl_tlt, nl_flt, nl_teq, nl_feq, nl_sub, nl_ss, nl_lt, nl_llt, nl_ltt, nl_le, nl_lle, nl_lee, nl_eq, nl_leq, nl_ee, nl_div, nl_rem, nl_cl, nl_n1, nl_n2, nl_n3, nl_n4, nl_add, nl_ladd, nl_aa, nl_mul, nl_rmul, nl_mm, pu_wi_1, pu_wi_2, bX12_renumber_0, bX12_renumber_10, bX12_renumber_26, bX12_renumber_29, a_ald, a_cs, a_cv, a_icgt, a_ifeq, a_iflt, a_ifne, a_ild, a_iret, a_push, sh_71, pu_rv, pu_as, Value.category, pu_bk, pu_kl, pu_qe0, pu_qe1, a2, c1, c2, c2', a6, a8]
      all_goals try simp [bX12_renumber_0, bX12_renumber_10, bX12_renumber_26, bX12_renumber_29, a_ald, a_cs, a_cv, a_icgt, a_ifeq, a_iflt, a_ifne, a_ild, a_iret, a_push, sh_71, pu_rv, pu_as, Value.category, pu_bk, pu_kl, List.replicate, pu_wi_1, pu_wi_2, nl_add, nl_ladd, nl_aa, nl_mul, nl_rmul, nl_mm, pu_qe0, pu_qe1, a2, c1, c2, c2', a6, a8]
      all_goals try simp (maxSteps := 400000) (disch := omega) [nl_tle, nl_fle, nl_tlt, nl_flt, nl_teq, nl_feq, nl_sub, nl_ss, nl_lt, nl_llt, nl_ltt, nl_le, nl_lle, nl_lee, nl_eq, nl_leq, nl_ee, nl_div, nl_rem, nl_cl, nl_n1, nl_n2, nl_n3, nl_n4, nl_add, nl_ladd, nl_aa, nl_mul, nl_rmul, nl_mm, pu_wi_1, pu_wi_2, bX12_renumber_0, bX12_renumber_10, bX12_renumber_26, bX12_renumber_29, a_ald, a_cs, a_cv, a_icgt, a_ifeq, a_iflt, a_ifne, a_ild, a_iret, a_push, sh_71, pu_rv, pu_as, Value.category, pu_bk, pu_kl, pu_qe0, pu_qe1, a2, c1, c2, c2', a6, a8]
      all_goals try simp [bX12_renumber_0, bX12_renumber_10, bX12_renumber_26, bX12_renumber_29, a_ald, a_cs, a_cv, a_icgt, a_ifeq, a_iflt, a_ifne, a_ild, a_iret, a_push, sh_71, pu_rv, pu_as, Value.category, pu_bk, pu_kl, List.replicate, pu_wi_1, pu_wi_2, nl_add, nl_ladd, nl_aa, nl_mul, nl_rmul, nl_mm, pu_qe0, pu_qe1, a2, c1, c2, c2', a6, a8]
      all_goals try simp (maxSteps := 400000) (disch := omega) [nl_tle, nl_fle, nl_tlt, nl_flt, nl_teq, nl_feq, nl_sub, nl_ss, nl_lt, nl_llt, nl_ltt, nl_le, nl_lle, nl_lee, nl_eq, nl_leq, nl_ee, nl_div, nl_rem, nl_cl, nl_n1, nl_n2, nl_n3, nl_n4, nl_add, nl_ladd, nl_aa, nl_mul, nl_rmul, nl_mm, pu_wi_1, pu_wi_2, bX12_renumber_0, bX12_renumber_10, bX12_renumber_26, bX12_renumber_29, a_ald, a_cs, a_cv, a_icgt, a_ifeq, a_iflt, a_ifne, a_ild, a_iret, a_push, sh_71, pu_rv, pu_as, Value.category, pu_bk, pu_kl, pu_qe0, pu_qe1, a2, c1, c2, c2', a6, a8]
      all_goals try simp [bX12_renumber_0, bX12_renumber_10, bX12_renumber_26, bX12_renumber_29, a_ald, a_cs, a_cv, a_icgt, a_ifeq, a_iflt, a_ifne, a_ild, a_iret, a_push, sh_71, pu_rv, pu_as, Value.category, pu_bk, pu_kl, List.replicate, pu_wi_1, pu_wi_2, nl_add, nl_ladd, nl_aa, nl_mul, nl_rmul, nl_mm, pu_qe0, pu_qe1, a2, c1, c2, c2', a6, a8]
    · rw [pu_q0 z, ← st2] at a8
      rw [qX12_renumber]
      simp [a_ent, bX12_renumber_0, bX12_renumber_10, bX12_renumber_26, bX12_renumber_29, a_ald, a_cs, a_cv, a_icgt, a_ifeq, a_iflt, a_ifne, a_ild, a_iret, a_push, sh_71, pu_rv, pu_as, Value.category, pu_bk, pu_kl, List.replicate, pu_wi_1, pu_wi_2, nl_add, nl_ladd, nl_aa, nl_mul, nl_rmul, nl_mm, pu_qe0, pu_qe1, a2, c1, c2, c2', a6, a8]
      all_goals try simp (maxSteps := 400000) (disch := omega) [nl_tle, nl_fle, nl_tlt, nl_flt, nl_teq, nl_feq, nl_sub, nl_ss, nl_lt, nl_llt, nl_ltt, nl_le, nl_lle, nl_lee, nl_eq, nl_leq, nl_ee, nl_div, nl_rem, nl_cl, nl_n1, nl_n2, nl_n3, nl_n4, nl_add, nl_ladd, nl_aa, nl_mul, nl_rmul, nl_mm, pu_wi_1, pu_wi_2, bX12_renumber_0, bX12_renumber_10, bX12_renumber_26, bX12_renumber_29, a_ald, a_cs, a_cv, a_icgt, a_ifeq, a_iflt, a_ifne, a_ild, a_iret, a_push, sh_71, pu_rv, pu_as, Value.category, pu_bk, pu_kl, pu_qe0, pu_qe1, a2, c1, c2, c2', a6, a8]
      all_goals try simp [bX12_renumber_0, bX12_renumber_10, bX12_renumber_26, bX12_renumber_29, a_ald, a_cs, a_cv, a_icgt, a_ifeq, a_iflt, a_ifne, a_ild, a_iret, a_push, sh_71, pu_rv, pu_as, Value.category, pu_bk, pu_kl, List.replicate, pu_wi_1, pu_wi_2, nl_add, nl_ladd, nl_aa, nl_mul, nl_rmul, nl_mm, pu_qe0, pu_qe1, a2, c1, c2, c2', a6, a8]
      all_goals try simp (maxSteps := 400000) (disch := omega) [nl_tle, nl_fle, nl_tlt, nl_flt, nl_teq, nl_feq, nl_sub, nl_ss, nl_lt, nl_llt, nl_ltt, nl_le, nl_lle, nl_lee, nl_eq, nl_leq, nl_ee, nl_div, nl_rem, nl_cl, nl_n1, nl_n2, nl_n3, nl_n4, nl_add, nl_ladd, nl_aa, nl_mul, nl_rmul, nl_mm, pu_wi_1, pu_wi_2, bX12_renumber_0, bX12_renumber_10, bX12_renumber_26, bX12_renumber_29, a_ald, a_cs, a_cv, a_icgt, a_ifeq, a_iflt, a_ifne, a_ild, a_iret, a_push, sh_71, pu_rv, pu_as, Value.category, pu_bk, pu_kl, pu_qe0, pu_qe1, a2, c1, c2, c2', a6, a8]
      all_goals try simp [bX12_renumber_0, bX12_renumber_10, bX12_renumber_26, bX12_renumber_29, a_ald, a_cs, a_cv, a_icgt, a_ifeq, a_iflt, a_ifne, a_ild, a_iret, a_push, sh_71, pu_rv, pu_as, Value.category, pu_bk, pu_kl, List.replicate, pu_wi_1, pu_wi_2, nl_add, nl_ladd, nl_aa, nl_mul, nl_rmul, nl_mm, pu_qe0, pu_qe1, a2, c1, c2, c2', a6, a8]
      all_goals try simp (maxSteps := 400000) (disch := omega) [nl_tle, nl_fle, nl_tlt, nl_flt, nl_teq, nl_feq, nl_sub, nl_ss, nl_lt, nl_llt, nl_ltt, nl_le, nl_lle, nl_lee, nl_eq, nl_leq, nl_ee, nl_div, nl_rem, nl_cl, nl_n1, nl_n2, nl_n3, nl_n4, nl_add, nl_ladd, nl_aa, nl_mul, nl_rmul, nl_mm, pu_wi_1, pu_wi_2, bX12_renumber_0, bX12_renumber_10, bX12_renumber_26, bX12_renumber_29, a_ald, a_cs, a_cv, a_icgt, a_ifeq, a_iflt, a_ifne, a_ild, a_iret, a_push, sh_71, pu_rv, pu_as, Value.category, pu_bk, pu_kl, pu_qe0, pu_qe1, a2, c1, c2, c2', a6, a8]
      all_goals try simp [bX12_renumber_0, bX12_renumber_10, bX12_renumber_26, bX12_renumber_29, a_ald, a_cs, a_cv, a_icgt, a_ifeq, a_iflt, a_ifne, a_ild, a_iret, a_push, sh_71, pu_rv, pu_as, Value.category, pu_bk, pu_kl, List.replicate, pu_wi_1, pu_wi_2, nl_add, nl_ladd, nl_aa, nl_mul, nl_rmul, nl_mm, pu_qe0, pu_qe1, a2, c1, c2, c2', a6, a8]
  rw [← st2] at e7
  by_cases c9 : pu_ey (pu_si M 5) (nI st) (pu_si M 5 21 k0) f
  · have c9o := c9
    rw [← y1, ← st2] at c9
    have c9' := Int32.not_le.mpr c9
    refine ⟨-3, M, M, ?_, (R1 M hx rfl).1 c9o, h⟩
    rw [qX11_renumber]
    simp [a_ent, bX11_renumber_0, bX11_renumber_16, bX11_renumber_30, bX11_renumber_33, a_ald, a_cs, a_cv, a_gr, a_icge, a_ifeq, a_ifne, a_ild, a_iret, a_push, ag_25 hI, fx_0_2 hx, fx_5_3 hx, sh_0, sh_25, sh_5, pu_rv, pu_as, Value.category, pu_bk, pu_kl, List.replicate, pu_wi_1, pu_wi_2, nl_add, nl_ladd, nl_aa, nl_mul, nl_rmul, nl_mm, pu_qe0, pu_qe1, e1, e3, e5, e7, c9, c9', sh_5]
    all_goals try simp (maxSteps := 400000) (disch := omega) [nl_tle, nl_fle, nl_tlt, nl_flt, nl_teq, nl_feq, nl_sub, nl_ss, nl_lt, nl_llt, nl_ltt, nl_le, nl_lle, nl_lee, nl_eq, nl_leq, nl_ee, nl_div, nl_rem, nl_cl, nl_n1, nl_n2, nl_n3, nl_n4, nl_add, nl_ladd, nl_aa, nl_mul, nl_rmul, nl_mm, pu_wi_1, pu_wi_2, bX11_renumber_0, bX11_renumber_16, bX11_renumber_30, bX11_renumber_33, a_ald, a_cs, a_cv, a_gr, a_icge, a_ifeq, a_ifne, a_ild, a_iret, a_push, ag_25 hI, fx_0_2 hx, fx_5_3 hx, sh_0, sh_25, sh_5, pu_rv, pu_as, Value.category, pu_bk, pu_kl, pu_qe0, pu_qe1, e1, e3, e5, e7, c9, c9', sh_5]
    all_goals try simp [bX11_renumber_0, bX11_renumber_16, bX11_renumber_30, bX11_renumber_33, a_ald, a_cs, a_cv, a_gr, a_icge, a_ifeq, a_ifne, a_ild, a_iret, a_push, ag_25 hI, fx_0_2 hx, fx_5_3 hx, sh_0, sh_25, sh_5, pu_rv, pu_as, Value.category, pu_bk, pu_kl, List.replicate, pu_wi_1, pu_wi_2, nl_add, nl_ladd, nl_aa, nl_mul, nl_rmul, nl_mm, pu_qe0, pu_qe1, e1, e3, e5, e7, c9, c9', sh_5]
    all_goals try simp (maxSteps := 400000) (disch := omega) [nl_tle, nl_fle, nl_tlt, nl_flt, nl_teq, nl_feq, nl_sub, nl_ss, nl_lt, nl_llt, nl_ltt, nl_le, nl_lle, nl_lee, nl_eq, nl_leq, nl_ee, nl_div, nl_rem, nl_cl, nl_n1, nl_n2, nl_n3, nl_n4, nl_add, nl_ladd, nl_aa, nl_mul, nl_rmul, nl_mm, pu_wi_1, pu_wi_2, bX11_renumber_0, bX11_renumber_16, bX11_renumber_30, bX11_renumber_33, a_ald, a_cs, a_cv, a_gr, a_icge, a_ifeq, a_ifne, a_ild, a_iret, a_push, ag_25 hI, fx_0_2 hx, fx_5_3 hx, sh_0, sh_25, sh_5, pu_rv, pu_as, Value.category, pu_bk, pu_kl, pu_qe0, pu_qe1, e1, e3, e5, e7, c9, c9', sh_5]
    all_goals try simp [bX11_renumber_0, bX11_renumber_16, bX11_renumber_30, bX11_renumber_33, a_ald, a_cs, a_cv, a_gr, a_icge, a_ifeq, a_ifne, a_ild, a_iret, a_push, ag_25 hI, fx_0_2 hx, fx_5_3 hx, sh_0, sh_25, sh_5, pu_rv, pu_as, Value.category, pu_bk, pu_kl, List.replicate, pu_wi_1, pu_wi_2, nl_add, nl_ladd, nl_aa, nl_mul, nl_rmul, nl_mm, pu_qe0, pu_qe1, e1, e3, e5, e7, c9, c9', sh_5]
    all_goals try simp (maxSteps := 400000) (disch := omega) [nl_tle, nl_fle, nl_tlt, nl_flt, nl_teq, nl_feq, nl_sub, nl_ss, nl_lt, nl_llt, nl_ltt, nl_le, nl_lle, nl_lee, nl_eq, nl_leq, nl_ee, nl_div, nl_rem, nl_cl, nl_n1, nl_n2, nl_n3, nl_n4, nl_add, nl_ladd, nl_aa, nl_mul, nl_rmul, nl_mm, pu_wi_1, pu_wi_2, bX11_renumber_0, bX11_renumber_16, bX11_renumber_30, bX11_renumber_33, a_ald, a_cs, a_cv, a_gr, a_icge, a_ifeq, a_ifne, a_ild, a_iret, a_push, ag_25 hI, fx_0_2 hx, fx_5_3 hx, sh_0, sh_25, sh_5, pu_rv, pu_as, Value.category, pu_bk, pu_kl, pu_qe0, pu_qe1, e1, e3, e5, e7, c9, c9', sh_5]
    all_goals try simp [bX11_renumber_0, bX11_renumber_16, bX11_renumber_30, bX11_renumber_33, a_ald, a_cs, a_cv, a_gr, a_icge, a_ifeq, a_ifne, a_ild, a_iret, a_push, ag_25 hI, fx_0_2 hx, fx_5_3 hx, sh_0, sh_25, sh_5, pu_rv, pu_as, Value.category, pu_bk, pu_kl, List.replicate, pu_wi_1, pu_wi_2, nl_add, nl_ladd, nl_aa, nl_mul, nl_rmul, nl_mm, pu_qe0, pu_qe1, e1, e3, e5, e7, c9, c9', sh_5]
  have R2 := fun Q q1 q2 => (R1 Q q1 q2).2 c9
  have c8 : ¬ f < pu_lat (pu_si M 5) x (pu_si M 5 21 k0) (cP (pu_si M 5)) 0 0 := by rw [st2, y1]; exact c9
  have c8' := Int32.not_lt.mp c8
  have S1 : pu_r 114 [some (.ref 0), some (.int x), some (.int r), some (.int f)] [] M = kX11_renumber_48 pu_r [some (.ref 0), some (.int x), some (.int r), some (.int f), none, none] [] M := by
    rw [qX11_renumber]
    simp [a_ent, bX11_renumber_0, bX11_renumber_16, bX11_renumber_30, bX11_renumber_33, a_ald, a_cs, a_cv, a_gr, a_icge, a_ifeq, a_ifne, a_ild, a_iret, a_push, ag_25 hI, fx_0_2 hx, fx_5_3 hx, sh_0, sh_25, sh_5, pu_rv, pu_as, Value.category, pu_bk, pu_kl, List.replicate, pu_wi_1, pu_wi_2, nl_add, nl_ladd, nl_aa, nl_mul, nl_rmul, nl_mm, pu_qe0, pu_qe1, e1, e3, e5, e7, c8, c8', sh_5]
    all_goals try simp (maxSteps := 400000) (disch := omega) [nl_tle, nl_fle, nl_tlt, nl_flt, nl_teq, nl_feq, nl_sub, nl_ss, nl_lt, nl_llt, nl_ltt, nl_le, nl_lle, nl_lee, nl_eq, nl_leq, nl_ee, nl_div, nl_rem, nl_cl, nl_n1, nl_n2, nl_n3, nl_n4, nl_add, nl_ladd, nl_aa, nl_mul, nl_rmul, nl_mm, pu_wi_1, pu_wi_2, bX11_renumber_0, bX11_renumber_16, bX11_renumber_30, bX11_renumber_33, a_ald, a_cs, a_cv, a_gr, a_icge, a_ifeq, a_ifne, a_ild, a_iret, a_push, ag_25 hI, fx_0_2 hx, fx_5_3 hx, sh_0, sh_25, sh_5, pu_rv, pu_as, Value.category, pu_bk, pu_kl, pu_qe0, pu_qe1, e1, e3, e5, e7, c8, c8', sh_5]
    all_goals try simp [bX11_renumber_0, bX11_renumber_16, bX11_renumber_30, bX11_renumber_33, a_ald, a_cs, a_cv, a_gr, a_icge, a_ifeq, a_ifne, a_ild, a_iret, a_push, ag_25 hI, fx_0_2 hx, fx_5_3 hx, sh_0, sh_25, sh_5, pu_rv, pu_as, Value.category, pu_bk, pu_kl, List.replicate, pu_wi_1, pu_wi_2, nl_add, nl_ladd, nl_aa, nl_mul, nl_rmul, nl_mm, pu_qe0, pu_qe1, e1, e3, e5, e7, c8, c8', sh_5]
    all_goals try simp (maxSteps := 400000) (disch := omega) [nl_tle, nl_fle, nl_tlt, nl_flt, nl_teq, nl_feq, nl_sub, nl_ss, nl_lt, nl_llt, nl_ltt, nl_le, nl_lle, nl_lee, nl_eq, nl_leq, nl_ee, nl_div, nl_rem, nl_cl, nl_n1, nl_n2, nl_n3, nl_n4, nl_add, nl_ladd, nl_aa, nl_mul, nl_rmul, nl_mm, pu_wi_1, pu_wi_2, bX11_renumber_0, bX11_renumber_16, bX11_renumber_30, bX11_renumber_33, a_ald, a_cs, a_cv, a_gr, a_icge, a_ifeq, a_ifne, a_ild, a_iret, a_push, ag_25 hI, fx_0_2 hx, fx_5_3 hx, sh_0, sh_25, sh_5, pu_rv, pu_as, Value.category, pu_bk, pu_kl, pu_qe0, pu_qe1, e1, e3, e5, e7, c8, c8', sh_5]
    all_goals try simp [bX11_renumber_0, bX11_renumber_16, bX11_renumber_30, bX11_renumber_33, a_ald, a_cs, a_cv, a_gr, a_icge, a_ifeq, a_ifne, a_ild, a_iret, a_push, ag_25 hI, fx_0_2 hx, fx_5_3 hx, sh_0, sh_25, sh_5, pu_rv, pu_as, Value.category, pu_bk, pu_kl, List.replicate, pu_wi_1, pu_wi_2, nl_add, nl_ladd, nl_aa, nl_mul, nl_rmul, nl_mm, pu_qe0, pu_qe1, e1, e3, e5, e7, c8, c8', sh_5]
    all_goals try simp (maxSteps := 400000) (disch := omega) [nl_tle, nl_fle, nl_tlt, nl_flt, nl_teq, nl_feq, nl_sub, nl_ss, nl_lt, nl_llt, nl_ltt, nl_le, nl_lle, nl_lee, nl_eq, nl_leq, nl_ee, nl_div, nl_rem, nl_cl, nl_n1, nl_n2, nl_n3, nl_n4, nl_add, nl_ladd, nl_aa, nl_mul, nl_rmul, nl_mm, pu_wi_1, pu_wi_2, bX11_renumber_0, bX11_renumber_16, bX11_renumber_30, bX11_renumber_33, a_ald, a_cs, a_cv, a_gr, a_icge, a_ifeq, a_ifne, a_ild, a_iret, a_push, ag_25 hI, fx_0_2 hx, fx_5_3 hx, sh_0, sh_25, sh_5, pu_rv, pu_as, Value.category, pu_bk, pu_kl, pu_qe0, pu_qe1, e1, e3, e5, e7, c8, c8', sh_5]
    all_goals try simp [bX11_renumber_0, bX11_renumber_16, bX11_renumber_30, bX11_renumber_33, a_ald, a_cs, a_cv, a_gr, a_icge, a_ifeq, a_ifne, a_ild, a_iret, a_push, ag_25 hI, fx_0_2 hx, fx_5_3 hx, sh_0, sh_25, sh_5, pu_rv, pu_as, Value.category, pu_bk, pu_kl, List.replicate, pu_wi_1, pu_wi_2, nl_add, nl_ladd, nl_aa, nl_mul, nl_rmul, nl_mm, pu_qe0, pu_qe1, e1, e3, e5, e7, c8, c8', sh_5]
  rw [st2, ru2] at S1
  rw [st2, ru2] at R2
  -- the view and the fresh numbers
  have eo : pu_r 65 [some (.int (nI ru))] [] M = some (some (.int (nI (if ru = 1 then 0 else 3))), M) := by
    by_cases c : ru = 1
    · rw [if_pos c, c, show nI 1 = (1 : Int32) from rfl]
      rw [qX11_orderOf]
      simp [a_ent, bX11_orderOf_0, bX11_orderOf_9, bX11_orderOf_10, a_icne, a_ild, a_iret, a_push, pu_rv, pu_as, Value.category, pu_bk, pu_kl, List.replicate, pu_wi_1, pu_wi_2, nl_add, nl_ladd, nl_aa, nl_mul, nl_rmul, nl_mm, pu_qe0, pu_qe1]
      all_goals try simp (maxSteps := 400000) (disch := omega) [nl_tle, nl_fle, nl_tlt, nl_flt, nl_teq, nl_feq, nl_sub, nl_ss, nl_lt, nl_llt, nl_ltt, nl_le, nl_lle, nl_lee, nl_eq, nl_leq, nl_ee, nl_div, nl_rem, nl_cl, nl_n1, nl_n2, nl_n3, nl_n4, nl_add, nl_ladd, nl_aa, nl_mul, nl_rmul, nl_mm, pu_wi_1, pu_wi_2, bX11_orderOf_0, bX11_orderOf_9, bX11_orderOf_10, a_icne, a_ild, a_iret, a_push, pu_rv, pu_as, Value.category, pu_bk, pu_kl, pu_qe0, pu_qe1]
      all_goals try simp [bX11_orderOf_0, bX11_orderOf_9, bX11_orderOf_10, a_icne, a_ild, a_iret, a_push, pu_rv, pu_as, Value.category, pu_bk, pu_kl, List.replicate, pu_wi_1, pu_wi_2, nl_add, nl_ladd, nl_aa, nl_mul, nl_rmul, nl_mm, pu_qe0, pu_qe1]
      all_goals try simp (maxSteps := 400000) (disch := omega) [nl_tle, nl_fle, nl_tlt, nl_flt, nl_teq, nl_feq, nl_sub, nl_ss, nl_lt, nl_llt, nl_ltt, nl_le, nl_lle, nl_lee, nl_eq, nl_leq, nl_ee, nl_div, nl_rem, nl_cl, nl_n1, nl_n2, nl_n3, nl_n4, nl_add, nl_ladd, nl_aa, nl_mul, nl_rmul, nl_mm, pu_wi_1, pu_wi_2, bX11_orderOf_0, bX11_orderOf_9, bX11_orderOf_10, a_icne, a_ild, a_iret, a_push, pu_rv, pu_as, Value.category, pu_bk, pu_kl, pu_qe0, pu_qe1]
      all_goals try simp [bX11_orderOf_0, bX11_orderOf_9, bX11_orderOf_10, a_icne, a_ild, a_iret, a_push, pu_rv, pu_as, Value.category, pu_bk, pu_kl, List.replicate, pu_wi_1, pu_wi_2, nl_add, nl_ladd, nl_aa, nl_mul, nl_rmul, nl_mm, pu_qe0, pu_qe1]
      all_goals try simp (maxSteps := 400000) (disch := omega) [nl_tle, nl_fle, nl_tlt, nl_flt, nl_teq, nl_feq, nl_sub, nl_ss, nl_lt, nl_llt, nl_ltt, nl_le, nl_lle, nl_lee, nl_eq, nl_leq, nl_ee, nl_div, nl_rem, nl_cl, nl_n1, nl_n2, nl_n3, nl_n4, nl_add, nl_ladd, nl_aa, nl_mul, nl_rmul, nl_mm, pu_wi_1, pu_wi_2, bX11_orderOf_0, bX11_orderOf_9, bX11_orderOf_10, a_icne, a_ild, a_iret, a_push, pu_rv, pu_as, Value.category, pu_bk, pu_kl, pu_qe0, pu_qe1]
      all_goals try simp [bX11_orderOf_0, bX11_orderOf_9, bX11_orderOf_10, a_icne, a_ild, a_iret, a_push, pu_rv, pu_as, Value.category, pu_bk, pu_kl, List.replicate, pu_wi_1, pu_wi_2, nl_add, nl_ladd, nl_aa, nl_mul, nl_rmul, nl_mm, pu_qe0, pu_qe1]
      try rfl
    · rw [if_neg c]
      have c' : ¬ nI ru = 1 := fun z => by rw [show (1 : Int32) = nI 1 from rfl, nI_eq (by omega) (by omega)] at z; exact c z
      rw [qX11_orderOf]
      simp [a_ent, bX11_orderOf_0, bX11_orderOf_9, bX11_orderOf_10, a_icne, a_ild, a_iret, a_push, pu_rv, pu_as, Value.category, pu_bk, pu_kl, List.replicate, pu_wi_1, pu_wi_2, nl_add, nl_ladd, nl_aa, nl_mul, nl_rmul, nl_mm, pu_qe0, pu_qe1, c']
      all_goals try simp (maxSteps := 400000) (disch := omega) [nl_tle, nl_fle, nl_tlt, nl_flt, nl_teq, nl_feq, nl_sub, nl_ss, nl_lt, nl_llt, nl_ltt, nl_le, nl_lle, nl_lee, nl_eq, nl_leq, nl_ee, nl_div, nl_rem, nl_cl, nl_n1, nl_n2, nl_n3, nl_n4, nl_add, nl_ladd, nl_aa, nl_mul, nl_rmul, nl_mm, pu_wi_1, pu_wi_2, bX11_orderOf_0, bX11_orderOf_9, bX11_orderOf_10, a_icne, a_ild, a_iret, a_push, pu_rv, pu_as, Value.category, pu_bk, pu_kl, pu_qe0, pu_qe1, c']
      all_goals try simp [bX11_orderOf_0, bX11_orderOf_9, bX11_orderOf_10, a_icne, a_ild, a_iret, a_push, pu_rv, pu_as, Value.category, pu_bk, pu_kl, List.replicate, pu_wi_1, pu_wi_2, nl_add, nl_ladd, nl_aa, nl_mul, nl_rmul, nl_mm, pu_qe0, pu_qe1, c']
      all_goals try simp (maxSteps := 400000) (disch := omega) [nl_tle, nl_fle, nl_tlt, nl_flt, nl_teq, nl_feq, nl_sub, nl_ss, nl_lt, nl_llt, nl_ltt, nl_le, nl_lle, nl_lee, nl_eq, nl_leq, nl_ee, nl_div, nl_rem, nl_cl, nl_n1, nl_n2, nl_n3, nl_n4, nl_add, nl_ladd, nl_aa, nl_mul, nl_rmul, nl_mm, pu_wi_1, pu_wi_2, bX11_orderOf_0, bX11_orderOf_9, bX11_orderOf_10, a_icne, a_ild, a_iret, a_push, pu_rv, pu_as, Value.category, pu_bk, pu_kl, pu_qe0, pu_qe1, c']
      all_goals try simp [bX11_orderOf_0, bX11_orderOf_9, bX11_orderOf_10, a_icne, a_ild, a_iret, a_push, pu_rv, pu_as, Value.category, pu_bk, pu_kl, List.replicate, pu_wi_1, pu_wi_2, nl_add, nl_ladd, nl_aa, nl_mul, nl_rmul, nl_mm, pu_qe0, pu_qe1, c']
      all_goals try simp (maxSteps := 400000) (disch := omega) [nl_tle, nl_fle, nl_tlt, nl_flt, nl_teq, nl_feq, nl_sub, nl_ss, nl_lt, nl_llt, nl_ltt, nl_le, nl_lle, nl_lee, nl_eq, nl_leq, nl_ee, nl_div, nl_rem, nl_cl, nl_n1, nl_n2, nl_n3, nl_n4, nl_add, nl_ladd, nl_aa, nl_mul, nl_rmul, nl_mm, pu_wi_1, pu_wi_2, bX11_orderOf_0, bX11_orderOf_9, bX11_orderOf_10, a_icne, a_ild, a_iret, a_push, pu_rv, pu_as, Value.category, pu_bk, pu_kl, pu_qe0, pu_qe1, c']
      all_goals try simp [bX11_orderOf_0, bX11_orderOf_9, bX11_orderOf_10, a_icne, a_ild, a_iret, a_push, pu_rv, pu_as, Value.category, pu_bk, pu_kl, List.replicate, pu_wi_1, pu_wi_2, nl_add, nl_ladd, nl_aa, nl_mul, nl_rmul, nl_mm, pu_qe0, pu_qe1, c']
      try rfl
  obtain ⟨V, n, P1, p1, p2, p3, p4, p5, p6, p7⟩ := c_fill hx hI hw (if ru = 1 then 0 else 3) st (-1) (by split <;> omega) st1 (pu_inj hw st (by omega) (-1))
  obtain ⟨SLV, vs⟩ := py_view_os (ru := ru) hw (st := st) (by omega) p6
  have hx1 : pu_fx P1 := pz_fx_of hx p2.1
  have hI1 : pu_ag P1 (pu_si M 5) := fun a j q1 q2 => by rw [p2.2 a j (by omega)]; exact hI a j q1 q2
  have w66 : ∀ a, a < n → P1.1 66 a = nI (py_sd (pu_si M 5) V a) := fun a ha => by rw [p5.2 66 a (by omega) (by omega) ha]; exact (vs.1 a ha).2.2.1
  have w67 : ∀ a, a < n → P1.1 67 a = nI (py_pc (pu_si M 5) V a) := fun a ha => by rw [p5.2 67 a (by omega) (by omega) ha]; exact (vs.1 a ha).2.2.2
  obtain ⟨P2, f1, f2, f3⟩ := c_sf_l2 hw st1 ru1 vs p1 hx1 hI1 p5.1 w66 w67 n 0 P1 0 none (by omega) ⟨rfl, fun _ _ _ => rfl⟩ (fun a ha => by omega) (fun z => by omega)
  rw [nI_0] at f3
  have esf : pu_r 107 [some (.ref 0), some (.int (nI st)), some (.int (nI ru))] [] P1 = some (none, P2) := by
    generalize nI ru = rv at *
    rw [qX11_setFreshNumbers]
    simp [a_ent, bX11_setFreshNumbers_0, a_ist, a_push, pu_rv, pu_as, Value.category, pu_bk, pu_kl, List.replicate, pu_wi_1, pu_wi_2, nl_add, nl_ladd, nl_aa, nl_mul, nl_rmul, nl_mm, pu_qe0, pu_qe1, f3]
    all_goals try simp (maxSteps := 400000) (disch := omega) [nl_tle, nl_fle, nl_tlt, nl_flt, nl_teq, nl_feq, nl_sub, nl_ss, nl_lt, nl_llt, nl_ltt, nl_le, nl_lle, nl_lee, nl_eq, nl_leq, nl_ee, nl_div, nl_rem, nl_cl, nl_n1, nl_n2, nl_n3, nl_n4, nl_add, nl_ladd, nl_aa, nl_mul, nl_rmul, nl_mm, pu_wi_1, pu_wi_2, bX11_setFreshNumbers_0, a_ist, a_push, pu_rv, pu_as, Value.category, pu_bk, pu_kl, pu_qe0, pu_qe1, f3]
    all_goals try simp [bX11_setFreshNumbers_0, a_ist, a_push, pu_rv, pu_as, Value.category, pu_bk, pu_kl, List.replicate, pu_wi_1, pu_wi_2, nl_add, nl_ladd, nl_aa, nl_mul, nl_rmul, nl_mm, pu_qe0, pu_qe1, f3]
    all_goals try simp (maxSteps := 400000) (disch := omega) [nl_tle, nl_fle, nl_tlt, nl_flt, nl_teq, nl_feq, nl_sub, nl_ss, nl_lt, nl_llt, nl_ltt, nl_le, nl_lle, nl_lee, nl_eq, nl_leq, nl_ee, nl_div, nl_rem, nl_cl, nl_n1, nl_n2, nl_n3, nl_n4, nl_add, nl_ladd, nl_aa, nl_mul, nl_rmul, nl_mm, pu_wi_1, pu_wi_2, bX11_setFreshNumbers_0, a_ist, a_push, pu_rv, pu_as, Value.category, pu_bk, pu_kl, pu_qe0, pu_qe1, f3]
    all_goals try simp [bX11_setFreshNumbers_0, a_ist, a_push, pu_rv, pu_as, Value.category, pu_bk, pu_kl, List.replicate, pu_wi_1, pu_wi_2, nl_add, nl_ladd, nl_aa, nl_mul, nl_rmul, nl_mm, pu_qe0, pu_qe1, f3]
    all_goals try simp (maxSteps := 400000) (disch := omega) [nl_tle, nl_fle, nl_tlt, nl_flt, nl_teq, nl_feq, nl_sub, nl_ss, nl_lt, nl_llt, nl_ltt, nl_le, nl_lle, nl_lee, nl_eq, nl_leq, nl_ee, nl_div, nl_rem, nl_cl, nl_n1, nl_n2, nl_n3, nl_n4, nl_add, nl_ladd, nl_aa, nl_mul, nl_rmul, nl_mm, pu_wi_1, pu_wi_2, bX11_setFreshNumbers_0, a_ist, a_push, pu_rv, pu_as, Value.category, pu_bk, pu_kl, pu_qe0, pu_qe1, f3]
    all_goals try simp [bX11_setFreshNumbers_0, a_ist, a_push, pu_rv, pu_as, Value.category, pu_bk, pu_kl, List.replicate, pu_wi_1, pu_wi_2, nl_add, nl_ladd, nl_aa, nl_mul, nl_rmul, nl_mm, pu_qe0, pu_qe1, f3]
  have hx2 : pu_fx P2 := pz_fx_of hx1 f1.1
  have PM : ∀ a j, ¬ (62 ≤ a ∧ a ≤ 69) → P2.1 a j = M.1 a j := fun a j z => by rw [f1.2 a j (by omega), p2.2 a j (by omega)]
  have PM2 : P2.2 = M.2 := by rw [f1.1, p2.1]
  have v0 : P2.1 62 0 = nI n := by rw [f1.2 62 0 (by omega)]; exact p5.1
  have v66 : ∀ a, a < n → P2.1 66 a = nI (py_sd (pu_si M 5) V a) := fun a ha => by rw [f1.2 66 a (by omega)]; exact w66 a ha
  have v65 : ∀ a, a < n → P2.1 65 a = pu_si M 5 16 (V a) := fun a ha => by rw [f1.2 65 a (by omega), p5.2 65 a (by omega) (by omega) ha]; rfl
  have v64 : ∀ a, a < n → P2.1 64 a = nI (pu_sl0 (pu_si M 5) (V a)) := fun a ha => by rw [f1.2 64 a (by omega), p5.2 64 a (by omega) (by omega) ha]; exact (pu_sl_lt hw (SLV.1 a ha).1).2
  have v63 : ∀ a, a < n → P2.1 63 a = nI (V a) := fun a ha => by rw [f1.2 63 a (by omega), p5.2 63 a (by omega) (by omega) ha]; rfl
  have ea := c_areFreshRight (st := st) hx2 vs p1 v0 v66 f2
  have S2 := c_rn1 (st := st) (f := f) (q := py_rt (pu_si M 5) st ru V n) hx ru1 none none eo p7 esf (fun _ => ea)
  have S12 := S1.trans S2
  -- where only the view, the fresh numbers and the reference's rows have changed
  have ST : ∀ F : pu_M, F.2 = M.2 → (∀ a j, ¬ (62 ≤ a ∧ a ≤ 69) → ¬ (79 ≤ a ∧ a ≤ 81) → ¬ (a = 71 ∧ j = 13) → F.1 a j = M.1 a j) → pu_Inv F := fun F F2 Fo => by
    refine pu_Inv_all h (by rw [F2]) (fun a j _ => by rw [F2]) (fun a j z => Fo a j (by omega) (by omega) (by omega)) ?_
    rw [show pu_si F 5 = pu_si M 5 from pu_si_eq (fun a j h1 h2 => Fo a j (by omega) (by omega) (by omega)), show pu_sj F 5 = pu_sj M 5 from pu_sj_eq (fun a j h1 h2 => by rw [F2]), show F.1 72 = M.1 72 from funext (fun j => Fo 72 j (by omega) (by omega) (by omega))]
    exact hS
  -- the reference's numbers
  have RG : ∀ Q : pu_M, pu_fx Q → Q.1 72 = M.1 72 → ∃ G, py_rfo Q G ∧ ((ru = 3 → py_rt (pu_si M 5) st ru V n) → G.1 71 13 = nI n ∧ (∀ a, a < n → G.1 79 a = nI (pu_sl0 (pu_si M 5) (V a))) ∧ (∀ a, a < n → G.1 80 a = py_FW (pu_si M 5) st ru V a)) ∧ pu_r 296 [some (.ref 71), some (.int (nI st)), some (.int (nI ru))] [] Q = some (some (.int (pu_q (ru = 3 → py_rt (pu_si M 5) st ru V n))), G) := fun Q q1 q2 => r_gets hw st1 ru1 vs p1 SLV q1 (by rw [q2]; exact hr)
  by_cases rt : ru = 3 → py_rt (pu_si M 5) st ru V n
  rotate_left
  · have r3 : ru = 3 ∧ ¬ py_rt (pu_si M 5) st ru V n := by
      by_cases z : ru = 3
      · exact ⟨z, fun q => rt (fun _ => q)⟩
      · exact absurd (fun q => absurd q z) rt
    have P72 : P2.1 72 = M.1 72 := funext (fun j => PM 72 j (by omega))
    obtain ⟨G, g1, _, g3⟩ := RG P2 hx2 P72
    rw [pu_q0 rt] at g3
    rw [if_pos r3] at S12
    refine ⟨-4, P2, G, ?_, ?_, ST G (by rw [g1.1, PM2]) (fun a j z1 z2 z3 => by rw [g1.2 a j z2 z3, PM a j z1])⟩
    · show pu_r 114 [some (.ref 0), some (.int x), some (.int r), some (.int f)] [] M = _
      rw [st2, ru2]
      exact S12
    · show pu_r 297 [some (.ref 71), some (.int x), some (.int r), some (.int f)] [] P2 = _
      rw [st2, ru2, R2 P2 hx2 P72]
      generalize nI ru = rv at *
      simp [bX12_renumber_41, a_ald, a_cv, a_ifne, a_ild, a_iret, a_push, sh_71, pu_rv, pu_as, Value.category, pu_bk, pu_kl, List.replicate, pu_wi_1, pu_wi_2, nl_add, nl_ladd, nl_aa, nl_mul, nl_rmul, nl_mm, pu_qe0, pu_qe1, g3]
      all_goals try simp (maxSteps := 400000) (disch := omega) [nl_tle, nl_fle, nl_tlt, nl_flt, nl_teq, nl_feq, nl_sub, nl_ss, nl_lt, nl_llt, nl_ltt, nl_le, nl_lle, nl_lee, nl_eq, nl_leq, nl_ee, nl_div, nl_rem, nl_cl, nl_n1, nl_n2, nl_n3, nl_n4, nl_add, nl_ladd, nl_aa, nl_mul, nl_rmul, nl_mm, pu_wi_1, pu_wi_2, bX12_renumber_41, a_ald, a_cv, a_ifne, a_ild, a_iret, a_push, sh_71, pu_rv, pu_as, Value.category, pu_bk, pu_kl, pu_qe0, pu_qe1, g3]
      all_goals try simp [bX12_renumber_41, a_ald, a_cv, a_ifne, a_ild, a_iret, a_push, sh_71, pu_rv, pu_as, Value.category, pu_bk, pu_kl, List.replicate, pu_wi_1, pu_wi_2, nl_add, nl_ladd, nl_aa, nl_mul, nl_rmul, nl_mm, pu_qe0, pu_qe1, g3]
      all_goals try simp (maxSteps := 400000) (disch := omega) [nl_tle, nl_fle, nl_tlt, nl_flt, nl_teq, nl_feq, nl_sub, nl_ss, nl_lt, nl_llt, nl_ltt, nl_le, nl_lle, nl_lee, nl_eq, nl_leq, nl_ee, nl_div, nl_rem, nl_cl, nl_n1, nl_n2, nl_n3, nl_n4, nl_add, nl_ladd, nl_aa, nl_mul, nl_rmul, nl_mm, pu_wi_1, pu_wi_2, bX12_renumber_41, a_ald, a_cv, a_ifne, a_ild, a_iret, a_push, sh_71, pu_rv, pu_as, Value.category, pu_bk, pu_kl, pu_qe0, pu_qe1, g3]
      all_goals try simp [bX12_renumber_41, a_ald, a_cv, a_ifne, a_ild, a_iret, a_push, sh_71, pu_rv, pu_as, Value.category, pu_bk, pu_kl, List.replicate, pu_wi_1, pu_wi_2, nl_add, nl_ladd, nl_aa, nl_mul, nl_rmul, nl_mm, pu_qe0, pu_qe1, g3]
      all_goals try simp (maxSteps := 400000) (disch := omega) [nl_tle, nl_fle, nl_tlt, nl_flt, nl_teq, nl_feq, nl_sub, nl_ss, nl_lt, nl_llt, nl_ltt, nl_le, nl_lle, nl_lee, nl_eq, nl_leq, nl_ee, nl_div, nl_rem, nl_cl, nl_n1, nl_n2, nl_n3, nl_n4, nl_add, nl_ladd, nl_aa, nl_mul, nl_rmul, nl_mm, pu_wi_1, pu_wi_2, bX12_renumber_41, a_ald, a_cv, a_ifne, a_ild, a_iret, a_push, sh_71, pu_rv, pu_as, Value.category, pu_bk, pu_kl, pu_qe0, pu_qe1, g3]
      all_goals try simp [bX12_renumber_41, a_ald, a_cv, a_ifne, a_ild, a_iret, a_push, sh_71, pu_rv, pu_as, Value.category, pu_bk, pu_kl, List.replicate, pu_wi_1, pu_wi_2, nl_add, nl_ladd, nl_aa, nl_mul, nl_rmul, nl_mm, pu_qe0, pu_qe1, g3]
  rw [if_neg (fun z => z.2 (rt z.1))] at S12
  have ec := c_cfo (st := st) (ru := ru) hx2 p1 v0 v65 f2
  obtain ⟨tot, htot⟩ : ∃ tot, py_cnt (fun a => py_FW (pu_si M 5) st ru V a ≠ pu_si M 5 16 (V a)) n 0 = tot := ⟨_, rfl⟩
  have totl : tot ≤ 100 := by
    have := py_cnt_le (fun a => py_FW (pu_si M 5) st ru V a ≠ pu_si M 5 16 (V a)) n 0
    omega
  rw [htot] at ec
  have q6 : P2.1 6 2 = nI (cP (pu_si M 5)) := by rw [PM 6 2 (by omega), hI 6 2 (by omega) (by omega)]; exact wx_cP hw
  have q14 : P2.1 14 0 = nI (cU (pu_si M 5)) := by rw [PM 14 0 (by omega), hI 14 0 (by omega) (by omega)]; exact wx_cU hw
  have q25 : P2.1 25 1 = nI (cK (pu_si M 5)) := by rw [PM 25 1 (by omega), hI 25 1 (by omega) (by omega)]; exact wx_cK hw
  have q27 : P2.1 27 st = pu_si M 5 27 st := by rw [PM 27 st (by omega)]; exact hI 27 st (by omega) (by omega)
  have erm := c_hasRoomN hx2 q6 bP q14 bU (c := tot) (by omega)
  have S3 := c_rn2 (st := st) (f := f) (rv := nI ru) hx2 none none ec erm
  have S13 := S12.trans S3
  -- the reference's count, and room
  have RC : ∀ (Q G : pu_M), pu_fx Q → Q.1 72 = M.1 72 → py_rfo Q G → G.1 71 13 = nI n → (∀ a, a < n → G.1 79 a = nI (pu_sl0 (pu_si M 5) (V a))) → (∀ a, a < n → G.1 80 a = py_FW (pu_si M 5) st ru V a) → pu_r 296 [some (.ref 71), some (.int (nI st)), some (.int (nI ru))] [] Q = some (some (.int 1), G) → pu_r 297 [some (.ref 71), some (.int (nI st)), some (.int (nI ru)), some (.int f)] [] Q = @ite _ (cP (pu_si M 5) < 200 ∧ cU (pu_si M 5) + tot ≤ 3000) (Classical.propDecidable _) (kX12_renumber_147 pu_r [some (.ref 71), some (.int (nI st)), some (.int (nI ru)), some (.int f), some (.int (nI tot)), some (.int (nI n)), none, none, none] [] G) (some (some (.int (-6)), G)) := fun Q G q1 q2 g1 g13 g79 g80 g3 => by
    have hxG : pu_fx G := pz_fx_of q1 g1.1
    have G72 : G.1 72 = M.1 72 := by rw [← q2]; exact funext (fun j => g1.2 72 j (by omega) (by omega))
    have hrG : pu_Rel (pu_si M 5) (pu_sj M 5) (G.1 72) := by rw [G72]; exact hr
    have rc := r_rc_l hw SLV.1 p1 hxG hrG g13 g79 g80 (nI st) (nI ru) f none none none n 0 0 (by omega)
    rw [Nat.zero_add, htot, nI_0] at rc
    rw [R2 Q q1 q2]
    refine Eq.trans ?_ (rc.trans (r_rn1 hxG bP bU (by omega) (rl_h5 hrG) (rl_h6 hrG) (nI st) (nI ru) f _ none none none))
    generalize nI ru = rv at *
    simp [bX12_renumber_41, bX12_renumber_53, a_ald, a_cv, a_ifne, a_ild, a_iret, a_ist, a_push, sh_71, pu_rv, pu_as, Value.category, pu_bk, pu_kl, List.replicate, pu_wi_1, pu_wi_2, nl_add, nl_ladd, nl_aa, nl_mul, nl_rmul, nl_mm, pu_qe0, pu_qe1, g3]
    all_goals try simp (maxSteps := 400000) (disch := omega) [nl_tle, nl_fle, nl_tlt, nl_flt, nl_teq, nl_feq, nl_sub, nl_ss, nl_lt, nl_llt, nl_ltt, nl_le, nl_lle, nl_lee, nl_eq, nl_leq, nl_ee, nl_div, nl_rem, nl_cl, nl_n1, nl_n2, nl_n3, nl_n4, nl_add, nl_ladd, nl_aa, nl_mul, nl_rmul, nl_mm, pu_wi_1, pu_wi_2, bX12_renumber_41, bX12_renumber_53, a_ald, a_cv, a_ifne, a_ild, a_iret, a_ist, a_push, sh_71, pu_rv, pu_as, Value.category, pu_bk, pu_kl, pu_qe0, pu_qe1, g3]
    all_goals try simp [bX12_renumber_41, bX12_renumber_53, a_ald, a_cv, a_ifne, a_ild, a_iret, a_ist, a_push, sh_71, pu_rv, pu_as, Value.category, pu_bk, pu_kl, List.replicate, pu_wi_1, pu_wi_2, nl_add, nl_ladd, nl_aa, nl_mul, nl_rmul, nl_mm, pu_qe0, pu_qe1, g3]
    all_goals try simp (maxSteps := 400000) (disch := omega) [nl_tle, nl_fle, nl_tlt, nl_flt, nl_teq, nl_feq, nl_sub, nl_ss, nl_lt, nl_llt, nl_ltt, nl_le, nl_lle, nl_lee, nl_eq, nl_leq, nl_ee, nl_div, nl_rem, nl_cl, nl_n1, nl_n2, nl_n3, nl_n4, nl_add, nl_ladd, nl_aa, nl_mul, nl_rmul, nl_mm, pu_wi_1, pu_wi_2, bX12_renumber_41, bX12_renumber_53, a_ald, a_cv, a_ifne, a_ild, a_iret, a_ist, a_push, sh_71, pu_rv, pu_as, Value.category, pu_bk, pu_kl, pu_qe0, pu_qe1, g3]
    all_goals try simp [bX12_renumber_41, bX12_renumber_53, a_ald, a_cv, a_ifne, a_ild, a_iret, a_ist, a_push, sh_71, pu_rv, pu_as, Value.category, pu_bk, pu_kl, List.replicate, pu_wi_1, pu_wi_2, nl_add, nl_ladd, nl_aa, nl_mul, nl_rmul, nl_mm, pu_qe0, pu_qe1, g3]
    all_goals try simp (maxSteps := 400000) (disch := omega) [nl_tle, nl_fle, nl_tlt, nl_flt, nl_teq, nl_feq, nl_sub, nl_ss, nl_lt, nl_llt, nl_ltt, nl_le, nl_lle, nl_lee, nl_eq, nl_leq, nl_ee, nl_div, nl_rem, nl_cl, nl_n1, nl_n2, nl_n3, nl_n4, nl_add, nl_ladd, nl_aa, nl_mul, nl_rmul, nl_mm, pu_wi_1, pu_wi_2, bX12_renumber_41, bX12_renumber_53, a_ald, a_cv, a_ifne, a_ild, a_iret, a_ist, a_push, sh_71, pu_rv, pu_as, Value.category, pu_bk, pu_kl, pu_qe0, pu_qe1, g3]
    all_goals try simp [bX12_renumber_41, bX12_renumber_53, a_ald, a_cv, a_ifne, a_ild, a_iret, a_ist, a_push, sh_71, pu_rv, pu_as, Value.category, pu_bk, pu_kl, List.replicate, pu_wi_1, pu_wi_2, nl_add, nl_ladd, nl_aa, nl_mul, nl_rmul, nl_mm, pu_qe0, pu_qe1, g3]
  by_cases room : cP (pu_si M 5) < 200 ∧ cU (pu_si M 5) + tot ≤ 3000
  rotate_left
  · have P72 : P2.1 72 = M.1 72 := funext (fun j => PM 72 j (by omega))
    obtain ⟨G, g1, g2, g3⟩ := RG P2 hx2 P72
    rw [pu_q1 rt] at g3
    obtain ⟨g13, g79, g80⟩ := g2 rt
    have rc := RC P2 G hx2 P72 g1 g13 g79 g80 g3
    rw [if_neg room] at rc
    rw [if_pos room] at S13
    refine ⟨-6, P2, G, ?_, ?_, ST G (by rw [g1.1, PM2]) (fun a j z1 z2 z3 => by rw [g1.2 a j z2 z3, PM a j z1])⟩
    · show pu_r 114 [some (.ref 0), some (.int x), some (.int r), some (.int f)] [] M = _
      rw [st2, ru2]
      exact S13
    · show pu_r 297 [some (.ref 71), some (.int x), some (.int r), some (.int f)] [] P2 = _
      rw [st2, ru2]
      exact rc
  rw [if_neg (fun z => z room)] at S13
  obtain ⟨hP, hU⟩ := room
  -- the class gives the numbers
  obtain ⟨B, hB⟩ : ∃ B, pu_wi (pu_wi (pz_ly P2 (cP (pu_si M 5)) (P2.1 6 0) f (nI st) (-1)) 13 (cP (pu_si M 5)) (pu_si M 5 27 st)) 27 st (nI ru) = B := ⟨_, rfl⟩
  have Bo : ∀ a j, ¬ (a = 6 ∧ j = 2) → ¬ (7 ≤ a ∧ a ≤ 13 ∧ j = cP (pu_si M 5)) → ¬ (a = 27 ∧ j = st) → B.1 a j = P2.1 a j := fun a j z1 z2 z3 => by rw [← hB, py_wi_o z3, py_wi_o (by omega), pz_ly_o z1 z2]
  have lv := pz_ly_v (M := P2) (P := cP (pu_si M 5)) (t := P2.1 6 0) (f := f) (a := nI st) (b := -1)
  have B27 : B.1 27 st = nI ru := by rw [← hB]; simp [pu_wi_1]
  have B13 : B.1 13 (cP (pu_si M 5)) = pu_si M 5 27 st := by rw [← hB, py_wi_o (by omega)]; simp [pu_wi_1]
  have Bp : ∀ a j, a ≠ 13 → a ≠ 27 → B.1 a j = (pz_ly P2 (cP (pu_si M 5)) (P2.1 6 0) f (nI st) (-1)).1 a j := fun a j z1 z2 => by rw [← hB, py_wi_o (by omega), py_wi_o (by omega)]
  have B2 : B.2 = M.2 := by rw [← hB]; exact PM2
  have hxB : pu_fx B := pz_fx_of hx B2
  obtain ⟨Q, X, qG, qS, qR⟩ := c_gv_l (P := cP (pu_si M 5)) (tot := tot) hw vs p1 SLV hxB (by rw [Bo 62 0 (by omega) (by omega) (by omega)]; exact v0) (fun a ha => by rw [Bo 63 a (by omega) (by omega) (by omega)]; exact v63 a ha) (fun a ha => by rw [Bo 64 a (by omega) (by omega) (by omega)]; exact v64 a ha) (fun a ha => by rw [Bo 65 a (by omega) (by omega) (by omega)]; exact v65 a ha) (fun a ha => by rw [Bo 69 a (by omega) (by omega) (by omega)]; exact f2 a ha) hU n 0 B (fun _ => 0) 0 (by omega) (by rw [Nat.zero_add]; exact htot) ⟨rfl, fun _ _ _ _ _ => rfl, by rw [Bo 14 0 (by omega) (by omega) (by omega)]; exact q14, fun t ht => by omega, fun t ht => by omega⟩ ⟨fun a ha => by omega, fun l hl => by have := hl.1; omega, fun a b _ hb => by omega⟩
  rw [nI_0] at qR
  have eg : pu_r 113 [some (.ref 0), some (.int (nI (cP (pu_si M 5))))] [] B = some (none, Q) := by
    rw [qX11_giveFreshNumbers]
    simp [a_ent, bX11_giveFreshNumbers_0, a_ist, a_push, pu_rv, pu_as, Value.category, pu_bk, pu_kl, List.replicate, pu_wi_1, pu_wi_2, nl_add, nl_ladd, nl_aa, nl_mul, nl_rmul, nl_mm, pu_qe0, pu_qe1, qR]
    all_goals try simp (maxSteps := 400000) (disch := omega) [nl_tle, nl_fle, nl_tlt, nl_flt, nl_teq, nl_feq, nl_sub, nl_ss, nl_lt, nl_llt, nl_ltt, nl_le, nl_lle, nl_lee, nl_eq, nl_leq, nl_ee, nl_div, nl_rem, nl_cl, nl_n1, nl_n2, nl_n3, nl_n4, nl_add, nl_ladd, nl_aa, nl_mul, nl_rmul, nl_mm, pu_wi_1, pu_wi_2, bX11_giveFreshNumbers_0, a_ist, a_push, pu_rv, pu_as, Value.category, pu_bk, pu_kl, pu_qe0, pu_qe1, qR]
    all_goals try simp [bX11_giveFreshNumbers_0, a_ist, a_push, pu_rv, pu_as, Value.category, pu_bk, pu_kl, List.replicate, pu_wi_1, pu_wi_2, nl_add, nl_ladd, nl_aa, nl_mul, nl_rmul, nl_mm, pu_qe0, pu_qe1, qR]
    all_goals try simp (maxSteps := 400000) (disch := omega) [nl_tle, nl_fle, nl_tlt, nl_flt, nl_teq, nl_feq, nl_sub, nl_ss, nl_lt, nl_llt, nl_ltt, nl_le, nl_lle, nl_lee, nl_eq, nl_leq, nl_ee, nl_div, nl_rem, nl_cl, nl_n1, nl_n2, nl_n3, nl_n4, nl_add, nl_ladd, nl_aa, nl_mul, nl_rmul, nl_mm, pu_wi_1, pu_wi_2, bX11_giveFreshNumbers_0, a_ist, a_push, pu_rv, pu_as, Value.category, pu_bk, pu_kl, pu_qe0, pu_qe1, qR]
    all_goals try simp [bX11_giveFreshNumbers_0, a_ist, a_push, pu_rv, pu_as, Value.category, pu_bk, pu_kl, List.replicate, pu_wi_1, pu_wi_2, nl_add, nl_ladd, nl_aa, nl_mul, nl_rmul, nl_mm, pu_qe0, pu_qe1, qR]
    all_goals try simp (maxSteps := 400000) (disch := omega) [nl_tle, nl_fle, nl_tlt, nl_flt, nl_teq, nl_feq, nl_sub, nl_ss, nl_lt, nl_llt, nl_ltt, nl_le, nl_lle, nl_lee, nl_eq, nl_leq, nl_ee, nl_div, nl_rem, nl_cl, nl_n1, nl_n2, nl_n3, nl_n4, nl_add, nl_ladd, nl_aa, nl_mul, nl_rmul, nl_mm, pu_wi_1, pu_wi_2, bX11_giveFreshNumbers_0, a_ist, a_push, pu_rv, pu_as, Value.category, pu_bk, pu_kl, pu_qe0, pu_qe1, qR]
    all_goals try simp [bX11_giveFreshNumbers_0, a_ist, a_push, pu_rv, pu_as, Value.category, pu_bk, pu_kl, List.replicate, pu_wi_1, pu_wi_2, nl_add, nl_ladd, nl_aa, nl_mul, nl_rmul, nl_mm, pu_qe0, pu_qe1, qR]
  have S4 := c_rn3 (rv := nI ru) (x4 := nI tot) (f := f) hx2 hP q6 q25 bK st1 q27 none (by rw [hB]; exact eg)
  have S14 := S13.trans S4
  obtain ⟨qg1, qg2, qg3, qg4, qg5⟩ := qG
  have hxQ : pu_fx Q := pz_fx_of hxB qg1
  have Q2 : Q.2 = M.2 := by rw [qg1, B2]
  have Q72 : Q.1 72 = M.1 72 := funext (fun j => by rw [qg2 72 j (by omega) (by omega) (by omega), Bo 72 j (by omega) (by omega) (by omega), PM 72 j (by omega)])
  -- the reference gives them
  obtain ⟨G, g1, g2, g3⟩ := RG Q hxQ Q72
  rw [pu_q1 rt] at g3
  obtain ⟨g13, g79, g80⟩ := g2 rt
  have rc := RC Q G hxQ Q72 g1 g13 g79 g80 g3
  rw [if_pos ⟨hP, hU⟩] at rc
  have hxG : pu_fx G := pz_fx_of hxQ g1.1
  have G72 : G.1 72 = M.1 72 := by rw [← Q72]; exact funext (fun j => g1.2 72 j (by omega) (by omega))
  have rn2 := r_rn2 hxG (st := st) hP (by omega) (v := pu_si M 5 27 st) (by rw [G72]; exact rl_h5 hr) (by rw [G72]; exact rl_k0 hr st st1) (nI ru) f (nI tot) (some (.int (nI n))) none none none
  obtain ⟨C, hC⟩ : ∃ C, pu_wi (pu_wi (py_rp G (cP (pu_si M 5)) (G.1 72 0) f (nI st) (-1) (-1) (-1)) 72 (28752 + 7 * cP (pu_si M 5) + 6) (pu_si M 5 27 st)) 72 (7528 + st) (nI ru) = C := ⟨_, rfl⟩
  rw [hC] at rn2
  have rv := py_rp_v (M := G) (P := cP (pu_si M 5)) (t := G.1 72 0) (f := f) (a := nI st) (b := -1) (ta := -1) (tb := -1)
  have Co : ∀ a j, ¬ (a = 72 ∧ j = 5) → ¬ (a = 72 ∧ 28752 + 7 * cP (pu_si M 5) ≤ j ∧ j < 28752 + 7 * cP (pu_si M 5) + 7) → ¬ (a = 72 ∧ j = 7528 + st) → C.1 a j = G.1 a j := fun a j z1 z2 z3 => by rw [← hC, py_wi_o z3, py_wi_o (by omega), py_rp_o z1 z2]
  have Cp : ∀ j, j ≠ 28752 + 7 * cP (pu_si M 5) + 6 → j ≠ 7528 + st → C.1 72 j = (py_rp G (cP (pu_si M 5)) (G.1 72 0) f (nI st) (-1) (-1) (-1)).1 72 j := fun j z1 z2 => by rw [← hC, py_wi_o (by omega), py_wi_o (by omega)]
  have C6 : C.1 72 (28752 + 7 * cP (pu_si M 5) + 6) = pu_si M 5 27 st := by rw [← hC, py_wi_o (by omega)]; simp [pu_wi_1]
  have C7 : C.1 72 (7528 + st) = nI ru := by rw [← hC]; simp [pu_wi_1]
  have C2 : C.2 = Q.2 := by rw [← hC]; exact g1.1
  have hxC : pu_fx C := pz_fx_of hxQ C2
  have CM : ∀ j, j ≠ 5 → ¬ (28752 + 7 * cP (pu_si M 5) ≤ j ∧ j < 28752 + 7 * cP (pu_si M 5) + 7) → j ≠ 7528 + st → C.1 72 j = M.1 72 j := fun j z1 z2 z3 => by rw [Co 72 j (by omega) (by omega) (by omega), G72]
  obtain ⟨F, Y, fG, fS, fR⟩ := r_gv_l (P := cP (pu_si M 5)) (tot := tot) (W := py_FW (pu_si M 5) st ru V) (ru := ru) hw p1 SLV hP hxC (by rw [Co 71 13 (by omega) (by omega) (by omega)]; exact g13) (fun a ha => by rw [Co 79 a (by omega) (by omega) (by omega)]; exact g79 a ha) (fun a ha => by rw [Co 80 a (by omega) (by omega) (by omega)]; exact g80 a ha) (fun k hk => by
    rw [CM _ (by omega) (by omega) (by omega), CM _ (by omega) (by omega) (by omega), CM _ (by omega) (by omega) (by omega), CM _ (by omega) (by omega) (by omega)]
    exact ⟨rl_u0 hr k hk, rl_u1 hr k hk, rl_u3 hr k hk, rl_u5 hr k hk⟩) hU (nI ru) f (nI tot) n 0 C (fun _ => 0) 0 none none (by omega) (by rw [Nat.zero_add]; exact htot) ⟨rfl, fun _ _ _ => rfl, fun _ _ _ _ => rfl, by rw [CM 6 (by omega) (by omega) (by omega)]; exact rl_h6 hr, fun t ht => by omega, fun t ht => by omega⟩ ⟨fun a ha => by omega, fun l hl => by have := hl.1; omega, fun a b _ hb => by omega⟩
  rw [nI_0] at fR
  obtain ⟨_, XY⟩ := py_SL_un qS fS
  obtain ⟨fg1, fg2, fg3, fg4, fg5, fg6⟩ := fG
  obtain ⟨hW, iW⟩ := py_FW_ok hw st1 ru1 vs p1 rt
  refine ⟨nI tot, Q, F, ?_, ?_, ?_⟩
  · show pu_r 114 [some (.ref 0), some (.int x), some (.int r), some (.int f)] [] M = _
    rw [st2, ru2]
    exact S14
  · show pu_r 297 [some (.ref 71), some (.int x), some (.int r), some (.int f)] [] Q = _
    rw [st2, ru2]
    exact rc.trans (rn2.trans fR)
  · have F2 : F.2 = M.2 := by rw [fg1, C2, Q2]
    have FQ : ∀ a j, a ≠ 72 → ¬ (79 ≤ a ∧ a ≤ 81) → ¬ (a = 71 ∧ j = 13) → F.1 a j = Q.1 a j := fun a j z1 z2 z3 => by rw [fg2 a j z1, Co a j (by omega) (by omega) (by omega), g1.2 a j z2 z3]
    have QM : ∀ a j, ¬ (5 ≤ a ∧ a < 58) → ¬ (62 ≤ a ∧ a ≤ 69) → Q.1 a j = M.1 a j := fun a j z1 z2 => by rw [qg2 a j (by omega) (by omega) (by omega), Bo a j (by omega) (by omega) (by omega), PM a j z2]
    refine pu_Inv_all h (by rw [F2]) (fun a j _ => by rw [F2]) (fun a j z => by rw [FQ a j (by omega) (by omega) (by omega), QM a j (by omega) (by omega)]) ?_
    rw [show pu_sj F 5 = pu_sj M 5 from pu_sj_eq (fun a j h1 h2 => by rw [F2])]
    have JQ : ∀ a j, 5 ≤ a → a < 58 → pu_si F 5 a j = Q.1 a j := fun a j z1 z2 => by rw [← pu_ag5 F a j z1 z2]; exact FQ a j (by omega) (by omega) (by omega)
    have today : P2.1 6 0 = pu_si M 5 6 0 := by rw [PM 6 0 (by omega)]; exact hI 6 0 (by omega) (by omega)
    have QB : ∀ a j, a ≠ 14 → ¬ (15 ≤ a ∧ a ≤ 18) → Q.1 a j = B.1 a j := fun a j z1 z2 => qg2 a j (by omega) (by omega) (by omega)
    refine St_renum hS hP (V := V) (X := X) (W := py_FW (pu_si M 5) st ru V) (n := n) (c := tot) (f := f) st1 ru1 SLV.1 SLV.2.1 (fun a b ha hb e => py_SL_i SLV ha hb e) hW iW (fun t ht => (qS.1 t ht).1) (fun t u ht hu e => py_SL_i qS ht hu e) (fun a ha no => Classical.byContradiction (fun z => by
      obtain ⟨t, t1, t2⟩ := qS.2.1 a ⟨ha, z⟩
      exact no t t1 t2)) hU hf (pz_ey_tc hw st1 c9) (fun a j z1 z2 z3 z4 z5 z6 => ?_) ⟨?_, ?_, ?_, ?_, ?_, ?_, ?_, ?_⟩ (by rw [JQ 14 0 (by omega) (by omega)]; exact qg3) (fun t ht => by rw [JQ 15 _ (by omega) (by omega), JQ 16 _ (by omega) (by omega), JQ 17 _ (by omega) (by omega), JQ 18 _ (by omega) (by omega)]; exact qg4 t ht) (fun t ht => by rw [JQ 18 _ (by omega) (by omega)]; exact qg5 t ht) (by rw [JQ 27 st (by omega) (by omega), QB 27 st (by omega) (by omega)]; exact B27) (fun j z1 z2 z3 z4 z5 => ?_) ⟨?_, fg4⟩ ⟨?_, ?_, ?_, ?_, ?_, ?_, ?_⟩ ?_ (fun t ht => by rw [XY t ht]; exact fg5 t ht) (fun t ht => by rw [XY t ht]; exact fg6 t ht)
    · by_cases z : 5 ≤ a ∧ a < 58
      · rw [JQ a j z.1 z.2, qg2 a j z3 z4 z5, Bo a j z1 z2 z6, PM a j (by omega)]
        exact hI a j z.1 z.2
      · unfold pu_si
        rw [if_neg z, if_neg z]
    · rw [JQ 6 2 (by omega) (by omega), QB 6 2 (by omega) (by omega), Bp 6 2 (by omega) (by omega)]; exact lv.1
    · rw [JQ 7 _ (by omega) (by omega), QB 7 _ (by omega) (by omega), Bp 7 _ (by omega) (by omega)]; exact lv.2.1
    · rw [JQ 8 _ (by omega) (by omega), QB 8 _ (by omega) (by omega), Bp 8 _ (by omega) (by omega), ← today]; exact lv.2.2.1
    · rw [JQ 9 _ (by omega) (by omega), QB 9 _ (by omega) (by omega), Bp 9 _ (by omega) (by omega)]; exact lv.2.2.2.1
    · rw [JQ 10 _ (by omega) (by omega), QB 10 _ (by omega) (by omega), Bp 10 _ (by omega) (by omega)]; exact lv.2.2.2.2.1
    · rw [JQ 11 _ (by omega) (by omega), QB 11 _ (by omega) (by omega), Bp 11 _ (by omega) (by omega)]; exact lv.2.2.2.2.2.1
    · rw [JQ 12 _ (by omega) (by omega), QB 12 _ (by omega) (by omega), Bp 12 _ (by omega) (by omega)]; exact lv.2.2.2.2.2.2.1
    · rw [JQ 13 _ (by omega) (by omega), QB 13 _ (by omega) (by omega)]; exact B13
    · rw [fg3 j (by omega) z4 (fun t ht => by rw [← XY t ht]; exact z5 t ht), CM j (by omega) z2 z3]
    · rw [fg3 5 (by omega) (by omega) (fun t ht => by omega), Cp 5 (by omega) (by omega)]; exact rv.1
    · rw [fg3 _ (by omega) (by omega) (fun t ht => by have := (SLV.1 (Y t) (fS.1 t ht).1).1; omega), Cp _ (by omega) (by omega), rv.2.1, G72]; exact rl_h0 hr
    · rw [fg3 _ (by omega) (by omega) (fun t ht => by have := (SLV.1 (Y t) (fS.1 t ht).1).1; omega), Cp _ (by omega) (by omega)]; exact rv.2.2.1
    · rw [fg3 _ (by omega) (by omega) (fun t ht => by have := (SLV.1 (Y t) (fS.1 t ht).1).1; omega), Cp _ (by omega) (by omega)]; exact rv.2.2.2.1
    · rw [fg3 _ (by omega) (by omega) (fun t ht => by have := (SLV.1 (Y t) (fS.1 t ht).1).1; omega), Cp _ (by omega) (by omega)]; exact rv.2.2.2.2.1
    · rw [fg3 _ (by omega) (by omega) (fun t ht => by have := (SLV.1 (Y t) (fS.1 t ht).1).1; omega), Cp _ (by omega) (by omega)]; exact rv.2.2.2.2.2.1
    · rw [fg3 _ (by omega) (by omega) (fun t ht => by have := (SLV.1 (Y t) (fS.1 t ht).1).1; omega), Cp _ (by omega) (by omega)]; exact rv.2.2.2.2.2.2.1
    · rw [fg3 _ (by omega) (by omega) (fun t ht => by have := (SLV.1 (Y t) (fS.1 t ht).1).1; omega)]; exact C6
    · rw [fg3 _ (by omega) (by omega) (fun t ht => by omega)]; exact C7
