/-! calls that only tell -/
theorem pu_hS {M : pu_M} (h : pu_Inv M) : pu_WF (pu_si M 5) (pu_sj M 5) := h.2.2.2.1.1
theorem pu_hR {M : pu_M} (h : pu_Inv M) : pu_Rel (pu_si M 5) (pu_sj M 5) (M.1 72) := h.2.2.2.1.2
theorem op_fault : pu_op pu_Inv 184 325 [] := by
  intro M h
  have hx := h.1
  have hI := pu_ag5 M
  have hr := pu_hR h
  refine ⟨pu_si M 5 45 0, M, M, ?_, ?_, h⟩
  · rw [qX11_fault]
    simp [a_ent, bX11_fault_0, a_ald, a_gi, a_gr, a_iret, ag_45 hI, fx_0_2 hx, fx_5_6 hx, sh_0, sh_45, sh_5, pu_rv, pu_as, Value.category, pu_bk, pu_kl, List.replicate, pu_wi_1, pu_wi_2, nl_add, nl_ladd, nl_aa, nl_mul, nl_rmul, nl_mm, pu_qe0, pu_qe1]
    all_goals try simp (maxSteps := 400000) (disch := omega) [nl_tle, nl_fle, nl_tlt, nl_flt, nl_teq, nl_feq, nl_sub, nl_ss, nl_lt, nl_llt, nl_ltt, nl_le, nl_lle, nl_lee, nl_eq, nl_leq, nl_ee, nl_div, nl_rem, nl_cl, nl_n1, nl_n2, nl_n3, nl_n4, nl_add, nl_ladd, nl_aa, nl_mul, nl_rmul, nl_mm, pu_wi_1, pu_wi_2]
  · rw [qX12_fault]
    simp [a_ent, bX12_fault_0, a_ai, a_ald, a_gr, a_iret, a_push, fx_71_0 hx, sh_71, sh_72, pu_rv, pu_as, Value.category, pu_bk, pu_kl, List.replicate, pu_wi_1, pu_wi_2, nl_add, nl_ladd, nl_aa, nl_mul, nl_rmul, nl_mm, pu_qe0, pu_qe1, rl_h15 hr]
    all_goals try simp (maxSteps := 400000) (disch := omega) [nl_tle, nl_fle, nl_tlt, nl_flt, nl_teq, nl_feq, nl_sub, nl_ss, nl_lt, nl_llt, nl_ltt, nl_le, nl_lle, nl_lee, nl_eq, nl_leq, nl_ee, nl_div, nl_rem, nl_cl, nl_n1, nl_n2, nl_n3, nl_n4, nl_add, nl_ladd, nl_aa, nl_mul, nl_rmul, nl_mm, pu_wi_1, pu_wi_2, rl_h15 hr]
theorem op_ended : pu_op pu_Inv 191 328 [] := by
  intro M h
  have hx := h.1
  have hI := pu_ag5 M
  have hr := pu_hR h
  refine ⟨pu_si M 5 45 1, M, M, ?_, ?_, h⟩
  · rw [qX11_ended]
    simp [a_ent, bX11_ended_0, a_ald, a_gi, a_gr, a_iret, ag_45 hI, fx_0_2 hx, fx_5_6 hx, sh_0, sh_45, sh_5, pu_rv, pu_as, Value.category, pu_bk, pu_kl, List.replicate, pu_wi_1, pu_wi_2, nl_add, nl_ladd, nl_aa, nl_mul, nl_rmul, nl_mm, pu_qe0, pu_qe1]
    all_goals try simp (maxSteps := 400000) (disch := omega) [nl_tle, nl_fle, nl_tlt, nl_flt, nl_teq, nl_feq, nl_sub, nl_ss, nl_lt, nl_llt, nl_ltt, nl_le, nl_lle, nl_lee, nl_eq, nl_leq, nl_ee, nl_div, nl_rem, nl_cl, nl_n1, nl_n2, nl_n3, nl_n4, nl_add, nl_ladd, nl_aa, nl_mul, nl_rmul, nl_mm, pu_wi_1, pu_wi_2]
  · rw [qX12_ended]
    simp [a_ent, bX12_ended_0, a_ai, a_ald, a_gr, a_iret, a_push, fx_71_0 hx, sh_71, sh_72, pu_rv, pu_as, Value.category, pu_bk, pu_kl, List.replicate, pu_wi_1, pu_wi_2, nl_add, nl_ladd, nl_aa, nl_mul, nl_rmul, nl_mm, pu_qe0, pu_qe1, rl_h16 hr]
    all_goals try simp (maxSteps := 400000) (disch := omega) [nl_tle, nl_fle, nl_tlt, nl_flt, nl_teq, nl_feq, nl_sub, nl_ss, nl_lt, nl_llt, nl_ltt, nl_le, nl_lle, nl_lee, nl_eq, nl_leq, nl_ee, nl_div, nl_rem, nl_cl, nl_n1, nl_n2, nl_n3, nl_n4, nl_add, nl_ladd, nl_aa, nl_mul, nl_rmul, nl_mm, pu_wi_1, pu_wi_2, rl_h16 hr]
theorem pu_neg0 {n : Nat} {i : Int32} (hn : n < 2147483648) (h : nI n ≤ i) : ¬ i < 0 := fun z => absurd (Int32.lt_of_le_of_lt h z) (nI_pos hn)
theorem op_found (i w : Int32) : pu_op pu_Inv 185 326 [.int i, .int w] := by
  intro M h
  have hx := h.1
  have hI := pu_ag5 M
  have hr := pu_hR h
  have hw := pu_hS h
  generalize pu_si M 5 = I at *
  have hb := wx_bQ hw
  rcases pk_ix i (n := cQ I) (by omega) with q | q | ⟨j, hj, rfl⟩
  · refine ⟨-1, M, M, ?_, ?_, h⟩
    · rw [qX11_found]
      simp [a_ent, bX11_found_0, bX11_found_18, bX11_found_20, bX11_found_37, bX11_found_57, bX11_found_58, a_ai, a_ald, a_gi, a_gr, a_iclt, a_icne, a_iflt, a_ifne, a_ild, a_iret, a_push, ag_45 hI, ag_46 hI, ag_47 hI, fx_0_2 hx, fx_45_8 hx, fx_45_9 hx, fx_5_6 hx, sh_0, sh_45, sh_46, sh_47, sh_5, pu_rv, pu_as, Value.category, pu_bk, pu_kl, List.replicate, pu_wi_1, pu_wi_2, nl_add, nl_ladd, nl_aa, nl_mul, nl_rmul, nl_mm, pu_qe0, pu_qe1, q]
      all_goals try simp (maxSteps := 400000) (disch := omega) [nl_tle, nl_fle, nl_tlt, nl_flt, nl_teq, nl_feq, nl_sub, nl_ss, nl_lt, nl_llt, nl_ltt, nl_le, nl_lle, nl_lee, nl_eq, nl_leq, nl_ee, nl_div, nl_rem, nl_cl, nl_n1, nl_n2, nl_n3, nl_n4, nl_add, nl_ladd, nl_aa, nl_mul, nl_rmul, nl_mm, pu_wi_1, pu_wi_2, q]
    · rw [qX12_found]
      simp [a_ent, bX12_found_0, bX12_found_24, bX12_found_26, a_ai, a_ald, a_gr, a_iadd, a_icge, a_icle, a_iflt, a_ild, a_imul, a_iret, a_push, fx_71_0 hx, sh_71, sh_72, pu_rv, pu_as, Value.category, pu_bk, pu_kl, List.replicate, pu_wi_1, pu_wi_2, nl_add, nl_ladd, nl_aa, nl_mul, nl_rmul, nl_mm, pu_qe0, pu_qe1, q]
      all_goals try simp (maxSteps := 400000) (disch := omega) [nl_tle, nl_fle, nl_tlt, nl_flt, nl_teq, nl_feq, nl_sub, nl_ss, nl_lt, nl_llt, nl_ltt, nl_le, nl_lle, nl_lee, nl_eq, nl_leq, nl_ee, nl_div, nl_rem, nl_cl, nl_n1, nl_n2, nl_n3, nl_n4, nl_add, nl_ladd, nl_aa, nl_mul, nl_rmul, nl_mm, pu_wi_1, pu_wi_2, q]
  · have q0 := pu_neg0 (by omega) q
    have q1 := Int32.not_lt.mpr q
    refine ⟨-1, M, M, ?_, ?_, h⟩
    · rw [qX11_found]
      simp [a_ent, bX11_found_0, bX11_found_18, bX11_found_20, bX11_found_37, bX11_found_57, bX11_found_58, a_ai, a_ald, a_gi, a_gr, a_iclt, a_icne, a_iflt, a_ifne, a_ild, a_iret, a_push, ag_45 hI, ag_46 hI, ag_47 hI, fx_0_2 hx, fx_45_8 hx, fx_45_9 hx, fx_5_6 hx, sh_0, sh_45, sh_46, sh_47, sh_5, pu_rv, pu_as, Value.category, pu_bk, pu_kl, List.replicate, pu_wi_1, pu_wi_2, nl_add, nl_ladd, nl_aa, nl_mul, nl_rmul, nl_mm, pu_qe0, pu_qe1, q, q0, q1, wx_cQ hw]
      all_goals try simp (maxSteps := 400000) (disch := omega) [nl_tle, nl_fle, nl_tlt, nl_flt, nl_teq, nl_feq, nl_sub, nl_ss, nl_lt, nl_llt, nl_ltt, nl_le, nl_lle, nl_lee, nl_eq, nl_leq, nl_ee, nl_div, nl_rem, nl_cl, nl_n1, nl_n2, nl_n3, nl_n4, nl_add, nl_ladd, nl_aa, nl_mul, nl_rmul, nl_mm, pu_wi_1, pu_wi_2, q, q0, q1, wx_cQ hw]
    · rw [qX12_found]
      simp [a_ent, bX12_found_0, bX12_found_24, bX12_found_26, a_ai, a_ald, a_gr, a_iadd, a_icge, a_icle, a_iflt, a_ild, a_imul, a_iret, a_push, fx_71_0 hx, sh_71, sh_72, pu_rv, pu_as, Value.category, pu_bk, pu_kl, List.replicate, pu_wi_1, pu_wi_2, nl_add, nl_ladd, nl_aa, nl_mul, nl_rmul, nl_mm, pu_qe0, pu_qe1, q, q0, q1, rl_h11 hr]
      all_goals try simp (maxSteps := 400000) (disch := omega) [nl_tle, nl_fle, nl_tlt, nl_flt, nl_teq, nl_feq, nl_sub, nl_ss, nl_lt, nl_llt, nl_ltt, nl_le, nl_lle, nl_lee, nl_eq, nl_leq, nl_ee, nl_div, nl_rem, nl_cl, nl_n1, nl_n2, nl_n3, nl_n4, nl_add, nl_ladd, nl_aa, nl_mul, nl_rmul, nl_mm, pu_wi_1, pu_wi_2, q, q0, q1, rl_h11 hr]
  · have p1 : ¬ nI j < 0 := nI_pos (by omega)
    have p2 : ¬ nI (cQ I) ≤ nI j := nI_ge (by omega) (by omega)
    by_cases w0 : w = 0
    · subst w0
      refine ⟨I 46 j, M, M, ?_, ?_, h⟩
      · rw [qX11_found]
        simp [a_ent, bX11_found_0, bX11_found_18, bX11_found_20, bX11_found_37, bX11_found_57, bX11_found_58, a_ai, a_ald, a_gi, a_gr, a_iclt, a_icne, a_iflt, a_ifne, a_ild, a_iret, a_push, ag_45 hI, ag_46 hI, ag_47 hI, fx_0_2 hx, fx_45_8 hx, fx_45_9 hx, fx_5_6 hx, sh_0, sh_45, sh_46, sh_47, sh_5, pu_rv, pu_as, Value.category, pu_bk, pu_kl, List.replicate, pu_wi_1, pu_wi_2, nl_add, nl_ladd, nl_aa, nl_mul, nl_rmul, nl_mm, pu_qe0, pu_qe1, p1, p2, wx_cQ hw]
        all_goals try simp (maxSteps := 400000) (disch := omega) [nl_tle, nl_fle, nl_tlt, nl_flt, nl_teq, nl_feq, nl_sub, nl_ss, nl_lt, nl_llt, nl_ltt, nl_le, nl_lle, nl_lee, nl_eq, nl_leq, nl_ee, nl_div, nl_rem, nl_cl, nl_n1, nl_n2, nl_n3, nl_n4, nl_add, nl_ladd, nl_aa, nl_mul, nl_rmul, nl_mm, pu_wi_1, pu_wi_2, p1, p2, wx_cQ hw]
      · rw [qX12_found]
        simp [a_ent, bX12_found_0, bX12_found_24, bX12_found_26, a_ai, a_ald, a_gr, a_iadd, a_icge, a_icle, a_iflt, a_ild, a_imul, a_iret, a_push, fx_71_0 hx, sh_71, sh_72, pu_rv, pu_as, Value.category, pu_bk, pu_kl, List.replicate, pu_wi_1, pu_wi_2, nl_add, nl_ladd, nl_aa, nl_mul, nl_rmul, nl_mm, pu_qe0, pu_qe1, p1, p2, rl_h11 hr, rl_eQ0 hr]
        all_goals try simp (maxSteps := 400000) (disch := omega) [nl_tle, nl_fle, nl_tlt, nl_flt, nl_teq, nl_feq, nl_sub, nl_ss, nl_lt, nl_llt, nl_ltt, nl_le, nl_lle, nl_lee, nl_eq, nl_leq, nl_ee, nl_div, nl_rem, nl_cl, nl_n1, nl_n2, nl_n3, nl_n4, nl_add, nl_ladd, nl_aa, nl_mul, nl_rmul, nl_mm, pu_wi_1, pu_wi_2, p1, p2, rl_h11 hr, rl_eQ0 hr]
    · by_cases w1 : w = 1
      · subst w1
        refine ⟨I 47 j, M, M, ?_, ?_, h⟩
        · rw [qX11_found]
          simp [a_ent, bX11_found_0, bX11_found_18, bX11_found_20, bX11_found_37, bX11_found_57, bX11_found_58, a_ai, a_ald, a_gi, a_gr, a_iclt, a_icne, a_iflt, a_ifne, a_ild, a_iret, a_push, ag_45 hI, ag_46 hI, ag_47 hI, fx_0_2 hx, fx_45_8 hx, fx_45_9 hx, fx_5_6 hx, sh_0, sh_45, sh_46, sh_47, sh_5, pu_rv, pu_as, Value.category, pu_bk, pu_kl, List.replicate, pu_wi_1, pu_wi_2, nl_add, nl_ladd, nl_aa, nl_mul, nl_rmul, nl_mm, pu_qe0, pu_qe1, p1, p2, wx_cQ hw]
          all_goals try simp (maxSteps := 400000) (disch := omega) [nl_tle, nl_fle, nl_tlt, nl_flt, nl_teq, nl_feq, nl_sub, nl_ss, nl_lt, nl_llt, nl_ltt, nl_le, nl_lle, nl_lee, nl_eq, nl_leq, nl_ee, nl_div, nl_rem, nl_cl, nl_n1, nl_n2, nl_n3, nl_n4, nl_add, nl_ladd, nl_aa, nl_mul, nl_rmul, nl_mm, pu_wi_1, pu_wi_2, p1, p2, wx_cQ hw]
        · rw [qX12_found]
          simp [a_ent, bX12_found_0, bX12_found_24, bX12_found_26, a_ai, a_ald, a_gr, a_iadd, a_icge, a_icle, a_iflt, a_ild, a_imul, a_iret, a_push, fx_71_0 hx, sh_71, sh_72, pu_rv, pu_as, Value.category, pu_bk, pu_kl, List.replicate, pu_wi_1, pu_wi_2, nl_add, nl_ladd, nl_aa, nl_mul, nl_rmul, nl_mm, pu_qe0, pu_qe1, p1, p2, rl_h11 hr, rl_eQ1 hr]
          all_goals try simp (maxSteps := 400000) (disch := omega) [nl_tle, nl_fle, nl_tlt, nl_flt, nl_teq, nl_feq, nl_sub, nl_ss, nl_lt, nl_llt, nl_ltt, nl_le, nl_lle, nl_lee, nl_eq, nl_leq, nl_ee, nl_div, nl_rem, nl_cl, nl_n1, nl_n2, nl_n3, nl_n4, nl_add, nl_ladd, nl_aa, nl_mul, nl_rmul, nl_mm, pu_wi_1, pu_wi_2, p1, p2, rl_h11 hr, rl_eQ1 hr]
      · refine ⟨-1, M, M, ?_, ?_, h⟩
        · rw [qX11_found]
          simp [a_ent, bX11_found_0, bX11_found_18, bX11_found_20, bX11_found_37, bX11_found_57, bX11_found_58, a_ai, a_ald, a_gi, a_gr, a_iclt, a_icne, a_iflt, a_ifne, a_ild, a_iret, a_push, ag_45 hI, ag_46 hI, ag_47 hI, fx_0_2 hx, fx_45_8 hx, fx_45_9 hx, fx_5_6 hx, sh_0, sh_45, sh_46, sh_47, sh_5, pu_rv, pu_as, Value.category, pu_bk, pu_kl, List.replicate, pu_wi_1, pu_wi_2, nl_add, nl_ladd, nl_aa, nl_mul, nl_rmul, nl_mm, pu_qe0, pu_qe1, p1, p2, wx_cQ hw, w0, w1]
          all_goals try simp (maxSteps := 400000) (disch := omega) [nl_tle, nl_fle, nl_tlt, nl_flt, nl_teq, nl_feq, nl_sub, nl_ss, nl_lt, nl_llt, nl_ltt, nl_le, nl_lle, nl_lee, nl_eq, nl_leq, nl_ee, nl_div, nl_rem, nl_cl, nl_n1, nl_n2, nl_n3, nl_n4, nl_add, nl_ladd, nl_aa, nl_mul, nl_rmul, nl_mm, pu_wi_1, pu_wi_2, p1, p2, wx_cQ hw, w0, w1]
        · by_cases w2 : w < 0
          · rw [qX12_found]
            simp [a_ent, bX12_found_0, bX12_found_24, bX12_found_26, a_ai, a_ald, a_gr, a_iadd, a_icge, a_icle, a_iflt, a_ild, a_imul, a_iret, a_push, fx_71_0 hx, sh_71, sh_72, pu_rv, pu_as, Value.category, pu_bk, pu_kl, List.replicate, pu_wi_1, pu_wi_2, nl_add, nl_ladd, nl_aa, nl_mul, nl_rmul, nl_mm, pu_qe0, pu_qe1, p1, p2, rl_h11 hr, w2]
            all_goals try simp (maxSteps := 400000) (disch := omega) [nl_tle, nl_fle, nl_tlt, nl_flt, nl_teq, nl_feq, nl_sub, nl_ss, nl_lt, nl_llt, nl_ltt, nl_le, nl_lle, nl_lee, nl_eq, nl_leq, nl_ee, nl_div, nl_rem, nl_cl, nl_n1, nl_n2, nl_n3, nl_n4, nl_add, nl_ladd, nl_aa, nl_mul, nl_rmul, nl_mm, pu_wi_1, pu_wi_2, p1, p2, rl_h11 hr, w2]
          · have w3 : 1 < w := by grind
            have w4 : ¬ w ≤ 1 := Int32.not_le.mpr w3
            rw [qX12_found]
            simp [a_ent, bX12_found_0, bX12_found_24, bX12_found_26, a_ai, a_ald, a_gr, a_iadd, a_icge, a_icle, a_iflt, a_ild, a_imul, a_iret, a_push, fx_71_0 hx, sh_71, sh_72, pu_rv, pu_as, Value.category, pu_bk, pu_kl, List.replicate, pu_wi_1, pu_wi_2, nl_add, nl_ladd, nl_aa, nl_mul, nl_rmul, nl_mm, pu_qe0, pu_qe1, p1, p2, rl_h11 hr, w2, w3, w4]
            all_goals try simp (maxSteps := 400000) (disch := omega) [nl_tle, nl_fle, nl_tlt, nl_flt, nl_teq, nl_feq, nl_sub, nl_ss, nl_lt, nl_llt, nl_ltt, nl_le, nl_lle, nl_lee, nl_eq, nl_leq, nl_ee, nl_div, nl_rem, nl_cl, nl_n1, nl_n2, nl_n3, nl_n4, nl_add, nl_ladd, nl_aa, nl_mul, nl_rmul, nl_mm, pu_wi_1, pu_wi_2, p1, p2, rl_h11 hr, w2, w3, w4]
theorem op_pair (i w : Int32) : pu_op pu_Inv 197 341 [.int i, .int w] := by
  intro M h
  have hx := h.1
  have hI := pu_ag5 M
  have hr := pu_hR h
  have hw := pu_hS h
  generalize pu_si M 5 = I at *
  have hb := wx_bR hw
  rcases pk_ix i (n := cR I) (by omega) with q | q | ⟨j, hj, rfl⟩
  · refine ⟨-1, M, M, ?_, ?_, h⟩
    · rw [qX11_pair]
      simp [a_ent, bX11_pair_0, bX11_pair_18, bX11_pair_20, bX11_pair_37, bX11_pair_57, bX11_pair_58, a_ai, a_ald, a_gi, a_gr, a_iclt, a_icne, a_iflt, a_ifne, a_ild, a_iret, a_push, ag_45 hI, ag_49 hI, ag_50 hI, fx_0_2 hx, fx_45_11 hx, fx_45_12 hx, fx_5_6 hx, sh_0, sh_45, sh_49, sh_5, sh_50, pu_rv, pu_as, Value.category, pu_bk, pu_kl, List.replicate, pu_wi_1, pu_wi_2, nl_add, nl_ladd, nl_aa, nl_mul, nl_rmul, nl_mm, pu_qe0, pu_qe1, q]
      all_goals try simp (maxSteps := 400000) (disch := omega) [nl_tle, nl_fle, nl_tlt, nl_flt, nl_teq, nl_feq, nl_sub, nl_ss, nl_lt, nl_llt, nl_ltt, nl_le, nl_lle, nl_lee, nl_eq, nl_leq, nl_ee, nl_div, nl_rem, nl_cl, nl_n1, nl_n2, nl_n3, nl_n4, nl_add, nl_ladd, nl_aa, nl_mul, nl_rmul, nl_mm, pu_wi_1, pu_wi_2, q]
    · rw [qX12_pair]
      simp [a_ent, bX12_pair_0, bX12_pair_24, bX12_pair_42, bX12_pair_28, a_ai, a_ald, a_gr, a_iadd, a_icge, a_icle, a_iflt, a_ild, a_imul, a_iret, a_push, fx_71_0 hx, sh_71, sh_72, pu_rv, pu_as, Value.category, pu_bk, pu_kl, List.replicate, pu_wi_1, pu_wi_2, nl_add, nl_ladd, nl_aa, nl_mul, nl_rmul, nl_mm, pu_qe0, pu_qe1, q]
      all_goals try simp (maxSteps := 400000) (disch := omega) [nl_tle, nl_fle, nl_tlt, nl_flt, nl_teq, nl_feq, nl_sub, nl_ss, nl_lt, nl_llt, nl_ltt, nl_le, nl_lle, nl_lee, nl_eq, nl_leq, nl_ee, nl_div, nl_rem, nl_cl, nl_n1, nl_n2, nl_n3, nl_n4, nl_add, nl_ladd, nl_aa, nl_mul, nl_rmul, nl_mm, pu_wi_1, pu_wi_2, q]
  · have q0 := pu_neg0 (by omega) q
    have q1 := Int32.not_lt.mpr q
    refine ⟨-1, M, M, ?_, ?_, h⟩
    · rw [qX11_pair]
      simp [a_ent, bX11_pair_0, bX11_pair_18, bX11_pair_20, bX11_pair_37, bX11_pair_57, bX11_pair_58, a_ai, a_ald, a_gi, a_gr, a_iclt, a_icne, a_iflt, a_ifne, a_ild, a_iret, a_push, ag_45 hI, ag_49 hI, ag_50 hI, fx_0_2 hx, fx_45_11 hx, fx_45_12 hx, fx_5_6 hx, sh_0, sh_45, sh_49, sh_5, sh_50, pu_rv, pu_as, Value.category, pu_bk, pu_kl, List.replicate, pu_wi_1, pu_wi_2, nl_add, nl_ladd, nl_aa, nl_mul, nl_rmul, nl_mm, pu_qe0, pu_qe1, q, q0, q1, wx_cR hw]
      all_goals try simp (maxSteps := 400000) (disch := omega) [nl_tle, nl_fle, nl_tlt, nl_flt, nl_teq, nl_feq, nl_sub, nl_ss, nl_lt, nl_llt, nl_ltt, nl_le, nl_lle, nl_lee, nl_eq, nl_leq, nl_ee, nl_div, nl_rem, nl_cl, nl_n1, nl_n2, nl_n3, nl_n4, nl_add, nl_ladd, nl_aa, nl_mul, nl_rmul, nl_mm, pu_wi_1, pu_wi_2, q, q0, q1, wx_cR hw]
    · rw [qX12_pair]
      simp [a_ent, bX12_pair_0, bX12_pair_24, bX12_pair_42, bX12_pair_28, a_ai, a_ald, a_gr, a_iadd, a_icge, a_icle, a_iflt, a_ild, a_imul, a_iret, a_push, fx_71_0 hx, sh_71, sh_72, pu_rv, pu_as, Value.category, pu_bk, pu_kl, List.replicate, pu_wi_1, pu_wi_2, nl_add, nl_ladd, nl_aa, nl_mul, nl_rmul, nl_mm, pu_qe0, pu_qe1, q, q0, q1, rl_h14 hr]
      all_goals try simp (maxSteps := 400000) (disch := omega) [nl_tle, nl_fle, nl_tlt, nl_flt, nl_teq, nl_feq, nl_sub, nl_ss, nl_lt, nl_llt, nl_ltt, nl_le, nl_lle, nl_lee, nl_eq, nl_leq, nl_ee, nl_div, nl_rem, nl_cl, nl_n1, nl_n2, nl_n3, nl_n4, nl_add, nl_ladd, nl_aa, nl_mul, nl_rmul, nl_mm, pu_wi_1, pu_wi_2, q, q0, q1, rl_h14 hr]
  · have p1 : ¬ nI j < 0 := nI_pos (by omega)
    have p2 : ¬ nI (cR I) ≤ nI j := nI_ge (by omega) (by omega)
    by_cases w0 : w = 0
    · subst w0
      refine ⟨I 49 j, M, M, ?_, ?_, h⟩
      · rw [qX11_pair]
        simp [a_ent, bX11_pair_0, bX11_pair_18, bX11_pair_20, bX11_pair_37, bX11_pair_57, bX11_pair_58, a_ai, a_ald, a_gi, a_gr, a_iclt, a_icne, a_iflt, a_ifne, a_ild, a_iret, a_push, ag_45 hI, ag_49 hI, ag_50 hI, fx_0_2 hx, fx_45_11 hx, fx_45_12 hx, fx_5_6 hx, sh_0, sh_45, sh_49, sh_5, sh_50, pu_rv, pu_as, Value.category, pu_bk, pu_kl, List.replicate, pu_wi_1, pu_wi_2, nl_add, nl_ladd, nl_aa, nl_mul, nl_rmul, nl_mm, pu_qe0, pu_qe1, p1, p2, wx_cR hw]
        all_goals try simp (maxSteps := 400000) (disch := omega) [nl_tle, nl_fle, nl_tlt, nl_flt, nl_teq, nl_feq, nl_sub, nl_ss, nl_lt, nl_llt, nl_ltt, nl_le, nl_lle, nl_lee, nl_eq, nl_leq, nl_ee, nl_div, nl_rem, nl_cl, nl_n1, nl_n2, nl_n3, nl_n4, nl_add, nl_ladd, nl_aa, nl_mul, nl_rmul, nl_mm, pu_wi_1, pu_wi_2, p1, p2, wx_cR hw]
      · rw [qX12_pair]
        simp [a_ent, bX12_pair_0, bX12_pair_24, bX12_pair_42, bX12_pair_28, a_ai, a_ald, a_gr, a_iadd, a_icge, a_icle, a_iflt, a_ild, a_imul, a_iret, a_push, fx_71_0 hx, sh_71, sh_72, pu_rv, pu_as, Value.category, pu_bk, pu_kl, List.replicate, pu_wi_1, pu_wi_2, nl_add, nl_ladd, nl_aa, nl_mul, nl_rmul, nl_mm, pu_qe0, pu_qe1, p1, p2, rl_h14 hr, rl_eR0 hr]
        all_goals try simp (maxSteps := 400000) (disch := omega) [nl_tle, nl_fle, nl_tlt, nl_flt, nl_teq, nl_feq, nl_sub, nl_ss, nl_lt, nl_llt, nl_ltt, nl_le, nl_lle, nl_lee, nl_eq, nl_leq, nl_ee, nl_div, nl_rem, nl_cl, nl_n1, nl_n2, nl_n3, nl_n4, nl_add, nl_ladd, nl_aa, nl_mul, nl_rmul, nl_mm, pu_wi_1, pu_wi_2, p1, p2, rl_h14 hr, rl_eR0 hr]
    · by_cases w1 : w = 1
      · subst w1
        refine ⟨I 50 j, M, M, ?_, ?_, h⟩
        · rw [qX11_pair]
          simp [a_ent, bX11_pair_0, bX11_pair_18, bX11_pair_20, bX11_pair_37, bX11_pair_57, bX11_pair_58, a_ai, a_ald, a_gi, a_gr, a_iclt, a_icne, a_iflt, a_ifne, a_ild, a_iret, a_push, ag_45 hI, ag_49 hI, ag_50 hI, fx_0_2 hx, fx_45_11 hx, fx_45_12 hx, fx_5_6 hx, sh_0, sh_45, sh_49, sh_5, sh_50, pu_rv, pu_as, Value.category, pu_bk, pu_kl, List.replicate, pu_wi_1, pu_wi_2, nl_add, nl_ladd, nl_aa, nl_mul, nl_rmul, nl_mm, pu_qe0, pu_qe1, p1, p2, wx_cR hw]
          all_goals try simp (maxSteps := 400000) (disch := omega) [nl_tle, nl_fle, nl_tlt, nl_flt, nl_teq, nl_feq, nl_sub, nl_ss, nl_lt, nl_llt, nl_ltt, nl_le, nl_lle, nl_lee, nl_eq, nl_leq, nl_ee, nl_div, nl_rem, nl_cl, nl_n1, nl_n2, nl_n3, nl_n4, nl_add, nl_ladd, nl_aa, nl_mul, nl_rmul, nl_mm, pu_wi_1, pu_wi_2, p1, p2, wx_cR hw]
        · rw [qX12_pair]
          simp [a_ent, bX12_pair_0, bX12_pair_24, bX12_pair_42, bX12_pair_28, a_ai, a_ald, a_gr, a_iadd, a_icge, a_icle, a_iflt, a_ild, a_imul, a_iret, a_push, fx_71_0 hx, sh_71, sh_72, pu_rv, pu_as, Value.category, pu_bk, pu_kl, List.replicate, pu_wi_1, pu_wi_2, nl_add, nl_ladd, nl_aa, nl_mul, nl_rmul, nl_mm, pu_qe0, pu_qe1, p1, p2, rl_h14 hr, rl_eR1 hr]
          all_goals try simp (maxSteps := 400000) (disch := omega) [nl_tle, nl_fle, nl_tlt, nl_flt, nl_teq, nl_feq, nl_sub, nl_ss, nl_lt, nl_llt, nl_ltt, nl_le, nl_lle, nl_lee, nl_eq, nl_leq, nl_ee, nl_div, nl_rem, nl_cl, nl_n1, nl_n2, nl_n3, nl_n4, nl_add, nl_ladd, nl_aa, nl_mul, nl_rmul, nl_mm, pu_wi_1, pu_wi_2, p1, p2, rl_h14 hr, rl_eR1 hr]
      · refine ⟨-1, M, M, ?_, ?_, h⟩
        · rw [qX11_pair]
          simp [a_ent, bX11_pair_0, bX11_pair_18, bX11_pair_20, bX11_pair_37, bX11_pair_57, bX11_pair_58, a_ai, a_ald, a_gi, a_gr, a_iclt, a_icne, a_iflt, a_ifne, a_ild, a_iret, a_push, ag_45 hI, ag_49 hI, ag_50 hI, fx_0_2 hx, fx_45_11 hx, fx_45_12 hx, fx_5_6 hx, sh_0, sh_45, sh_49, sh_5, sh_50, pu_rv, pu_as, Value.category, pu_bk, pu_kl, List.replicate, pu_wi_1, pu_wi_2, nl_add, nl_ladd, nl_aa, nl_mul, nl_rmul, nl_mm, pu_qe0, pu_qe1, p1, p2, wx_cR hw, w0, w1]
          all_goals try simp (maxSteps := 400000) (disch := omega) [nl_tle, nl_fle, nl_tlt, nl_flt, nl_teq, nl_feq, nl_sub, nl_ss, nl_lt, nl_llt, nl_ltt, nl_le, nl_lle, nl_lee, nl_eq, nl_leq, nl_ee, nl_div, nl_rem, nl_cl, nl_n1, nl_n2, nl_n3, nl_n4, nl_add, nl_ladd, nl_aa, nl_mul, nl_rmul, nl_mm, pu_wi_1, pu_wi_2, p1, p2, wx_cR hw, w0, w1]
        · by_cases w2 : w < 0
          · rw [qX12_pair]
            simp [a_ent, bX12_pair_0, bX12_pair_24, bX12_pair_42, bX12_pair_28, a_ai, a_ald, a_gr, a_iadd, a_icge, a_icle, a_iflt, a_ild, a_imul, a_iret, a_push, fx_71_0 hx, sh_71, sh_72, pu_rv, pu_as, Value.category, pu_bk, pu_kl, List.replicate, pu_wi_1, pu_wi_2, nl_add, nl_ladd, nl_aa, nl_mul, nl_rmul, nl_mm, pu_qe0, pu_qe1, p1, p2, rl_h14 hr, w2]
            all_goals try simp (maxSteps := 400000) (disch := omega) [nl_tle, nl_fle, nl_tlt, nl_flt, nl_teq, nl_feq, nl_sub, nl_ss, nl_lt, nl_llt, nl_ltt, nl_le, nl_lle, nl_lee, nl_eq, nl_leq, nl_ee, nl_div, nl_rem, nl_cl, nl_n1, nl_n2, nl_n3, nl_n4, nl_add, nl_ladd, nl_aa, nl_mul, nl_rmul, nl_mm, pu_wi_1, pu_wi_2, p1, p2, rl_h14 hr, w2]
          · have w3 : 1 < w := by grind
            have w4 : ¬ w ≤ 1 := Int32.not_le.mpr w3
            rw [qX12_pair]
            simp [a_ent, bX12_pair_0, bX12_pair_24, bX12_pair_42, bX12_pair_28, a_ai, a_ald, a_gr, a_iadd, a_icge, a_icle, a_iflt, a_ild, a_imul, a_iret, a_push, fx_71_0 hx, sh_71, sh_72, pu_rv, pu_as, Value.category, pu_bk, pu_kl, List.replicate, pu_wi_1, pu_wi_2, nl_add, nl_ladd, nl_aa, nl_mul, nl_rmul, nl_mm, pu_qe0, pu_qe1, p1, p2, rl_h14 hr, w2, w3, w4]
            all_goals try simp (maxSteps := 400000) (disch := omega) [nl_tle, nl_fle, nl_tlt, nl_flt, nl_teq, nl_feq, nl_sub, nl_ss, nl_lt, nl_llt, nl_ltt, nl_le, nl_lle, nl_lee, nl_eq, nl_leq, nl_ee, nl_div, nl_rem, nl_cl, nl_n1, nl_n2, nl_n3, nl_n4, nl_add, nl_ladd, nl_aa, nl_mul, nl_rmul, nl_mm, pu_wi_1, pu_wi_2, p1, p2, rl_h14 hr, w2, w3, w4]
theorem op_sorted (i w : Int32) : pu_op pu_Inv 217 352 [.int i, .int w] := by
  intro M h
  have hx := h.1
  have hI := pu_ag5 M
  have hr := pu_hR h
  have hw := pu_hS h
  generalize pu_si M 5 = I at *
  have hb := wx_bO hw
  rcases pk_ix i (n := cO I) (by omega) with q | q | ⟨j, hj, rfl⟩
  · refine ⟨-1, M, M, ?_, ?_, h⟩
    · rw [qX11_sorted]
      simp [a_ent, bX11_sorted_0, bX11_sorted_18, bX11_sorted_20, bX11_sorted_37, bX11_sorted_57, bX11_sorted_58, a_ai, a_ald, a_gi, a_gr, a_iclt, a_icne, a_iflt, a_ifne, a_ild, a_iret, a_push, ag_45 hI, ag_56 hI, ag_57 hI, fx_0_2 hx, fx_45_18 hx, fx_45_19 hx, fx_5_6 hx, sh_0, sh_45, sh_5, sh_56, sh_57, pu_rv, pu_as, Value.category, pu_bk, pu_kl, List.replicate, pu_wi_1, pu_wi_2, nl_add, nl_ladd, nl_aa, nl_mul, nl_rmul, nl_mm, pu_qe0, pu_qe1, q]
      all_goals try simp (maxSteps := 400000) (disch := omega) [nl_tle, nl_fle, nl_tlt, nl_flt, nl_teq, nl_feq, nl_sub, nl_ss, nl_lt, nl_llt, nl_ltt, nl_le, nl_lle, nl_lee, nl_eq, nl_leq, nl_ee, nl_div, nl_rem, nl_cl, nl_n1, nl_n2, nl_n3, nl_n4, nl_add, nl_ladd, nl_aa, nl_mul, nl_rmul, nl_mm, pu_wi_1, pu_wi_2, q]
    · rw [qX12_sorted]
      simp [a_ent, bX12_sorted_0, bX12_sorted_24, bX12_sorted_42, bX12_sorted_28, a_ai, a_ald, a_gr, a_iadd, a_icge, a_icle, a_iflt, a_ild, a_imul, a_iret, a_push, fx_71_0 hx, sh_71, sh_72, pu_rv, pu_as, Value.category, pu_bk, pu_kl, List.replicate, pu_wi_1, pu_wi_2, nl_add, nl_ladd, nl_aa, nl_mul, nl_rmul, nl_mm, pu_qe0, pu_qe1, q]
      all_goals try simp (maxSteps := 400000) (disch := omega) [nl_tle, nl_fle, nl_tlt, nl_flt, nl_teq, nl_feq, nl_sub, nl_ss, nl_lt, nl_llt, nl_ltt, nl_le, nl_lle, nl_lee, nl_eq, nl_leq, nl_ee, nl_div, nl_rem, nl_cl, nl_n1, nl_n2, nl_n3, nl_n4, nl_add, nl_ladd, nl_aa, nl_mul, nl_rmul, nl_mm, pu_wi_1, pu_wi_2, q]
  · have q0 := pu_neg0 (by omega) q
    have q1 := Int32.not_lt.mpr q
    refine ⟨-1, M, M, ?_, ?_, h⟩
    · rw [qX11_sorted]
      simp [a_ent, bX11_sorted_0, bX11_sorted_18, bX11_sorted_20, bX11_sorted_37, bX11_sorted_57, bX11_sorted_58, a_ai, a_ald, a_gi, a_gr, a_iclt, a_icne, a_iflt, a_ifne, a_ild, a_iret, a_push, ag_45 hI, ag_56 hI, ag_57 hI, fx_0_2 hx, fx_45_18 hx, fx_45_19 hx, fx_5_6 hx, sh_0, sh_45, sh_5, sh_56, sh_57, pu_rv, pu_as, Value.category, pu_bk, pu_kl, List.replicate, pu_wi_1, pu_wi_2, nl_add, nl_ladd, nl_aa, nl_mul, nl_rmul, nl_mm, pu_qe0, pu_qe1, q, q0, q1, wx_cO hw]
      all_goals try simp (maxSteps := 400000) (disch := omega) [nl_tle, nl_fle, nl_tlt, nl_flt, nl_teq, nl_feq, nl_sub, nl_ss, nl_lt, nl_llt, nl_ltt, nl_le, nl_lle, nl_lee, nl_eq, nl_leq, nl_ee, nl_div, nl_rem, nl_cl, nl_n1, nl_n2, nl_n3, nl_n4, nl_add, nl_ladd, nl_aa, nl_mul, nl_rmul, nl_mm, pu_wi_1, pu_wi_2, q, q0, q1, wx_cO hw]
    · rw [qX12_sorted]
      simp [a_ent, bX12_sorted_0, bX12_sorted_24, bX12_sorted_42, bX12_sorted_28, a_ai, a_ald, a_gr, a_iadd, a_icge, a_icle, a_iflt, a_ild, a_imul, a_iret, a_push, fx_71_0 hx, sh_71, sh_72, pu_rv, pu_as, Value.category, pu_bk, pu_kl, List.replicate, pu_wi_1, pu_wi_2, nl_add, nl_ladd, nl_aa, nl_mul, nl_rmul, nl_mm, pu_qe0, pu_qe1, q, q0, q1, rl_h13 hr]
      all_goals try simp (maxSteps := 400000) (disch := omega) [nl_tle, nl_fle, nl_tlt, nl_flt, nl_teq, nl_feq, nl_sub, nl_ss, nl_lt, nl_llt, nl_ltt, nl_le, nl_lle, nl_lee, nl_eq, nl_leq, nl_ee, nl_div, nl_rem, nl_cl, nl_n1, nl_n2, nl_n3, nl_n4, nl_add, nl_ladd, nl_aa, nl_mul, nl_rmul, nl_mm, pu_wi_1, pu_wi_2, q, q0, q1, rl_h13 hr]
  · have p1 : ¬ nI j < 0 := nI_pos (by omega)
    have p2 : ¬ nI (cO I) ≤ nI j := nI_ge (by omega) (by omega)
    by_cases w0 : w = 0
    · subst w0
      refine ⟨I 56 j, M, M, ?_, ?_, h⟩
      · rw [qX11_sorted]
        simp [a_ent, bX11_sorted_0, bX11_sorted_18, bX11_sorted_20, bX11_sorted_37, bX11_sorted_57, bX11_sorted_58, a_ai, a_ald, a_gi, a_gr, a_iclt, a_icne, a_iflt, a_ifne, a_ild, a_iret, a_push, ag_45 hI, ag_56 hI, ag_57 hI, fx_0_2 hx, fx_45_18 hx, fx_45_19 hx, fx_5_6 hx, sh_0, sh_45, sh_5, sh_56, sh_57, pu_rv, pu_as, Value.category, pu_bk, pu_kl, List.replicate, pu_wi_1, pu_wi_2, nl_add, nl_ladd, nl_aa, nl_mul, nl_rmul, nl_mm, pu_qe0, pu_qe1, p1, p2, wx_cO hw]
        all_goals try simp (maxSteps := 400000) (disch := omega) [nl_tle, nl_fle, nl_tlt, nl_flt, nl_teq, nl_feq, nl_sub, nl_ss, nl_lt, nl_llt, nl_ltt, nl_le, nl_lle, nl_lee, nl_eq, nl_leq, nl_ee, nl_div, nl_rem, nl_cl, nl_n1, nl_n2, nl_n3, nl_n4, nl_add, nl_ladd, nl_aa, nl_mul, nl_rmul, nl_mm, pu_wi_1, pu_wi_2, p1, p2, wx_cO hw]
      · rw [qX12_sorted]
        simp [a_ent, bX12_sorted_0, bX12_sorted_24, bX12_sorted_42, bX12_sorted_28, a_ai, a_ald, a_gr, a_iadd, a_icge, a_icle, a_iflt, a_ild, a_imul, a_iret, a_push, fx_71_0 hx, sh_71, sh_72, pu_rv, pu_as, Value.category, pu_bk, pu_kl, List.replicate, pu_wi_1, pu_wi_2, nl_add, nl_ladd, nl_aa, nl_mul, nl_rmul, nl_mm, pu_qe0, pu_qe1, p1, p2, rl_h13 hr, rl_eO0 hr]
        all_goals try simp (maxSteps := 400000) (disch := omega) [nl_tle, nl_fle, nl_tlt, nl_flt, nl_teq, nl_feq, nl_sub, nl_ss, nl_lt, nl_llt, nl_ltt, nl_le, nl_lle, nl_lee, nl_eq, nl_leq, nl_ee, nl_div, nl_rem, nl_cl, nl_n1, nl_n2, nl_n3, nl_n4, nl_add, nl_ladd, nl_aa, nl_mul, nl_rmul, nl_mm, pu_wi_1, pu_wi_2, p1, p2, rl_h13 hr, rl_eO0 hr]
    · by_cases w1 : w = 1
      · subst w1
        refine ⟨I 57 j, M, M, ?_, ?_, h⟩
        · rw [qX11_sorted]
          simp [a_ent, bX11_sorted_0, bX11_sorted_18, bX11_sorted_20, bX11_sorted_37, bX11_sorted_57, bX11_sorted_58, a_ai, a_ald, a_gi, a_gr, a_iclt, a_icne, a_iflt, a_ifne, a_ild, a_iret, a_push, ag_45 hI, ag_56 hI, ag_57 hI, fx_0_2 hx, fx_45_18 hx, fx_45_19 hx, fx_5_6 hx, sh_0, sh_45, sh_5, sh_56, sh_57, pu_rv, pu_as, Value.category, pu_bk, pu_kl, List.replicate, pu_wi_1, pu_wi_2, nl_add, nl_ladd, nl_aa, nl_mul, nl_rmul, nl_mm, pu_qe0, pu_qe1, p1, p2, wx_cO hw]
          all_goals try simp (maxSteps := 400000) (disch := omega) [nl_tle, nl_fle, nl_tlt, nl_flt, nl_teq, nl_feq, nl_sub, nl_ss, nl_lt, nl_llt, nl_ltt, nl_le, nl_lle, nl_lee, nl_eq, nl_leq, nl_ee, nl_div, nl_rem, nl_cl, nl_n1, nl_n2, nl_n3, nl_n4, nl_add, nl_ladd, nl_aa, nl_mul, nl_rmul, nl_mm, pu_wi_1, pu_wi_2, p1, p2, wx_cO hw]
        · rw [qX12_sorted]
          simp [a_ent, bX12_sorted_0, bX12_sorted_24, bX12_sorted_42, bX12_sorted_28, a_ai, a_ald, a_gr, a_iadd, a_icge, a_icle, a_iflt, a_ild, a_imul, a_iret, a_push, fx_71_0 hx, sh_71, sh_72, pu_rv, pu_as, Value.category, pu_bk, pu_kl, List.replicate, pu_wi_1, pu_wi_2, nl_add, nl_ladd, nl_aa, nl_mul, nl_rmul, nl_mm, pu_qe0, pu_qe1, p1, p2, rl_h13 hr, rl_eO1 hr]
          all_goals try simp (maxSteps := 400000) (disch := omega) [nl_tle, nl_fle, nl_tlt, nl_flt, nl_teq, nl_feq, nl_sub, nl_ss, nl_lt, nl_llt, nl_ltt, nl_le, nl_lle, nl_lee, nl_eq, nl_leq, nl_ee, nl_div, nl_rem, nl_cl, nl_n1, nl_n2, nl_n3, nl_n4, nl_add, nl_ladd, nl_aa, nl_mul, nl_rmul, nl_mm, pu_wi_1, pu_wi_2, p1, p2, rl_h13 hr, rl_eO1 hr]
      · refine ⟨-1, M, M, ?_, ?_, h⟩
        · rw [qX11_sorted]
          simp [a_ent, bX11_sorted_0, bX11_sorted_18, bX11_sorted_20, bX11_sorted_37, bX11_sorted_57, bX11_sorted_58, a_ai, a_ald, a_gi, a_gr, a_iclt, a_icne, a_iflt, a_ifne, a_ild, a_iret, a_push, ag_45 hI, ag_56 hI, ag_57 hI, fx_0_2 hx, fx_45_18 hx, fx_45_19 hx, fx_5_6 hx, sh_0, sh_45, sh_5, sh_56, sh_57, pu_rv, pu_as, Value.category, pu_bk, pu_kl, List.replicate, pu_wi_1, pu_wi_2, nl_add, nl_ladd, nl_aa, nl_mul, nl_rmul, nl_mm, pu_qe0, pu_qe1, p1, p2, wx_cO hw, w0, w1]
          all_goals try simp (maxSteps := 400000) (disch := omega) [nl_tle, nl_fle, nl_tlt, nl_flt, nl_teq, nl_feq, nl_sub, nl_ss, nl_lt, nl_llt, nl_ltt, nl_le, nl_lle, nl_lee, nl_eq, nl_leq, nl_ee, nl_div, nl_rem, nl_cl, nl_n1, nl_n2, nl_n3, nl_n4, nl_add, nl_ladd, nl_aa, nl_mul, nl_rmul, nl_mm, pu_wi_1, pu_wi_2, p1, p2, wx_cO hw, w0, w1]
        · by_cases w2 : w < 0
          · rw [qX12_sorted]
            simp [a_ent, bX12_sorted_0, bX12_sorted_24, bX12_sorted_42, bX12_sorted_28, a_ai, a_ald, a_gr, a_iadd, a_icge, a_icle, a_iflt, a_ild, a_imul, a_iret, a_push, fx_71_0 hx, sh_71, sh_72, pu_rv, pu_as, Value.category, pu_bk, pu_kl, List.replicate, pu_wi_1, pu_wi_2, nl_add, nl_ladd, nl_aa, nl_mul, nl_rmul, nl_mm, pu_qe0, pu_qe1, p1, p2, rl_h13 hr, w2]
            all_goals try simp (maxSteps := 400000) (disch := omega) [nl_tle, nl_fle, nl_tlt, nl_flt, nl_teq, nl_feq, nl_sub, nl_ss, nl_lt, nl_llt, nl_ltt, nl_le, nl_lle, nl_lee, nl_eq, nl_leq, nl_ee, nl_div, nl_rem, nl_cl, nl_n1, nl_n2, nl_n3, nl_n4, nl_add, nl_ladd, nl_aa, nl_mul, nl_rmul, nl_mm, pu_wi_1, pu_wi_2, p1, p2, rl_h13 hr, w2]
          · have w3 : 1 < w := by grind
            have w4 : ¬ w ≤ 1 := Int32.not_le.mpr w3
            rw [qX12_sorted]
            simp [a_ent, bX12_sorted_0, bX12_sorted_24, bX12_sorted_42, bX12_sorted_28, a_ai, a_ald, a_gr, a_iadd, a_icge, a_icle, a_iflt, a_ild, a_imul, a_iret, a_push, fx_71_0 hx, sh_71, sh_72, pu_rv, pu_as, Value.category, pu_bk, pu_kl, List.replicate, pu_wi_1, pu_wi_2, nl_add, nl_ladd, nl_aa, nl_mul, nl_rmul, nl_mm, pu_qe0, pu_qe1, p1, p2, rl_h13 hr, w2, w3, w4]
            all_goals try simp (maxSteps := 400000) (disch := omega) [nl_tle, nl_fle, nl_tlt, nl_flt, nl_teq, nl_feq, nl_sub, nl_ss, nl_lt, nl_llt, nl_ltt, nl_le, nl_lle, nl_lee, nl_eq, nl_leq, nl_ee, nl_div, nl_rem, nl_cl, nl_n1, nl_n2, nl_n3, nl_n4, nl_add, nl_ladd, nl_aa, nl_mul, nl_rmul, nl_mm, pu_wi_1, pu_wi_2, p1, p2, rl_h13 hr, w2, w3, w4]
theorem op_walked (i : Int32) : pu_op pu_Inv 210 350 [.int i] := by
  intro M h
  have hx := h.1
  have hI := pu_ag5 M
  have hr := pu_hR h
  have hw := pu_hS h
  generalize pu_si M 5 = I at *
  have hb := wx_bW hw
  rcases pk_ix i (n := cW I) (by omega) with q | q | ⟨j, hj, rfl⟩
  · refine ⟨-1, M, M, ?_, ?_, h⟩
    · rw [qX11_walked]
      simp [a_ent, bX11_walked_0, bX11_walked_33, bX11_walked_34, a_ai, a_ald, a_gi, a_gr, a_icge, a_iflt, a_ild, a_iret, a_push, ag_45 hI, ag_54 hI, fx_0_2 hx, fx_45_16 hx, fx_5_6 hx, sh_0, sh_45, sh_5, sh_54, pu_rv, pu_as, Value.category, pu_bk, pu_kl, List.replicate, pu_wi_1, pu_wi_2, nl_add, nl_ladd, nl_aa, nl_mul, nl_rmul, nl_mm, pu_qe0, pu_qe1, q]
      all_goals try simp (maxSteps := 400000) (disch := omega) [nl_tle, nl_fle, nl_tlt, nl_flt, nl_teq, nl_feq, nl_sub, nl_ss, nl_lt, nl_llt, nl_ltt, nl_le, nl_lle, nl_lee, nl_eq, nl_leq, nl_ee, nl_div, nl_rem, nl_cl, nl_n1, nl_n2, nl_n3, nl_n4, nl_add, nl_ladd, nl_aa, nl_mul, nl_rmul, nl_mm, pu_wi_1, pu_wi_2, q]
    · rw [qX12_walked]
      simp [a_ent, bX12_walked_0, bX12_walked_15, bX12_walked_29, bX12_walked_19, a_ai, a_ald, a_gr, a_iadd, a_iclt, a_iflt, a_ild, a_iret, a_push, fx_71_0 hx, sh_71, sh_72, pu_rv, pu_as, Value.category, pu_bk, pu_kl, List.replicate, pu_wi_1, pu_wi_2, nl_add, nl_ladd, nl_aa, nl_mul, nl_rmul, nl_mm, pu_qe0, pu_qe1, q]
      all_goals try simp (maxSteps := 400000) (disch := omega) [nl_tle, nl_fle, nl_tlt, nl_flt, nl_teq, nl_feq, nl_sub, nl_ss, nl_lt, nl_llt, nl_ltt, nl_le, nl_lle, nl_lee, nl_eq, nl_leq, nl_ee, nl_div, nl_rem, nl_cl, nl_n1, nl_n2, nl_n3, nl_n4, nl_add, nl_ladd, nl_aa, nl_mul, nl_rmul, nl_mm, pu_wi_1, pu_wi_2, q]
  · have q0 := pu_neg0 (by omega) q
    have q1 : ¬ i < nI (cW I) := Int32.not_lt.mpr q
    refine ⟨-1, M, M, ?_, ?_, h⟩
    · rw [qX11_walked]
      simp [a_ent, bX11_walked_0, bX11_walked_33, bX11_walked_34, a_ai, a_ald, a_gi, a_gr, a_icge, a_iflt, a_ild, a_iret, a_push, ag_45 hI, ag_54 hI, fx_0_2 hx, fx_45_16 hx, fx_5_6 hx, sh_0, sh_45, sh_5, sh_54, pu_rv, pu_as, Value.category, pu_bk, pu_kl, List.replicate, pu_wi_1, pu_wi_2, nl_add, nl_ladd, nl_aa, nl_mul, nl_rmul, nl_mm, pu_qe0, pu_qe1, q, q0, q1, wx_cW hw]
      all_goals try simp (maxSteps := 400000) (disch := omega) [nl_tle, nl_fle, nl_tlt, nl_flt, nl_teq, nl_feq, nl_sub, nl_ss, nl_lt, nl_llt, nl_ltt, nl_le, nl_lle, nl_lee, nl_eq, nl_leq, nl_ee, nl_div, nl_rem, nl_cl, nl_n1, nl_n2, nl_n3, nl_n4, nl_add, nl_ladd, nl_aa, nl_mul, nl_rmul, nl_mm, pu_wi_1, pu_wi_2, q, q0, q1, wx_cW hw]
    · rw [qX12_walked]
      simp [a_ent, bX12_walked_0, bX12_walked_15, bX12_walked_29, bX12_walked_19, a_ai, a_ald, a_gr, a_iadd, a_iclt, a_iflt, a_ild, a_iret, a_push, fx_71_0 hx, sh_71, sh_72, pu_rv, pu_as, Value.category, pu_bk, pu_kl, List.replicate, pu_wi_1, pu_wi_2, nl_add, nl_ladd, nl_aa, nl_mul, nl_rmul, nl_mm, pu_qe0, pu_qe1, q, q0, q1, rl_h12 hr]
      all_goals try simp (maxSteps := 400000) (disch := omega) [nl_tle, nl_fle, nl_tlt, nl_flt, nl_teq, nl_feq, nl_sub, nl_ss, nl_lt, nl_llt, nl_ltt, nl_le, nl_lle, nl_lee, nl_eq, nl_leq, nl_ee, nl_div, nl_rem, nl_cl, nl_n1, nl_n2, nl_n3, nl_n4, nl_add, nl_ladd, nl_aa, nl_mul, nl_rmul, nl_mm, pu_wi_1, pu_wi_2, q, q0, q1, rl_h12 hr]
  · have p1 : ¬ nI j < 0 := nI_pos (by omega)
    have p2 : ¬ nI (cW I) ≤ nI j := nI_ge (by omega) (by omega)
    refine ⟨I 54 j, M, M, ?_, ?_, h⟩
    · rw [qX11_walked]
      simp [a_ent, bX11_walked_0, bX11_walked_33, bX11_walked_34, a_ai, a_ald, a_gi, a_gr, a_icge, a_iflt, a_ild, a_iret, a_push, ag_45 hI, ag_54 hI, fx_0_2 hx, fx_45_16 hx, fx_5_6 hx, sh_0, sh_45, sh_5, sh_54, pu_rv, pu_as, Value.category, pu_bk, pu_kl, List.replicate, pu_wi_1, pu_wi_2, nl_add, nl_ladd, nl_aa, nl_mul, nl_rmul, nl_mm, pu_qe0, pu_qe1, p1, p2, wx_cW hw]
      all_goals try simp (maxSteps := 400000) (disch := omega) [nl_tle, nl_fle, nl_tlt, nl_flt, nl_teq, nl_feq, nl_sub, nl_ss, nl_lt, nl_llt, nl_ltt, nl_le, nl_lle, nl_lee, nl_eq, nl_leq, nl_ee, nl_div, nl_rem, nl_cl, nl_n1, nl_n2, nl_n3, nl_n4, nl_add, nl_ladd, nl_aa, nl_mul, nl_rmul, nl_mm, pu_wi_1, pu_wi_2, p1, p2, wx_cW hw]
    · rw [qX12_walked]
      simp [a_ent, bX12_walked_0, bX12_walked_15, bX12_walked_29, bX12_walked_19, a_ai, a_ald, a_gr, a_iadd, a_iclt, a_iflt, a_ild, a_iret, a_push, fx_71_0 hx, sh_71, sh_72, pu_rv, pu_as, Value.category, pu_bk, pu_kl, List.replicate, pu_wi_1, pu_wi_2, nl_add, nl_ladd, nl_aa, nl_mul, nl_rmul, nl_mm, pu_qe0, pu_qe1, p1, p2, rl_h12 hr, rl_eW hr]
      all_goals try simp (maxSteps := 400000) (disch := omega) [nl_tle, nl_fle, nl_tlt, nl_flt, nl_teq, nl_feq, nl_sub, nl_ss, nl_lt, nl_llt, nl_ltt, nl_le, nl_lle, nl_lee, nl_eq, nl_leq, nl_ee, nl_div, nl_rem, nl_cl, nl_n1, nl_n2, nl_n3, nl_n4, nl_add, nl_ladd, nl_aa, nl_mul, nl_rmul, nl_mm, pu_wi_1, pu_wi_2, p1, p2, rl_h12 hr, rl_eW hr]
