/-! gone -/
set_option maxRecDepth 8000 in
theorem op_gone (x f : Int32) : pu_op pu_Inv 104 293 [.int x, .int f] := by
  intro M h
  have hx := h.1
  have hI := pu_ag5 M
  have hr := pu_hR h
  have hw := pu_hS h
  have bD := wx_bD hw
  have bP := wx_bP hw
  have bU := wx_bU hw
  by_cases h0 : ¬ x < 0 ∧ x < nI (cD (pu_si M 5))
  rotate_left
  · have k1 := c_isOpen0 hx hI hw x h0
    have k2 := r_isOpen0 hx hr x h0
    refine ⟨-1, M, M, ?_, ?_, h⟩
    · rw [qX11_gone]
      simp [a_ent, bX11_gone_0, bX11_gone_16, bX11_gone_26, bX11_gone_41, bX11_gone_57, bX11_gone_97, a_ald, a_cs, a_cv, a_gr, a_iadd, a_icge, a_ifne, a_ild, a_imul, a_iret, a_ist, a_push, ag_14 hI, ag_31 hI, ag_6 hI, fx_0_2 hx, fx_5_0 hx, fx_5_1 hx, fx_5_4 hx, sh_0, sh_14, sh_31, sh_5, sh_6, pu_rv, pu_as, Value.category, pu_bk, pu_kl, List.replicate, pu_wi_1, pu_wi_2, nl_add, nl_ladd, nl_aa, nl_mul, nl_rmul, nl_mm, pu_qe0, pu_qe1, k1]
      all_goals try simp (maxSteps := 400000) (disch := omega) [nl_tle, nl_fle, nl_tlt, nl_flt, nl_teq, nl_feq, nl_sub, nl_ss, nl_lt, nl_llt, nl_ltt, nl_le, nl_lle, nl_lee, nl_eq, nl_leq, nl_ee, nl_div, nl_rem, nl_cl, nl_n1, nl_n2, nl_n3, nl_n4, nl_add, nl_ladd, nl_aa, nl_mul, nl_rmul, nl_mm, pu_wi_1, pu_wi_2, bX11_gone_0, bX11_gone_16, bX11_gone_26, bX11_gone_41, bX11_gone_57, bX11_gone_97, a_ald, a_cs, a_cv, a_gr, a_iadd, a_icge, a_ifne, a_ild, a_imul, a_iret, a_ist, a_push, ag_14 hI, ag_31 hI, ag_6 hI, fx_0_2 hx, fx_5_0 hx, fx_5_1 hx, fx_5_4 hx, sh_0, sh_14, sh_31, sh_5, sh_6, pu_rv, pu_as, Value.category, pu_bk, pu_kl, pu_qe0, pu_qe1, k1]
      all_goals try simp [bX11_gone_0, bX11_gone_16, bX11_gone_26, bX11_gone_41, bX11_gone_57, bX11_gone_97, a_ald, a_cs, a_cv, a_gr, a_iadd, a_icge, a_ifne, a_ild, a_imul, a_iret, a_ist, a_push, ag_14 hI, ag_31 hI, ag_6 hI, fx_0_2 hx, fx_5_0 hx, fx_5_1 hx, fx_5_4 hx, sh_0, sh_14, sh_31, sh_5, sh_6, pu_rv, pu_as, Value.category, pu_bk, pu_kl, List.replicate, pu_wi_1, pu_wi_2, nl_add, nl_ladd, nl_aa, nl_mul, nl_rmul, nl_mm, pu_qe0, pu_qe1, k1]
      all_goals try simp (maxSteps := 400000) (disch := omega) [nl_tle, nl_fle, nl_tlt, nl_flt, nl_teq, nl_feq, nl_sub, nl_ss, nl_lt, nl_llt, nl_ltt, nl_le, nl_lle, nl_lee, nl_eq, nl_leq, nl_ee, nl_div, nl_rem, nl_cl, nl_n1, nl_n2, nl_n3, nl_n4, nl_add, nl_ladd, nl_aa, nl_mul, nl_rmul, nl_mm, pu_wi_1, pu_wi_2, bX11_gone_0, bX11_gone_16, bX11_gone_26, bX11_gone_41, bX11_gone_57, bX11_gone_97, a_ald, a_cs, a_cv, a_gr, a_iadd, a_icge, a_ifne, a_ild, a_imul, a_iret, a_ist, a_push, ag_14 hI, ag_31 hI, ag_6 hI, fx_0_2 hx, fx_5_0 hx, fx_5_1 hx, fx_5_4 hx, sh_0, sh_14, sh_31, sh_5, sh_6, pu_rv, pu_as, Value.category, pu_bk, pu_kl, pu_qe0, pu_qe1, k1]
    · rw [qX12_gone]
      simp [a_ent, bX12_gone_0, bX12_gone_10, bX12_gone_20, bX12_gone_38, bX12_gone_53, a_ai, a_ald, a_cs, a_cv, a_gr, a_icne, a_ifeq, a_ifne, a_ild, a_iret, a_ist, a_push, sh_71, sh_72, pu_rv, pu_as, Value.category, pu_bk, pu_kl, List.replicate, pu_wi_1, pu_wi_2, nl_add, nl_ladd, nl_aa, nl_mul, nl_rmul, nl_mm, pu_qe0, pu_qe1, k2]
      all_goals try simp (maxSteps := 400000) (disch := omega) [nl_tle, nl_fle, nl_tlt, nl_flt, nl_teq, nl_feq, nl_sub, nl_ss, nl_lt, nl_llt, nl_ltt, nl_le, nl_lle, nl_lee, nl_eq, nl_leq, nl_ee, nl_div, nl_rem, nl_cl, nl_n1, nl_n2, nl_n3, nl_n4, nl_add, nl_ladd, nl_aa, nl_mul, nl_rmul, nl_mm, pu_wi_1, pu_wi_2, bX12_gone_0, bX12_gone_10, bX12_gone_20, bX12_gone_38, bX12_gone_53, a_ai, a_ald, a_cs, a_cv, a_gr, a_icne, a_ifeq, a_ifne, a_ild, a_iret, a_ist, a_push, sh_71, sh_72, pu_rv, pu_as, Value.category, pu_bk, pu_kl, pu_qe0, pu_qe1, k2]
      all_goals try simp [bX12_gone_0, bX12_gone_10, bX12_gone_20, bX12_gone_38, bX12_gone_53, a_ai, a_ald, a_cs, a_cv, a_gr, a_icne, a_ifeq, a_ifne, a_ild, a_iret, a_ist, a_push, sh_71, sh_72, pu_rv, pu_as, Value.category, pu_bk, pu_kl, List.replicate, pu_wi_1, pu_wi_2, nl_add, nl_ladd, nl_aa, nl_mul, nl_rmul, nl_mm, pu_qe0, pu_qe1, k2]
      all_goals try simp (maxSteps := 400000) (disch := omega) [nl_tle, nl_fle, nl_tlt, nl_flt, nl_teq, nl_feq, nl_sub, nl_ss, nl_lt, nl_llt, nl_ltt, nl_le, nl_lle, nl_lee, nl_eq, nl_leq, nl_ee, nl_div, nl_rem, nl_cl, nl_n1, nl_n2, nl_n3, nl_n4, nl_add, nl_ladd, nl_aa, nl_mul, nl_rmul, nl_mm, pu_wi_1, pu_wi_2, bX12_gone_0, bX12_gone_10, bX12_gone_20, bX12_gone_38, bX12_gone_53, a_ai, a_ald, a_cs, a_cv, a_gr, a_icne, a_ifeq, a_ifne, a_ild, a_iret, a_ist, a_push, sh_71, sh_72, pu_rv, pu_as, Value.category, pu_bk, pu_kl, pu_qe0, pu_qe1, k2]
  obtain ⟨o, ho, rfl⟩ := pz_dr_of (by omega) h0
  have k1 := c_isOpen hx hI hw o ho
  have k2 := r_isOpen hx hr hw o ho
  by_cases o37 : pu_si M 5 37 o = -1
  rotate_left
  · rw [pu_q0 o37] at k1 k2
    refine ⟨-1, M, M, ?_, ?_, h⟩
    · rw [qX11_gone]
      simp [a_ent, bX11_gone_0, bX11_gone_16, bX11_gone_26, bX11_gone_41, bX11_gone_57, bX11_gone_97, a_ald, a_cs, a_cv, a_gr, a_iadd, a_icge, a_ifne, a_ild, a_imul, a_iret, a_ist, a_push, ag_14 hI, ag_31 hI, ag_6 hI, fx_0_2 hx, fx_5_0 hx, fx_5_1 hx, fx_5_4 hx, sh_0, sh_14, sh_31, sh_5, sh_6, pu_rv, pu_as, Value.category, pu_bk, pu_kl, List.replicate, pu_wi_1, pu_wi_2, nl_add, nl_ladd, nl_aa, nl_mul, nl_rmul, nl_mm, pu_qe0, pu_qe1, k1]
      all_goals try simp (maxSteps := 400000) (disch := omega) [nl_tle, nl_fle, nl_tlt, nl_flt, nl_teq, nl_feq, nl_sub, nl_ss, nl_lt, nl_llt, nl_ltt, nl_le, nl_lle, nl_lee, nl_eq, nl_leq, nl_ee, nl_div, nl_rem, nl_cl, nl_n1, nl_n2, nl_n3, nl_n4, nl_add, nl_ladd, nl_aa, nl_mul, nl_rmul, nl_mm, pu_wi_1, pu_wi_2, bX11_gone_0, bX11_gone_16, bX11_gone_26, bX11_gone_41, bX11_gone_57, bX11_gone_97, a_ald, a_cs, a_cv, a_gr, a_iadd, a_icge, a_ifne, a_ild, a_imul, a_iret, a_ist, a_push, ag_14 hI, ag_31 hI, ag_6 hI, fx_0_2 hx, fx_5_0 hx, fx_5_1 hx, fx_5_4 hx, sh_0, sh_14, sh_31, sh_5, sh_6, pu_rv, pu_as, Value.category, pu_bk, pu_kl, pu_qe0, pu_qe1, k1]
      all_goals try simp [bX11_gone_0, bX11_gone_16, bX11_gone_26, bX11_gone_41, bX11_gone_57, bX11_gone_97, a_ald, a_cs, a_cv, a_gr, a_iadd, a_icge, a_ifne, a_ild, a_imul, a_iret, a_ist, a_push, ag_14 hI, ag_31 hI, ag_6 hI, fx_0_2 hx, fx_5_0 hx, fx_5_1 hx, fx_5_4 hx, sh_0, sh_14, sh_31, sh_5, sh_6, pu_rv, pu_as, Value.category, pu_bk, pu_kl, List.replicate, pu_wi_1, pu_wi_2, nl_add, nl_ladd, nl_aa, nl_mul, nl_rmul, nl_mm, pu_qe0, pu_qe1, k1]
      all_goals try simp (maxSteps := 400000) (disch := omega) [nl_tle, nl_fle, nl_tlt, nl_flt, nl_teq, nl_feq, nl_sub, nl_ss, nl_lt, nl_llt, nl_ltt, nl_le, nl_lle, nl_lee, nl_eq, nl_leq, nl_ee, nl_div, nl_rem, nl_cl, nl_n1, nl_n2, nl_n3, nl_n4, nl_add, nl_ladd, nl_aa, nl_mul, nl_rmul, nl_mm, pu_wi_1, pu_wi_2, bX11_gone_0, bX11_gone_16, bX11_gone_26, bX11_gone_41, bX11_gone_57, bX11_gone_97, a_ald, a_cs, a_cv, a_gr, a_iadd, a_icge, a_ifne, a_ild, a_imul, a_iret, a_ist, a_push, ag_14 hI, ag_31 hI, ag_6 hI, fx_0_2 hx, fx_5_0 hx, fx_5_1 hx, fx_5_4 hx, sh_0, sh_14, sh_31, sh_5, sh_6, pu_rv, pu_as, Value.category, pu_bk, pu_kl, pu_qe0, pu_qe1, k1]
    · rw [qX12_gone]
      simp [a_ent, bX12_gone_0, bX12_gone_10, bX12_gone_20, bX12_gone_38, bX12_gone_53, a_ai, a_ald, a_cs, a_cv, a_gr, a_icne, a_ifeq, a_ifne, a_ild, a_iret, a_ist, a_push, sh_71, sh_72, pu_rv, pu_as, Value.category, pu_bk, pu_kl, List.replicate, pu_wi_1, pu_wi_2, nl_add, nl_ladd, nl_aa, nl_mul, nl_rmul, nl_mm, pu_qe0, pu_qe1, k2]
      all_goals try simp (maxSteps := 400000) (disch := omega) [nl_tle, nl_fle, nl_tlt, nl_flt, nl_teq, nl_feq, nl_sub, nl_ss, nl_lt, nl_llt, nl_ltt, nl_le, nl_lle, nl_lee, nl_eq, nl_leq, nl_ee, nl_div, nl_rem, nl_cl, nl_n1, nl_n2, nl_n3, nl_n4, nl_add, nl_ladd, nl_aa, nl_mul, nl_rmul, nl_mm, pu_wi_1, pu_wi_2, bX12_gone_0, bX12_gone_10, bX12_gone_20, bX12_gone_38, bX12_gone_53, a_ai, a_ald, a_cs, a_cv, a_gr, a_icne, a_ifeq, a_ifne, a_ild, a_iret, a_ist, a_push, sh_71, sh_72, pu_rv, pu_as, Value.category, pu_bk, pu_kl, pu_qe0, pu_qe1, k2]
      all_goals try simp [bX12_gone_0, bX12_gone_10, bX12_gone_20, bX12_gone_38, bX12_gone_53, a_ai, a_ald, a_cs, a_cv, a_gr, a_icne, a_ifeq, a_ifne, a_ild, a_iret, a_ist, a_push, sh_71, sh_72, pu_rv, pu_as, Value.category, pu_bk, pu_kl, List.replicate, pu_wi_1, pu_wi_2, nl_add, nl_ladd, nl_aa, nl_mul, nl_rmul, nl_mm, pu_qe0, pu_qe1, k2]
      all_goals try simp (maxSteps := 400000) (disch := omega) [nl_tle, nl_fle, nl_tlt, nl_flt, nl_teq, nl_feq, nl_sub, nl_ss, nl_lt, nl_llt, nl_ltt, nl_le, nl_lle, nl_lee, nl_eq, nl_leq, nl_ee, nl_div, nl_rem, nl_cl, nl_n1, nl_n2, nl_n3, nl_n4, nl_add, nl_ladd, nl_aa, nl_mul, nl_rmul, nl_mm, pu_wi_1, pu_wi_2, bX12_gone_0, bX12_gone_10, bX12_gone_20, bX12_gone_38, bX12_gone_53, a_ai, a_ald, a_cs, a_cv, a_gr, a_icne, a_ifeq, a_ifne, a_ild, a_iret, a_ist, a_push, sh_71, sh_72, pu_rv, pu_as, Value.category, pu_bk, pu_kl, pu_qe0, pu_qe1, k2]
  rw [pu_q1 o37] at k1 k2
  have e5 := c_isDay f M
  have e6 := r_isDay f M
  by_cases hy : ¬ f < 0 ∧ ¬ 109574 < f
  rotate_left
  · rw [pu_q0 hy] at e5 e6
    refine ⟨-2, M, M, ?_, ?_, h⟩
    · rw [qX11_gone]
      simp [a_ent, bX11_gone_0, bX11_gone_16, bX11_gone_26, bX11_gone_41, bX11_gone_57, bX11_gone_97, a_ald, a_cs, a_cv, a_gr, a_iadd, a_icge, a_ifne, a_ild, a_imul, a_iret, a_ist, a_push, ag_14 hI, ag_31 hI, ag_6 hI, fx_0_2 hx, fx_5_0 hx, fx_5_1 hx, fx_5_4 hx, sh_0, sh_14, sh_31, sh_5, sh_6, pu_rv, pu_as, Value.category, pu_bk, pu_kl, List.replicate, pu_wi_1, pu_wi_2, nl_add, nl_ladd, nl_aa, nl_mul, nl_rmul, nl_mm, pu_qe0, pu_qe1, k1, e5]
      all_goals try simp (maxSteps := 400000) (disch := omega) [nl_tle, nl_fle, nl_tlt, nl_flt, nl_teq, nl_feq, nl_sub, nl_ss, nl_lt, nl_llt, nl_ltt, nl_le, nl_lle, nl_lee, nl_eq, nl_leq, nl_ee, nl_div, nl_rem, nl_cl, nl_n1, nl_n2, nl_n3, nl_n4, nl_add, nl_ladd, nl_aa, nl_mul, nl_rmul, nl_mm, pu_wi_1, pu_wi_2, bX11_gone_0, bX11_gone_16, bX11_gone_26, bX11_gone_41, bX11_gone_57, bX11_gone_97, a_ald, a_cs, a_cv, a_gr, a_iadd, a_icge, a_ifne, a_ild, a_imul, a_iret, a_ist, a_push, ag_14 hI, ag_31 hI, ag_6 hI, fx_0_2 hx, fx_5_0 hx, fx_5_1 hx, fx_5_4 hx, sh_0, sh_14, sh_31, sh_5, sh_6, pu_rv, pu_as, Value.category, pu_bk, pu_kl, pu_qe0, pu_qe1, k1, e5]
      all_goals try simp [bX11_gone_0, bX11_gone_16, bX11_gone_26, bX11_gone_41, bX11_gone_57, bX11_gone_97, a_ald, a_cs, a_cv, a_gr, a_iadd, a_icge, a_ifne, a_ild, a_imul, a_iret, a_ist, a_push, ag_14 hI, ag_31 hI, ag_6 hI, fx_0_2 hx, fx_5_0 hx, fx_5_1 hx, fx_5_4 hx, sh_0, sh_14, sh_31, sh_5, sh_6, pu_rv, pu_as, Value.category, pu_bk, pu_kl, List.replicate, pu_wi_1, pu_wi_2, nl_add, nl_ladd, nl_aa, nl_mul, nl_rmul, nl_mm, pu_qe0, pu_qe1, k1, e5]
      all_goals try simp (maxSteps := 400000) (disch := omega) [nl_tle, nl_fle, nl_tlt, nl_flt, nl_teq, nl_feq, nl_sub, nl_ss, nl_lt, nl_llt, nl_ltt, nl_le, nl_lle, nl_lee, nl_eq, nl_leq, nl_ee, nl_div, nl_rem, nl_cl, nl_n1, nl_n2, nl_n3, nl_n4, nl_add, nl_ladd, nl_aa, nl_mul, nl_rmul, nl_mm, pu_wi_1, pu_wi_2, bX11_gone_0, bX11_gone_16, bX11_gone_26, bX11_gone_41, bX11_gone_57, bX11_gone_97, a_ald, a_cs, a_cv, a_gr, a_iadd, a_icge, a_ifne, a_ild, a_imul, a_iret, a_ist, a_push, ag_14 hI, ag_31 hI, ag_6 hI, fx_0_2 hx, fx_5_0 hx, fx_5_1 hx, fx_5_4 hx, sh_0, sh_14, sh_31, sh_5, sh_6, pu_rv, pu_as, Value.category, pu_bk, pu_kl, pu_qe0, pu_qe1, k1, e5]
    · rw [qX12_gone]
      simp [a_ent, bX12_gone_0, bX12_gone_10, bX12_gone_20, bX12_gone_38, bX12_gone_53, a_ai, a_ald, a_cs, a_cv, a_gr, a_icne, a_ifeq, a_ifne, a_ild, a_iret, a_ist, a_push, sh_71, sh_72, pu_rv, pu_as, Value.category, pu_bk, pu_kl, List.replicate, pu_wi_1, pu_wi_2, nl_add, nl_ladd, nl_aa, nl_mul, nl_rmul, nl_mm, pu_qe0, pu_qe1, k2, e6]
      all_goals try simp (maxSteps := 400000) (disch := omega) [nl_tle, nl_fle, nl_tlt, nl_flt, nl_teq, nl_feq, nl_sub, nl_ss, nl_lt, nl_llt, nl_ltt, nl_le, nl_lle, nl_lee, nl_eq, nl_leq, nl_ee, nl_div, nl_rem, nl_cl, nl_n1, nl_n2, nl_n3, nl_n4, nl_add, nl_ladd, nl_aa, nl_mul, nl_rmul, nl_mm, pu_wi_1, pu_wi_2, bX12_gone_0, bX12_gone_10, bX12_gone_20, bX12_gone_38, bX12_gone_53, a_ai, a_ald, a_cs, a_cv, a_gr, a_icne, a_ifeq, a_ifne, a_ild, a_iret, a_ist, a_push, sh_71, sh_72, pu_rv, pu_as, Value.category, pu_bk, pu_kl, pu_qe0, pu_qe1, k2, e6]
      all_goals try simp [bX12_gone_0, bX12_gone_10, bX12_gone_20, bX12_gone_38, bX12_gone_53, a_ai, a_ald, a_cs, a_cv, a_gr, a_icne, a_ifeq, a_ifne, a_ild, a_iret, a_ist, a_push, sh_71, sh_72, pu_rv, pu_as, Value.category, pu_bk, pu_kl, List.replicate, pu_wi_1, pu_wi_2, nl_add, nl_ladd, nl_aa, nl_mul, nl_rmul, nl_mm, pu_qe0, pu_qe1, k2, e6]
      all_goals try simp (maxSteps := 400000) (disch := omega) [nl_tle, nl_fle, nl_tlt, nl_flt, nl_teq, nl_feq, nl_sub, nl_ss, nl_lt, nl_llt, nl_ltt, nl_le, nl_lle, nl_lee, nl_eq, nl_leq, nl_ee, nl_div, nl_rem, nl_cl, nl_n1, nl_n2, nl_n3, nl_n4, nl_add, nl_ladd, nl_aa, nl_mul, nl_rmul, nl_mm, pu_wi_1, pu_wi_2, bX12_gone_0, bX12_gone_10, bX12_gone_20, bX12_gone_38, bX12_gone_53, a_ai, a_ald, a_cs, a_cv, a_gr, a_icne, a_ifeq, a_ifne, a_ild, a_iret, a_ist, a_push, sh_71, sh_72, pu_rv, pu_as, Value.category, pu_bk, pu_kl, pu_qe0, pu_qe1, k2, e6]
  rw [pu_q1 hy] at e5 e6
  obtain ⟨g1, g2, g3⟩ := py_fr_lt hw ho
  obtain ⟨E, E1, E2⟩ := c_earliestOnDoor hx hI hw ho
  have E3 := E2 f hy.1
  have z1 := r_front hx hr hw o ho
  rw [g2] at z1
  have z2 := r_isEarlyAt hx hr hw g1 g3 f hy.1
  by_cases c9 : py_ea (pu_si M 5) (py_fr (pu_si M 5) o) f
  · have c8 : f < E := by rw [E3]; exact c9
    have c8' : ¬ E ≤ f := Int32.not_le.mpr c8
    rw [pu_q1 c9] at z2
    refine ⟨-3, M, M, ?_, ?_, h⟩
    · rw [qX11_gone]
      simp [a_ent, bX11_gone_0, bX11_gone_16, bX11_gone_26, bX11_gone_41, bX11_gone_57, bX11_gone_97, a_ald, a_cs, a_cv, a_gr, a_iadd, a_icge, a_ifne, a_ild, a_imul, a_iret, a_ist, a_push, ag_14 hI, ag_31 hI, ag_6 hI, fx_0_2 hx, fx_5_0 hx, fx_5_1 hx, fx_5_4 hx, sh_0, sh_14, sh_31, sh_5, sh_6, pu_rv, pu_as, Value.category, pu_bk, pu_kl, List.replicate, pu_wi_1, pu_wi_2, nl_add, nl_ladd, nl_aa, nl_mul, nl_rmul, nl_mm, pu_qe0, pu_qe1, k1, e5, E1, c8, c8']
      all_goals try simp (maxSteps := 400000) (disch := omega) [nl_tle, nl_fle, nl_tlt, nl_flt, nl_teq, nl_feq, nl_sub, nl_ss, nl_lt, nl_llt, nl_ltt, nl_le, nl_lle, nl_lee, nl_eq, nl_leq, nl_ee, nl_div, nl_rem, nl_cl, nl_n1, nl_n2, nl_n3, nl_n4, nl_add, nl_ladd, nl_aa, nl_mul, nl_rmul, nl_mm, pu_wi_1, pu_wi_2, bX11_gone_0, bX11_gone_16, bX11_gone_26, bX11_gone_41, bX11_gone_57, bX11_gone_97, a_ald, a_cs, a_cv, a_gr, a_iadd, a_icge, a_ifne, a_ild, a_imul, a_iret, a_ist, a_push, ag_14 hI, ag_31 hI, ag_6 hI, fx_0_2 hx, fx_5_0 hx, fx_5_1 hx, fx_5_4 hx, sh_0, sh_14, sh_31, sh_5, sh_6, pu_rv, pu_as, Value.category, pu_bk, pu_kl, pu_qe0, pu_qe1, k1, e5, E1, c8, c8']
      all_goals try simp [bX11_gone_0, bX11_gone_16, bX11_gone_26, bX11_gone_41, bX11_gone_57, bX11_gone_97, a_ald, a_cs, a_cv, a_gr, a_iadd, a_icge, a_ifne, a_ild, a_imul, a_iret, a_ist, a_push, ag_14 hI, ag_31 hI, ag_6 hI, fx_0_2 hx, fx_5_0 hx, fx_5_1 hx, fx_5_4 hx, sh_0, sh_14, sh_31, sh_5, sh_6, pu_rv, pu_as, Value.category, pu_bk, pu_kl, List.replicate, pu_wi_1, pu_wi_2, nl_add, nl_ladd, nl_aa, nl_mul, nl_rmul, nl_mm, pu_qe0, pu_qe1, k1, e5, E1, c8, c8']
      all_goals try simp (maxSteps := 400000) (disch := omega) [nl_tle, nl_fle, nl_tlt, nl_flt, nl_teq, nl_feq, nl_sub, nl_ss, nl_lt, nl_llt, nl_ltt, nl_le, nl_lle, nl_lee, nl_eq, nl_leq, nl_ee, nl_div, nl_rem, nl_cl, nl_n1, nl_n2, nl_n3, nl_n4, nl_add, nl_ladd, nl_aa, nl_mul, nl_rmul, nl_mm, pu_wi_1, pu_wi_2, bX11_gone_0, bX11_gone_16, bX11_gone_26, bX11_gone_41, bX11_gone_57, bX11_gone_97, a_ald, a_cs, a_cv, a_gr, a_iadd, a_icge, a_ifne, a_ild, a_imul, a_iret, a_ist, a_push, ag_14 hI, ag_31 hI, ag_6 hI, fx_0_2 hx, fx_5_0 hx, fx_5_1 hx, fx_5_4 hx, sh_0, sh_14, sh_31, sh_5, sh_6, pu_rv, pu_as, Value.category, pu_bk, pu_kl, pu_qe0, pu_qe1, k1, e5, E1, c8, c8']
    · rw [qX12_gone]
      simp [a_ent, bX12_gone_0, bX12_gone_10, bX12_gone_20, bX12_gone_38, bX12_gone_53, a_ai, a_ald, a_cs, a_cv, a_gr, a_icne, a_ifeq, a_ifne, a_ild, a_iret, a_ist, a_push, sh_71, sh_72, pu_rv, pu_as, Value.category, pu_bk, pu_kl, List.replicate, pu_wi_1, pu_wi_2, nl_add, nl_ladd, nl_aa, nl_mul, nl_rmul, nl_mm, pu_qe0, pu_qe1, k2, e6, z1, z2]
      all_goals try simp (maxSteps := 400000) (disch := omega) [nl_tle, nl_fle, nl_tlt, nl_flt, nl_teq, nl_feq, nl_sub, nl_ss, nl_lt, nl_llt, nl_ltt, nl_le, nl_lle, nl_lee, nl_eq, nl_leq, nl_ee, nl_div, nl_rem, nl_cl, nl_n1, nl_n2, nl_n3, nl_n4, nl_add, nl_ladd, nl_aa, nl_mul, nl_rmul, nl_mm, pu_wi_1, pu_wi_2, bX12_gone_0, bX12_gone_10, bX12_gone_20, bX12_gone_38, bX12_gone_53, a_ai, a_ald, a_cs, a_cv, a_gr, a_icne, a_ifeq, a_ifne, a_ild, a_iret, a_ist, a_push, sh_71, sh_72, pu_rv, pu_as, Value.category, pu_bk, pu_kl, pu_qe0, pu_qe1, k2, e6, z1, z2]
      all_goals try simp [bX12_gone_0, bX12_gone_10, bX12_gone_20, bX12_gone_38, bX12_gone_53, a_ai, a_ald, a_cs, a_cv, a_gr, a_icne, a_ifeq, a_ifne, a_ild, a_iret, a_ist, a_push, sh_71, sh_72, pu_rv, pu_as, Value.category, pu_bk, pu_kl, List.replicate, pu_wi_1, pu_wi_2, nl_add, nl_ladd, nl_aa, nl_mul, nl_rmul, nl_mm, pu_qe0, pu_qe1, k2, e6, z1, z2]
      all_goals try simp (maxSteps := 400000) (disch := omega) [nl_tle, nl_fle, nl_tlt, nl_flt, nl_teq, nl_feq, nl_sub, nl_ss, nl_lt, nl_llt, nl_ltt, nl_le, nl_lle, nl_lee, nl_eq, nl_leq, nl_ee, nl_div, nl_rem, nl_cl, nl_n1, nl_n2, nl_n3, nl_n4, nl_add, nl_ladd, nl_aa, nl_mul, nl_rmul, nl_mm, pu_wi_1, pu_wi_2, bX12_gone_0, bX12_gone_10, bX12_gone_20, bX12_gone_38, bX12_gone_53, a_ai, a_ald, a_cs, a_cv, a_gr, a_icne, a_ifeq, a_ifne, a_ild, a_iret, a_ist, a_push, sh_71, sh_72, pu_rv, pu_as, Value.category, pu_bk, pu_kl, pu_qe0, pu_qe1, k2, e6, z1, z2]
  rw [pu_q0 c9] at z2
  have c8 : ¬ f < E := by rw [E3]; exact c9
  have c8' := Int32.not_lt.mp c8
  have rm := c_hasRoom hx (cP (pu_si M 5)) (by rw [hI 6 2 (by omega) (by omega)]; exact wx_cP hw) bP
  by_cases hP : cP (pu_si M 5) < 200
  rotate_left
  · rw [pu_q0 hP] at rm
    have h5 := rl_h5 hr
    have hf := fx_71_0 hx
    have y2 : cP (pu_si M 5) = 200 := by omega
    refine ⟨-6, M, M, ?_, ?_, h⟩
    · rw [qX11_gone]
      simp [a_ent, bX11_gone_0, bX11_gone_16, bX11_gone_26, bX11_gone_41, bX11_gone_57, bX11_gone_97, a_ald, a_cs, a_cv, a_gr, a_iadd, a_icge, a_ifne, a_ild, a_imul, a_iret, a_ist, a_push, ag_14 hI, ag_31 hI, ag_6 hI, fx_0_2 hx, fx_5_0 hx, fx_5_1 hx, fx_5_4 hx, sh_0, sh_14, sh_31, sh_5, sh_6, pu_rv, pu_as, Value.category, pu_bk, pu_kl, List.replicate, pu_wi_1, pu_wi_2, nl_add, nl_ladd, nl_aa, nl_mul, nl_rmul, nl_mm, pu_qe0, pu_qe1, k1, e5, E1, c8, c8', rm]
      all_goals try simp (maxSteps := 400000) (disch := omega) [nl_tle, nl_fle, nl_tlt, nl_flt, nl_teq, nl_feq, nl_sub, nl_ss, nl_lt, nl_llt, nl_ltt, nl_le, nl_lle, nl_lee, nl_eq, nl_leq, nl_ee, nl_div, nl_rem, nl_cl, nl_n1, nl_n2, nl_n3, nl_n4, nl_add, nl_ladd, nl_aa, nl_mul, nl_rmul, nl_mm, pu_wi_1, pu_wi_2, bX11_gone_0, bX11_gone_16, bX11_gone_26, bX11_gone_41, bX11_gone_57, bX11_gone_97, a_ald, a_cs, a_cv, a_gr, a_iadd, a_icge, a_ifne, a_ild, a_imul, a_iret, a_ist, a_push, ag_14 hI, ag_31 hI, ag_6 hI, fx_0_2 hx, fx_5_0 hx, fx_5_1 hx, fx_5_4 hx, sh_0, sh_14, sh_31, sh_5, sh_6, pu_rv, pu_as, Value.category, pu_bk, pu_kl, pu_qe0, pu_qe1, k1, e5, E1, c8, c8', rm]
      all_goals try simp [bX11_gone_0, bX11_gone_16, bX11_gone_26, bX11_gone_41, bX11_gone_57, bX11_gone_97, a_ald, a_cs, a_cv, a_gr, a_iadd, a_icge, a_ifne, a_ild, a_imul, a_iret, a_ist, a_push, ag_14 hI, ag_31 hI, ag_6 hI, fx_0_2 hx, fx_5_0 hx, fx_5_1 hx, fx_5_4 hx, sh_0, sh_14, sh_31, sh_5, sh_6, pu_rv, pu_as, Value.category, pu_bk, pu_kl, List.replicate, pu_wi_1, pu_wi_2, nl_add, nl_ladd, nl_aa, nl_mul, nl_rmul, nl_mm, pu_qe0, pu_qe1, k1, e5, E1, c8, c8', rm]
      all_goals try simp (maxSteps := 400000) (disch := omega) [nl_tle, nl_fle, nl_tlt, nl_flt, nl_teq, nl_feq, nl_sub, nl_ss, nl_lt, nl_llt, nl_ltt, nl_le, nl_lle, nl_lee, nl_eq, nl_leq, nl_ee, nl_div, nl_rem, nl_cl, nl_n1, nl_n2, nl_n3, nl_n4, nl_add, nl_ladd, nl_aa, nl_mul, nl_rmul, nl_mm, pu_wi_1, pu_wi_2, bX11_gone_0, bX11_gone_16, bX11_gone_26, bX11_gone_41, bX11_gone_57, bX11_gone_97, a_ald, a_cs, a_cv, a_gr, a_iadd, a_icge, a_ifne, a_ild, a_imul, a_iret, a_ist, a_push, ag_14 hI, ag_31 hI, ag_6 hI, fx_0_2 hx, fx_5_0 hx, fx_5_1 hx, fx_5_4 hx, sh_0, sh_14, sh_31, sh_5, sh_6, pu_rv, pu_as, Value.category, pu_bk, pu_kl, pu_qe0, pu_qe1, k1, e5, E1, c8, c8', rm]
    · rw [qX12_gone]
      simp [a_ent, bX12_gone_0, bX12_gone_10, bX12_gone_20, bX12_gone_38, bX12_gone_53, a_ai, a_ald, a_cs, a_cv, a_gr, a_icne, a_ifeq, a_ifne, a_ild, a_iret, a_ist, a_push, sh_71, sh_72, pu_rv, pu_as, Value.category, pu_bk, pu_kl, List.replicate, pu_wi_1, pu_wi_2, nl_add, nl_ladd, nl_aa, nl_mul, nl_rmul, nl_mm, pu_qe0, pu_qe1, k2, e6, z1, z2, hf, h5, y2]
      all_goals try simp (maxSteps := 400000) (disch := omega) [nl_tle, nl_fle, nl_tlt, nl_flt, nl_teq, nl_feq, nl_sub, nl_ss, nl_lt, nl_llt, nl_ltt, nl_le, nl_lle, nl_lee, nl_eq, nl_leq, nl_ee, nl_div, nl_rem, nl_cl, nl_n1, nl_n2, nl_n3, nl_n4, nl_add, nl_ladd, nl_aa, nl_mul, nl_rmul, nl_mm, pu_wi_1, pu_wi_2, bX12_gone_0, bX12_gone_10, bX12_gone_20, bX12_gone_38, bX12_gone_53, a_ai, a_ald, a_cs, a_cv, a_gr, a_icne, a_ifeq, a_ifne, a_ild, a_iret, a_ist, a_push, sh_71, sh_72, pu_rv, pu_as, Value.category, pu_bk, pu_kl, pu_qe0, pu_qe1, k2, e6, z1, z2, hf, h5, y2]
      all_goals try simp [bX12_gone_0, bX12_gone_10, bX12_gone_20, bX12_gone_38, bX12_gone_53, a_ai, a_ald, a_cs, a_cv, a_gr, a_icne, a_ifeq, a_ifne, a_ild, a_iret, a_ist, a_push, sh_71, sh_72, pu_rv, pu_as, Value.category, pu_bk, pu_kl, List.replicate, pu_wi_1, pu_wi_2, nl_add, nl_ladd, nl_aa, nl_mul, nl_rmul, nl_mm, pu_qe0, pu_qe1, k2, e6, z1, z2, hf, h5, y2]
      all_goals try simp (maxSteps := 400000) (disch := omega) [nl_tle, nl_fle, nl_tlt, nl_flt, nl_teq, nl_feq, nl_sub, nl_ss, nl_lt, nl_llt, nl_ltt, nl_le, nl_lle, nl_lee, nl_eq, nl_leq, nl_ee, nl_div, nl_rem, nl_cl, nl_n1, nl_n2, nl_n3, nl_n4, nl_add, nl_ladd, nl_aa, nl_mul, nl_rmul, nl_mm, pu_wi_1, pu_wi_2, bX12_gone_0, bX12_gone_10, bX12_gone_20, bX12_gone_38, bX12_gone_53, a_ai, a_ald, a_cs, a_cv, a_gr, a_icne, a_ifeq, a_ifne, a_ild, a_iret, a_ist, a_push, sh_71, sh_72, pu_rv, pu_as, Value.category, pu_bk, pu_kl, pu_qe0, pu_qe1, k2, e6, z1, z2, hf, h5, y2]
  rw [pu_q1 hP] at rm
  have l6 := c_layOnDoor hx hI hw ho hP f
  have n31 : M.1 31 0 = nI (cD (pu_si M 5)) := by rw [hI 31 0 (by omega) (by omega)]; exact wx_cD hw
  have n14 : M.1 14 0 = nI (cU (pu_si M 5)) := by rw [hI 14 0 (by omega) (by omega)]; exact wx_cU hw
  generalize hA : pu_si M 5 39 (2 * py_fr (pu_si M 5) o) = A at *
  generalize hB : pu_si M 5 39 (2 * py_fr (pu_si M 5) o + 1) = B at *
  have vl := pz_ly_v (M := M) (P := cP (pu_si M 5)) (t := M.1 6 0) (f := f) (a := A) (b := B)
  have LO : ∀ y j, ¬ (y = 6 ∧ j = 2) → ¬ (7 ≤ y ∧ y ≤ 13 ∧ j = cP (pu_si M 5)) → (pz_ly M (cP (pu_si M 5)) (M.1 6 0) f A B).1 y j = M.1 y j := fun y j a b => pz_ly_o a b
  generalize hQ1 : pz_ly M (cP (pu_si M 5)) (M.1 6 0) f A B = Q1 at *
  have x1 : Q1.2 = M.2 := by rw [← hQ1]; rfl
  obtain ⟨Q2, q21, q22⟩ := c_close (M := Q1) (pz_fx_of hx x1) (cU (pu_si M 5)) (by rw [LO 14 0 (by omega) (by omega)]; exact n14) bU (nI (2 * o)) (nI (cP (pu_si M 5)))
  have x2 : Q2.2 = M.2 := q21.1.trans x1
  obtain ⟨Q3, q31, q32⟩ := c_close (M := Q2) (pz_fx_of hx x2) (cU (pu_si M 5)) (by rw [q21.2.1 14 0 (by omega), LO 14 0 (by omega) (by omega)]; exact n14) bU (nI (2 * o + 1)) (nI (cP (pu_si M 5)))
  have x3 : Q3.2 = M.2 := q31.1.trans x2
  have Q3o : ∀ y j, ¬ (y = 6 ∧ j = 2) → ¬ (7 ≤ y ∧ y ≤ 13 ∧ j = cP (pu_si M 5)) → y ≠ 18 → Q3.1 y j = M.1 y j := fun y j a b c => by
    rw [q31.2.1 y j c, q21.2.1 y j c, LO y j a b]
  obtain ⟨Q4, q41, q42⟩ := c_cwu (I := pu_si M 5) (L := pu_sj M 5) (M := Q3) (pz_fx_of hx x3) hw (by rw [Q3o 31 0 (by omega) (by omega) (by omega)]; exact n31) (fun d hd => by rw [Q3o 33 d (by omega) (by omega) (by omega)]; exact hI 33 d (by omega) (by omega)) (fun d hd => by rw [Q3o 37 d (by omega) (by omega) (by omega)]; exact hI 37 d (by omega) (by omega)) hP ho
  have x4 : Q4.2 = M.2 := q41.1.trans x3
  have Q4o : ∀ y j, ¬ (y = 6 ∧ j = 2) → ¬ (7 ≤ y ∧ y ≤ 13 ∧ j = cP (pu_si M 5)) → y ≠ 18 → y ≠ 37 → Q4.1 y j = M.1 y j := fun y j a b c d => by
    rw [q41.2.1 y j d, Q3o y j a b c]
  have Q72 : Q4.1 72 = M.1 72 := funext (fun j => Q4o 72 j (by omega) (by omega) (by omega) (by omega))
  have hxQ : pu_fx Q4 := pz_fx_of hx x4
  have hrQ : pu_Rel (pu_si M 5) (pu_sj M 5) (Q4.1 72) := by rw [Q72]; exact hr
  have r1 := r_isOpen hxQ hrQ hw o ho
  rw [pu_q1 o37] at r1
  have r2 := r_isDay f Q4
  rw [pu_q1 hy] at r2
  have r3 := r_front hxQ hrQ hw o ho
  rw [g2] at r3
  have r4 := r_isEarlyAt hxQ hrQ hw g1 g3 f hy.1
  rw [pu_q0 c9] at r4
  have r5 := r_paperOn hxQ hrQ hw g1 g3 hP f
  rw [hA, hB] at r5
  have h5 := rl_h5 hrQ
  have h0' := rl_h0 hrQ
  have wp := py_rp_v (M := Q4) (P := cP (pu_si M 5)) (t := Q4.1 72 0) (f := f) (a := A) (b := B) (ta := -1) (tb := -1)
  have RO : ∀ y j, ¬ (y = 72 ∧ j = 5) → ¬ (y = 72 ∧ 28752 + 7 * cP (pu_si M 5) ≤ j ∧ j < 28752 + 7 * cP (pu_si M 5) + 7) → (py_rp Q4 (cP (pu_si M 5)) (Q4.1 72 0) f A B (-1) (-1)).1 y j = Q4.1 y j := fun y j a b => py_rp_o a b
  generalize hR1 : py_rp Q4 (cP (pu_si M 5)) (Q4.1 72 0) f A B (-1) (-1) = R1 at *
  have y1 : R1.2 = M.2 := by rw [← hR1]; exact x4
  -- the loop is told of a row that the relation knows: that of Q4
  obtain ⟨F, F1, F2, F3, F4⟩ := r_gone_l (I := pu_si M 5) (L := pu_sj M 5) (M := R1) (sr := Q4.1 72) (pz_fx_of hx y1) hrQ (fun j a b => RO 72 j (by omega) (by omega)) hw hP ho o37 f (some (.int (nI (py_fr (pu_si M 5) o)))) (cD (pu_si M 5)) 0 0 R1 none none (by omega) (by omega) rfl (fun _ _ _ => rfl) ⟨by rw [RO 72 4 (by omega) (by omega)]; exact rl_h4 hrQ, by rw [RO 72 6 (by omega) (by omega)]; exact rl_h6 hrQ⟩ ⟨fun e he z => by omega, fun k hk z => by omega, fun j _ _ => rfl⟩
  have hf := fx_71_0 hxQ
  refine ⟨nI (py_ct (py_S (pu_si M 5) o) (cD (pu_si M 5)) 0 0), Q4, F, ?_, ?_, ?_⟩
  · have f0 := fx_0_2 hx
    have f1 := fx_5_1 hx
    have f2 := fx_5_4 hx
    rw [qX11_gone]
    simp [a_ent, bX11_gone_0, bX11_gone_16, bX11_gone_26, bX11_gone_41, bX11_gone_57, bX11_gone_97, a_ald, a_cs, a_cv, a_gr, a_iadd, a_icge, a_ifne, a_ild, a_imul, a_iret, a_ist, a_push, ag_14 hI, ag_31 hI, ag_6 hI, fx_0_2 hx, fx_5_0 hx, fx_5_1 hx, fx_5_4 hx, sh_0, sh_14, sh_31, sh_5, sh_6, pu_rv, pu_as, Value.category, pu_bk, pu_kl, List.replicate, pu_wi_1, pu_wi_2, nl_add, nl_ladd, nl_aa, nl_mul, nl_rmul, nl_mm, pu_qe0, pu_qe1, k1, e5, E1, c8, c8', rm, l6, x1, x2, x3, f0, f1, f2, q22, q32, q42]
    all_goals try simp (maxSteps := 400000) (disch := omega) [nl_tle, nl_fle, nl_tlt, nl_flt, nl_teq, nl_feq, nl_sub, nl_ss, nl_lt, nl_llt, nl_ltt, nl_le, nl_lle, nl_lee, nl_eq, nl_leq, nl_ee, nl_div, nl_rem, nl_cl, nl_n1, nl_n2, nl_n3, nl_n4, nl_add, nl_ladd, nl_aa, nl_mul, nl_rmul, nl_mm, pu_wi_1, pu_wi_2, bX11_gone_0, bX11_gone_16, bX11_gone_26, bX11_gone_41, bX11_gone_57, bX11_gone_97, a_ald, a_cs, a_cv, a_gr, a_iadd, a_icge, a_ifne, a_ild, a_imul, a_iret, a_ist, a_push, ag_14 hI, ag_31 hI, ag_6 hI, fx_0_2 hx, fx_5_0 hx, fx_5_1 hx, fx_5_4 hx, sh_0, sh_14, sh_31, sh_5, sh_6, pu_rv, pu_as, Value.category, pu_bk, pu_kl, pu_qe0, pu_qe1, k1, e5, E1, c8, c8', rm, l6, x1, x2, x3, f0, f1, f2, q22, q32, q42]
    all_goals try simp [bX11_gone_0, bX11_gone_16, bX11_gone_26, bX11_gone_41, bX11_gone_57, bX11_gone_97, a_ald, a_cs, a_cv, a_gr, a_iadd, a_icge, a_ifne, a_ild, a_imul, a_iret, a_ist, a_push, ag_14 hI, ag_31 hI, ag_6 hI, fx_0_2 hx, fx_5_0 hx, fx_5_1 hx, fx_5_4 hx, sh_0, sh_14, sh_31, sh_5, sh_6, pu_rv, pu_as, Value.category, pu_bk, pu_kl, List.replicate, pu_wi_1, pu_wi_2, nl_add, nl_ladd, nl_aa, nl_mul, nl_rmul, nl_mm, pu_qe0, pu_qe1, k1, e5, E1, c8, c8', rm, l6, x1, x2, x3, f0, f1, f2, q22, q32, q42]
    all_goals try simp (maxSteps := 400000) (disch := omega) [nl_tle, nl_fle, nl_tlt, nl_flt, nl_teq, nl_feq, nl_sub, nl_ss, nl_lt, nl_llt, nl_ltt, nl_le, nl_lle, nl_lee, nl_eq, nl_leq, nl_ee, nl_div, nl_rem, nl_cl, nl_n1, nl_n2, nl_n3, nl_n4, nl_add, nl_ladd, nl_aa, nl_mul, nl_rmul, nl_mm, pu_wi_1, pu_wi_2, bX11_gone_0, bX11_gone_16, bX11_gone_26, bX11_gone_41, bX11_gone_57, bX11_gone_97, a_ald, a_cs, a_cv, a_gr, a_iadd, a_icge, a_ifne, a_ild, a_imul, a_iret, a_ist, a_push, ag_14 hI, ag_31 hI, ag_6 hI, fx_0_2 hx, fx_5_0 hx, fx_5_1 hx, fx_5_4 hx, sh_0, sh_14, sh_31, sh_5, sh_6, pu_rv, pu_as, Value.category, pu_bk, pu_kl, pu_qe0, pu_qe1, k1, e5, E1, c8, c8', rm, l6, x1, x2, x3, f0, f1, f2, q22, q32, q42]
  · rw [nI_0] at F4
    rw [qX12_gone]
    simp [a_ent, bX12_gone_0, bX12_gone_10, bX12_gone_20, bX12_gone_38, bX12_gone_53, a_ai, a_ald, a_cs, a_cv, a_gr, a_icne, a_ifeq, a_ifne, a_ild, a_iret, a_ist, a_push, sh_71, sh_72, pu_rv, pu_as, Value.category, pu_bk, pu_kl, List.replicate, pu_wi_1, pu_wi_2, nl_add, nl_ladd, nl_aa, nl_mul, nl_rmul, nl_mm, pu_qe0, pu_qe1, r1, r2, r3, r4, hf, h5, r5, y1, F4]
    all_goals try simp (maxSteps := 400000) (disch := omega) [nl_tle, nl_fle, nl_tlt, nl_flt, nl_teq, nl_feq, nl_sub, nl_ss, nl_lt, nl_llt, nl_ltt, nl_le, nl_lle, nl_lee, nl_eq, nl_leq, nl_ee, nl_div, nl_rem, nl_cl, nl_n1, nl_n2, nl_n3, nl_n4, nl_add, nl_ladd, nl_aa, nl_mul, nl_rmul, nl_mm, pu_wi_1, pu_wi_2, bX12_gone_0, bX12_gone_10, bX12_gone_20, bX12_gone_38, bX12_gone_53, a_ai, a_ald, a_cs, a_cv, a_gr, a_icne, a_ifeq, a_ifne, a_ild, a_iret, a_ist, a_push, sh_71, sh_72, pu_rv, pu_as, Value.category, pu_bk, pu_kl, pu_qe0, pu_qe1, r1, r2, r3, r4, hf, h5, r5, y1, F4]
    all_goals try simp [bX12_gone_0, bX12_gone_10, bX12_gone_20, bX12_gone_38, bX12_gone_53, a_ai, a_ald, a_cs, a_cv, a_gr, a_icne, a_ifeq, a_ifne, a_ild, a_iret, a_ist, a_push, sh_71, sh_72, pu_rv, pu_as, Value.category, pu_bk, pu_kl, List.replicate, pu_wi_1, pu_wi_2, nl_add, nl_ladd, nl_aa, nl_mul, nl_rmul, nl_mm, pu_qe0, pu_qe1, r1, r2, r3, r4, hf, h5, r5, y1, F4]
    all_goals try simp (maxSteps := 400000) (disch := omega) [nl_tle, nl_fle, nl_tlt, nl_flt, nl_teq, nl_feq, nl_sub, nl_ss, nl_lt, nl_llt, nl_ltt, nl_le, nl_lle, nl_lee, nl_eq, nl_leq, nl_ee, nl_div, nl_rem, nl_cl, nl_n1, nl_n2, nl_n3, nl_n4, nl_add, nl_ladd, nl_aa, nl_mul, nl_rmul, nl_mm, pu_wi_1, pu_wi_2, bX12_gone_0, bX12_gone_10, bX12_gone_20, bX12_gone_38, bX12_gone_53, a_ai, a_ald, a_cs, a_cv, a_gr, a_icne, a_ifeq, a_ifne, a_ild, a_iret, a_ist, a_push, sh_71, sh_72, pu_rv, pu_as, Value.category, pu_bk, pu_kl, pu_qe0, pu_qe1, r1, r2, r3, r4, hf, h5, r5, y1, F4]
  · have F5 : F.2 = M.2 := F1.trans y1
    have FQ : ∀ y j, y ≠ 72 → F.1 y j = Q4.1 y j := fun y j a => by
      rw [F2 y j a, RO y j (by omega) (by omega)]
    have JQ : ∀ y j, 5 ≤ y → y < 58 → pu_si F 5 y j = Q4.1 y j := fun y j a1 a2 => by
      rw [← pu_ag5 F y j a1 a2, FQ y j (by omega)]
    have eL : pu_sj F 5 = pu_sj M 5 := pu_sj_eq (fun a j _ _ => by rw [F5])
    have s1 : ∀ y j, y ≠ 18 → y ≠ 37 → Q4.1 y j = Q1.1 y j := fun y j a b => by
      rw [q41.2.1 y j b, q31.2.1 y j a, q21.2.1 y j a]
    refine pu_Inv_all h (by rw [F5]) (fun a j _ => by rw [F5]) (fun a j q => ?_) ?_
    · rw [FQ a j (by omega), Q4o a j (by omega) (by omega) (by omega) (by omega)]
    · rw [eL]
      have M60 : M.1 6 0 = pu_si M 5 6 0 := hI 6 0 (by omega) (by omega)
      refine St_gone (I := pu_si M 5) (s := M.1 72) (f := f) (top := o) (g := py_fr (pu_si M 5) o) h.2.2.2.1 hP ho o37 rfl (pz_dy hy) (by rw [hA]; exact hA ▸ py_ea_a hw g1 g3 c9) (fun z => by rw [hB]; exact hB ▸ py_ea_b hw g1 c9 z) (fun y j a1 a2 a3 a4 => ?_) ⟨?_, ?_, ?_, ?_, ?_, ?_, ?_, ?_⟩ (fun d hd => ⟨fun z => ?_, fun z => ?_⟩) (fun k hk => ?_) (fun j a1 a2 a3 a4 => ?_) ?_ ⟨?_, ?_, ?_, ?_, ?_, ?_, ?_⟩ (fun e he z => F3.1 e he he z) (fun k hk z => F3.2.1 k hk ho z)
      · by_cases z : 5 ≤ y ∧ y < 58
        · rw [JQ y j z.1 z.2, Q4o y j a1 a2 a3 a4]
          exact hI y j z.1 z.2
        · unfold pu_si
          rw [if_neg z, if_neg z]
      · rw [JQ 6 2 (by omega) (by omega), s1 6 2 (by omega) (by omega)]; exact vl.1
      · rw [JQ 7 _ (by omega) (by omega), s1 7 _ (by omega) (by omega)]; exact vl.2.1
      · rw [JQ 8 _ (by omega) (by omega), s1 8 _ (by omega) (by omega)]; exact vl.2.2.1.trans M60
      · rw [JQ 9 _ (by omega) (by omega), s1 9 _ (by omega) (by omega), hA]; exact vl.2.2.2.1
      · rw [JQ 10 _ (by omega) (by omega), s1 10 _ (by omega) (by omega), hB]; exact vl.2.2.2.2.1
      · rw [JQ 11 _ (by omega) (by omega), s1 11 _ (by omega) (by omega)]; exact vl.2.2.2.2.2.1
      · rw [JQ 12 _ (by omega) (by omega), s1 12 _ (by omega) (by omega)]; exact vl.2.2.2.2.2.2.1
      · rw [JQ 13 _ (by omega) (by omega), s1 13 _ (by omega) (by omega)]; exact vl.2.2.2.2.2.2.2
      · rw [JQ 37 d (by omega) (by omega)]
        exact (q41.2.2 d).1 ⟨hd, z⟩
      · rw [JQ 37 d (by omega) (by omega), (q41.2.2 d).2 (fun w => z w.2), Q3o 37 d (by omega) (by omega) (by omega)]
        exact hI 37 d (by omega) (by omega)
      · rw [JQ 18 k (by omega) (by omega), q41.2.1 18 k (by omega)]
        have a15 : Q1.1 15 k = nI (pu_sl0 (pu_si M 5) k) := by
          rw [LO 15 k (by omega) (by omega), hI 15 k (by omega) (by omega)]
          exact (pu_sl_lt hw hk).2
        have b15 : Q2.1 15 k = nI (pu_sl0 (pu_si M 5) k) := by
          rw [q21.2.1 15 k (by omega)]
          exact a15
        have a18 : Q1.1 18 k = pu_si M 5 18 k := by
          rw [LO 18 k (by omega) (by omega)]
          exact hI 18 k (by omega) (by omega)
        have sk := (pu_sl_lt hw hk).1
        have nP : ¬ nI (cP (pu_si M 5)) = -1 := fun q => by rw [nl_n1 _ (by omega)] at q; exact q
        constructor
        · intro z
          obtain ⟨z3, z4⟩ := z
          rcases Nat.mod_two_eq_zero_or_one (pu_sl0 (pu_si M 5) k) with q | q
          · have e1 : Q2.1 18 k = nI (cP (pu_si M 5)) := (q21.2.2 k).1 ⟨hk, by rw [a15, show pu_sl0 (pu_si M 5) k = 2 * o by omega], by rw [a18]; exact z3⟩
            rw [(q31.2.2 k).2 (fun w => nP (by rw [← e1]; exact w.2.2))]
            exact e1
          · have e1 : Q2.1 18 k = pu_si M 5 18 k := by
              rw [(q21.2.2 k).2 (fun w => ?_)]
              · exact a18
              · have w1 := w.2.1
                rw [a15, nI_eq (by omega) (by omega)] at w1
                omega
            exact (q31.2.2 k).1 ⟨hk, by rw [b15, show pu_sl0 (pu_si M 5) k = 2 * o + 1 by omega], by rw [e1]; exact z3⟩
        · intro z
          have e1 : Q2.1 18 k = pu_si M 5 18 k := by
            rw [(q21.2.2 k).2 (fun w => z ?_)]
            · exact a18
            · have w1 := w.2.1
              have w2 := w.2.2
              rw [a15, nI_eq (by omega) (by omega)] at w1
              rw [a18] at w2
              exact ⟨w2, by omega⟩
          rw [(q31.2.2 k).2 (fun w => z ?_)]
          · exact e1
          · have w1 := w.2.1
            have w2 := w.2.2
            rw [b15, nI_eq (by omega) (by omega)] at w1
            rw [e1] at w2
            exact ⟨w2, by omega⟩
      · rw [F3.2.2 j (fun e he _ z => a3 e he z) (fun k hk _ z => a4 k hk z), RO 72 j (by omega) (by omega), Q72]
      · rw [F3.2.2 5 (fun e he _ z => by omega) (fun k hk _ z => by omega)]; exact wp.1
      · rw [F3.2.2 _ (fun e he _ z => by omega) (fun k hk _ z => by omega)]; exact wp.2.1.trans h0'
      · rw [F3.2.2 _ (fun e he _ z => by omega) (fun k hk _ z => by omega)]; exact wp.2.2.1
      · rw [F3.2.2 _ (fun e he _ z => by omega) (fun k hk _ z => by omega), hA]; exact wp.2.2.2.1
      · rw [F3.2.2 _ (fun e he _ z => by omega) (fun k hk _ z => by omega), hB]; exact wp.2.2.2.2.1
      · rw [F3.2.2 _ (fun e he _ z => by omega) (fun k hk _ z => by omega)]; exact wp.2.2.2.2.2.1
      · rw [F3.2.2 _ (fun e he _ z => by omega) (fun k hk _ z => by omega)]; exact wp.2.2.2.2.2.2.1
      · rw [F3.2.2 _ (fun e he _ z => by omega) (fun k hk _ z => by omega)]; exact wp.2.2.2.2.2.2.2
