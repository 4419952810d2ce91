/-! count, about -/
theorem sw_neg {w : Int32} (q : w < 0) : w.toInt < 0 := by
  have h1 := Int32.lt_iff_toInt_lt.mp q
  have e : (0 : Int32).toInt = 0 := by decide
  omega
theorem sw_pos {w : Int32} {n : Nat} (hn : n < 2147483648) (q : nI n ≤ w) : ¬ w.toInt < 0 := by
  have h1 := Int32.le_iff_toInt_le.mp q
  rw [nI_toInt hn] at h1
  omega
theorem sw_big {w : Int32} {n : Nat} (hn : n < 2147483648) (q : nI n ≤ w) : ∀ l : List pu_K, l.length ≤ n → l[w.toNatClampNeg]? = none := by
  intro l hl
  have h1 := Int32.le_iff_toInt_le.mp q
  rw [nI_toInt hn] at h1
  rw [List.getElem?_eq_none_iff]
  show l.length ≤ w.toInt.toNat
  omega
theorem c_ruleOf {M : pu_M} {I : Nat → Nat → Int32} {L : Nat → Nat → Int64} (hx : pu_fx M) (hI : pu_ag M I) (hw : pu_WF I L) (j : Nat) (hj : j < cK I) : pu_r 64 [some (.ref 25), some (.int (nI j))] [] M = some (some (.int (I 27 j)), M) := by
  have hb := wx_bK hw
  have hn := wx_cK hw
  have e : pu_r 56 [some (.ref 25), some (.int (nI j))] [] M = some (some (.int 1), M) := by
    rw [qX10_isStreet]
    simp [a_ent, bX10_isStreet_0, bX10_isStreet_16, bX10_isStreet_17, a_ald, a_gi, a_icge, a_iflt, a_ild, a_push, a_zret, ag_25 hI, sh_25, pu_rv, pu_as, Value.category, pu_bk, pu_kl, List.replicate, pu_wi_1, pu_wi_2, nl_add, nl_ladd, nl_aa, nl_mul, nl_rmul, nl_mm, pu_qe0, pu_qe1, hn]
    all_goals try simp (maxSteps := 400000) (disch := omega) [nl_tle, nl_fle, nl_tlt, nl_flt, nl_teq, nl_feq, nl_sub, nl_ss, nl_lt, nl_llt, nl_ltt, nl_le, nl_lle, nl_lee, nl_eq, nl_leq, nl_ee, nl_div, nl_rem, nl_cl, nl_n1, nl_n2, nl_n3, nl_n4, nl_add, nl_ladd, nl_aa, nl_mul, nl_rmul, nl_mm, pu_wi_1, pu_wi_2, hn]
  rw [qX10_ruleOf]
  simp [a_ent, bX10_ruleOf_0, bX10_ruleOf_17, bX10_ruleOf_18, a_ai, a_ald, a_cv, a_gr, a_ifeq, a_ild, a_iret, a_push, ag_27 hI, fx_25_3 hx, sh_25, sh_27, pu_rv, pu_as, Value.category, pu_bk, pu_kl, List.replicate, pu_wi_1, pu_wi_2, nl_add, nl_ladd, nl_aa, nl_mul, nl_rmul, nl_mm, pu_qe0, pu_qe1, e, hn]
  all_goals try simp (maxSteps := 400000) (disch := omega) [nl_tle, nl_fle, nl_tlt, nl_flt, nl_teq, nl_feq, nl_sub, nl_ss, nl_lt, nl_llt, nl_ltt, nl_le, nl_lle, nl_lee, nl_eq, nl_leq, nl_ee, nl_div, nl_rem, nl_cl, nl_n1, nl_n2, nl_n3, nl_n4, nl_add, nl_ladd, nl_aa, nl_mul, nl_rmul, nl_mm, pu_wi_1, pu_wi_2, e, hn]
theorem c_isStreet {M : pu_M} {I : Nat → Nat → Int32} {L : Nat → Nat → Int64} (hx : pu_fx M) (hI : pu_ag M I) (hw : pu_WF I L) (x : Int32) : pu_r 56 [some (.ref 25), some (.int x)] [] M = some (some (.int (pu_q (¬ x < 0 ∧ x < nI (cK I)))), M) := by
  have hn := wx_cK hw
  rw [qX10_isStreet]
  simp [a_ent, bX10_isStreet_0, bX10_isStreet_16, bX10_isStreet_17, a_ald, a_gi, a_icge, a_iflt, a_ild, a_push, a_zret, ag_25 hI, sh_25, pu_rv, pu_as, Value.category, pu_bk, pu_kl, List.replicate, pu_wi_1, pu_wi_2, nl_add, nl_ladd, nl_aa, nl_mul, nl_rmul, nl_mm, pu_qe0, pu_qe1, hn]
  all_goals try simp (maxSteps := 400000) (disch := omega) [nl_tle, nl_fle, nl_tlt, nl_flt, nl_teq, nl_feq, nl_sub, nl_ss, nl_lt, nl_llt, nl_ltt, nl_le, nl_lle, nl_lee, nl_eq, nl_leq, nl_ee, nl_div, nl_rem, nl_cl, nl_n1, nl_n2, nl_n3, nl_n4, nl_add, nl_ladd, nl_aa, nl_mul, nl_rmul, nl_mm, pu_wi_1, pu_wi_2, hn]
  grind [pu_q]
theorem r_isStreet {M : pu_M} {I : Nat → Nat → Int32} {L : Nat → Nat → Int64} (hx : pu_fx M) (hr : pu_Rel I L (M.1 72)) (x : Int32) : pu_r 251 [some (.ref 71), some (.int x)] [] M = some (some (.int (pu_q (¬ x < 0 ∧ x < nI (cK I)))), M) := by
  rw [qX12_isStreet]
  simp [a_ent, bX12_isStreet_0, bX12_isStreet_18, bX12_isStreet_19, a_ai, a_ald, a_gr, a_icge, a_iflt, a_ild, a_push, a_zret, fx_71_0 hx, sh_71, sh_72, pu_rv, pu_as, Value.category, pu_bk, pu_kl, List.replicate, pu_wi_1, pu_wi_2, nl_add, nl_ladd, nl_aa, nl_mul, nl_rmul, nl_mm, pu_qe0, pu_qe1, rl_h3 hr]
  all_goals try simp (maxSteps := 400000) (disch := omega) [nl_tle, nl_fle, nl_tlt, nl_flt, nl_teq, nl_feq, nl_sub, nl_ss, nl_lt, nl_llt, nl_ltt, nl_le, nl_lle, nl_lee, nl_eq, nl_leq, nl_ee, nl_div, nl_rem, nl_cl, nl_n1, nl_n2, nl_n3, nl_n4, nl_add, nl_ladd, nl_aa, nl_mul, nl_rmul, nl_mm, pu_wi_1, pu_wi_2, rl_h3 hr]
  grind [pu_q]
theorem op_count (w : Int32) : pu_op pu_Inv 227 356 [.int w] := by
  intro M h
  have hx := h.1
  have hI := pu_ag5 M
  have hr := pu_hR h
  have hw := pu_hS h
  obtain ⟨t, t1, t2, t3, t4⟩ := h.2.1
  generalize pu_si M 5 = I at *
  have hK := wx_bK hw
  rcases pk_ix w (n := 11) (by omega) with q | q | ⟨j, hj, rfl⟩
  · have q1 : ¬ 100 ≤ w := by grind
    have q2 : w < 100 := by grind
    have q3 := sw_neg q
    refine ⟨-1, M, M, ?_, ?_, h⟩
    · rw [qX11_count]
      simp [a_ent, bX11_count_0, bX11_count_60, bX11_count_71, bX11_count_82, bX11_count_93, bX11_count_104, bX11_count_115, bX11_count_126, bX11_count_137, bX11_count_148, bX11_count_159, bX11_count_170, bX11_count_178, bX11_count_201, bX11_count_202, a_ald, a_cv, a_gi, a_gr, a_iclt, a_ild, a_iret, a_isub, a_push, a_sw, ag_14 hI, ag_25 hI, ag_31 hI, ag_42 hI, ag_45 hI, ag_6 hI, fx_0_0 hx, fx_0_2 hx, fx_5_0 hx, fx_5_1 hx, fx_5_3 hx, fx_5_4 hx, fx_5_5 hx, fx_5_6 hx, sh_0, sh_1, sh_14, sh_25, sh_3, sh_31, sh_42, sh_45, sh_5, sh_6, pu_rv, pu_as, Value.category, pu_bk, pu_kl, List.replicate, pu_wi_1, pu_wi_2, nl_add, nl_ladd, nl_aa, nl_mul, nl_rmul, nl_mm, pu_qe0, pu_qe1, q1, q2, q3]
      all_goals try simp (maxSteps := 400000) (disch := omega) [nl_tle, nl_fle, nl_tlt, nl_flt, nl_teq, nl_feq, nl_sub, nl_ss, nl_lt, nl_llt, nl_ltt, nl_le, nl_lle, nl_lee, nl_eq, nl_leq, nl_ee, nl_div, nl_rem, nl_cl, nl_n1, nl_n2, nl_n3, nl_n4, nl_add, nl_ladd, nl_aa, nl_mul, nl_rmul, nl_mm, pu_wi_1, pu_wi_2, q1, q2, q3]
    · rw [qX12_count]
      simp [a_ent, bX12_count_0, bX12_count_35, bX12_count_96, bX12_count_103, bX12_count_110, bX12_count_117, bX12_count_124, bX12_count_132, bX12_count_139, bX12_count_147, bX12_count_155, bX12_count_163, bX12_count_171, bX12_count_176, bX12_count_33, bX12_count_34, a_ai, a_ald, a_cv, a_gi, a_gr, a_iadd, a_iclt, a_ifeq, a_ild, a_iret, a_isub, a_push, a_sw, fx_71_0 hx, sh_71, sh_72, pu_rv, pu_as, Value.category, pu_bk, pu_kl, List.replicate, pu_wi_1, pu_wi_2, nl_add, nl_ladd, nl_aa, nl_mul, nl_rmul, nl_mm, pu_qe0, pu_qe1, q1, q2, q3]
      all_goals try simp (maxSteps := 400000) (disch := omega) [nl_tle, nl_fle, nl_tlt, nl_flt, nl_teq, nl_feq, nl_sub, nl_ss, nl_lt, nl_llt, nl_ltt, nl_le, nl_lle, nl_lee, nl_eq, nl_leq, nl_ee, nl_div, nl_rem, nl_cl, nl_n1, nl_n2, nl_n3, nl_n4, nl_add, nl_ladd, nl_aa, nl_mul, nl_rmul, nl_mm, pu_wi_1, pu_wi_2, q1, q2, q3]
  · have q3 := sw_pos (by omega) q
    have q4 := sw_big (by omega) q
    by_cases q1 : w < 100
    · have q2 : ¬ 100 ≤ w := Int32.not_le.mpr q1
      refine ⟨-1, M, M, ?_, ?_, h⟩
      · rw [qX11_count]
        simp [a_ent, bX11_count_0, bX11_count_60, bX11_count_71, bX11_count_82, bX11_count_93, bX11_count_104, bX11_count_115, bX11_count_126, bX11_count_137, bX11_count_148, bX11_count_159, bX11_count_170, bX11_count_178, bX11_count_201, bX11_count_202, a_ald, a_cv, a_gi, a_gr, a_iclt, a_ild, a_iret, a_isub, a_push, a_sw, ag_14 hI, ag_25 hI, ag_31 hI, ag_42 hI, ag_45 hI, ag_6 hI, fx_0_0 hx, fx_0_2 hx, fx_5_0 hx, fx_5_1 hx, fx_5_3 hx, fx_5_4 hx, fx_5_5 hx, fx_5_6 hx, sh_0, sh_1, sh_14, sh_25, sh_3, sh_31, sh_42, sh_45, sh_5, sh_6, pu_rv, pu_as, Value.category, pu_bk, pu_kl, List.replicate, pu_wi_1, pu_wi_2, nl_add, nl_ladd, nl_aa, nl_mul, nl_rmul, nl_mm, pu_qe0, pu_qe1, q1, q2, q3, q4]
        all_goals try simp (maxSteps := 400000) (disch := omega) [nl_tle, nl_fle, nl_tlt, nl_flt, nl_teq, nl_feq, nl_sub, nl_ss, nl_lt, nl_llt, nl_ltt, nl_le, nl_lle, nl_lee, nl_eq, nl_leq, nl_ee, nl_div, nl_rem, nl_cl, nl_n1, nl_n2, nl_n3, nl_n4, nl_add, nl_ladd, nl_aa, nl_mul, nl_rmul, nl_mm, pu_wi_1, pu_wi_2, q1, q2, q3, q4]
      · rw [qX12_count]
        simp [a_ent, bX12_count_0, bX12_count_35, bX12_count_96, bX12_count_103, bX12_count_110, bX12_count_117, bX12_count_124, bX12_count_132, bX12_count_139, bX12_count_147, bX12_count_155, bX12_count_163, bX12_count_171, bX12_count_176, bX12_count_33, bX12_count_34, a_ai, a_ald, a_cv, a_gi, a_gr, a_iadd, a_iclt, a_ifeq, a_ild, a_iret, a_isub, a_push, a_sw, fx_71_0 hx, sh_71, sh_72, pu_rv, pu_as, Value.category, pu_bk, pu_kl, List.replicate, pu_wi_1, pu_wi_2, nl_add, nl_ladd, nl_aa, nl_mul, nl_rmul, nl_mm, pu_qe0, pu_qe1, q1, q2, q3, q4]
        all_goals try simp (maxSteps := 400000) (disch := omega) [nl_tle, nl_fle, nl_tlt, nl_flt, nl_teq, nl_feq, nl_sub, nl_ss, nl_lt, nl_llt, nl_ltt, nl_le, nl_lle, nl_lee, nl_eq, nl_leq, nl_ee, nl_div, nl_rem, nl_cl, nl_n1, nl_n2, nl_n3, nl_n4, nl_add, nl_ladd, nl_aa, nl_mul, nl_rmul, nl_mm, pu_wi_1, pu_wi_2, q1, q2, q3, q4]
    · have q2 : 100 ≤ w := Int32.not_lt.mp q1
      have e1 := c_isStreet hx hI hw (w - 100)
      have e2 := r_isStreet hx hr (w - 100)
      rcases pk_ix (w - 100) (n := cK I) (by omega) with z | z | ⟨j, hj, hz⟩
      · rw [pu_q0 (fun y => y.1 z)] at e1 e2
        refine ⟨-1, M, M, ?_, ?_, h⟩
        · have e3 : pu_r 64 [some (.ref 25), some (.int (w - 100))] [] M = some (some (.int (-1)), M) := by
            rw [qX10_ruleOf]
            simp [a_ent, bX10_ruleOf_0, bX10_ruleOf_17, bX10_ruleOf_18, a_ai, a_ald, a_cv, a_gr, a_ifeq, a_ild, a_iret, a_push, ag_27 hI, fx_25_3 hx, sh_25, sh_27, pu_rv, pu_as, Value.category, pu_bk, pu_kl, List.replicate, pu_wi_1, pu_wi_2, nl_add, nl_ladd, nl_aa, nl_mul, nl_rmul, nl_mm, pu_qe0, pu_qe1, e1]
            all_goals try simp (maxSteps := 400000) (disch := omega) [nl_tle, nl_fle, nl_tlt, nl_flt, nl_teq, nl_feq, nl_sub, nl_ss, nl_lt, nl_llt, nl_ltt, nl_le, nl_lle, nl_lee, nl_eq, nl_leq, nl_ee, nl_div, nl_rem, nl_cl, nl_n1, nl_n2, nl_n3, nl_n4, nl_add, nl_ladd, nl_aa, nl_mul, nl_rmul, nl_mm, pu_wi_1, pu_wi_2, e1]
          rw [qX11_count]
          simp [a_ent, bX11_count_0, bX11_count_60, bX11_count_71, bX11_count_82, bX11_count_93, bX11_count_104, bX11_count_115, bX11_count_126, bX11_count_137, bX11_count_148, bX11_count_159, bX11_count_170, bX11_count_178, bX11_count_201, bX11_count_202, a_ald, a_cv, a_gi, a_gr, a_iclt, a_ild, a_iret, a_isub, a_push, a_sw, ag_14 hI, ag_25 hI, ag_31 hI, ag_42 hI, ag_45 hI, ag_6 hI, fx_0_0 hx, fx_0_2 hx, fx_5_0 hx, fx_5_1 hx, fx_5_3 hx, fx_5_4 hx, fx_5_5 hx, fx_5_6 hx, sh_0, sh_1, sh_14, sh_25, sh_3, sh_31, sh_42, sh_45, sh_5, sh_6, pu_rv, pu_as, Value.category, pu_bk, pu_kl, List.replicate, pu_wi_1, pu_wi_2, nl_add, nl_ladd, nl_aa, nl_mul, nl_rmul, nl_mm, pu_qe0, pu_qe1, q1, q2, q3, q4, e3]
          all_goals try simp (maxSteps := 400000) (disch := omega) [nl_tle, nl_fle, nl_tlt, nl_flt, nl_teq, nl_feq, nl_sub, nl_ss, nl_lt, nl_llt, nl_ltt, nl_le, nl_lle, nl_lee, nl_eq, nl_leq, nl_ee, nl_div, nl_rem, nl_cl, nl_n1, nl_n2, nl_n3, nl_n4, nl_add, nl_ladd, nl_aa, nl_mul, nl_rmul, nl_mm, pu_wi_1, pu_wi_2, q1, q2, q3, q4, e3]
        · rw [qX12_count]
          simp [a_ent, bX12_count_0, bX12_count_35, bX12_count_96, bX12_count_103, bX12_count_110, bX12_count_117, bX12_count_124, bX12_count_132, bX12_count_139, bX12_count_147, bX12_count_155, bX12_count_163, bX12_count_171, bX12_count_176, bX12_count_33, bX12_count_34, a_ai, a_ald, a_cv, a_gi, a_gr, a_iadd, a_iclt, a_ifeq, a_ild, a_iret, a_isub, a_push, a_sw, fx_71_0 hx, sh_71, sh_72, pu_rv, pu_as, Value.category, pu_bk, pu_kl, List.replicate, pu_wi_1, pu_wi_2, nl_add, nl_ladd, nl_aa, nl_mul, nl_rmul, nl_mm, pu_qe0, pu_qe1, q1, q2, e2]
          all_goals try simp (maxSteps := 400000) (disch := omega) [nl_tle, nl_fle, nl_tlt, nl_flt, nl_teq, nl_feq, nl_sub, nl_ss, nl_lt, nl_llt, nl_ltt, nl_le, nl_lle, nl_lee, nl_eq, nl_leq, nl_ee, nl_div, nl_rem, nl_cl, nl_n1, nl_n2, nl_n3, nl_n4, nl_add, nl_ladd, nl_aa, nl_mul, nl_rmul, nl_mm, pu_wi_1, pu_wi_2, q1, q2, e2]
      · rw [pu_q0 (fun y => absurd y.2 (Int32.not_lt.mpr z))] at e1 e2
        refine ⟨-1, M, M, ?_, ?_, h⟩
        · have e3 : pu_r 64 [some (.ref 25), some (.int (w - 100))] [] M = some (some (.int (-1)), M) := by
            rw [qX10_ruleOf]
            simp [a_ent, bX10_ruleOf_0, bX10_ruleOf_17, bX10_ruleOf_18, a_ai, a_ald, a_cv, a_gr, a_ifeq, a_ild, a_iret, a_push, ag_27 hI, fx_25_3 hx, sh_25, sh_27, pu_rv, pu_as, Value.category, pu_bk, pu_kl, List.replicate, pu_wi_1, pu_wi_2, nl_add, nl_ladd, nl_aa, nl_mul, nl_rmul, nl_mm, pu_qe0, pu_qe1, e1]
            all_goals try simp (maxSteps := 400000) (disch := omega) [nl_tle, nl_fle, nl_tlt, nl_flt, nl_teq, nl_feq, nl_sub, nl_ss, nl_lt, nl_llt, nl_ltt, nl_le, nl_lle, nl_lee, nl_eq, nl_leq, nl_ee, nl_div, nl_rem, nl_cl, nl_n1, nl_n2, nl_n3, nl_n4, nl_add, nl_ladd, nl_aa, nl_mul, nl_rmul, nl_mm, pu_wi_1, pu_wi_2, e1]
          rw [qX11_count]
          simp [a_ent, bX11_count_0, bX11_count_60, bX11_count_71, bX11_count_82, bX11_count_93, bX11_count_104, bX11_count_115, bX11_count_126, bX11_count_137, bX11_count_148, bX11_count_159, bX11_count_170, bX11_count_178, bX11_count_201, bX11_count_202, a_ald, a_cv, a_gi, a_gr, a_iclt, a_ild, a_iret, a_isub, a_push, a_sw, ag_14 hI, ag_25 hI, ag_31 hI, ag_42 hI, ag_45 hI, ag_6 hI, fx_0_0 hx, fx_0_2 hx, fx_5_0 hx, fx_5_1 hx, fx_5_3 hx, fx_5_4 hx, fx_5_5 hx, fx_5_6 hx, sh_0, sh_1, sh_14, sh_25, sh_3, sh_31, sh_42, sh_45, sh_5, sh_6, pu_rv, pu_as, Value.category, pu_bk, pu_kl, List.replicate, pu_wi_1, pu_wi_2, nl_add, nl_ladd, nl_aa, nl_mul, nl_rmul, nl_mm, pu_qe0, pu_qe1, q1, q2, q3, q4, e3]
          all_goals try simp (maxSteps := 400000) (disch := omega) [nl_tle, nl_fle, nl_tlt, nl_flt, nl_teq, nl_feq, nl_sub, nl_ss, nl_lt, nl_llt, nl_ltt, nl_le, nl_lle, nl_lee, nl_eq, nl_leq, nl_ee, nl_div, nl_rem, nl_cl, nl_n1, nl_n2, nl_n3, nl_n4, nl_add, nl_ladd, nl_aa, nl_mul, nl_rmul, nl_mm, pu_wi_1, pu_wi_2, q1, q2, q3, q4, e3]
        · rw [qX12_count]
          simp [a_ent, bX12_count_0, bX12_count_35, bX12_count_96, bX12_count_103, bX12_count_110, bX12_count_117, bX12_count_124, bX12_count_132, bX12_count_139, bX12_count_147, bX12_count_155, bX12_count_163, bX12_count_171, bX12_count_176, bX12_count_33, bX12_count_34, a_ai, a_ald, a_cv, a_gi, a_gr, a_iadd, a_iclt, a_ifeq, a_ild, a_iret, a_isub, a_push, a_sw, fx_71_0 hx, sh_71, sh_72, pu_rv, pu_as, Value.category, pu_bk, pu_kl, List.replicate, pu_wi_1, pu_wi_2, nl_add, nl_ladd, nl_aa, nl_mul, nl_rmul, nl_mm, pu_qe0, pu_qe1, q1, q2, e2]
          all_goals try simp (maxSteps := 400000) (disch := omega) [nl_tle, nl_fle, nl_tlt, nl_flt, nl_teq, nl_feq, nl_sub, nl_ss, nl_lt, nl_llt, nl_ltt, nl_le, nl_lle, nl_lee, nl_eq, nl_leq, nl_ee, nl_div, nl_rem, nl_cl, nl_n1, nl_n2, nl_n3, nl_n4, nl_add, nl_ladd, nl_aa, nl_mul, nl_rmul, nl_mm, pu_wi_1, pu_wi_2, q1, q2, e2]
      · rw [pu_q1 (by rw [hz]; exact ⟨nI_pos (by omega), nI_lt hj (by omega)⟩)] at e1 e2
        rw [hz] at e1 e2
        have e3 := c_ruleOf hx hI hw j hj
        have hz2 : w = nI (j + 100) := by
          have : w = (w - 100) + 100 := by grind
          rw [this, hz]
          exact nI_add j 100
        refine ⟨I 27 j, M, M, ?_, ?_, h⟩
        · rw [qX11_count]
          simp [a_ent, bX11_count_0, bX11_count_60, bX11_count_71, bX11_count_82, bX11_count_93, bX11_count_104, bX11_count_115, bX11_count_126, bX11_count_137, bX11_count_148, bX11_count_159, bX11_count_170, bX11_count_178, bX11_count_201, bX11_count_202, a_ald, a_cv, a_gi, a_gr, a_iclt, a_ild, a_iret, a_isub, a_push, a_sw, ag_14 hI, ag_25 hI, ag_31 hI, ag_42 hI, ag_45 hI, ag_6 hI, fx_0_0 hx, fx_0_2 hx, fx_5_0 hx, fx_5_1 hx, fx_5_3 hx, fx_5_4 hx, fx_5_5 hx, fx_5_6 hx, sh_0, sh_1, sh_14, sh_25, sh_3, sh_31, sh_42, sh_45, sh_5, sh_6, pu_rv, pu_as, Value.category, pu_bk, pu_kl, List.replicate, pu_wi_1, pu_wi_2, nl_add, nl_ladd, nl_aa, nl_mul, nl_rmul, nl_mm, pu_qe0, pu_qe1, q1, q2, q3, q4, e3, hz]
          all_goals try simp (maxSteps := 400000) (disch := omega) [nl_tle, nl_fle, nl_tlt, nl_flt, nl_teq, nl_feq, nl_sub, nl_ss, nl_lt, nl_llt, nl_ltt, nl_le, nl_lle, nl_lee, nl_eq, nl_leq, nl_ee, nl_div, nl_rem, nl_cl, nl_n1, nl_n2, nl_n3, nl_n4, nl_add, nl_ladd, nl_aa, nl_mul, nl_rmul, nl_mm, pu_wi_1, pu_wi_2, q1, q2, q3, q4, e3, hz]
        · subst hz2
          have e5 : 7528 + (j + 100) - 100 = 7528 + j := by omega
          rw [qX12_count]
          simp [a_ent, bX12_count_0, bX12_count_35, bX12_count_96, bX12_count_103, bX12_count_110, bX12_count_117, bX12_count_124, bX12_count_132, bX12_count_139, bX12_count_147, bX12_count_155, bX12_count_163, bX12_count_171, bX12_count_176, bX12_count_33, bX12_count_34, a_ai, a_ald, a_cv, a_gi, a_gr, a_iadd, a_iclt, a_ifeq, a_ild, a_iret, a_isub, a_push, a_sw, fx_71_0 hx, sh_71, sh_72, pu_rv, pu_as, Value.category, pu_bk, pu_kl, List.replicate, pu_wi_1, pu_wi_2, nl_add, nl_ladd, nl_aa, nl_mul, nl_rmul, nl_mm, pu_qe0, pu_qe1, q1, q2, e2, hz, e5, rl_k0 hr]
          all_goals try simp (maxSteps := 400000) (disch := omega) [nl_tle, nl_fle, nl_tlt, nl_flt, nl_teq, nl_feq, nl_sub, nl_ss, nl_lt, nl_llt, nl_ltt, nl_le, nl_lle, nl_lee, nl_eq, nl_leq, nl_ee, nl_div, nl_rem, nl_cl, nl_n1, nl_n2, nl_n3, nl_n4, nl_add, nl_ladd, nl_aa, nl_mul, nl_rmul, nl_mm, pu_wi_1, pu_wi_2, q1, q2, e2, hz, e5, rl_k0 hr]
  · match j, hj with
    | 0, _ =>
      have q1 : ¬ 100 ≤ nI 0 := by decide
      refine ⟨nI (cT I), M, M, ?_, ?_, h⟩
      · rw [qX11_count]
        simp [a_ent, bX11_count_0, bX11_count_60, bX11_count_71, bX11_count_82, bX11_count_93, bX11_count_104, bX11_count_115, bX11_count_126, bX11_count_137, bX11_count_148, bX11_count_159, bX11_count_170, bX11_count_178, bX11_count_201, bX11_count_202, a_ald, a_cv, a_gi, a_gr, a_iclt, a_ild, a_iret, a_isub, a_push, a_sw, ag_14 hI, ag_25 hI, ag_31 hI, ag_42 hI, ag_45 hI, ag_6 hI, fx_0_0 hx, fx_0_2 hx, fx_5_0 hx, fx_5_1 hx, fx_5_3 hx, fx_5_4 hx, fx_5_5 hx, fx_5_6 hx, sh_0, sh_1, sh_14, sh_25, sh_3, sh_31, sh_42, sh_45, sh_5, sh_6, pu_rv, pu_as, Value.category, pu_bk, pu_kl, List.replicate, pu_wi_1, pu_wi_2, nl_add, nl_ladd, nl_aa, nl_mul, nl_rmul, nl_mm, pu_qe0, pu_qe1, q1, nl_cl, nl_n0, wx_cT hw]
        all_goals try simp (maxSteps := 400000) (disch := omega) [nl_tle, nl_fle, nl_tlt, nl_flt, nl_teq, nl_feq, nl_sub, nl_ss, nl_lt, nl_llt, nl_ltt, nl_le, nl_lle, nl_lee, nl_eq, nl_leq, nl_ee, nl_div, nl_rem, nl_cl, nl_n1, nl_n2, nl_n3, nl_n4, nl_add, nl_ladd, nl_aa, nl_mul, nl_rmul, nl_mm, pu_wi_1, pu_wi_2, q1, nl_cl, nl_n0, wx_cT hw]
      · rw [qX12_count]
        simp [a_ent, bX12_count_0, bX12_count_35, bX12_count_96, bX12_count_103, bX12_count_110, bX12_count_117, bX12_count_124, bX12_count_132, bX12_count_139, bX12_count_147, bX12_count_155, bX12_count_163, bX12_count_171, bX12_count_176, bX12_count_33, bX12_count_34, a_ai, a_ald, a_cv, a_gi, a_gr, a_iadd, a_iclt, a_ifeq, a_ild, a_iret, a_isub, a_push, a_sw, fx_71_0 hx, sh_71, sh_72, pu_rv, pu_as, Value.category, pu_bk, pu_kl, List.replicate, pu_wi_1, pu_wi_2, nl_add, nl_ladd, nl_aa, nl_mul, nl_rmul, nl_mm, pu_qe0, pu_qe1, q1, nl_cl, nl_n0, rl_h2 hr]
        all_goals try simp (maxSteps := 400000) (disch := omega) [nl_tle, nl_fle, nl_tlt, nl_flt, nl_teq, nl_feq, nl_sub, nl_ss, nl_lt, nl_llt, nl_ltt, nl_le, nl_lle, nl_lee, nl_eq, nl_leq, nl_ee, nl_div, nl_rem, nl_cl, nl_n1, nl_n2, nl_n3, nl_n4, nl_add, nl_ladd, nl_aa, nl_mul, nl_rmul, nl_mm, pu_wi_1, pu_wi_2, q1, nl_cl, nl_n0, rl_h2 hr]
    | 1, _ =>
      have q1 : ¬ 100 ≤ nI 1 := by decide
      refine ⟨nI (cK I), M, M, ?_, ?_, h⟩
      · rw [qX11_count]
        simp [a_ent, bX11_count_0, bX11_count_60, bX11_count_71, bX11_count_82, bX11_count_93, bX11_count_104, bX11_count_115, bX11_count_126, bX11_count_137, bX11_count_148, bX11_count_159, bX11_count_170, bX11_count_178, bX11_count_201, bX11_count_202, a_ald, a_cv, a_gi, a_gr, a_iclt, a_ild, a_iret, a_isub, a_push, a_sw, ag_14 hI, ag_25 hI, ag_31 hI, ag_42 hI, ag_45 hI, ag_6 hI, fx_0_0 hx, fx_0_2 hx, fx_5_0 hx, fx_5_1 hx, fx_5_3 hx, fx_5_4 hx, fx_5_5 hx, fx_5_6 hx, sh_0, sh_1, sh_14, sh_25, sh_3, sh_31, sh_42, sh_45, sh_5, sh_6, pu_rv, pu_as, Value.category, pu_bk, pu_kl, List.replicate, pu_wi_1, pu_wi_2, nl_add, nl_ladd, nl_aa, nl_mul, nl_rmul, nl_mm, pu_qe0, pu_qe1, q1, nl_cl, nl_n0, wx_cK hw]
        all_goals try simp (maxSteps := 400000) (disch := omega) [nl_tle, nl_fle, nl_tlt, nl_flt, nl_teq, nl_feq, nl_sub, nl_ss, nl_lt, nl_llt, nl_ltt, nl_le, nl_lle, nl_lee, nl_eq, nl_leq, nl_ee, nl_div, nl_rem, nl_cl, nl_n1, nl_n2, nl_n3, nl_n4, nl_add, nl_ladd, nl_aa, nl_mul, nl_rmul, nl_mm, pu_wi_1, pu_wi_2, q1, nl_cl, nl_n0, wx_cK hw]
      · rw [qX12_count]
        simp [a_ent, bX12_count_0, bX12_count_35, bX12_count_96, bX12_count_103, bX12_count_110, bX12_count_117, bX12_count_124, bX12_count_132, bX12_count_139, bX12_count_147, bX12_count_155, bX12_count_163, bX12_count_171, bX12_count_176, bX12_count_33, bX12_count_34, a_ai, a_ald, a_cv, a_gi, a_gr, a_iadd, a_iclt, a_ifeq, a_ild, a_iret, a_isub, a_push, a_sw, fx_71_0 hx, sh_71, sh_72, pu_rv, pu_as, Value.category, pu_bk, pu_kl, List.replicate, pu_wi_1, pu_wi_2, nl_add, nl_ladd, nl_aa, nl_mul, nl_rmul, nl_mm, pu_qe0, pu_qe1, q1, nl_cl, nl_n0, rl_h3 hr]
        all_goals try simp (maxSteps := 400000) (disch := omega) [nl_tle, nl_fle, nl_tlt, nl_flt, nl_teq, nl_feq, nl_sub, nl_ss, nl_lt, nl_llt, nl_ltt, nl_le, nl_lle, nl_lee, nl_eq, nl_leq, nl_ee, nl_div, nl_rem, nl_cl, nl_n1, nl_n2, nl_n3, nl_n4, nl_add, nl_ladd, nl_aa, nl_mul, nl_rmul, nl_mm, pu_wi_1, pu_wi_2, q1, nl_cl, nl_n0, rl_h3 hr]
    | 2, _ =>
      have q1 : ¬ 100 ≤ nI 2 := by decide
      refine ⟨nI (cD I), M, M, ?_, ?_, h⟩
      · rw [qX11_count]
        simp [a_ent, bX11_count_0, bX11_count_60, bX11_count_71, bX11_count_82, bX11_count_93, bX11_count_104, bX11_count_115, bX11_count_126, bX11_count_137, bX11_count_148, bX11_count_159, bX11_count_170, bX11_count_178, bX11_count_201, bX11_count_202, a_ald, a_cv, a_gi, a_gr, a_iclt, a_ild, a_iret, a_isub, a_push, a_sw, ag_14 hI, ag_25 hI, ag_31 hI, ag_42 hI, ag_45 hI, ag_6 hI, fx_0_0 hx, fx_0_2 hx, fx_5_0 hx, fx_5_1 hx, fx_5_3 hx, fx_5_4 hx, fx_5_5 hx, fx_5_6 hx, sh_0, sh_1, sh_14, sh_25, sh_3, sh_31, sh_42, sh_45, sh_5, sh_6, pu_rv, pu_as, Value.category, pu_bk, pu_kl, List.replicate, pu_wi_1, pu_wi_2, nl_add, nl_ladd, nl_aa, nl_mul, nl_rmul, nl_mm, pu_qe0, pu_qe1, q1, nl_cl, nl_n0, wx_cD hw]
        all_goals try simp (maxSteps := 400000) (disch := omega) [nl_tle, nl_fle, nl_tlt, nl_flt, nl_teq, nl_feq, nl_sub, nl_ss, nl_lt, nl_llt, nl_ltt, nl_le, nl_lle, nl_lee, nl_eq, nl_leq, nl_ee, nl_div, nl_rem, nl_cl, nl_n1, nl_n2, nl_n3, nl_n4, nl_add, nl_ladd, nl_aa, nl_mul, nl_rmul, nl_mm, pu_wi_1, pu_wi_2, q1, nl_cl, nl_n0, wx_cD hw]
      · rw [qX12_count]
        simp [a_ent, bX12_count_0, bX12_count_35, bX12_count_96, bX12_count_103, bX12_count_110, bX12_count_117, bX12_count_124, bX12_count_132, bX12_count_139, bX12_count_147, bX12_count_155, bX12_count_163, bX12_count_171, bX12_count_176, bX12_count_33, bX12_count_34, a_ai, a_ald, a_cv, a_gi, a_gr, a_iadd, a_iclt, a_ifeq, a_ild, a_iret, a_isub, a_push, a_sw, fx_71_0 hx, sh_71, sh_72, pu_rv, pu_as, Value.category, pu_bk, pu_kl, List.replicate, pu_wi_1, pu_wi_2, nl_add, nl_ladd, nl_aa, nl_mul, nl_rmul, nl_mm, pu_qe0, pu_qe1, q1, nl_cl, nl_n0, rl_h4 hr]
        all_goals try simp (maxSteps := 400000) (disch := omega) [nl_tle, nl_fle, nl_tlt, nl_flt, nl_teq, nl_feq, nl_sub, nl_ss, nl_lt, nl_llt, nl_ltt, nl_le, nl_lle, nl_lee, nl_eq, nl_leq, nl_ee, nl_div, nl_rem, nl_cl, nl_n1, nl_n2, nl_n3, nl_n4, nl_add, nl_ladd, nl_aa, nl_mul, nl_rmul, nl_mm, pu_wi_1, pu_wi_2, q1, nl_cl, nl_n0, rl_h4 hr]
    | 3, _ =>
      have q1 : ¬ 100 ≤ nI 3 := by decide
      refine ⟨nI (cP I), M, M, ?_, ?_, h⟩
      · rw [qX11_count]
        simp [a_ent, bX11_count_0, bX11_count_60, bX11_count_71, bX11_count_82, bX11_count_93, bX11_count_104, bX11_count_115, bX11_count_126, bX11_count_137, bX11_count_148, bX11_count_159, bX11_count_170, bX11_count_178, bX11_count_201, bX11_count_202, a_ald, a_cv, a_gi, a_gr, a_iclt, a_ild, a_iret, a_isub, a_push, a_sw, ag_14 hI, ag_25 hI, ag_31 hI, ag_42 hI, ag_45 hI, ag_6 hI, fx_0_0 hx, fx_0_2 hx, fx_5_0 hx, fx_5_1 hx, fx_5_3 hx, fx_5_4 hx, fx_5_5 hx, fx_5_6 hx, sh_0, sh_1, sh_14, sh_25, sh_3, sh_31, sh_42, sh_45, sh_5, sh_6, pu_rv, pu_as, Value.category, pu_bk, pu_kl, List.replicate, pu_wi_1, pu_wi_2, nl_add, nl_ladd, nl_aa, nl_mul, nl_rmul, nl_mm, pu_qe0, pu_qe1, q1, nl_cl, nl_n0, wx_cP hw]
        all_goals try simp (maxSteps := 400000) (disch := omega) [nl_tle, nl_fle, nl_tlt, nl_flt, nl_teq, nl_feq, nl_sub, nl_ss, nl_lt, nl_llt, nl_ltt, nl_le, nl_lle, nl_lee, nl_eq, nl_leq, nl_ee, nl_div, nl_rem, nl_cl, nl_n1, nl_n2, nl_n3, nl_n4, nl_add, nl_ladd, nl_aa, nl_mul, nl_rmul, nl_mm, pu_wi_1, pu_wi_2, q1, nl_cl, nl_n0, wx_cP hw]
      · rw [qX12_count]
        simp [a_ent, bX12_count_0, bX12_count_35, bX12_count_96, bX12_count_103, bX12_count_110, bX12_count_117, bX12_count_124, bX12_count_132, bX12_count_139, bX12_count_147, bX12_count_155, bX12_count_163, bX12_count_171, bX12_count_176, bX12_count_33, bX12_count_34, a_ai, a_ald, a_cv, a_gi, a_gr, a_iadd, a_iclt, a_ifeq, a_ild, a_iret, a_isub, a_push, a_sw, fx_71_0 hx, sh_71, sh_72, pu_rv, pu_as, Value.category, pu_bk, pu_kl, List.replicate, pu_wi_1, pu_wi_2, nl_add, nl_ladd, nl_aa, nl_mul, nl_rmul, nl_mm, pu_qe0, pu_qe1, q1, nl_cl, nl_n0, rl_h5 hr]
        all_goals try simp (maxSteps := 400000) (disch := omega) [nl_tle, nl_fle, nl_tlt, nl_flt, nl_teq, nl_feq, nl_sub, nl_ss, nl_lt, nl_llt, nl_ltt, nl_le, nl_lle, nl_lee, nl_eq, nl_leq, nl_ee, nl_div, nl_rem, nl_cl, nl_n1, nl_n2, nl_n3, nl_n4, nl_add, nl_ladd, nl_aa, nl_mul, nl_rmul, nl_mm, pu_wi_1, pu_wi_2, q1, nl_cl, nl_n0, rl_h5 hr]
    | 4, _ =>
      have q1 : ¬ 100 ≤ nI 4 := by decide
      refine ⟨nI (cU I), M, M, ?_, ?_, h⟩
      · rw [qX11_count]
        simp [a_ent, bX11_count_0, bX11_count_60, bX11_count_71, bX11_count_82, bX11_count_93, bX11_count_104, bX11_count_115, bX11_count_126, bX11_count_137, bX11_count_148, bX11_count_159, bX11_count_170, bX11_count_178, bX11_count_201, bX11_count_202, a_ald, a_cv, a_gi, a_gr, a_iclt, a_ild, a_iret, a_isub, a_push, a_sw, ag_14 hI, ag_25 hI, ag_31 hI, ag_42 hI, ag_45 hI, ag_6 hI, fx_0_0 hx, fx_0_2 hx, fx_5_0 hx, fx_5_1 hx, fx_5_3 hx, fx_5_4 hx, fx_5_5 hx, fx_5_6 hx, sh_0, sh_1, sh_14, sh_25, sh_3, sh_31, sh_42, sh_45, sh_5, sh_6, pu_rv, pu_as, Value.category, pu_bk, pu_kl, List.replicate, pu_wi_1, pu_wi_2, nl_add, nl_ladd, nl_aa, nl_mul, nl_rmul, nl_mm, pu_qe0, pu_qe1, q1, nl_cl, nl_n0, wx_cU hw]
        all_goals try simp (maxSteps := 400000) (disch := omega) [nl_tle, nl_fle, nl_tlt, nl_flt, nl_teq, nl_feq, nl_sub, nl_ss, nl_lt, nl_llt, nl_ltt, nl_le, nl_lle, nl_lee, nl_eq, nl_leq, nl_ee, nl_div, nl_rem, nl_cl, nl_n1, nl_n2, nl_n3, nl_n4, nl_add, nl_ladd, nl_aa, nl_mul, nl_rmul, nl_mm, pu_wi_1, pu_wi_2, q1, nl_cl, nl_n0, wx_cU hw]
      · rw [qX12_count]
        simp [a_ent, bX12_count_0, bX12_count_35, bX12_count_96, bX12_count_103, bX12_count_110, bX12_count_117, bX12_count_124, bX12_count_132, bX12_count_139, bX12_count_147, bX12_count_155, bX12_count_163, bX12_count_171, bX12_count_176, bX12_count_33, bX12_count_34, a_ai, a_ald, a_cv, a_gi, a_gr, a_iadd, a_iclt, a_ifeq, a_ild, a_iret, a_isub, a_push, a_sw, fx_71_0 hx, sh_71, sh_72, pu_rv, pu_as, Value.category, pu_bk, pu_kl, List.replicate, pu_wi_1, pu_wi_2, nl_add, nl_ladd, nl_aa, nl_mul, nl_rmul, nl_mm, pu_qe0, pu_qe1, q1, nl_cl, nl_n0, rl_h6 hr]
        all_goals try simp (maxSteps := 400000) (disch := omega) [nl_tle, nl_fle, nl_tlt, nl_flt, nl_teq, nl_feq, nl_sub, nl_ss, nl_lt, nl_llt, nl_ltt, nl_le, nl_lle, nl_lee, nl_eq, nl_leq, nl_ee, nl_div, nl_rem, nl_cl, nl_n1, nl_n2, nl_n3, nl_n4, nl_add, nl_ladd, nl_aa, nl_mul, nl_rmul, nl_mm, pu_wi_1, pu_wi_2, q1, nl_cl, nl_n0, rl_h6 hr]
    | 5, _ =>
      have q1 : ¬ 100 ≤ nI 5 := by decide
      refine ⟨I 6 0, M, M, ?_, ?_, h⟩
      · rw [qX11_count]
        simp [a_ent, bX11_count_0, bX11_count_60, bX11_count_71, bX11_count_82, bX11_count_93, bX11_count_104, bX11_count_115, bX11_count_126, bX11_count_137, bX11_count_148, bX11_count_159, bX11_count_170, bX11_count_178, bX11_count_201, bX11_count_202, a_ald, a_cv, a_gi, a_gr, a_iclt, a_ild, a_iret, a_isub, a_push, a_sw, ag_14 hI, ag_25 hI, ag_31 hI, ag_42 hI, ag_45 hI, ag_6 hI, fx_0_0 hx, fx_0_2 hx, fx_5_0 hx, fx_5_1 hx, fx_5_3 hx, fx_5_4 hx, fx_5_5 hx, fx_5_6 hx, sh_0, sh_1, sh_14, sh_25, sh_3, sh_31, sh_42, sh_45, sh_5, sh_6, pu_rv, pu_as, Value.category, pu_bk, pu_kl, List.replicate, pu_wi_1, pu_wi_2, nl_add, nl_ladd, nl_aa, nl_mul, nl_rmul, nl_mm, pu_qe0, pu_qe1, q1, nl_cl, nl_n0, nl_cl]
        all_goals try simp (maxSteps := 400000) (disch := omega) [nl_tle, nl_fle, nl_tlt, nl_flt, nl_teq, nl_feq, nl_sub, nl_ss, nl_lt, nl_llt, nl_ltt, nl_le, nl_lle, nl_lee, nl_eq, nl_leq, nl_ee, nl_div, nl_rem, nl_cl, nl_n1, nl_n2, nl_n3, nl_n4, nl_add, nl_ladd, nl_aa, nl_mul, nl_rmul, nl_mm, pu_wi_1, pu_wi_2, q1, nl_cl, nl_n0, nl_cl]
      · rw [qX12_count]
        simp [a_ent, bX12_count_0, bX12_count_35, bX12_count_96, bX12_count_103, bX12_count_110, bX12_count_117, bX12_count_124, bX12_count_132, bX12_count_139, bX12_count_147, bX12_count_155, bX12_count_163, bX12_count_171, bX12_count_176, bX12_count_33, bX12_count_34, a_ai, a_ald, a_cv, a_gi, a_gr, a_iadd, a_iclt, a_ifeq, a_ild, a_iret, a_isub, a_push, a_sw, fx_71_0 hx, sh_71, sh_72, pu_rv, pu_as, Value.category, pu_bk, pu_kl, List.replicate, pu_wi_1, pu_wi_2, nl_add, nl_ladd, nl_aa, nl_mul, nl_rmul, nl_mm, pu_qe0, pu_qe1, q1, nl_cl, nl_n0, rl_h0 hr]
        all_goals try simp (maxSteps := 400000) (disch := omega) [nl_tle, nl_fle, nl_tlt, nl_flt, nl_teq, nl_feq, nl_sub, nl_ss, nl_lt, nl_llt, nl_ltt, nl_le, nl_lle, nl_lee, nl_eq, nl_leq, nl_ee, nl_div, nl_rem, nl_cl, nl_n1, nl_n2, nl_n3, nl_n4, nl_add, nl_ladd, nl_aa, nl_mul, nl_rmul, nl_mm, pu_wi_1, pu_wi_2, q1, nl_cl, nl_n0, rl_h0 hr]
    | 6, _ =>
      have q1 : ¬ 100 ≤ nI 6 := by decide
      refine ⟨nI (cF I), M, M, ?_, ?_, h⟩
      · rw [qX11_count]
        simp [a_ent, bX11_count_0, bX11_count_60, bX11_count_71, bX11_count_82, bX11_count_93, bX11_count_104, bX11_count_115, bX11_count_126, bX11_count_137, bX11_count_148, bX11_count_159, bX11_count_170, bX11_count_178, bX11_count_201, bX11_count_202, a_ald, a_cv, a_gi, a_gr, a_iclt, a_ild, a_iret, a_isub, a_push, a_sw, ag_14 hI, ag_25 hI, ag_31 hI, ag_42 hI, ag_45 hI, ag_6 hI, fx_0_0 hx, fx_0_2 hx, fx_5_0 hx, fx_5_1 hx, fx_5_3 hx, fx_5_4 hx, fx_5_5 hx, fx_5_6 hx, sh_0, sh_1, sh_14, sh_25, sh_3, sh_31, sh_42, sh_45, sh_5, sh_6, pu_rv, pu_as, Value.category, pu_bk, pu_kl, List.replicate, pu_wi_1, pu_wi_2, nl_add, nl_ladd, nl_aa, nl_mul, nl_rmul, nl_mm, pu_qe0, pu_qe1, q1, nl_cl, nl_n0, wx_cF hw]
        all_goals try simp (maxSteps := 400000) (disch := omega) [nl_tle, nl_fle, nl_tlt, nl_flt, nl_teq, nl_feq, nl_sub, nl_ss, nl_lt, nl_llt, nl_ltt, nl_le, nl_lle, nl_lee, nl_eq, nl_leq, nl_ee, nl_div, nl_rem, nl_cl, nl_n1, nl_n2, nl_n3, nl_n4, nl_add, nl_ladd, nl_aa, nl_mul, nl_rmul, nl_mm, pu_wi_1, pu_wi_2, q1, nl_cl, nl_n0, wx_cF hw]
      · rw [qX12_count]
        simp [a_ent, bX12_count_0, bX12_count_35, bX12_count_96, bX12_count_103, bX12_count_110, bX12_count_117, bX12_count_124, bX12_count_132, bX12_count_139, bX12_count_147, bX12_count_155, bX12_count_163, bX12_count_171, bX12_count_176, bX12_count_33, bX12_count_34, a_ai, a_ald, a_cv, a_gi, a_gr, a_iadd, a_iclt, a_ifeq, a_ild, a_iret, a_isub, a_push, a_sw, fx_71_0 hx, sh_71, sh_72, pu_rv, pu_as, Value.category, pu_bk, pu_kl, List.replicate, pu_wi_1, pu_wi_2, nl_add, nl_ladd, nl_aa, nl_mul, nl_rmul, nl_mm, pu_qe0, pu_qe1, q1, nl_cl, nl_n0, rl_h8 hr]
        all_goals try simp (maxSteps := 400000) (disch := omega) [nl_tle, nl_fle, nl_tlt, nl_flt, nl_teq, nl_feq, nl_sub, nl_ss, nl_lt, nl_llt, nl_ltt, nl_le, nl_lle, nl_lee, nl_eq, nl_leq, nl_ee, nl_div, nl_rem, nl_cl, nl_n1, nl_n2, nl_n3, nl_n4, nl_add, nl_ladd, nl_aa, nl_mul, nl_rmul, nl_mm, pu_wi_1, pu_wi_2, q1, nl_cl, nl_n0, rl_h8 hr]
    | 7, _ =>
      have q1 : ¬ 100 ≤ nI 7 := by decide
      refine ⟨nI (cS I), M, M, ?_, ?_, h⟩
      · rw [qX11_count]
        simp [a_ent, bX11_count_0, bX11_count_60, bX11_count_71, bX11_count_82, bX11_count_93, bX11_count_104, bX11_count_115, bX11_count_126, bX11_count_137, bX11_count_148, bX11_count_159, bX11_count_170, bX11_count_178, bX11_count_201, bX11_count_202, a_ald, a_cv, a_gi, a_gr, a_iclt, a_ild, a_iret, a_isub, a_push, a_sw, ag_14 hI, ag_25 hI, ag_31 hI, ag_42 hI, ag_45 hI, ag_6 hI, fx_0_0 hx, fx_0_2 hx, fx_5_0 hx, fx_5_1 hx, fx_5_3 hx, fx_5_4 hx, fx_5_5 hx, fx_5_6 hx, sh_0, sh_1, sh_14, sh_25, sh_3, sh_31, sh_42, sh_45, sh_5, sh_6, pu_rv, pu_as, Value.category, pu_bk, pu_kl, List.replicate, pu_wi_1, pu_wi_2, nl_add, nl_ladd, nl_aa, nl_mul, nl_rmul, nl_mm, pu_qe0, pu_qe1, q1, nl_cl, nl_n0, wx_cS hw]
        all_goals try simp (maxSteps := 400000) (disch := omega) [nl_tle, nl_fle, nl_tlt, nl_flt, nl_teq, nl_feq, nl_sub, nl_ss, nl_lt, nl_llt, nl_ltt, nl_le, nl_lle, nl_lee, nl_eq, nl_leq, nl_ee, nl_div, nl_rem, nl_cl, nl_n1, nl_n2, nl_n3, nl_n4, nl_add, nl_ladd, nl_aa, nl_mul, nl_rmul, nl_mm, pu_wi_1, pu_wi_2, q1, nl_cl, nl_n0, wx_cS hw]
      · rw [qX12_count]
        simp [a_ent, bX12_count_0, bX12_count_35, bX12_count_96, bX12_count_103, bX12_count_110, bX12_count_117, bX12_count_124, bX12_count_132, bX12_count_139, bX12_count_147, bX12_count_155, bX12_count_163, bX12_count_171, bX12_count_176, bX12_count_33, bX12_count_34, a_ai, a_ald, a_cv, a_gi, a_gr, a_iadd, a_iclt, a_ifeq, a_ild, a_iret, a_isub, a_push, a_sw, fx_71_0 hx, sh_71, sh_72, pu_rv, pu_as, Value.category, pu_bk, pu_kl, List.replicate, pu_wi_1, pu_wi_2, nl_add, nl_ladd, nl_aa, nl_mul, nl_rmul, nl_mm, pu_qe0, pu_qe1, q1, nl_cl, nl_n0, rl_h9 hr]
        all_goals try simp (maxSteps := 400000) (disch := omega) [nl_tle, nl_fle, nl_tlt, nl_flt, nl_teq, nl_feq, nl_sub, nl_ss, nl_lt, nl_llt, nl_ltt, nl_le, nl_lle, nl_lee, nl_eq, nl_leq, nl_ee, nl_div, nl_rem, nl_cl, nl_n1, nl_n2, nl_n3, nl_n4, nl_add, nl_ladd, nl_aa, nl_mul, nl_rmul, nl_mm, pu_wi_1, pu_wi_2, q1, nl_cl, nl_n0, rl_h9 hr]
    | 8, _ =>
      have q1 : ¬ 100 ≤ nI 8 := by decide
      refine ⟨nI (cE I), M, M, ?_, ?_, h⟩
      · rw [qX11_count]
        simp [a_ent, bX11_count_0, bX11_count_60, bX11_count_71, bX11_count_82, bX11_count_93, bX11_count_104, bX11_count_115, bX11_count_126, bX11_count_137, bX11_count_148, bX11_count_159, bX11_count_170, bX11_count_178, bX11_count_201, bX11_count_202, a_ald, a_cv, a_gi, a_gr, a_iclt, a_ild, a_iret, a_isub, a_push, a_sw, ag_14 hI, ag_25 hI, ag_31 hI, ag_42 hI, ag_45 hI, ag_6 hI, fx_0_0 hx, fx_0_2 hx, fx_5_0 hx, fx_5_1 hx, fx_5_3 hx, fx_5_4 hx, fx_5_5 hx, fx_5_6 hx, sh_0, sh_1, sh_14, sh_25, sh_3, sh_31, sh_42, sh_45, sh_5, sh_6, pu_rv, pu_as, Value.category, pu_bk, pu_kl, List.replicate, pu_wi_1, pu_wi_2, nl_add, nl_ladd, nl_aa, nl_mul, nl_rmul, nl_mm, pu_qe0, pu_qe1, q1, nl_cl, nl_n0, wx_cE hw]
        all_goals try simp (maxSteps := 400000) (disch := omega) [nl_tle, nl_fle, nl_tlt, nl_flt, nl_teq, nl_feq, nl_sub, nl_ss, nl_lt, nl_llt, nl_ltt, nl_le, nl_lle, nl_lee, nl_eq, nl_leq, nl_ee, nl_div, nl_rem, nl_cl, nl_n1, nl_n2, nl_n3, nl_n4, nl_add, nl_ladd, nl_aa, nl_mul, nl_rmul, nl_mm, pu_wi_1, pu_wi_2, q1, nl_cl, nl_n0, wx_cE hw]
      · rw [qX12_count]
        simp [a_ent, bX12_count_0, bX12_count_35, bX12_count_96, bX12_count_103, bX12_count_110, bX12_count_117, bX12_count_124, bX12_count_132, bX12_count_139, bX12_count_147, bX12_count_155, bX12_count_163, bX12_count_171, bX12_count_176, bX12_count_33, bX12_count_34, a_ai, a_ald, a_cv, a_gi, a_gr, a_iadd, a_iclt, a_ifeq, a_ild, a_iret, a_isub, a_push, a_sw, fx_71_0 hx, sh_71, sh_72, pu_rv, pu_as, Value.category, pu_bk, pu_kl, List.replicate, pu_wi_1, pu_wi_2, nl_add, nl_ladd, nl_aa, nl_mul, nl_rmul, nl_mm, pu_qe0, pu_qe1, q1, nl_cl, nl_n0, rl_h10 hr]
        all_goals try simp (maxSteps := 400000) (disch := omega) [nl_tle, nl_fle, nl_tlt, nl_flt, nl_teq, nl_feq, nl_sub, nl_ss, nl_lt, nl_llt, nl_ltt, nl_le, nl_lle, nl_lee, nl_eq, nl_leq, nl_ee, nl_div, nl_rem, nl_cl, nl_n1, nl_n2, nl_n3, nl_n4, nl_add, nl_ladd, nl_aa, nl_mul, nl_rmul, nl_mm, pu_wi_1, pu_wi_2, q1, nl_cl, nl_n0, rl_h10 hr]
    | 9, _ =>
      have q1 : ¬ 100 ≤ nI 9 := by decide
      refine ⟨nI (cQ I), M, M, ?_, ?_, h⟩
      · rw [qX11_count]
        simp [a_ent, bX11_count_0, bX11_count_60, bX11_count_71, bX11_count_82, bX11_count_93, bX11_count_104, bX11_count_115, bX11_count_126, bX11_count_137, bX11_count_148, bX11_count_159, bX11_count_170, bX11_count_178, bX11_count_201, bX11_count_202, a_ald, a_cv, a_gi, a_gr, a_iclt, a_ild, a_iret, a_isub, a_push, a_sw, ag_14 hI, ag_25 hI, ag_31 hI, ag_42 hI, ag_45 hI, ag_6 hI, fx_0_0 hx, fx_0_2 hx, fx_5_0 hx, fx_5_1 hx, fx_5_3 hx, fx_5_4 hx, fx_5_5 hx, fx_5_6 hx, sh_0, sh_1, sh_14, sh_25, sh_3, sh_31, sh_42, sh_45, sh_5, sh_6, pu_rv, pu_as, Value.category, pu_bk, pu_kl, List.replicate, pu_wi_1, pu_wi_2, nl_add, nl_ladd, nl_aa, nl_mul, nl_rmul, nl_mm, pu_qe0, pu_qe1, q1, nl_cl, nl_n0, wx_cQ hw]
        all_goals try simp (maxSteps := 400000) (disch := omega) [nl_tle, nl_fle, nl_tlt, nl_flt, nl_teq, nl_feq, nl_sub, nl_ss, nl_lt, nl_llt, nl_ltt, nl_le, nl_lle, nl_lee, nl_eq, nl_leq, nl_ee, nl_div, nl_rem, nl_cl, nl_n1, nl_n2, nl_n3, nl_n4, nl_add, nl_ladd, nl_aa, nl_mul, nl_rmul, nl_mm, pu_wi_1, pu_wi_2, q1, nl_cl, nl_n0, wx_cQ hw]
      · rw [qX12_count]
        simp [a_ent, bX12_count_0, bX12_count_35, bX12_count_96, bX12_count_103, bX12_count_110, bX12_count_117, bX12_count_124, bX12_count_132, bX12_count_139, bX12_count_147, bX12_count_155, bX12_count_163, bX12_count_171, bX12_count_176, bX12_count_33, bX12_count_34, a_ai, a_ald, a_cv, a_gi, a_gr, a_iadd, a_iclt, a_ifeq, a_ild, a_iret, a_isub, a_push, a_sw, fx_71_0 hx, sh_71, sh_72, pu_rv, pu_as, Value.category, pu_bk, pu_kl, List.replicate, pu_wi_1, pu_wi_2, nl_add, nl_ladd, nl_aa, nl_mul, nl_rmul, nl_mm, pu_qe0, pu_qe1, q1, nl_cl, nl_n0, rl_h11 hr]
        all_goals try simp (maxSteps := 400000) (disch := omega) [nl_tle, nl_fle, nl_tlt, nl_flt, nl_teq, nl_feq, nl_sub, nl_ss, nl_lt, nl_llt, nl_ltt, nl_le, nl_lle, nl_lee, nl_eq, nl_leq, nl_ee, nl_div, nl_rem, nl_cl, nl_n1, nl_n2, nl_n3, nl_n4, nl_add, nl_ladd, nl_aa, nl_mul, nl_rmul, nl_mm, pu_wi_1, pu_wi_2, q1, nl_cl, nl_n0, rl_h11 hr]
    | 10, _ =>
      have q1 : ¬ 100 ≤ nI 10 := by decide
      refine ⟨nI t, M, M, ?_, ?_, h⟩
      · rw [qX11_count]
        simp [a_ent, bX11_count_0, bX11_count_60, bX11_count_71, bX11_count_82, bX11_count_93, bX11_count_104, bX11_count_115, bX11_count_126, bX11_count_137, bX11_count_148, bX11_count_159, bX11_count_170, bX11_count_178, bX11_count_201, bX11_count_202, a_ald, a_cv, a_gi, a_gr, a_iclt, a_ild, a_iret, a_isub, a_push, a_sw, ag_14 hI, ag_25 hI, ag_31 hI, ag_42 hI, ag_45 hI, ag_6 hI, fx_0_0 hx, fx_0_2 hx, fx_5_0 hx, fx_5_1 hx, fx_5_3 hx, fx_5_4 hx, fx_5_5 hx, fx_5_6 hx, sh_0, sh_1, sh_14, sh_25, sh_3, sh_31, sh_42, sh_45, sh_5, sh_6, pu_rv, pu_as, Value.category, pu_bk, pu_kl, List.replicate, pu_wi_1, pu_wi_2, nl_add, nl_ladd, nl_aa, nl_mul, nl_rmul, nl_mm, pu_qe0, pu_qe1, q1, nl_cl, nl_n0, t2]
        all_goals try simp (maxSteps := 400000) (disch := omega) [nl_tle, nl_fle, nl_tlt, nl_flt, nl_teq, nl_feq, nl_sub, nl_ss, nl_lt, nl_llt, nl_ltt, nl_le, nl_lle, nl_lee, nl_eq, nl_leq, nl_ee, nl_div, nl_rem, nl_cl, nl_n1, nl_n2, nl_n3, nl_n4, nl_add, nl_ladd, nl_aa, nl_mul, nl_rmul, nl_mm, pu_wi_1, pu_wi_2, q1, nl_cl, nl_n0, t2]
      · rw [qX12_count]
        simp [a_ent, bX12_count_0, bX12_count_35, bX12_count_96, bX12_count_103, bX12_count_110, bX12_count_117, bX12_count_124, bX12_count_132, bX12_count_139, bX12_count_147, bX12_count_155, bX12_count_163, bX12_count_171, bX12_count_176, bX12_count_33, bX12_count_34, a_ai, a_ald, a_cv, a_gi, a_gr, a_iadd, a_iclt, a_ifeq, a_ild, a_iret, a_isub, a_push, a_sw, fx_71_0 hx, sh_71, sh_72, pu_rv, pu_as, Value.category, pu_bk, pu_kl, List.replicate, pu_wi_1, pu_wi_2, nl_add, nl_ladd, nl_aa, nl_mul, nl_rmul, nl_mm, pu_qe0, pu_qe1, q1, nl_cl, nl_n0, t3]
        all_goals try simp (maxSteps := 400000) (disch := omega) [nl_tle, nl_fle, nl_tlt, nl_flt, nl_teq, nl_feq, nl_sub, nl_ss, nl_lt, nl_llt, nl_ltt, nl_le, nl_lle, nl_lee, nl_eq, nl_leq, nl_ee, nl_div, nl_rem, nl_cl, nl_n1, nl_n2, nl_n3, nl_n4, nl_add, nl_ladd, nl_aa, nl_mul, nl_rmul, nl_mm, pu_wi_1, pu_wi_2, q1, nl_cl, nl_n0, t3]
    | j + 11, hj => omega
