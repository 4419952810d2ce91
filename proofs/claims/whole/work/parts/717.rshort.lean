/-! shorten: the reference's loops -/
section
variable {M : pu_M} {I : Nat → Nat → Int32} {L : Nat → Nat → Int64}
theorem r_sh1 (hx : pu_fx M) (hr : pu_Rel I L (M.1 72)) (hw : pu_WF I L) (x : Int64) (hd : pu_Wd (M.1 78) 0 x) (t2 t3 : Option Value) : ∀ m i, i + m = cT I → ((∃ k, i ≤ k ∧ k < cT I ∧ ∃ w, w < 3 ∧ L 26 (3 * k + w) = x) → pu_r 445 [some (.ref 71), some (.int (nI i)), t2, t3] [] M = some (some (.int (-5)), M)) ∧ (¬ (∃ k, i ≤ k ∧ k < cT I ∧ ∃ w, w < 3 ∧ L 26 (3 * k + w) = x) → pu_r 445 [some (.ref 71), some (.int (nI i)), t2, t3] [] M = pu_r 446 [some (.ref 71), some (.int 0), t2, t3] [] M)
  | 0, i, h => by
    have hb := wx_bT hw
    have ff := fx_71_0 hx
    have h2 := rl_h2 hr
    have hc : nI (cT I) ≤ nI i := nI_le (by omega) (by omega)
    refine ⟨fun ⟨k, k1, k2, _⟩ => by omega, fun _ => ?_⟩
    rw [qX12_shorten_18]
    simp [bX12_shorten_18, bX12_shorten_45, bX12_shorten_39, a_ai, a_ald, a_cv, a_gr, a_icge, a_ifeq, a_ild, a_inc, a_iret, a_ist, a_push, sh_71, sh_72, pu_rv, pu_as, Value.category, pu_bk, pu_kl, List.replicate, pu_wi_1, pu_wi_2, nl_add, nl_ladd, nl_aa, nl_mul, nl_rmul, nl_mm, pu_qe0, pu_qe1, ff, h2, hc]
    all_goals try simp (maxSteps := 400000) (disch := omega) [nl_tle, nl_fle, nl_tlt, nl_flt, nl_teq, nl_feq, nl_sub, nl_ss, nl_lt, nl_llt, nl_ltt, nl_le, nl_lle, nl_lee, nl_eq, nl_leq, nl_ee, nl_div, nl_rem, nl_cl, nl_n1, nl_n2, nl_n3, nl_n4, nl_add, nl_ladd, nl_aa, nl_mul, nl_rmul, nl_mm, pu_wi_1, pu_wi_2, bX12_shorten_18, bX12_shorten_45, bX12_shorten_39, a_ai, a_ald, a_cv, a_gr, a_icge, a_ifeq, a_ild, a_inc, a_iret, a_ist, a_push, sh_71, sh_72, pu_rv, pu_as, Value.category, pu_bk, pu_kl, pu_qe0, pu_qe1, ff, h2, hc]
    all_goals try simp [bX12_shorten_18, bX12_shorten_45, bX12_shorten_39, a_ai, a_ald, a_cv, a_gr, a_icge, a_ifeq, a_ild, a_inc, a_iret, a_ist, a_push, sh_71, sh_72, pu_rv, pu_as, Value.category, pu_bk, pu_kl, List.replicate, pu_wi_1, pu_wi_2, nl_add, nl_ladd, nl_aa, nl_mul, nl_rmul, nl_mm, pu_qe0, pu_qe1, ff, h2, hc]
    all_goals try simp (maxSteps := 400000) (disch := omega) [nl_tle, nl_fle, nl_tlt, nl_flt, nl_teq, nl_feq, nl_sub, nl_ss, nl_lt, nl_llt, nl_ltt, nl_le, nl_lle, nl_lee, nl_eq, nl_leq, nl_ee, nl_div, nl_rem, nl_cl, nl_n1, nl_n2, nl_n3, nl_n4, nl_add, nl_ladd, nl_aa, nl_mul, nl_rmul, nl_mm, pu_wi_1, pu_wi_2, bX12_shorten_18, bX12_shorten_45, bX12_shorten_39, a_ai, a_ald, a_cv, a_gr, a_icge, a_ifeq, a_ild, a_inc, a_iret, a_ist, a_push, sh_71, sh_72, pu_rv, pu_as, Value.category, pu_bk, pu_kl, pu_qe0, pu_qe1, ff, h2, hc]
    all_goals try simp [bX12_shorten_18, bX12_shorten_45, bX12_shorten_39, a_ai, a_ald, a_cv, a_gr, a_icge, a_ifeq, a_ild, a_inc, a_iret, a_ist, a_push, sh_71, sh_72, pu_rv, pu_as, Value.category, pu_bk, pu_kl, List.replicate, pu_wi_1, pu_wi_2, nl_add, nl_ladd, nl_aa, nl_mul, nl_rmul, nl_mm, pu_qe0, pu_qe1, ff, h2, hc]
    all_goals try simp (maxSteps := 400000) (disch := omega) [nl_tle, nl_fle, nl_tlt, nl_flt, nl_teq, nl_feq, nl_sub, nl_ss, nl_lt, nl_llt, nl_ltt, nl_le, nl_lle, nl_lee, nl_eq, nl_leq, nl_ee, nl_div, nl_rem, nl_cl, nl_n1, nl_n2, nl_n3, nl_n4, nl_add, nl_ladd, nl_aa, nl_mul, nl_rmul, nl_mm, pu_wi_1, pu_wi_2, bX12_shorten_18, bX12_shorten_45, bX12_shorten_39, a_ai, a_ald, a_cv, a_gr, a_icge, a_ifeq, a_ild, a_inc, a_iret, a_ist, a_push, sh_71, sh_72, pu_rv, pu_as, Value.category, pu_bk, pu_kl, pu_qe0, pu_qe1, ff, h2, hc]
    all_goals try simp [bX12_shorten_18, bX12_shorten_45, bX12_shorten_39, a_ai, a_ald, a_cv, a_gr, a_icge, a_ifeq, a_ild, a_inc, a_iret, a_ist, a_push, sh_71, sh_72, pu_rv, pu_as, Value.category, pu_bk, pu_kl, List.replicate, pu_wi_1, pu_wi_2, nl_add, nl_ladd, nl_aa, nl_mul, nl_rmul, nl_mm, pu_qe0, pu_qe1, ff, h2, hc]
  | m + 1, i, h => by
    have hb := wx_bT hw
    have ff := fx_71_0 hx
    have h2 := rl_h2 hr
    have hc : ¬ nI (cT I) ≤ nI i := nI_ge (by omega) (by omega)
    have e := r_wordOf hx i (by omega) x hd (fun w => L 26 (3 * i + w)) (fun w hw2 => rl_tw hr i (by omega) w hw2)
    obtain ⟨ih1, ih2⟩ := r_sh1 hx hr hw x hd t2 t3 m (i + 1) (by omega)
    by_cases c : ∃ w, w < 3 ∧ L 26 (3 * i + w) = x
    · rw [pu_q1 c] at e
      refine ⟨fun _ => ?_, fun z => absurd ⟨i, Nat.le_refl _, by omega, c⟩ z⟩
      rw [qX12_shorten_18]
      simp [bX12_shorten_18, bX12_shorten_45, bX12_shorten_39, a_ai, a_ald, a_cv, a_gr, a_icge, a_ifeq, a_ild, a_inc, a_iret, a_ist, a_push, sh_71, sh_72, pu_rv, pu_as, Value.category, pu_bk, pu_kl, List.replicate, pu_wi_1, pu_wi_2, nl_add, nl_ladd, nl_aa, nl_mul, nl_rmul, nl_mm, pu_qe0, pu_qe1, ff, h2, hc, e]
      all_goals try simp (maxSteps := 400000) (disch := omega) [nl_tle, nl_fle, nl_tlt, nl_flt, nl_teq, nl_feq, nl_sub, nl_ss, nl_lt, nl_llt, nl_ltt, nl_le, nl_lle, nl_lee, nl_eq, nl_leq, nl_ee, nl_div, nl_rem, nl_cl, nl_n1, nl_n2, nl_n3, nl_n4, nl_add, nl_ladd, nl_aa, nl_mul, nl_rmul, nl_mm, pu_wi_1, pu_wi_2, bX12_shorten_18, bX12_shorten_45, bX12_shorten_39, a_ai, a_ald, a_cv, a_gr, a_icge, a_ifeq, a_ild, a_inc, a_iret, a_ist, a_push, sh_71, sh_72, pu_rv, pu_as, Value.category, pu_bk, pu_kl, pu_qe0, pu_qe1, ff, h2, hc, e]
      all_goals try simp [bX12_shorten_18, bX12_shorten_45, bX12_shorten_39, a_ai, a_ald, a_cv, a_gr, a_icge, a_ifeq, a_ild, a_inc, a_iret, a_ist, a_push, sh_71, sh_72, pu_rv, pu_as, Value.category, pu_bk, pu_kl, List.replicate, pu_wi_1, pu_wi_2, nl_add, nl_ladd, nl_aa, nl_mul, nl_rmul, nl_mm, pu_qe0, pu_qe1, ff, h2, hc, e]
      all_goals try simp (maxSteps := 400000) (disch := omega) [nl_tle, nl_fle, nl_tlt, nl_flt, nl_teq, nl_feq, nl_sub, nl_ss, nl_lt, nl_llt, nl_ltt, nl_le, nl_lle, nl_lee, nl_eq, nl_leq, nl_ee, nl_div, nl_rem, nl_cl, nl_n1, nl_n2, nl_n3, nl_n4, nl_add, nl_ladd, nl_aa, nl_mul, nl_rmul, nl_mm, pu_wi_1, pu_wi_2, bX12_shorten_18, bX12_shorten_45, bX12_shorten_39, a_ai, a_ald, a_cv, a_gr, a_icge, a_ifeq, a_ild, a_inc, a_iret, a_ist, a_push, sh_71, sh_72, pu_rv, pu_as, Value.category, pu_bk, pu_kl, pu_qe0, pu_qe1, ff, h2, hc, e]
      all_goals try simp [bX12_shorten_18, bX12_shorten_45, bX12_shorten_39, a_ai, a_ald, a_cv, a_gr, a_icge, a_ifeq, a_ild, a_inc, a_iret, a_ist, a_push, sh_71, sh_72, pu_rv, pu_as, Value.category, pu_bk, pu_kl, List.replicate, pu_wi_1, pu_wi_2, nl_add, nl_ladd, nl_aa, nl_mul, nl_rmul, nl_mm, pu_qe0, pu_qe1, ff, h2, hc, e]
      all_goals try simp (maxSteps := 400000) (disch := omega) [nl_tle, nl_fle, nl_tlt, nl_flt, nl_teq, nl_feq, nl_sub, nl_ss, nl_lt, nl_llt, nl_ltt, nl_le, nl_lle, nl_lee, nl_eq, nl_leq, nl_ee, nl_div, nl_rem, nl_cl, nl_n1, nl_n2, nl_n3, nl_n4, nl_add, nl_ladd, nl_aa, nl_mul, nl_rmul, nl_mm, pu_wi_1, pu_wi_2, bX12_shorten_18, bX12_shorten_45, bX12_shorten_39, a_ai, a_ald, a_cv, a_gr, a_icge, a_ifeq, a_ild, a_inc, a_iret, a_ist, a_push, sh_71, sh_72, pu_rv, pu_as, Value.category, pu_bk, pu_kl, pu_qe0, pu_qe1, ff, h2, hc, e]
      all_goals try simp [bX12_shorten_18, bX12_shorten_45, bX12_shorten_39, a_ai, a_ald, a_cv, a_gr, a_icge, a_ifeq, a_ild, a_inc, a_iret, a_ist, a_push, sh_71, sh_72, pu_rv, pu_as, Value.category, pu_bk, pu_kl, List.replicate, pu_wi_1, pu_wi_2, nl_add, nl_ladd, nl_aa, nl_mul, nl_rmul, nl_mm, pu_qe0, pu_qe1, ff, h2, hc, e]
    · rw [pu_q0 c] at e
      have st : pu_r 445 [some (.ref 71), some (.int (nI i)), t2, t3] [] M = pu_r 445 [some (.ref 71), some (.int (nI (i + 1))), t2, t3] [] M := by
        rw [qX12_shorten_18]
        simp [bX12_shorten_18, bX12_shorten_45, bX12_shorten_39, a_ai, a_ald, a_cv, a_gr, a_icge, a_ifeq, a_ild, a_inc, a_iret, a_ist, a_push, sh_71, sh_72, pu_rv, pu_as, Value.category, pu_bk, pu_kl, List.replicate, pu_wi_1, pu_wi_2, nl_add, nl_ladd, nl_aa, nl_mul, nl_rmul, nl_mm, pu_qe0, pu_qe1, ff, h2, hc, e]
        all_goals try simp (maxSteps := 400000) (disch := omega) [nl_tle, nl_fle, nl_tlt, nl_flt, nl_teq, nl_feq, nl_sub, nl_ss, nl_lt, nl_llt, nl_ltt, nl_le, nl_lle, nl_lee, nl_eq, nl_leq, nl_ee, nl_div, nl_rem, nl_cl, nl_n1, nl_n2, nl_n3, nl_n4, nl_add, nl_ladd, nl_aa, nl_mul, nl_rmul, nl_mm, pu_wi_1, pu_wi_2, bX12_shorten_18, bX12_shorten_45, bX12_shorten_39, a_ai, a_ald, a_cv, a_gr, a_icge, a_ifeq, a_ild, a_inc, a_iret, a_ist, a_push, sh_71, sh_72, pu_rv, pu_as, Value.category, pu_bk, pu_kl, pu_qe0, pu_qe1, ff, h2, hc, e]
        all_goals try simp [bX12_shorten_18, bX12_shorten_45, bX12_shorten_39, a_ai, a_ald, a_cv, a_gr, a_icge, a_ifeq, a_ild, a_inc, a_iret, a_ist, a_push, sh_71, sh_72, pu_rv, pu_as, Value.category, pu_bk, pu_kl, List.replicate, pu_wi_1, pu_wi_2, nl_add, nl_ladd, nl_aa, nl_mul, nl_rmul, nl_mm, pu_qe0, pu_qe1, ff, h2, hc, e]
        all_goals try simp (maxSteps := 400000) (disch := omega) [nl_tle, nl_fle, nl_tlt, nl_flt, nl_teq, nl_feq, nl_sub, nl_ss, nl_lt, nl_llt, nl_ltt, nl_le, nl_lle, nl_lee, nl_eq, nl_leq, nl_ee, nl_div, nl_rem, nl_cl, nl_n1, nl_n2, nl_n3, nl_n4, nl_add, nl_ladd, nl_aa, nl_mul, nl_rmul, nl_mm, pu_wi_1, pu_wi_2, bX12_shorten_18, bX12_shorten_45, bX12_shorten_39, a_ai, a_ald, a_cv, a_gr, a_icge, a_ifeq, a_ild, a_inc, a_iret, a_ist, a_push, sh_71, sh_72, pu_rv, pu_as, Value.category, pu_bk, pu_kl, pu_qe0, pu_qe1, ff, h2, hc, e]
        all_goals try simp [bX12_shorten_18, bX12_shorten_45, bX12_shorten_39, a_ai, a_ald, a_cv, a_gr, a_icge, a_ifeq, a_ild, a_inc, a_iret, a_ist, a_push, sh_71, sh_72, pu_rv, pu_as, Value.category, pu_bk, pu_kl, List.replicate, pu_wi_1, pu_wi_2, nl_add, nl_ladd, nl_aa, nl_mul, nl_rmul, nl_mm, pu_qe0, pu_qe1, ff, h2, hc, e]
        all_goals try simp (maxSteps := 400000) (disch := omega) [nl_tle, nl_fle, nl_tlt, nl_flt, nl_teq, nl_feq, nl_sub, nl_ss, nl_lt, nl_llt, nl_ltt, nl_le, nl_lle, nl_lee, nl_eq, nl_leq, nl_ee, nl_div, nl_rem, nl_cl, nl_n1, nl_n2, nl_n3, nl_n4, nl_add, nl_ladd, nl_aa, nl_mul, nl_rmul, nl_mm, pu_wi_1, pu_wi_2, bX12_shorten_18, bX12_shorten_45, bX12_shorten_39, a_ai, a_ald, a_cv, a_gr, a_icge, a_ifeq, a_ild, a_inc, a_iret, a_ist, a_push, sh_71, sh_72, pu_rv, pu_as, Value.category, pu_bk, pu_kl, pu_qe0, pu_qe1, ff, h2, hc, e]
        all_goals try simp [bX12_shorten_18, bX12_shorten_45, bX12_shorten_39, a_ai, a_ald, a_cv, a_gr, a_icge, a_ifeq, a_ild, a_inc, a_iret, a_ist, a_push, sh_71, sh_72, pu_rv, pu_as, Value.category, pu_bk, pu_kl, List.replicate, pu_wi_1, pu_wi_2, nl_add, nl_ladd, nl_aa, nl_mul, nl_rmul, nl_mm, pu_qe0, pu_qe1, ff, h2, hc, e]
      rw [st, py_exf (p := fun k => ∃ w, w < 3 ∧ L 26 (3 * k + w) = x) (by omega) c]
      exact ⟨ih1, ih2⟩
theorem r_sh2 (hx : pu_fx M) (hr : pu_Rel I L (M.1 72)) (hw : pu_WF I L) (x : Int64) (hd : pu_Wd (M.1 78) 0 x) (t2 t3 : Option Value) : ∀ m i, i + m = cN I → ((∃ j, i ≤ j ∧ j < cN I ∧ ∃ k, k < cN I ∧ pz_nr I L (M.1 72) j k ∧ ∃ w, w < 3 ∧ L 24 (3 * k + w) = x) → pu_r 446 [some (.ref 71), some (.int (nI i)), t2, t3] [] M = some (some (.int (-5)), M)) ∧ (¬ (∃ j, i ≤ j ∧ j < cN I ∧ ∃ k, k < cN I ∧ pz_nr I L (M.1 72) j k ∧ ∃ w, w < 3 ∧ L 24 (3 * k + w) = x) → pu_r 446 [some (.ref 71), some (.int (nI i)), t2, t3] [] M = pu_r 447 [some (.ref 71), some (.int 0), some (.int 0), t3] [] M)
  | 0, i, h => by
    have hb := wx_bN hw
    have ff := fx_71_0 hx
    have h7 := rl_h7 hr
    have hc : nI (cN I) ≤ nI i := nI_le (by omega) (by omega)
    refine ⟨fun ⟨k, k1, k2, _⟩ => by omega, fun _ => ?_⟩
    rw [qX12_shorten_47]
    simp [bX12_shorten_47, bX12_shorten_88, bX12_shorten_82, a_ai, a_ald, a_cv, a_gr, a_iadd, a_icge, a_ifeq, a_ild, a_imul, a_inc, a_iret, a_ist, a_push, sh_71, sh_72, pu_rv, pu_as, Value.category, pu_bk, pu_kl, List.replicate, pu_wi_1, pu_wi_2, nl_add, nl_ladd, nl_aa, nl_mul, nl_rmul, nl_mm, pu_qe0, pu_qe1, ff, h7, hc]
    all_goals try simp (maxSteps := 400000) (disch := omega) [nl_tle, nl_fle, nl_tlt, nl_flt, nl_teq, nl_feq, nl_sub, nl_ss, nl_lt, nl_llt, nl_ltt, nl_le, nl_lle, nl_lee, nl_eq, nl_leq, nl_ee, nl_div, nl_rem, nl_cl, nl_n1, nl_n2, nl_n3, nl_n4, nl_add, nl_ladd, nl_aa, nl_mul, nl_rmul, nl_mm, pu_wi_1, pu_wi_2, bX12_shorten_47, bX12_shorten_88, bX12_shorten_82, a_ai, a_ald, a_cv, a_gr, a_iadd, a_icge, a_ifeq, a_ild, a_imul, a_inc, a_iret, a_ist, a_push, sh_71, sh_72, pu_rv, pu_as, Value.category, pu_bk, pu_kl, pu_qe0, pu_qe1, ff, h7, hc]
    all_goals try simp [bX12_shorten_47, bX12_shorten_88, bX12_shorten_82, a_ai, a_ald, a_cv, a_gr, a_iadd, a_icge, a_ifeq, a_ild, a_imul, a_inc, a_iret, a_ist, a_push, sh_71, sh_72, pu_rv, pu_as, Value.category, pu_bk, pu_kl, List.replicate, pu_wi_1, pu_wi_2, nl_add, nl_ladd, nl_aa, nl_mul, nl_rmul, nl_mm, pu_qe0, pu_qe1, ff, h7, hc]
    all_goals try simp (maxSteps := 400000) (disch := omega) [nl_tle, nl_fle, nl_tlt, nl_flt, nl_teq, nl_feq, nl_sub, nl_ss, nl_lt, nl_llt, nl_ltt, nl_le, nl_lle, nl_lee, nl_eq, nl_leq, nl_ee, nl_div, nl_rem, nl_cl, nl_n1, nl_n2, nl_n3, nl_n4, nl_add, nl_ladd, nl_aa, nl_mul, nl_rmul, nl_mm, pu_wi_1, pu_wi_2, bX12_shorten_47, bX12_shorten_88, bX12_shorten_82, a_ai, a_ald, a_cv, a_gr, a_iadd, a_icge, a_ifeq, a_ild, a_imul, a_inc, a_iret, a_ist, a_push, sh_71, sh_72, pu_rv, pu_as, Value.category, pu_bk, pu_kl, pu_qe0, pu_qe1, ff, h7, hc]
    all_goals try simp [bX12_shorten_47, bX12_shorten_88, bX12_shorten_82, a_ai, a_ald, a_cv, a_gr, a_iadd, a_icge, a_ifeq, a_ild, a_imul, a_inc, a_iret, a_ist, a_push, sh_71, sh_72, pu_rv, pu_as, Value.category, pu_bk, pu_kl, List.replicate, pu_wi_1, pu_wi_2, nl_add, nl_ladd, nl_aa, nl_mul, nl_rmul, nl_mm, pu_qe0, pu_qe1, ff, h7, hc]
    all_goals try simp (maxSteps := 400000) (disch := omega) [nl_tle, nl_fle, nl_tlt, nl_flt, nl_teq, nl_feq, nl_sub, nl_ss, nl_lt, nl_llt, nl_ltt, nl_le, nl_lle, nl_lee, nl_eq, nl_leq, nl_ee, nl_div, nl_rem, nl_cl, nl_n1, nl_n2, nl_n3, nl_n4, nl_add, nl_ladd, nl_aa, nl_mul, nl_rmul, nl_mm, pu_wi_1, pu_wi_2, bX12_shorten_47, bX12_shorten_88, bX12_shorten_82, a_ai, a_ald, a_cv, a_gr, a_iadd, a_icge, a_ifeq, a_ild, a_imul, a_inc, a_iret, a_ist, a_push, sh_71, sh_72, pu_rv, pu_as, Value.category, pu_bk, pu_kl, pu_qe0, pu_qe1, ff, h7, hc]
    all_goals try simp [bX12_shorten_47, bX12_shorten_88, bX12_shorten_82, a_ai, a_ald, a_cv, a_gr, a_iadd, a_icge, a_ifeq, a_ild, a_imul, a_inc, a_iret, a_ist, a_push, sh_71, sh_72, pu_rv, pu_as, Value.category, pu_bk, pu_kl, List.replicate, pu_wi_1, pu_wi_2, nl_add, nl_ladd, nl_aa, nl_mul, nl_rmul, nl_mm, pu_qe0, pu_qe1, ff, h7, hc]
  | m + 1, i, h => by
    have hb := wx_bN hw
    have ff := fx_71_0 hx
    have h7 := rl_h7 hr
    have hi : i < cN I := by omega
    have hc : ¬ nI (cN I) ≤ nI i := nI_ge (by omega) (by omega)
    obtain ⟨k, k1, k2⟩ := rl_nb hr i hi
    obtain ⟨a1, a2, a3, a4, n0, m1, m2, m3, m4, m5⟩ := id k2
    have bP := wx_bP hw
    have e := r_wordOf hx n0 (by omega) x hd (fun w => L 24 (3 * k + w)) (fun w hw2 => m5 w hw2)
    obtain ⟨ih1, ih2⟩ := r_sh2 hx hr hw x hd t2 t3 m (i + 1) (by omega)
    by_cases c : ∃ w, w < 3 ∧ L 24 (3 * k + w) = x
    · rw [pu_q1 c] at e
      refine ⟨fun _ => ?_, fun z => absurd ⟨i, Nat.le_refl _, hi, k, k1, k2, c⟩ z⟩
      rw [qX12_shorten_47]
      simp [bX12_shorten_47, bX12_shorten_88, bX12_shorten_82, a_ai, a_ald, a_cv, a_gr, a_iadd, a_icge, a_ifeq, a_ild, a_imul, a_inc, a_iret, a_ist, a_push, sh_71, sh_72, pu_rv, pu_as, Value.category, pu_bk, pu_kl, List.replicate, pu_wi_1, pu_wi_2, nl_add, nl_ladd, nl_aa, nl_mul, nl_rmul, nl_mm, pu_qe0, pu_qe1, ff, h7, hc, m4, e]
      all_goals try simp (maxSteps := 400000) (disch := omega) [nl_tle, nl_fle, nl_tlt, nl_flt, nl_teq, nl_feq, nl_sub, nl_ss, nl_lt, nl_llt, nl_ltt, nl_le, nl_lle, nl_lee, nl_eq, nl_leq, nl_ee, nl_div, nl_rem, nl_cl, nl_n1, nl_n2, nl_n3, nl_n4, nl_add, nl_ladd, nl_aa, nl_mul, nl_rmul, nl_mm, pu_wi_1, pu_wi_2, bX12_shorten_47, bX12_shorten_88, bX12_shorten_82, a_ai, a_ald, a_cv, a_gr, a_iadd, a_icge, a_ifeq, a_ild, a_imul, a_inc, a_iret, a_ist, a_push, sh_71, sh_72, pu_rv, pu_as, Value.category, pu_bk, pu_kl, pu_qe0, pu_qe1, ff, h7, hc, m4, e]
      all_goals try simp [bX12_shorten_47, bX12_shorten_88, bX12_shorten_82, a_ai, a_ald, a_cv, a_gr, a_iadd, a_icge, a_ifeq, a_ild, a_imul, a_inc, a_iret, a_ist, a_push, sh_71, sh_72, pu_rv, pu_as, Value.category, pu_bk, pu_kl, List.replicate, pu_wi_1, pu_wi_2, nl_add, nl_ladd, nl_aa, nl_mul, nl_rmul, nl_mm, pu_qe0, pu_qe1, ff, h7, hc, m4, e]
      all_goals try simp (maxSteps := 400000) (disch := omega) [nl_tle, nl_fle, nl_tlt, nl_flt, nl_teq, nl_feq, nl_sub, nl_ss, nl_lt, nl_llt, nl_ltt, nl_le, nl_lle, nl_lee, nl_eq, nl_leq, nl_ee, nl_div, nl_rem, nl_cl, nl_n1, nl_n2, nl_n3, nl_n4, nl_add, nl_ladd, nl_aa, nl_mul, nl_rmul, nl_mm, pu_wi_1, pu_wi_2, bX12_shorten_47, bX12_shorten_88, bX12_shorten_82, a_ai, a_ald, a_cv, a_gr, a_iadd, a_icge, a_ifeq, a_ild, a_imul, a_inc, a_iret, a_ist, a_push, sh_71, sh_72, pu_rv, pu_as, Value.category, pu_bk, pu_kl, pu_qe0, pu_qe1, ff, h7, hc, m4, e]
      all_goals try simp [bX12_shorten_47, bX12_shorten_88, bX12_shorten_82, a_ai, a_ald, a_cv, a_gr, a_iadd, a_icge, a_ifeq, a_ild, a_imul, a_inc, a_iret, a_ist, a_push, sh_71, sh_72, pu_rv, pu_as, Value.category, pu_bk, pu_kl, List.replicate, pu_wi_1, pu_wi_2, nl_add, nl_ladd, nl_aa, nl_mul, nl_rmul, nl_mm, pu_qe0, pu_qe1, ff, h7, hc, m4, e]
      all_goals try simp (maxSteps := 400000) (disch := omega) [nl_tle, nl_fle, nl_tlt, nl_flt, nl_teq, nl_feq, nl_sub, nl_ss, nl_lt, nl_llt, nl_ltt, nl_le, nl_lle, nl_lee, nl_eq, nl_leq, nl_ee, nl_div, nl_rem, nl_cl, nl_n1, nl_n2, nl_n3, nl_n4, nl_add, nl_ladd, nl_aa, nl_mul, nl_rmul, nl_mm, pu_wi_1, pu_wi_2, bX12_shorten_47, bX12_shorten_88, bX12_shorten_82, a_ai, a_ald, a_cv, a_gr, a_iadd, a_icge, a_ifeq, a_ild, a_imul, a_inc, a_iret, a_ist, a_push, sh_71, sh_72, pu_rv, pu_as, Value.category, pu_bk, pu_kl, pu_qe0, pu_qe1, ff, h7, hc, m4, e]
      all_goals try simp [bX12_shorten_47, bX12_shorten_88, bX12_shorten_82, a_ai, a_ald, a_cv, a_gr, a_iadd, a_icge, a_ifeq, a_ild, a_imul, a_inc, a_iret, a_ist, a_push, sh_71, sh_72, pu_rv, pu_as, Value.category, pu_bk, pu_kl, List.replicate, pu_wi_1, pu_wi_2, nl_add, nl_ladd, nl_aa, nl_mul, nl_rmul, nl_mm, pu_qe0, pu_qe1, ff, h7, hc, m4, e]
    · rw [pu_q0 c] at e
      have st : pu_r 446 [some (.ref 71), some (.int (nI i)), t2, t3] [] M = pu_r 446 [some (.ref 71), some (.int (nI (i + 1))), t2, t3] [] M := by
        rw [qX12_shorten_47]
        simp [bX12_shorten_47, bX12_shorten_88, bX12_shorten_82, a_ai, a_ald, a_cv, a_gr, a_iadd, a_icge, a_ifeq, a_ild, a_imul, a_inc, a_iret, a_ist, a_push, sh_71, sh_72, pu_rv, pu_as, Value.category, pu_bk, pu_kl, List.replicate, pu_wi_1, pu_wi_2, nl_add, nl_ladd, nl_aa, nl_mul, nl_rmul, nl_mm, pu_qe0, pu_qe1, ff, h7, hc, m4, e]
        all_goals try simp (maxSteps := 400000) (disch := omega) [nl_tle, nl_fle, nl_tlt, nl_flt, nl_teq, nl_feq, nl_sub, nl_ss, nl_lt, nl_llt, nl_ltt, nl_le, nl_lle, nl_lee, nl_eq, nl_leq, nl_ee, nl_div, nl_rem, nl_cl, nl_n1, nl_n2, nl_n3, nl_n4, nl_add, nl_ladd, nl_aa, nl_mul, nl_rmul, nl_mm, pu_wi_1, pu_wi_2, bX12_shorten_47, bX12_shorten_88, bX12_shorten_82, a_ai, a_ald, a_cv, a_gr, a_iadd, a_icge, a_ifeq, a_ild, a_imul, a_inc, a_iret, a_ist, a_push, sh_71, sh_72, pu_rv, pu_as, Value.category, pu_bk, pu_kl, pu_qe0, pu_qe1, ff, h7, hc, m4, e]
        all_goals try simp [bX12_shorten_47, bX12_shorten_88, bX12_shorten_82, a_ai, a_ald, a_cv, a_gr, a_iadd, a_icge, a_ifeq, a_ild, a_imul, a_inc, a_iret, a_ist, a_push, sh_71, sh_72, pu_rv, pu_as, Value.category, pu_bk, pu_kl, List.replicate, pu_wi_1, pu_wi_2, nl_add, nl_ladd, nl_aa, nl_mul, nl_rmul, nl_mm, pu_qe0, pu_qe1, ff, h7, hc, m4, e]
        all_goals try simp (maxSteps := 400000) (disch := omega) [nl_tle, nl_fle, nl_tlt, nl_flt, nl_teq, nl_feq, nl_sub, nl_ss, nl_lt, nl_llt, nl_ltt, nl_le, nl_lle, nl_lee, nl_eq, nl_leq, nl_ee, nl_div, nl_rem, nl_cl, nl_n1, nl_n2, nl_n3, nl_n4, nl_add, nl_ladd, nl_aa, nl_mul, nl_rmul, nl_mm, pu_wi_1, pu_wi_2, bX12_shorten_47, bX12_shorten_88, bX12_shorten_82, a_ai, a_ald, a_cv, a_gr, a_iadd, a_icge, a_ifeq, a_ild, a_imul, a_inc, a_iret, a_ist, a_push, sh_71, sh_72, pu_rv, pu_as, Value.category, pu_bk, pu_kl, pu_qe0, pu_qe1, ff, h7, hc, m4, e]
        all_goals try simp [bX12_shorten_47, bX12_shorten_88, bX12_shorten_82, a_ai, a_ald, a_cv, a_gr, a_iadd, a_icge, a_ifeq, a_ild, a_imul, a_inc, a_iret, a_ist, a_push, sh_71, sh_72, pu_rv, pu_as, Value.category, pu_bk, pu_kl, List.replicate, pu_wi_1, pu_wi_2, nl_add, nl_ladd, nl_aa, nl_mul, nl_rmul, nl_mm, pu_qe0, pu_qe1, ff, h7, hc, m4, e]
        all_goals try simp (maxSteps := 400000) (disch := omega) [nl_tle, nl_fle, nl_tlt, nl_flt, nl_teq, nl_feq, nl_sub, nl_ss, nl_lt, nl_llt, nl_ltt, nl_le, nl_lle, nl_lee, nl_eq, nl_leq, nl_ee, nl_div, nl_rem, nl_cl, nl_n1, nl_n2, nl_n3, nl_n4, nl_add, nl_ladd, nl_aa, nl_mul, nl_rmul, nl_mm, pu_wi_1, pu_wi_2, bX12_shorten_47, bX12_shorten_88, bX12_shorten_82, a_ai, a_ald, a_cv, a_gr, a_iadd, a_icge, a_ifeq, a_ild, a_imul, a_inc, a_iret, a_ist, a_push, sh_71, sh_72, pu_rv, pu_as, Value.category, pu_bk, pu_kl, pu_qe0, pu_qe1, ff, h7, hc, m4, e]
        all_goals try simp [bX12_shorten_47, bX12_shorten_88, bX12_shorten_82, a_ai, a_ald, a_cv, a_gr, a_iadd, a_icge, a_ifeq, a_ild, a_imul, a_inc, a_iret, a_ist, a_push, sh_71, sh_72, pu_rv, pu_as, Value.category, pu_bk, pu_kl, List.replicate, pu_wi_1, pu_wi_2, nl_add, nl_ladd, nl_aa, nl_mul, nl_rmul, nl_mm, pu_qe0, pu_qe1, ff, h7, hc, m4, e]
      have no : ¬ ∃ k, k < cN I ∧ pz_nr I L (M.1 72) i k ∧ ∃ w, w < 3 ∧ L 24 (3 * k + w) = x := by
        rintro ⟨k', h1, h2, w, h3, h4⟩
        -- the words of both are the row's
        obtain ⟨_, _, _, _, n1, _, _, p3, p4, p5⟩ := h2
        have en : n1 = n0 := by
          rw [m4, nI_eq (by omega) (by omega)] at p4
          exact p4.symm
        rw [en] at p5
        have := (py_wd_eq (p5 w h3) (m5 w h3)).mp (fun _ _ => rfl)
        exact c ⟨w, h3, this.symm.trans h4⟩
      rw [st, py_exf (p := fun j => ∃ k, k < cN I ∧ pz_nr I L (M.1 72) j k ∧ ∃ w, w < 3 ∧ L 24 (3 * k + w) = x) hi no]
      exact ⟨ih1, ih2⟩
theorem r_sh_m (hx : pu_fx M) (k : Nat) (hk : k < 20) : ∀ m i, i + m = 12 → (∀ j, j < i → M.1 78 j = M.1 72 (30152 + 24 * k + j)) → ∃ u, pu_r 448 [some (.ref 71), some (.int (nI k)), some (.int 1), some (.int (nI i))] [] M = kX12_shorten_157 pu_r [some (.ref 71), some (.int (nI k)), some (.int (pu_q (∀ j, j < 12 → M.1 78 j = M.1 72 (30152 + 24 * k + j)))), some (.int u)] [] M
  | 0, i, h, g => by
    have e : i = 12 := by omega
    subst e
    rw [pu_q1 g]
    refine ⟨nI 12, ?_⟩
    have hc : 12 ≤ nI 12 := by decide
    rw [qX12_shorten_111]
    simp [bX12_shorten_111, a_ild, a_push, a_icge, hc]
  | m + 1, i, h, g => by
    have f := fx_71_0 hx
    have f9 := fx_71_9 hx
    have hc : ¬ 12 ≤ nI i := nI_ge (b := 12) (by omega) (by omega)
    have il : i < 36 := by omega
    by_cases c : M.1 78 i = M.1 72 (30152 + 24 * k + i)
    · obtain ⟨u, hu⟩ := r_sh_m hx k hk m (i + 1) (by omega) (fun j hj => by
        by_cases z : j = i
        · rw [z]; exact c
        · exact g j (by omega))
      refine ⟨u, ?_⟩
      rw [← hu]
      rw [qX12_shorten_111]
      simp [bX12_shorten_111, bX12_shorten_157, bX12_shorten_149, bX12_shorten_150, a_ai, a_ald, a_gr, a_iadd, a_icge, a_icne, a_ifeq, a_ifne, a_ild, a_imul, a_inc, a_ist, a_push, sh_71, sh_72, sh_78, pu_rv, pu_as, Value.category, pu_bk, pu_kl, List.replicate, pu_wi_1, pu_wi_2, nl_add, nl_ladd, nl_aa, nl_mul, nl_rmul, nl_mm, pu_qe0, pu_qe1, f, f9, hc, il, c]
      all_goals try simp (maxSteps := 400000) (disch := omega) [nl_tle, nl_fle, nl_tlt, nl_flt, nl_teq, nl_feq, nl_sub, nl_ss, nl_lt, nl_llt, nl_ltt, nl_le, nl_lle, nl_lee, nl_eq, nl_leq, nl_ee, nl_div, nl_rem, nl_cl, nl_n1, nl_n2, nl_n3, nl_n4, nl_add, nl_ladd, nl_aa, nl_mul, nl_rmul, nl_mm, pu_wi_1, pu_wi_2, bX12_shorten_111, bX12_shorten_157, bX12_shorten_149, bX12_shorten_150, a_ai, a_ald, a_gr, a_iadd, a_icge, a_icne, a_ifeq, a_ifne, a_ild, a_imul, a_inc, a_ist, a_push, sh_71, sh_72, sh_78, pu_rv, pu_as, Value.category, pu_bk, pu_kl, pu_qe0, pu_qe1, f, f9, hc, il, c]
      all_goals try simp [bX12_shorten_111, bX12_shorten_157, bX12_shorten_149, bX12_shorten_150, a_ai, a_ald, a_gr, a_iadd, a_icge, a_icne, a_ifeq, a_ifne, a_ild, a_imul, a_inc, a_ist, a_push, sh_71, sh_72, sh_78, pu_rv, pu_as, Value.category, pu_bk, pu_kl, List.replicate, pu_wi_1, pu_wi_2, nl_add, nl_ladd, nl_aa, nl_mul, nl_rmul, nl_mm, pu_qe0, pu_qe1, f, f9, hc, il, c]
      all_goals try simp (maxSteps := 400000) (disch := omega) [nl_tle, nl_fle, nl_tlt, nl_flt, nl_teq, nl_feq, nl_sub, nl_ss, nl_lt, nl_llt, nl_ltt, nl_le, nl_lle, nl_lee, nl_eq, nl_leq, nl_ee, nl_div, nl_rem, nl_cl, nl_n1, nl_n2, nl_n3, nl_n4, nl_add, nl_ladd, nl_aa, nl_mul, nl_rmul, nl_mm, pu_wi_1, pu_wi_2, bX12_shorten_111, bX12_shorten_157, bX12_shorten_149, bX12_shorten_150, a_ai, a_ald, a_gr, a_iadd, a_icge, a_icne, a_ifeq, a_ifne, a_ild, a_imul, a_inc, a_ist, a_push, sh_71, sh_72, sh_78, pu_rv, pu_as, Value.category, pu_bk, pu_kl, pu_qe0, pu_qe1, f, f9, hc, il, c]
      all_goals try simp [bX12_shorten_111, bX12_shorten_157, bX12_shorten_149, bX12_shorten_150, a_ai, a_ald, a_gr, a_iadd, a_icge, a_icne, a_ifeq, a_ifne, a_ild, a_imul, a_inc, a_ist, a_push, sh_71, sh_72, sh_78, pu_rv, pu_as, Value.category, pu_bk, pu_kl, List.replicate, pu_wi_1, pu_wi_2, nl_add, nl_ladd, nl_aa, nl_mul, nl_rmul, nl_mm, pu_qe0, pu_qe1, f, f9, hc, il, c]
      all_goals try simp (maxSteps := 400000) (disch := omega) [nl_tle, nl_fle, nl_tlt, nl_flt, nl_teq, nl_feq, nl_sub, nl_ss, nl_lt, nl_llt, nl_ltt, nl_le, nl_lle, nl_lee, nl_eq, nl_leq, nl_ee, nl_div, nl_rem, nl_cl, nl_n1, nl_n2, nl_n3, nl_n4, nl_add, nl_ladd, nl_aa, nl_mul, nl_rmul, nl_mm, pu_wi_1, pu_wi_2, bX12_shorten_111, bX12_shorten_157, bX12_shorten_149, bX12_shorten_150, a_ai, a_ald, a_gr, a_iadd, a_icge, a_icne, a_ifeq, a_ifne, a_ild, a_imul, a_inc, a_ist, a_push, sh_71, sh_72, sh_78, pu_rv, pu_as, Value.category, pu_bk, pu_kl, pu_qe0, pu_qe1, f, f9, hc, il, c]
      all_goals try simp [bX12_shorten_111, bX12_shorten_157, bX12_shorten_149, bX12_shorten_150, a_ai, a_ald, a_gr, a_iadd, a_icge, a_icne, a_ifeq, a_ifne, a_ild, a_imul, a_inc, a_ist, a_push, sh_71, sh_72, sh_78, pu_rv, pu_as, Value.category, pu_bk, pu_kl, List.replicate, pu_wi_1, pu_wi_2, nl_add, nl_ladd, nl_aa, nl_mul, nl_rmul, nl_mm, pu_qe0, pu_qe1, f, f9, hc, il, c]
    · rw [pu_q0 (fun z => c (z i (by omega)))]
      refine ⟨nI (i + 1), ?_⟩
      have L0 : pu_r 448 [some (.ref 71), some (.int (nI k)), some (.int 0), some (.int (nI (i + 1)))] [] M = kX12_shorten_157 pu_r [some (.ref 71), some (.int (nI k)), some (.int 0), some (.int (nI (i + 1)))] [] M := by
        by_cases z : i + 1 = 12
        · have hc2 : 12 ≤ nI (i + 1) := by rw [z]; decide
          rw [qX12_shorten_111]
          simp [bX12_shorten_111, a_ild, a_push, a_icge, hc2]
        · have hc2 : ¬ 12 ≤ nI (i + 1) := nI_ge (b := 12) (by omega) (by omega)
          rw [qX12_shorten_111]
          simp [bX12_shorten_111, a_ild, a_push, a_icge, a_ifeq, hc2]
      rw [← L0]
      rw [qX12_shorten_111]
      simp [bX12_shorten_111, bX12_shorten_157, bX12_shorten_149, bX12_shorten_150, a_ai, a_ald, a_gr, a_iadd, a_icge, a_icne, a_ifeq, a_ifne, a_ild, a_imul, a_inc, a_ist, a_push, sh_71, sh_72, sh_78, pu_rv, pu_as, Value.category, pu_bk, pu_kl, List.replicate, pu_wi_1, pu_wi_2, nl_add, nl_ladd, nl_aa, nl_mul, nl_rmul, nl_mm, pu_qe0, pu_qe1, f, f9, hc, il, c]
      all_goals try simp (maxSteps := 400000) (disch := omega) [nl_tle, nl_fle, nl_tlt, nl_flt, nl_teq, nl_feq, nl_sub, nl_ss, nl_lt, nl_llt, nl_ltt, nl_le, nl_lle, nl_lee, nl_eq, nl_leq, nl_ee, nl_div, nl_rem, nl_cl, nl_n1, nl_n2, nl_n3, nl_n4, nl_add, nl_ladd, nl_aa, nl_mul, nl_rmul, nl_mm, pu_wi_1, pu_wi_2, bX12_shorten_111, bX12_shorten_157, bX12_shorten_149, bX12_shorten_150, a_ai, a_ald, a_gr, a_iadd, a_icge, a_icne, a_ifeq, a_ifne, a_ild, a_imul, a_inc, a_ist, a_push, sh_71, sh_72, sh_78, pu_rv, pu_as, Value.category, pu_bk, pu_kl, pu_qe0, pu_qe1, f, f9, hc, il, c]
      all_goals try simp [bX12_shorten_111, bX12_shorten_157, bX12_shorten_149, bX12_shorten_150, a_ai, a_ald, a_gr, a_iadd, a_icge, a_icne, a_ifeq, a_ifne, a_ild, a_imul, a_inc, a_ist, a_push, sh_71, sh_72, sh_78, pu_rv, pu_as, Value.category, pu_bk, pu_kl, List.replicate, pu_wi_1, pu_wi_2, nl_add, nl_ladd, nl_aa, nl_mul, nl_rmul, nl_mm, pu_qe0, pu_qe1, f, f9, hc, il, c]
      all_goals try simp (maxSteps := 400000) (disch := omega) [nl_tle, nl_fle, nl_tlt, nl_flt, nl_teq, nl_feq, nl_sub, nl_ss, nl_lt, nl_llt, nl_ltt, nl_le, nl_lle, nl_lee, nl_eq, nl_leq, nl_ee, nl_div, nl_rem, nl_cl, nl_n1, nl_n2, nl_n3, nl_n4, nl_add, nl_ladd, nl_aa, nl_mul, nl_rmul, nl_mm, pu_wi_1, pu_wi_2, bX12_shorten_111, bX12_shorten_157, bX12_shorten_149, bX12_shorten_150, a_ai, a_ald, a_gr, a_iadd, a_icge, a_icne, a_ifeq, a_ifne, a_ild, a_imul, a_inc, a_ist, a_push, sh_71, sh_72, sh_78, pu_rv, pu_as, Value.category, pu_bk, pu_kl, pu_qe0, pu_qe1, f, f9, hc, il, c]
      all_goals try simp [bX12_shorten_111, bX12_shorten_157, bX12_shorten_149, bX12_shorten_150, a_ai, a_ald, a_gr, a_iadd, a_icge, a_icne, a_ifeq, a_ifne, a_ild, a_imul, a_inc, a_ist, a_push, sh_71, sh_72, sh_78, pu_rv, pu_as, Value.category, pu_bk, pu_kl, List.replicate, pu_wi_1, pu_wi_2, nl_add, nl_ladd, nl_aa, nl_mul, nl_rmul, nl_mm, pu_qe0, pu_qe1, f, f9, hc, il, c]
      all_goals try simp (maxSteps := 400000) (disch := omega) [nl_tle, nl_fle, nl_tlt, nl_flt, nl_teq, nl_feq, nl_sub, nl_ss, nl_lt, nl_llt, nl_ltt, nl_le, nl_lle, nl_lee, nl_eq, nl_leq, nl_ee, nl_div, nl_rem, nl_cl, nl_n1, nl_n2, nl_n3, nl_n4, nl_add, nl_ladd, nl_aa, nl_mul, nl_rmul, nl_mm, pu_wi_1, pu_wi_2, bX12_shorten_111, bX12_shorten_157, bX12_shorten_149, bX12_shorten_150, a_ai, a_ald, a_gr, a_iadd, a_icge, a_icne, a_ifeq, a_ifne, a_ild, a_imul, a_inc, a_ist, a_push, sh_71, sh_72, sh_78, pu_rv, pu_as, Value.category, pu_bk, pu_kl, pu_qe0, pu_qe1, f, f9, hc, il, c]
      all_goals try simp [bX12_shorten_111, bX12_shorten_157, bX12_shorten_149, bX12_shorten_150, a_ai, a_ald, a_gr, a_iadd, a_icge, a_icne, a_ifeq, a_ifne, a_ild, a_imul, a_inc, a_ist, a_push, sh_71, sh_72, sh_78, pu_rv, pu_as, Value.category, pu_bk, pu_kl, List.replicate, pu_wi_1, pu_wi_2, nl_add, nl_ladd, nl_aa, nl_mul, nl_rmul, nl_mm, pu_qe0, pu_qe1, f, f9, hc, il, c]
theorem r_sh3 (hx : pu_fx M) (hr : pu_Rel I L (M.1 72)) (hw : pu_WF I L) (x : Int64) (hd : pu_Wd (M.1 78) 0 x) : ∀ m i (t3 : Option Value), i + m = cF I → ((∀ k, i ≤ k → k < cF I → L 43 k ≠ x) → ∃ u, pu_r 447 [some (.ref 71), some (.int (nI i)), some (.int 0), t3] [] M = kX12_shorten_167 pu_r [some (.ref 71), some (.int (nI (cF I))), some (.int 0), u] [] M) ∧ (∀ k, i ≤ k → k < cF I → L 43 k = x → (∀ l, i ≤ l → l < k → L 43 l ≠ x) → ∃ u, pu_r 447 [some (.ref 71), some (.int (nI i)), some (.int 0), t3] [] M = kX12_shorten_167 pu_r [some (.ref 71), some (.int (nI k)), some (.int 1), u] [] M)
  | 0, i, t3, h => by
    have hb := wx_bF hw
    have ff := fx_71_0 hx
    have h8 := rl_h8 hr
    have hc : nI (cF I) ≤ nI i := nI_le (by omega) (by omega)
    refine ⟨fun _ => ⟨t3, ?_⟩, fun k k1 k2 => by omega⟩
    have e : i = cF I := by omega
    subst e
    rw [qX12_shorten_92]
    simp [bX12_shorten_92, a_ild, a_ald, a_gr, a_push, a_ai, a_icge, sh_71, sh_72, ff, h8, hc, pu_rv]
  | m + 1, i, t3, h => by
    have hb := wx_bF hw
    have ff := fx_71_0 hx
    have h8 := rl_h8 hr
    have hi : i < cF I := by omega
    have hc : ¬ nI (cF I) ≤ nI i := nI_ge (by omega) (by omega)
    obtain ⟨u, hu⟩ := r_sh_m hx i (by omega) 12 0 (by omega) (fun j hj => by omega)
    rw [nI_0] at hu
    have eq : (∀ j, j < 12 → M.1 78 j = M.1 72 (30152 + 24 * i + j)) = (L 43 i = x) := by
      have q := py_wd_eq hd (rl_f0 hr i hi)
      apply propext
      constructor
      · intro z
        exact (q.mp (fun j hj => by rw [Nat.zero_add]; exact z j hj)).symm
      · intro z j hj
        have := q.mpr z.symm j hj
        rw [Nat.zero_add] at this
        exact this
    rw [eq] at hu
    have st : pu_r 447 [some (.ref 71), some (.int (nI i)), some (.int 0), t3] [] M = kX12_shorten_157 pu_r [some (.ref 71), some (.int (nI i)), some (.int (pu_q (L 43 i = x))), some (.int u)] [] M := by
      rw [← hu]
      rw [qX12_shorten_92]
      simp [bX12_shorten_92, bX12_shorten_167, bX12_shorten_176, a_ai, a_ald, a_gr, a_icge, a_icne, a_ifne, a_ild, a_iret, a_ist, a_push, sh_71, sh_72, pu_rv, pu_as, Value.category, pu_bk, pu_kl, List.replicate, pu_wi_1, pu_wi_2, nl_add, nl_ladd, nl_aa, nl_mul, nl_rmul, nl_mm, pu_qe0, pu_qe1, ff, h8, hc]
      all_goals try simp (maxSteps := 400000) (disch := omega) [nl_tle, nl_fle, nl_tlt, nl_flt, nl_teq, nl_feq, nl_sub, nl_ss, nl_lt, nl_llt, nl_ltt, nl_le, nl_lle, nl_lee, nl_eq, nl_leq, nl_ee, nl_div, nl_rem, nl_cl, nl_n1, nl_n2, nl_n3, nl_n4, nl_add, nl_ladd, nl_aa, nl_mul, nl_rmul, nl_mm, pu_wi_1, pu_wi_2, bX12_shorten_92, bX12_shorten_167, bX12_shorten_176, a_ai, a_ald, a_gr, a_icge, a_icne, a_ifne, a_ild, a_iret, a_ist, a_push, sh_71, sh_72, pu_rv, pu_as, Value.category, pu_bk, pu_kl, pu_qe0, pu_qe1, ff, h8, hc]
      all_goals try simp [bX12_shorten_92, bX12_shorten_167, bX12_shorten_176, a_ai, a_ald, a_gr, a_icge, a_icne, a_ifne, a_ild, a_iret, a_ist, a_push, sh_71, sh_72, pu_rv, pu_as, Value.category, pu_bk, pu_kl, List.replicate, pu_wi_1, pu_wi_2, nl_add, nl_ladd, nl_aa, nl_mul, nl_rmul, nl_mm, pu_qe0, pu_qe1, ff, h8, hc]
      all_goals try simp (maxSteps := 400000) (disch := omega) [nl_tle, nl_fle, nl_tlt, nl_flt, nl_teq, nl_feq, nl_sub, nl_ss, nl_lt, nl_llt, nl_ltt, nl_le, nl_lle, nl_lee, nl_eq, nl_leq, nl_ee, nl_div, nl_rem, nl_cl, nl_n1, nl_n2, nl_n3, nl_n4, nl_add, nl_ladd, nl_aa, nl_mul, nl_rmul, nl_mm, pu_wi_1, pu_wi_2, bX12_shorten_92, bX12_shorten_167, bX12_shorten_176, a_ai, a_ald, a_gr, a_icge, a_icne, a_ifne, a_ild, a_iret, a_ist, a_push, sh_71, sh_72, pu_rv, pu_as, Value.category, pu_bk, pu_kl, pu_qe0, pu_qe1, ff, h8, hc]
      all_goals try simp [bX12_shorten_92, bX12_shorten_167, bX12_shorten_176, a_ai, a_ald, a_gr, a_icge, a_icne, a_ifne, a_ild, a_iret, a_ist, a_push, sh_71, sh_72, pu_rv, pu_as, Value.category, pu_bk, pu_kl, List.replicate, pu_wi_1, pu_wi_2, nl_add, nl_ladd, nl_aa, nl_mul, nl_rmul, nl_mm, pu_qe0, pu_qe1, ff, h8, hc]
      all_goals try simp (maxSteps := 400000) (disch := omega) [nl_tle, nl_fle, nl_tlt, nl_flt, nl_teq, nl_feq, nl_sub, nl_ss, nl_lt, nl_llt, nl_ltt, nl_le, nl_lle, nl_lee, nl_eq, nl_leq, nl_ee, nl_div, nl_rem, nl_cl, nl_n1, nl_n2, nl_n3, nl_n4, nl_add, nl_ladd, nl_aa, nl_mul, nl_rmul, nl_mm, pu_wi_1, pu_wi_2, bX12_shorten_92, bX12_shorten_167, bX12_shorten_176, a_ai, a_ald, a_gr, a_icge, a_icne, a_ifne, a_ild, a_iret, a_ist, a_push, sh_71, sh_72, pu_rv, pu_as, Value.category, pu_bk, pu_kl, pu_qe0, pu_qe1, ff, h8, hc]
      all_goals try simp [bX12_shorten_92, bX12_shorten_167, bX12_shorten_176, a_ai, a_ald, a_gr, a_icge, a_icne, a_ifne, a_ild, a_iret, a_ist, a_push, sh_71, sh_72, pu_rv, pu_as, Value.category, pu_bk, pu_kl, List.replicate, pu_wi_1, pu_wi_2, nl_add, nl_ladd, nl_aa, nl_mul, nl_rmul, nl_mm, pu_qe0, pu_qe1, ff, h8, hc]
    obtain ⟨ih1, ih2⟩ := r_sh3 hx hr hw x hd m (i + 1) (some (.int u)) (by omega)
    rw [st]
    by_cases c : L 43 i = x
    · rw [pu_q1 c]
      refine ⟨fun z => absurd c (z i (Nat.le_refl _) hi), fun k k1 k2 k3 k4 => ⟨some (.int u), ?_⟩⟩
      have ki : k = i := by
        apply Classical.byContradiction
        intro z
        exact k4 i (Nat.le_refl _) (by omega) c
      subst ki
      have z1 : pu_r 447 [some (.ref 71), some (.int (nI k)), some (.int 1), some (.int u)] [] M = kX12_shorten_167 pu_r [some (.ref 71), some (.int (nI k)), some (.int 1), some (.int u)] [] M := by
        rw [qX12_shorten_92]
        simp [bX12_shorten_92, a_ild, a_ald, a_gr, a_push, a_ai, a_icge, a_ifne, sh_71, sh_72, ff, h8, hc, pu_rv]
      rw [← z1]
      simp [bX12_shorten_157, a_ifne, a_ild, a_inc, pu_rv, pu_as, Value.category, pu_bk, pu_kl, List.replicate, pu_wi_1, pu_wi_2, nl_add, nl_ladd, nl_aa, nl_mul, nl_rmul, nl_mm, pu_qe0, pu_qe1]
      all_goals try simp (maxSteps := 400000) (disch := omega) [nl_tle, nl_fle, nl_tlt, nl_flt, nl_teq, nl_feq, nl_sub, nl_ss, nl_lt, nl_llt, nl_ltt, nl_le, nl_lle, nl_lee, nl_eq, nl_leq, nl_ee, nl_div, nl_rem, nl_cl, nl_n1, nl_n2, nl_n3, nl_n4, nl_add, nl_ladd, nl_aa, nl_mul, nl_rmul, nl_mm, pu_wi_1, pu_wi_2, bX12_shorten_157, a_ifne, a_ild, a_inc, pu_rv, pu_as, Value.category, pu_bk, pu_kl, pu_qe0, pu_qe1]
      all_goals try simp [bX12_shorten_157, a_ifne, a_ild, a_inc, pu_rv, pu_as, Value.category, pu_bk, pu_kl, List.replicate, pu_wi_1, pu_wi_2, nl_add, nl_ladd, nl_aa, nl_mul, nl_rmul, nl_mm, pu_qe0, pu_qe1]
      all_goals try simp (maxSteps := 400000) (disch := omega) [nl_tle, nl_fle, nl_tlt, nl_flt, nl_teq, nl_feq, nl_sub, nl_ss, nl_lt, nl_llt, nl_ltt, nl_le, nl_lle, nl_lee, nl_eq, nl_leq, nl_ee, nl_div, nl_rem, nl_cl, nl_n1, nl_n2, nl_n3, nl_n4, nl_add, nl_ladd, nl_aa, nl_mul, nl_rmul, nl_mm, pu_wi_1, pu_wi_2, bX12_shorten_157, a_ifne, a_ild, a_inc, pu_rv, pu_as, Value.category, pu_bk, pu_kl, pu_qe0, pu_qe1]
      all_goals try simp [bX12_shorten_157, a_ifne, a_ild, a_inc, pu_rv, pu_as, Value.category, pu_bk, pu_kl, List.replicate, pu_wi_1, pu_wi_2, nl_add, nl_ladd, nl_aa, nl_mul, nl_rmul, nl_mm, pu_qe0, pu_qe1]
      all_goals try simp (maxSteps := 400000) (disch := omega) [nl_tle, nl_fle, nl_tlt, nl_flt, nl_teq, nl_feq, nl_sub, nl_ss, nl_lt, nl_llt, nl_ltt, nl_le, nl_lle, nl_lee, nl_eq, nl_leq, nl_ee, nl_div, nl_rem, nl_cl, nl_n1, nl_n2, nl_n3, nl_n4, nl_add, nl_ladd, nl_aa, nl_mul, nl_rmul, nl_mm, pu_wi_1, pu_wi_2, bX12_shorten_157, a_ifne, a_ild, a_inc, pu_rv, pu_as, Value.category, pu_bk, pu_kl, pu_qe0, pu_qe1]
      all_goals try simp [bX12_shorten_157, a_ifne, a_ild, a_inc, pu_rv, pu_as, Value.category, pu_bk, pu_kl, List.replicate, pu_wi_1, pu_wi_2, nl_add, nl_ladd, nl_aa, nl_mul, nl_rmul, nl_mm, pu_qe0, pu_qe1]
    · rw [pu_q0 c]
      have z1 : kX12_shorten_157 pu_r [some (.ref 71), some (.int (nI i)), some (.int 0), some (.int u)] [] M = pu_r 447 [some (.ref 71), some (.int (nI (i + 1))), some (.int 0), some (.int u)] [] M := by
        simp [bX12_shorten_157, a_ifne, a_ild, a_inc, pu_rv, pu_as, Value.category, pu_bk, pu_kl, List.replicate, pu_wi_1, pu_wi_2, nl_add, nl_ladd, nl_aa, nl_mul, nl_rmul, nl_mm, pu_qe0, pu_qe1]
        all_goals try simp (maxSteps := 400000) (disch := omega) [nl_tle, nl_fle, nl_tlt, nl_flt, nl_teq, nl_feq, nl_sub, nl_ss, nl_lt, nl_llt, nl_ltt, nl_le, nl_lle, nl_lee, nl_eq, nl_leq, nl_ee, nl_div, nl_rem, nl_cl, nl_n1, nl_n2, nl_n3, nl_n4, nl_add, nl_ladd, nl_aa, nl_mul, nl_rmul, nl_mm, pu_wi_1, pu_wi_2, bX12_shorten_157, a_ifne, a_ild, a_inc, pu_rv, pu_as, Value.category, pu_bk, pu_kl, pu_qe0, pu_qe1]
        all_goals try simp [bX12_shorten_157, a_ifne, a_ild, a_inc, pu_rv, pu_as, Value.category, pu_bk, pu_kl, List.replicate, pu_wi_1, pu_wi_2, nl_add, nl_ladd, nl_aa, nl_mul, nl_rmul, nl_mm, pu_qe0, pu_qe1]
        all_goals try simp (maxSteps := 400000) (disch := omega) [nl_tle, nl_fle, nl_tlt, nl_flt, nl_teq, nl_feq, nl_sub, nl_ss, nl_lt, nl_llt, nl_ltt, nl_le, nl_lle, nl_lee, nl_eq, nl_leq, nl_ee, nl_div, nl_rem, nl_cl, nl_n1, nl_n2, nl_n3, nl_n4, nl_add, nl_ladd, nl_aa, nl_mul, nl_rmul, nl_mm, pu_wi_1, pu_wi_2, bX12_shorten_157, a_ifne, a_ild, a_inc, pu_rv, pu_as, Value.category, pu_bk, pu_kl, pu_qe0, pu_qe1]
        all_goals try simp [bX12_shorten_157, a_ifne, a_ild, a_inc, pu_rv, pu_as, Value.category, pu_bk, pu_kl, List.replicate, pu_wi_1, pu_wi_2, nl_add, nl_ladd, nl_aa, nl_mul, nl_rmul, nl_mm, pu_qe0, pu_qe1]
        all_goals try simp (maxSteps := 400000) (disch := omega) [nl_tle, nl_fle, nl_tlt, nl_flt, nl_teq, nl_feq, nl_sub, nl_ss, nl_lt, nl_llt, nl_ltt, nl_le, nl_lle, nl_lee, nl_eq, nl_leq, nl_ee, nl_div, nl_rem, nl_cl, nl_n1, nl_n2, nl_n3, nl_n4, nl_add, nl_ladd, nl_aa, nl_mul, nl_rmul, nl_mm, pu_wi_1, pu_wi_2, bX12_shorten_157, a_ifne, a_ild, a_inc, pu_rv, pu_as, Value.category, pu_bk, pu_kl, pu_qe0, pu_qe1]
        all_goals try simp [bX12_shorten_157, a_ifne, a_ild, a_inc, pu_rv, pu_as, Value.category, pu_bk, pu_kl, List.replicate, pu_wi_1, pu_wi_2, nl_add, nl_ladd, nl_aa, nl_mul, nl_rmul, nl_mm, pu_qe0, pu_qe1]
      rw [z1]
      refine ⟨fun z => ih1 (fun k k1 k2 => z k (by omega) k2), fun k k1 k2 k3 k4 => ?_⟩
      have : k ≠ i := fun q => c (by rw [← q]; exact k3)
      exact ih2 k (by omega) k2 k3 (fun l l1 l2 => k4 l (by omega) l2)
/-- 24 letters written as form k -/
def py_sc (M : pu_M) (k i : Nat) : pu_M := (fun a j => if a = 72 ∧ 30152 + 24 * k ≤ j ∧ j < 30152 + 24 * k + i then M.1 78 (j - (30152 + 24 * k)) else M.1 a j, M.2)
theorem py_sc_s (M : pu_M) (k i : Nat) : pu_wi (py_sc M k i) 72 (30152 + 24 * k + i) (M.1 78 i) = py_sc M k (i + 1) := by
  unfold pu_wi py_sc
  congr 1
  funext a j
  by_cases e : a = 72
  · by_cases f : j = 30152 + 24 * k + i
    · simp only [e, f, if_true]
      rw [if_pos ⟨trivial, by omega⟩, show 30152 + 24 * k + i - (30152 + 24 * k) = i by omega]
    · simp only [e, f, if_true, if_false]
      by_cases g : 30152 + 24 * k ≤ j ∧ j < 30152 + 24 * k + i
      · rw [if_pos ⟨trivial, g⟩, if_pos ⟨trivial, by omega⟩]
      · rw [if_neg (fun q => g q.2), if_neg (fun q => g (by omega))]
  · simp [e]
theorem r_sh4 (hx : pu_fx M) (k : Nat) (hk : k < 20) (fl : Int32) : ∀ m i, i + m = 24 → pu_r 449 [some (.ref 71), some (.int (nI k)), some (.int fl), some (.int (nI i))] [] (py_sc M k i) = kX12_shorten_211 pu_r [some (.ref 71), some (.int (nI k)), some (.int fl), some (.int 24)] [] (py_sc M k 24)
  | 0, i, h => by
    have e : i = 24 := by omega
    subst e
    have hc : 24 ≤ nI 24 := by decide
    have e24 : nI 24 = (24 : Int32) := rfl
    generalize py_sc M k 24 = N at *
    rw [qX12_shorten_178]
    simp [bX12_shorten_178, a_ild, a_push, a_icge, hc, e24]
  | m + 1, i, h => by
    have hc : ¬ 24 ≤ nI i := nI_ge (b := 24) (by omega) (by omega)
    have ih := r_sh4 hx k hk fl m (i + 1) (by omega)
    rw [← py_sc_s] at ih
    have f : (py_sc M k i).2.2.1 71 0 = some 72 := fx_71_0 hx
    have f9 : (py_sc M k i).2.2.1 71 9 = some 78 := fx_71_9 hx
    have v : (py_sc M k i).1 78 i = M.1 78 i := by
      show (if 78 = 72 ∧ 30152 + 24 * k ≤ i ∧ i < 30152 + 24 * k + i then M.1 78 (i - (30152 + 24 * k)) else M.1 78 i) = M.1 78 i
      rw [if_neg (by omega)]
    have il : i < 36 := by omega
    rw [← ih]
    generalize py_sc M k i = N at *
    rw [qX12_shorten_178]
    simp [bX12_shorten_178, bX12_shorten_211, bX12_shorten_226, a_ai, a_ald, a_dup2, a_gr, a_iadd, a_icge, a_ifne, a_ild, a_imul, a_inc, a_iret, a_push, a_wi, sh_71, sh_72, sh_78, pu_rv, pu_as, Value.category, pu_bk, pu_kl, List.replicate, pu_wi_1, pu_wi_2, nl_add, nl_ladd, nl_aa, nl_mul, nl_rmul, nl_mm, pu_qe0, pu_qe1, hc, f, f9, il, v]
    all_goals try simp (maxSteps := 400000) (disch := omega) [nl_tle, nl_fle, nl_tlt, nl_flt, nl_teq, nl_feq, nl_sub, nl_ss, nl_lt, nl_llt, nl_ltt, nl_le, nl_lle, nl_lee, nl_eq, nl_leq, nl_ee, nl_div, nl_rem, nl_cl, nl_n1, nl_n2, nl_n3, nl_n4, nl_add, nl_ladd, nl_aa, nl_mul, nl_rmul, nl_mm, pu_wi_1, pu_wi_2, bX12_shorten_178, bX12_shorten_211, bX12_shorten_226, a_ai, a_ald, a_dup2, a_gr, a_iadd, a_icge, a_ifne, a_ild, a_imul, a_inc, a_iret, a_push, a_wi, sh_71, sh_72, sh_78, pu_rv, pu_as, Value.category, pu_bk, pu_kl, pu_qe0, pu_qe1, hc, f, f9, il, v]
    all_goals try simp [bX12_shorten_178, bX12_shorten_211, bX12_shorten_226, a_ai, a_ald, a_dup2, a_gr, a_iadd, a_icge, a_ifne, a_ild, a_imul, a_inc, a_iret, a_push, a_wi, sh_71, sh_72, sh_78, pu_rv, pu_as, Value.category, pu_bk, pu_kl, List.replicate, pu_wi_1, pu_wi_2, nl_add, nl_ladd, nl_aa, nl_mul, nl_rmul, nl_mm, pu_qe0, pu_qe1, hc, f, f9, il, v]
    all_goals try simp (maxSteps := 400000) (disch := omega) [nl_tle, nl_fle, nl_tlt, nl_flt, nl_teq, nl_feq, nl_sub, nl_ss, nl_lt, nl_llt, nl_ltt, nl_le, nl_lle, nl_lee, nl_eq, nl_leq, nl_ee, nl_div, nl_rem, nl_cl, nl_n1, nl_n2, nl_n3, nl_n4, nl_add, nl_ladd, nl_aa, nl_mul, nl_rmul, nl_mm, pu_wi_1, pu_wi_2, bX12_shorten_178, bX12_shorten_211, bX12_shorten_226, a_ai, a_ald, a_dup2, a_gr, a_iadd, a_icge, a_ifne, a_ild, a_imul, a_inc, a_iret, a_push, a_wi, sh_71, sh_72, sh_78, pu_rv, pu_as, Value.category, pu_bk, pu_kl, pu_qe0, pu_qe1, hc, f, f9, il, v]
    all_goals try simp [bX12_shorten_178, bX12_shorten_211, bX12_shorten_226, a_ai, a_ald, a_dup2, a_gr, a_iadd, a_icge, a_ifne, a_ild, a_imul, a_inc, a_iret, a_push, a_wi, sh_71, sh_72, sh_78, pu_rv, pu_as, Value.category, pu_bk, pu_kl, List.replicate, pu_wi_1, pu_wi_2, nl_add, nl_ladd, nl_aa, nl_mul, nl_rmul, nl_mm, pu_qe0, pu_qe1, hc, f, f9, il, v]
    all_goals try simp (maxSteps := 400000) (disch := omega) [nl_tle, nl_fle, nl_tlt, nl_flt, nl_teq, nl_feq, nl_sub, nl_ss, nl_lt, nl_llt, nl_ltt, nl_le, nl_lle, nl_lee, nl_eq, nl_leq, nl_ee, nl_div, nl_rem, nl_cl, nl_n1, nl_n2, nl_n3, nl_n4, nl_add, nl_ladd, nl_aa, nl_mul, nl_rmul, nl_mm, pu_wi_1, pu_wi_2, bX12_shorten_178, bX12_shorten_211, bX12_shorten_226, a_ai, a_ald, a_dup2, a_gr, a_iadd, a_icge, a_ifne, a_ild, a_imul, a_inc, a_iret, a_push, a_wi, sh_71, sh_72, sh_78, pu_rv, pu_as, Value.category, pu_bk, pu_kl, pu_qe0, pu_qe1, hc, f, f9, il, v]
    all_goals try simp [bX12_shorten_178, bX12_shorten_211, bX12_shorten_226, a_ai, a_ald, a_dup2, a_gr, a_iadd, a_icge, a_ifne, a_ild, a_imul, a_inc, a_iret, a_push, a_wi, sh_71, sh_72, sh_78, pu_rv, pu_as, Value.category, pu_bk, pu_kl, List.replicate, pu_wi_1, pu_wi_2, nl_add, nl_ladd, nl_aa, nl_mul, nl_rmul, nl_mm, pu_qe0, pu_qe1, hc, f, f9, il, v]
theorem py_sc_0 (M : pu_M) (k : Nat) : py_sc M k 0 = M := by
  unfold py_sc
  have : (fun a j => if a = 72 ∧ 30152 + 24 * k ≤ j ∧ j < 30152 + 24 * k + 0 then M.1 78 (j - (30152 + 24 * k)) else M.1 a j) = M.1 := by
    funext a j
    rw [if_neg (by omega)]
  rw [this]
theorem py_sc_o {k a j : Nat} (h : ¬ (a = 72 ∧ 30152 + 24 * k ≤ j ∧ j < 30152 + 24 * k + 24)) : (py_sc M k 24).1 a j = M.1 a j := if_neg h
theorem py_sc_v {k i : Nat} (h : i < 24) : (py_sc M k 24).1 72 (30152 + 24 * k + i) = M.1 78 i := by
  show (if 72 = 72 ∧ 30152 + 24 * k ≤ 30152 + 24 * k + i ∧ 30152 + 24 * k + i < 30152 + 24 * k + 24 then M.1 78 (30152 + 24 * k + i - (30152 + 24 * k)) else _) = _
  rw [if_pos ⟨rfl, by omega, by omega⟩, show 30152 + 24 * k + i - (30152 + 24 * k) = i by omega]
end
