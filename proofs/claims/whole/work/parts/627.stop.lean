/-! stop, tear, feed -/
theorem pu_st_of {I : Nat → Nat → Int32} {x : Int32} (hb : cK I < 2147483648) (h : ¬ x < 0 ∧ x < nI (cK I)) : ∃ k, k < cK I ∧ x = nI k := by
  rcases pk_ix x (n := cK I) hb with q | q | q
  · exact absurd q h.1
  · exact absurd h.2 (Int32.not_lt.mpr q)
  · exact q
theorem op_stop (x w : Int32) : pu_op pu_Inv 202 344 [.int x, .int w] := by
  intro M h
  have hx := h.1
  have hI := pu_ag5 M
  have hr := pu_hR h
  have hw := pu_hS h
  have hSt := h.2.2.2.1
  have e1 := c_isStreet hx hI hw x
  have e2 := fun N (hN : pu_fx N) (hR : pu_Rel (pu_si M 5) (pu_sj M 5) (N.1 72)) => r_isStreet (M := N) hN hR x
  have hb := wx_bS hw
  by_cases hd : ¬ x < 0 ∧ x < nI (cK (pu_si M 5))
  · rw [pu_q1 hd] at e1
    have e2 := fun N hN hR => (e2 N hN hR).trans (by rw [pu_q1 hd])
    by_cases w0 : w = -1
    · subst w0
      refine ⟨0, pu_wi M 45 4 0, pu_wi (pu_wi M 45 4 0) 72 9 0, ?_, ?_, pu_Inv_ws h rfl (fun a j q => ?_) ?_⟩
      · rw [qX11_stop]
        simp [a_ent, bX11_stop_0, bX11_stop_16, bX11_stop_34, bX11_stop_43, bX11_stop_46, bX11_stop_64, a_ald, a_cv, a_gi, a_gr, a_icle, a_iclt, a_icne, a_iflt, a_ifne, a_ild, a_iret, a_pi, a_push, ag_25 hI, ag_45 hI, fx_0_2 hx, fx_5_3 hx, fx_5_6 hx, sh_0, sh_25, sh_45, sh_5, pu_rv, pu_as, Value.category, pu_bk, pu_kl, List.replicate, pu_wi_1, pu_wi_2, nl_add, nl_ladd, nl_aa, nl_mul, nl_rmul, nl_mm, pu_qe0, pu_qe1, e1]
        all_goals try simp (maxSteps := 400000) (disch := omega) [nl_tle, nl_fle, nl_tlt, nl_flt, nl_teq, nl_feq, nl_sub, nl_ss, nl_lt, nl_llt, nl_ltt, nl_le, nl_lle, nl_lee, nl_eq, nl_leq, nl_ee, nl_div, nl_rem, nl_cl, nl_n1, nl_n2, nl_n3, nl_n4, nl_add, nl_ladd, nl_aa, nl_mul, nl_rmul, nl_mm, pu_wi_1, pu_wi_2, bX11_stop_0, bX11_stop_16, bX11_stop_34, bX11_stop_43, bX11_stop_46, bX11_stop_64, a_ald, a_cv, a_gi, a_gr, a_icle, a_iclt, a_icne, a_iflt, a_ifne, a_ild, a_iret, a_pi, a_push, ag_25 hI, ag_45 hI, fx_0_2 hx, fx_5_3 hx, fx_5_6 hx, sh_0, sh_25, sh_45, sh_5, pu_rv, pu_as, Value.category, pu_bk, pu_kl, pu_qe0, pu_qe1, e1]
      · have e3 := e2 (pu_wi M 45 4 0) hx (by rw [pu_s_wo (by decide)]; exact hr)
        have hx2 : pu_fx (pu_wi M 45 4 0) := hx
        generalize pu_wi M 45 4 0 = N at *
        rw [qX12_stop]
        simp [a_ent, bX12_stop_0, bX12_stop_10, bX12_stop_20, bX12_stop_23, bX12_stop_38, bX12_stop_53, bX12_stop_91, a_ai, a_ald, a_cv, a_dup2, a_gr, a_iadd, a_icle, a_iclt, a_icne, a_ifne, a_ild, a_imul, a_iret, a_push, a_wi, fx_71_0 hx, sh_71, sh_72, pu_rv, pu_as, Value.category, pu_bk, pu_kl, List.replicate, pu_wi_1, pu_wi_2, nl_add, nl_ladd, nl_aa, nl_mul, nl_rmul, nl_mm, pu_qe0, pu_qe1, e3, fx_71_0 hx2]
        all_goals try simp (maxSteps := 400000) (disch := omega) [nl_tle, nl_fle, nl_tlt, nl_flt, nl_teq, nl_feq, nl_sub, nl_ss, nl_lt, nl_llt, nl_ltt, nl_le, nl_lle, nl_lee, nl_eq, nl_leq, nl_ee, nl_div, nl_rem, nl_cl, nl_n1, nl_n2, nl_n3, nl_n4, nl_add, nl_ladd, nl_aa, nl_mul, nl_rmul, nl_mm, pu_wi_1, pu_wi_2, bX12_stop_0, bX12_stop_10, bX12_stop_20, bX12_stop_23, bX12_stop_38, bX12_stop_53, bX12_stop_91, a_ai, a_ald, a_cv, a_dup2, a_gr, a_iadd, a_icle, a_iclt, a_icne, a_ifne, a_ild, a_imul, a_iret, a_push, a_wi, fx_71_0 hx, sh_71, sh_72, pu_rv, pu_as, Value.category, pu_bk, pu_kl, pu_qe0, pu_qe1, e3, fx_71_0 hx2]
      · simp only [pu_wi_1]
        grind
      · rw [pu_si_wo (by omega), pu_si_wi (by omega) (by omega), pu_s_wi, pu_s_wo (by decide)]
        exact St_stop0 hSt
    · by_cases w1 : w < 0
      · have w2 : w < -1 := by grind
        have e3 := e2 M hx hr
        refine ⟨-2, M, M, ?_, ?_, h⟩
        · rw [qX11_stop]
          simp [a_ent, bX11_stop_0, bX11_stop_16, bX11_stop_34, bX11_stop_43, bX11_stop_46, bX11_stop_64, a_ald, a_cv, a_gi, a_gr, a_icle, a_iclt, a_icne, a_iflt, a_ifne, a_ild, a_iret, a_pi, a_push, ag_25 hI, ag_45 hI, fx_0_2 hx, fx_5_3 hx, fx_5_6 hx, sh_0, sh_25, sh_45, sh_5, pu_rv, pu_as, Value.category, pu_bk, pu_kl, List.replicate, pu_wi_1, pu_wi_2, nl_add, nl_ladd, nl_aa, nl_mul, nl_rmul, nl_mm, pu_qe0, pu_qe1, e1, w0, w1]
          all_goals try simp (maxSteps := 400000) (disch := omega) [nl_tle, nl_fle, nl_tlt, nl_flt, nl_teq, nl_feq, nl_sub, nl_ss, nl_lt, nl_llt, nl_ltt, nl_le, nl_lle, nl_lee, nl_eq, nl_leq, nl_ee, nl_div, nl_rem, nl_cl, nl_n1, nl_n2, nl_n3, nl_n4, nl_add, nl_ladd, nl_aa, nl_mul, nl_rmul, nl_mm, pu_wi_1, pu_wi_2, bX11_stop_0, bX11_stop_16, bX11_stop_34, bX11_stop_43, bX11_stop_46, bX11_stop_64, a_ald, a_cv, a_gi, a_gr, a_icle, a_iclt, a_icne, a_iflt, a_ifne, a_ild, a_iret, a_pi, a_push, ag_25 hI, ag_45 hI, fx_0_2 hx, fx_5_3 hx, fx_5_6 hx, sh_0, sh_25, sh_45, sh_5, pu_rv, pu_as, Value.category, pu_bk, pu_kl, pu_qe0, pu_qe1, e1, w0, w1]
        · rw [qX12_stop]
          simp [a_ent, bX12_stop_0, bX12_stop_10, bX12_stop_20, bX12_stop_23, bX12_stop_38, bX12_stop_53, bX12_stop_91, a_ai, a_ald, a_cv, a_dup2, a_gr, a_iadd, a_icle, a_iclt, a_icne, a_ifne, a_ild, a_imul, a_iret, a_push, a_wi, fx_71_0 hx, sh_71, sh_72, pu_rv, pu_as, Value.category, pu_bk, pu_kl, List.replicate, pu_wi_1, pu_wi_2, nl_add, nl_ladd, nl_aa, nl_mul, nl_rmul, nl_mm, pu_qe0, pu_qe1, e3, w2]
          all_goals try simp (maxSteps := 400000) (disch := omega) [nl_tle, nl_fle, nl_tlt, nl_flt, nl_teq, nl_feq, nl_sub, nl_ss, nl_lt, nl_llt, nl_ltt, nl_le, nl_lle, nl_lee, nl_eq, nl_leq, nl_ee, nl_div, nl_rem, nl_cl, nl_n1, nl_n2, nl_n3, nl_n4, nl_add, nl_ladd, nl_aa, nl_mul, nl_rmul, nl_mm, pu_wi_1, pu_wi_2, bX12_stop_0, bX12_stop_10, bX12_stop_20, bX12_stop_23, bX12_stop_38, bX12_stop_53, bX12_stop_91, a_ai, a_ald, a_cv, a_dup2, a_gr, a_iadd, a_icle, a_iclt, a_icne, a_ifne, a_ild, a_imul, a_iret, a_push, a_wi, fx_71_0 hx, sh_71, sh_72, pu_rv, pu_as, Value.category, pu_bk, pu_kl, pu_qe0, pu_qe1, e3, w2]
      · by_cases w2 : w ≤ 2
        · have w3 : ¬ w < -1 := by grind
          by_cases hn : cS (pu_si M 5) < 24
          · have hn1 : ¬ nI (cS (pu_si M 5)) = 24 := fun q => by rw [show (24 : Int32) = nI 24 from rfl, nI_eq (by omega) (by omega)] at q; omega
            have ha : M.1 45 4 = nI (cS (pu_si M 5)) := by rw [ag_45 hI, wx_cS hw]
            refine ⟨nI (cS (pu_si M 5) + 1), pu_wi (pu_wi (pu_wi M 52 (cS (pu_si M 5)) x) 53 (cS (pu_si M 5)) w) 45 4 (nI (cS (pu_si M 5) + 1)), pu_wi (pu_wi (pu_wi (pu_wi (pu_wi (pu_wi M 52 (cS (pu_si M 5)) x) 53 (cS (pu_si M 5)) w) 45 4 (nI (cS (pu_si M 5) + 1))) 72 (59480 + 2 * cS (pu_si M 5)) x) 72 (59480 + 2 * cS (pu_si M 5) + 1) w) 72 9 (nI (cS (pu_si M 5) + 1)), ?_, ?_, pu_Inv_ws h rfl (fun a j q => ?_) ?_⟩
            · have e4 : pu_r 201 [some (.ref 45), some (.int x), some (.int w)] [] M = some (some (.int (nI (cS (pu_si M 5) + 1))), pu_wi (pu_wi (pu_wi M 52 (cS (pu_si M 5)) x) 53 (cS (pu_si M 5)) w) 45 4 (nI (cS (pu_si M 5) + 1))) := by
                rw [qX1_addStop]
                simp [a_ent, bX1_addStop_0, bX1_addStop_39, a_ald, a_dup, a_gi, a_gr, a_iadd, a_icge, a_ild, a_iret, a_pi, a_push, a_wi, fx_45_14 hx, fx_45_15 hx, sh_45, sh_52, sh_53, pu_rv, pu_as, Value.category, pu_bk, pu_kl, List.replicate, pu_wi_1, pu_wi_2, nl_add, nl_ladd, nl_aa, nl_mul, nl_rmul, nl_mm, pu_qe0, pu_qe1, ha]
                all_goals try simp (maxSteps := 400000) (disch := omega) [nl_tle, nl_fle, nl_tlt, nl_flt, nl_teq, nl_feq, nl_sub, nl_ss, nl_lt, nl_llt, nl_ltt, nl_le, nl_lle, nl_lee, nl_eq, nl_leq, nl_ee, nl_div, nl_rem, nl_cl, nl_n1, nl_n2, nl_n3, nl_n4, nl_add, nl_ladd, nl_aa, nl_mul, nl_rmul, nl_mm, pu_wi_1, pu_wi_2, bX1_addStop_0, bX1_addStop_39, a_ald, a_dup, a_gi, a_gr, a_iadd, a_icge, a_ild, a_iret, a_pi, a_push, a_wi, fx_45_14 hx, fx_45_15 hx, sh_45, sh_52, sh_53, pu_rv, pu_as, Value.category, pu_bk, pu_kl, pu_qe0, pu_qe1, ha]
              rw [qX11_stop]
              simp [a_ent, bX11_stop_0, bX11_stop_16, bX11_stop_34, bX11_stop_43, bX11_stop_46, bX11_stop_64, a_ald, a_cv, a_gi, a_gr, a_icle, a_iclt, a_icne, a_iflt, a_ifne, a_ild, a_iret, a_pi, a_push, fx_0_2 hx, fx_5_3 hx, fx_5_6 hx, sh_0, sh_25, sh_45, sh_5, pu_rv, pu_as, Value.category, pu_bk, pu_kl, List.replicate, pu_wi_1, pu_wi_2, nl_add, nl_ladd, nl_aa, nl_mul, nl_rmul, nl_mm, pu_qe0, pu_qe1, e1, w0, w1, w2, ha, e4]
              all_goals try simp (maxSteps := 400000) (disch := omega) [nl_tle, nl_fle, nl_tlt, nl_flt, nl_teq, nl_feq, nl_sub, nl_ss, nl_lt, nl_llt, nl_ltt, nl_le, nl_lle, nl_lee, nl_eq, nl_leq, nl_ee, nl_div, nl_rem, nl_cl, nl_n1, nl_n2, nl_n3, nl_n4, nl_add, nl_ladd, nl_aa, nl_mul, nl_rmul, nl_mm, pu_wi_1, pu_wi_2, bX11_stop_0, bX11_stop_16, bX11_stop_34, bX11_stop_43, bX11_stop_46, bX11_stop_64, a_ald, a_cv, a_gi, a_gr, a_icle, a_iclt, a_icne, a_iflt, a_ifne, a_ild, a_iret, a_pi, a_push, fx_0_2 hx, fx_5_3 hx, fx_5_6 hx, sh_0, sh_25, sh_45, sh_5, pu_rv, pu_as, Value.category, pu_bk, pu_kl, pu_qe0, pu_qe1, e1, w0, w1, w2, ha, e4]
            · have hr2 : pu_Rel (pu_si M 5) (pu_sj M 5) ((pu_wi (pu_wi (pu_wi M 52 (cS (pu_si M 5)) x) 53 (cS (pu_si M 5)) w) 45 4 (nI (cS (pu_si M 5) + 1))).1 72) := by
                rw [pu_s_wo (by decide), pu_s_wo (by decide), pu_s_wo (by decide)]
                exact hr
              have hx2 : pu_fx (pu_wi (pu_wi (pu_wi M 52 (cS (pu_si M 5)) x) 53 (cS (pu_si M 5)) w) 45 4 (nI (cS (pu_si M 5) + 1))) := hx
              have e3 := e2 _ hx2 hr2
              generalize pu_wi (pu_wi (pu_wi M 52 (cS (pu_si M 5)) x) 53 (cS (pu_si M 5)) w) 45 4 (nI (cS (pu_si M 5) + 1)) = N at *
              have g1 := rl_h9 hr2
              rw [qX12_stop]
              simp [a_ent, bX12_stop_0, bX12_stop_10, bX12_stop_20, bX12_stop_23, bX12_stop_38, bX12_stop_53, bX12_stop_91, a_ai, a_ald, a_cv, a_dup2, a_gr, a_iadd, a_icle, a_iclt, a_icne, a_ifne, a_ild, a_imul, a_iret, a_push, a_wi, fx_71_0 hx, sh_71, sh_72, pu_rv, pu_as, Value.category, pu_bk, pu_kl, List.replicate, pu_wi_1, pu_wi_2, nl_add, nl_ladd, nl_aa, nl_mul, nl_rmul, nl_mm, pu_qe0, pu_qe1, e3, w0, w3, w2, g1, hn1, fx_71_0 hx2]
              all_goals try simp (maxSteps := 400000) (disch := omega) [nl_tle, nl_fle, nl_tlt, nl_flt, nl_teq, nl_feq, nl_sub, nl_ss, nl_lt, nl_llt, nl_ltt, nl_le, nl_lle, nl_lee, nl_eq, nl_leq, nl_ee, nl_div, nl_rem, nl_cl, nl_n1, nl_n2, nl_n3, nl_n4, nl_add, nl_ladd, nl_aa, nl_mul, nl_rmul, nl_mm, pu_wi_1, pu_wi_2, bX12_stop_0, bX12_stop_10, bX12_stop_20, bX12_stop_23, bX12_stop_38, bX12_stop_53, bX12_stop_91, a_ai, a_ald, a_cv, a_dup2, a_gr, a_iadd, a_icle, a_iclt, a_icne, a_ifne, a_ild, a_imul, a_iret, a_push, a_wi, fx_71_0 hx, sh_71, sh_72, pu_rv, pu_as, Value.category, pu_bk, pu_kl, pu_qe0, pu_qe1, e3, w0, w3, w2, g1, hn1, fx_71_0 hx2]
            · simp only [pu_wi_1]
              grind
            · rw [pu_si_wo (by omega), pu_si_wo (by omega), pu_si_wo (by omega), pu_si_wi (by omega) (by omega), pu_si_wi (by omega) (by omega), pu_si_wi (by omega) (by omega), pu_s_wi, pu_s_wi, pu_s_wi, pu_s_wo (by decide), pu_s_wo (by decide), pu_s_wo (by decide)]
              have t0 : (0 : Int32).toInt = 0 := by decide
              have t2 : (2 : Int32).toInt = 2 := by decide
              exact St_stop1 hSt hn (by have := Int32.le_iff_toInt_le.mp (Int32.not_lt.mp w1); omega) (by have := Int32.le_iff_toInt_le.mp w2; omega)
          · have hn2 : cS (pu_si M 5) = 24 := by omega
            have e3 := e2 M hx hr
            have g1 := rl_h9 hr
            have g2 := wx_cS hw
            rw [hn2] at g1 g2
            refine ⟨-6, M, M, ?_, ?_, h⟩
            · rw [qX11_stop]
              simp [a_ent, bX11_stop_0, bX11_stop_16, bX11_stop_34, bX11_stop_43, bX11_stop_46, bX11_stop_64, a_ald, a_cv, a_gi, a_gr, a_icle, a_iclt, a_icne, a_iflt, a_ifne, a_ild, a_iret, a_pi, a_push, ag_25 hI, ag_45 hI, fx_0_2 hx, fx_5_3 hx, fx_5_6 hx, sh_0, sh_25, sh_45, sh_5, pu_rv, pu_as, Value.category, pu_bk, pu_kl, List.replicate, pu_wi_1, pu_wi_2, nl_add, nl_ladd, nl_aa, nl_mul, nl_rmul, nl_mm, pu_qe0, pu_qe1, e1, w0, w1, w2, g2]
              all_goals try simp (maxSteps := 400000) (disch := omega) [nl_tle, nl_fle, nl_tlt, nl_flt, nl_teq, nl_feq, nl_sub, nl_ss, nl_lt, nl_llt, nl_ltt, nl_le, nl_lle, nl_lee, nl_eq, nl_leq, nl_ee, nl_div, nl_rem, nl_cl, nl_n1, nl_n2, nl_n3, nl_n4, nl_add, nl_ladd, nl_aa, nl_mul, nl_rmul, nl_mm, pu_wi_1, pu_wi_2, bX11_stop_0, bX11_stop_16, bX11_stop_34, bX11_stop_43, bX11_stop_46, bX11_stop_64, a_ald, a_cv, a_gi, a_gr, a_icle, a_iclt, a_icne, a_iflt, a_ifne, a_ild, a_iret, a_pi, a_push, ag_25 hI, ag_45 hI, fx_0_2 hx, fx_5_3 hx, fx_5_6 hx, sh_0, sh_25, sh_45, sh_5, pu_rv, pu_as, Value.category, pu_bk, pu_kl, pu_qe0, pu_qe1, e1, w0, w1, w2, g2]
            · rw [qX12_stop]
              simp [a_ent, bX12_stop_0, bX12_stop_10, bX12_stop_20, bX12_stop_23, bX12_stop_38, bX12_stop_53, bX12_stop_91, a_ai, a_ald, a_cv, a_dup2, a_gr, a_iadd, a_icle, a_iclt, a_icne, a_ifne, a_ild, a_imul, a_iret, a_push, a_wi, fx_71_0 hx, sh_71, sh_72, pu_rv, pu_as, Value.category, pu_bk, pu_kl, List.replicate, pu_wi_1, pu_wi_2, nl_add, nl_ladd, nl_aa, nl_mul, nl_rmul, nl_mm, pu_qe0, pu_qe1, e3, w0, w3, w2, g1]
              all_goals try simp (maxSteps := 400000) (disch := omega) [nl_tle, nl_fle, nl_tlt, nl_flt, nl_teq, nl_feq, nl_sub, nl_ss, nl_lt, nl_llt, nl_ltt, nl_le, nl_lle, nl_lee, nl_eq, nl_leq, nl_ee, nl_div, nl_rem, nl_cl, nl_n1, nl_n2, nl_n3, nl_n4, nl_add, nl_ladd, nl_aa, nl_mul, nl_rmul, nl_mm, pu_wi_1, pu_wi_2, bX12_stop_0, bX12_stop_10, bX12_stop_20, bX12_stop_23, bX12_stop_38, bX12_stop_53, bX12_stop_91, a_ai, a_ald, a_cv, a_dup2, a_gr, a_iadd, a_icle, a_iclt, a_icne, a_ifne, a_ild, a_imul, a_iret, a_push, a_wi, fx_71_0 hx, sh_71, sh_72, pu_rv, pu_as, Value.category, pu_bk, pu_kl, pu_qe0, pu_qe1, e3, w0, w3, w2, g1]
        · have e3 := e2 M hx hr
          have w3 : ¬ w < -1 := by grind
          refine ⟨-2, M, M, ?_, ?_, h⟩
          · rw [qX11_stop]
            simp [a_ent, bX11_stop_0, bX11_stop_16, bX11_stop_34, bX11_stop_43, bX11_stop_46, bX11_stop_64, a_ald, a_cv, a_gi, a_gr, a_icle, a_iclt, a_icne, a_iflt, a_ifne, a_ild, a_iret, a_pi, a_push, ag_25 hI, ag_45 hI, fx_0_2 hx, fx_5_3 hx, fx_5_6 hx, sh_0, sh_25, sh_45, sh_5, pu_rv, pu_as, Value.category, pu_bk, pu_kl, List.replicate, pu_wi_1, pu_wi_2, nl_add, nl_ladd, nl_aa, nl_mul, nl_rmul, nl_mm, pu_qe0, pu_qe1, e1, w0, w1, w2]
            all_goals try simp (maxSteps := 400000) (disch := omega) [nl_tle, nl_fle, nl_tlt, nl_flt, nl_teq, nl_feq, nl_sub, nl_ss, nl_lt, nl_llt, nl_ltt, nl_le, nl_lle, nl_lee, nl_eq, nl_leq, nl_ee, nl_div, nl_rem, nl_cl, nl_n1, nl_n2, nl_n3, nl_n4, nl_add, nl_ladd, nl_aa, nl_mul, nl_rmul, nl_mm, pu_wi_1, pu_wi_2, bX11_stop_0, bX11_stop_16, bX11_stop_34, bX11_stop_43, bX11_stop_46, bX11_stop_64, a_ald, a_cv, a_gi, a_gr, a_icle, a_iclt, a_icne, a_iflt, a_ifne, a_ild, a_iret, a_pi, a_push, ag_25 hI, ag_45 hI, fx_0_2 hx, fx_5_3 hx, fx_5_6 hx, sh_0, sh_25, sh_45, sh_5, pu_rv, pu_as, Value.category, pu_bk, pu_kl, pu_qe0, pu_qe1, e1, w0, w1, w2]
          · rw [qX12_stop]
            simp [a_ent, bX12_stop_0, bX12_stop_10, bX12_stop_20, bX12_stop_23, bX12_stop_38, bX12_stop_53, bX12_stop_91, a_ai, a_ald, a_cv, a_dup2, a_gr, a_iadd, a_icle, a_iclt, a_icne, a_ifne, a_ild, a_imul, a_iret, a_push, a_wi, fx_71_0 hx, sh_71, sh_72, pu_rv, pu_as, Value.category, pu_bk, pu_kl, List.replicate, pu_wi_1, pu_wi_2, nl_add, nl_ladd, nl_aa, nl_mul, nl_rmul, nl_mm, pu_qe0, pu_qe1, e3, w3, w2]
            all_goals try simp (maxSteps := 400000) (disch := omega) [nl_tle, nl_fle, nl_tlt, nl_flt, nl_teq, nl_feq, nl_sub, nl_ss, nl_lt, nl_llt, nl_ltt, nl_le, nl_lle, nl_lee, nl_eq, nl_leq, nl_ee, nl_div, nl_rem, nl_cl, nl_n1, nl_n2, nl_n3, nl_n4, nl_add, nl_ladd, nl_aa, nl_mul, nl_rmul, nl_mm, pu_wi_1, pu_wi_2, bX12_stop_0, bX12_stop_10, bX12_stop_20, bX12_stop_23, bX12_stop_38, bX12_stop_53, bX12_stop_91, a_ai, a_ald, a_cv, a_dup2, a_gr, a_iadd, a_icle, a_iclt, a_icne, a_ifne, a_ild, a_imul, a_iret, a_push, a_wi, fx_71_0 hx, sh_71, sh_72, pu_rv, pu_as, Value.category, pu_bk, pu_kl, pu_qe0, pu_qe1, e3, w3, w2]
  · rw [pu_q0 hd] at e1
    have e3 := (e2 M hx hr).trans (by rw [pu_q0 hd])
    refine ⟨-1, M, M, ?_, ?_, h⟩
    · rw [qX11_stop]
      simp [a_ent, bX11_stop_0, bX11_stop_16, bX11_stop_34, bX11_stop_43, bX11_stop_46, bX11_stop_64, a_ald, a_cv, a_gi, a_gr, a_icle, a_iclt, a_icne, a_iflt, a_ifne, a_ild, a_iret, a_pi, a_push, ag_25 hI, ag_45 hI, fx_0_2 hx, fx_5_3 hx, fx_5_6 hx, sh_0, sh_25, sh_45, sh_5, pu_rv, pu_as, Value.category, pu_bk, pu_kl, List.replicate, pu_wi_1, pu_wi_2, nl_add, nl_ladd, nl_aa, nl_mul, nl_rmul, nl_mm, pu_qe0, pu_qe1, e1]
      all_goals try simp (maxSteps := 400000) (disch := omega) [nl_tle, nl_fle, nl_tlt, nl_flt, nl_teq, nl_feq, nl_sub, nl_ss, nl_lt, nl_llt, nl_ltt, nl_le, nl_lle, nl_lee, nl_eq, nl_leq, nl_ee, nl_div, nl_rem, nl_cl, nl_n1, nl_n2, nl_n3, nl_n4, nl_add, nl_ladd, nl_aa, nl_mul, nl_rmul, nl_mm, pu_wi_1, pu_wi_2, bX11_stop_0, bX11_stop_16, bX11_stop_34, bX11_stop_43, bX11_stop_46, bX11_stop_64, a_ald, a_cv, a_gi, a_gr, a_icle, a_iclt, a_icne, a_iflt, a_ifne, a_ild, a_iret, a_pi, a_push, ag_25 hI, ag_45 hI, fx_0_2 hx, fx_5_3 hx, fx_5_6 hx, sh_0, sh_25, sh_45, sh_5, pu_rv, pu_as, Value.category, pu_bk, pu_kl, pu_qe0, pu_qe1, e1]
    · rw [qX12_stop]
      simp [a_ent, bX12_stop_0, bX12_stop_10, bX12_stop_20, bX12_stop_23, bX12_stop_38, bX12_stop_53, bX12_stop_91, a_ai, a_ald, a_cv, a_dup2, a_gr, a_iadd, a_icle, a_iclt, a_icne, a_ifne, a_ild, a_imul, a_iret, a_push, a_wi, fx_71_0 hx, sh_71, sh_72, pu_rv, pu_as, Value.category, pu_bk, pu_kl, List.replicate, pu_wi_1, pu_wi_2, nl_add, nl_ladd, nl_aa, nl_mul, nl_rmul, nl_mm, pu_qe0, pu_qe1, e3]
      all_goals try simp (maxSteps := 400000) (disch := omega) [nl_tle, nl_fle, nl_tlt, nl_flt, nl_teq, nl_feq, nl_sub, nl_ss, nl_lt, nl_llt, nl_ltt, nl_le, nl_lle, nl_lee, nl_eq, nl_leq, nl_ee, nl_div, nl_rem, nl_cl, nl_n1, nl_n2, nl_n3, nl_n4, nl_add, nl_ladd, nl_aa, nl_mul, nl_rmul, nl_mm, pu_wi_1, pu_wi_2, bX12_stop_0, bX12_stop_10, bX12_stop_20, bX12_stop_23, bX12_stop_38, bX12_stop_53, bX12_stop_91, a_ai, a_ald, a_cv, a_dup2, a_gr, a_iadd, a_icle, a_iclt, a_icne, a_ifne, a_ild, a_imul, a_iret, a_push, a_wi, fx_71_0 hx, sh_71, sh_72, pu_rv, pu_as, Value.category, pu_bk, pu_kl, pu_qe0, pu_qe1, e3]
theorem pu_fd_b {M : pu_M} {n : Nat} {a b c d e : Int32} {j : Nat} (h : j < 20) : (pu_fd M n a b c d e).1 2 (n + j) = ((if j < 4 then a else if j < 8 then b else if j < 12 then c else if j < 16 then d else e) >>> (nI (24 - 8 * (j % 4)))) &&& 255 := by
  unfold pu_fd
  rw [pu_p4_b _ _ _ _ _ (by decide), pu_p4_b _ _ _ _ _ (by decide), pu_p4_b _ _ _ _ _ (by decide), pu_p4_b _ _ _ _ _ (by decide), pu_p4_b _ _ _ _ _ (by decide)]
  have z : ∀ x : Int32, x >>> (nI 0) = x := fun x => by
    have := pk_shr x (nI 0) 0 rfl
    apply Int32.toInt_inj.mp
    rw [this]
    simp
  match j, h with
  | 0, _ => simp (disch := omega) [nl_feq, show nI 24 = 24 from rfl, show nI 16 = 16 from rfl, show nI 8 = 8 from rfl]
  | 1, _ => simp (disch := omega) [nl_feq, show nI 24 = 24 from rfl, show nI 16 = 16 from rfl, show nI 8 = 8 from rfl]
  | 2, _ => simp (disch := omega) [nl_feq, show nI 24 = 24 from rfl, show nI 16 = 16 from rfl, show nI 8 = 8 from rfl]
  | 3, _ => simp (disch := omega) [nl_feq, z]
  | 4, _ => simp (disch := omega) [nl_feq, show nI 24 = 24 from rfl, show nI 16 = 16 from rfl, show nI 8 = 8 from rfl]
  | 5, _ => simp (disch := omega) [nl_feq, show nI 24 = 24 from rfl, show nI 16 = 16 from rfl, show nI 8 = 8 from rfl]
  | 6, _ => simp (disch := omega) [nl_feq, show nI 24 = 24 from rfl, show nI 16 = 16 from rfl, show nI 8 = 8 from rfl]
  | 7, _ => simp (disch := omega) [nl_feq, z]
  | 8, _ => simp (disch := omega) [nl_feq, show nI 24 = 24 from rfl, show nI 16 = 16 from rfl, show nI 8 = 8 from rfl]
  | 9, _ => simp (disch := omega) [nl_feq, show nI 24 = 24 from rfl, show nI 16 = 16 from rfl, show nI 8 = 8 from rfl]
  | 10, _ => simp (disch := omega) [nl_feq, show nI 24 = 24 from rfl, show nI 16 = 16 from rfl, show nI 8 = 8 from rfl]
  | 11, _ => simp (disch := omega) [nl_feq, z]
  | 12, _ => simp (disch := omega) [nl_feq, show nI 24 = 24 from rfl, show nI 16 = 16 from rfl, show nI 8 = 8 from rfl]
  | 13, _ => simp (disch := omega) [nl_feq, show nI 24 = 24 from rfl, show nI 16 = 16 from rfl, show nI 8 = 8 from rfl]
  | 14, _ => simp (disch := omega) [nl_feq, show nI 24 = 24 from rfl, show nI 16 = 16 from rfl, show nI 8 = 8 from rfl]
  | 15, _ => simp (disch := omega) [nl_feq, z]
  | 16, _ => simp (disch := omega) [nl_feq, show nI 24 = 24 from rfl, show nI 16 = 16 from rfl, show nI 8 = 8 from rfl]
  | 17, _ => simp (disch := omega) [nl_feq, show nI 24 = 24 from rfl, show nI 16 = 16 from rfl, show nI 8 = 8 from rfl]
  | 18, _ => simp (disch := omega) [nl_feq, show nI 24 = 24 from rfl, show nI 16 = 16 from rfl, show nI 8 = 8 from rfl]
  | 19, _ => simp (disch := omega) [nl_feq, z]
  | j + 20, h => omega
theorem pu_mfd_b {M : pu_M} {n : Nat} {a b c d e : Int32} {j : Nat} (h : j < 20) : (pu_mfd M n a b c d e).1 75 (n + j) &&& 255 = ((if j < 4 then a else if j < 8 then b else if j < 12 then c else if j < 16 then d else e) >>> (nI (24 - 8 * (j % 4)))) &&& 255 := by
  unfold pu_mfd
  rw [pu_wi_1, if_neg (by decide), pu_mf_b, pu_mf_b, pu_mf_b, pu_mf_b]
  have s0 : ((24 - 8 * nI 0) &&& 31 : Int32) = nI 24 := by decide
  have s1 : ((24 - 8 * nI 1) &&& 31 : Int32) = nI 16 := by decide
  have s2 : ((24 - 8 * nI 2) &&& 31 : Int32) = nI 8 := by decide
  have s3 : ((24 - 8 * nI 3) &&& 31 : Int32) = nI 0 := by decide
  rw [s0, s1, s2, s3]
  match j, h with
  | 0, _ => simp (disch := omega) [nl_feq, pu_by255]
  | 1, _ => simp (disch := omega) [nl_feq, pu_by255]
  | 2, _ => simp (disch := omega) [nl_feq, pu_by255]
  | 3, _ => simp (disch := omega) [nl_feq, pu_by255]
  | 4, _ => simp (disch := omega) [nl_feq, pu_by255]
  | 5, _ => simp (disch := omega) [nl_feq, pu_by255]
  | 6, _ => simp (disch := omega) [nl_feq, pu_by255]
  | 7, _ => simp (disch := omega) [nl_feq, pu_by255]
  | 8, _ => simp (disch := omega) [nl_feq, pu_by255]
  | 9, _ => simp (disch := omega) [nl_feq, pu_by255]
  | 10, _ => simp (disch := omega) [nl_feq, pu_by255]
  | 11, _ => simp (disch := omega) [nl_feq, pu_by255]
  | 12, _ => simp (disch := omega) [nl_feq, pu_by255]
  | 13, _ => simp (disch := omega) [nl_feq, pu_by255]
  | 14, _ => simp (disch := omega) [nl_feq, pu_by255]
  | 15, _ => simp (disch := omega) [nl_feq, pu_by255]
  | 16, _ => simp (disch := omega) [nl_feq, pu_by255]
  | 17, _ => simp (disch := omega) [nl_feq, pu_by255]
  | 18, _ => simp (disch := omega) [nl_feq, pu_by255]
  | 19, _ => simp (disch := omega) [nl_feq, pu_by255]
  | j + 20, h => omega
theorem pu_fd_o {M : pu_M} {n : Nat} {a b c d e : Int32} {q j : Nat} (h1 : q ≠ 2) (h2 : ¬ (q = 1 ∧ j = 0)) : (pu_fd M n a b c d e).1 q j = M.1 q j := by
  unfold pu_fd
  rw [pu_p4_o _ _ _ _ _ _ _ h2 h1, pu_p4_o _ _ _ _ _ _ _ h2 h1, pu_p4_o _ _ _ _ _ _ _ h2 h1, pu_p4_o _ _ _ _ _ _ _ h2 h1, pu_p4_o _ _ _ _ _ _ _ h2 h1]
theorem pu_fd_l {M : pu_M} {n : Nat} {a b c d e : Int32} {j : Nat} (h : j < n) : (pu_fd M n a b c d e).1 2 j = M.1 2 j := by
  unfold pu_fd
  rw [pu_p4_b _ _ _ _ _ (by decide), pu_p4_b _ _ _ _ _ (by decide), pu_p4_b _ _ _ _ _ (by decide), pu_p4_b _ _ _ _ _ (by decide), pu_p4_b _ _ _ _ _ (by decide)]
  simp (disch := omega) [nl_feq]
theorem pu_mfd_o {M : pu_M} {n : Nat} {a b c d e : Int32} {q j : Nat} (h1 : q ≠ 75) (h2 : ¬ (q = 71 ∧ j = 4)) : (pu_mfd M n a b c d e).1 q j = M.1 q j := by
  unfold pu_mfd
  rw [pu_wi_1, pu_mf_o _ _ _ _ _ _ _ _ _ _ h1, pu_mf_o _ _ _ _ _ _ _ _ _ _ h1, pu_mf_o _ _ _ _ _ _ _ _ _ _ h1, pu_mf_o _ _ _ _ _ _ _ _ _ _ h1]
  grind
theorem pu_mfd_l {M : pu_M} {n : Nat} {a b c d e : Int32} {j : Nat} (h : j < n) : (pu_mfd M n a b c d e).1 75 j = M.1 75 j := by
  unfold pu_mfd
  rw [pu_wi_1, if_neg (by decide), pu_mf_b, pu_mf_b, pu_mf_b, pu_mf_b]
  simp (disch := omega) [nl_feq]
theorem op_feed (a b c d e : Int32) : pu_op pu_Inv 14 229 [.int a, .int b, .int c, .int d, .int e] := by
  intro M h
  have hx := h.1
  obtain ⟨t, t1, t2, t3, t4⟩ := h.2.1
  by_cases q : t + 20 ≤ 1200
  · refine ⟨_, _, _, e_feed1 a b c d e M t (fx_0_0 hx) (fx_1_1 hx) t2 q, e_mfeed1 a b c d e _ t ?_ ?_ q, ?_⟩
    · exact fx_71_3 hx
    · rw [pu_fd_o (by decide) (by decide)]
      exact t3
    · refine pu_Inv_sc h hx rfl (fun a j _ => rfl) (fun a j q => ?_) (fun a j _ => rfl) ⟨t + 20, q, ?_, ?_, fun i hi => ?_⟩ (pu_ou_fr h.2.2.1 ?_ ?_ (fun j => ?_) (fun j => ?_))
      · rw [pu_mfd_o (by omega) (by omega), pu_fd_o (by omega) (by omega)]
      · rw [pu_mfd_o (by decide) (by decide)]
        exact pu_p4_n _ _ _ _ _
      · show (pu_wi _ 71 4 (nI (t + 20))).1 71 4 = _
        simp [pu_wi_1]
      · rw [pu_mfd_o (by omega) (by omega)]
        by_cases z : i < t
        · rw [pu_fd_l z, pu_mfd_l z, pu_fd_o (by omega) (by omega)]
          exact t4 i z
        · have e1 : i = t + (i - t) := by omega
          rw [e1, pu_mfd_b (by omega), pu_fd_b (by omega)]
      · rw [pu_mfd_o (by omega) (by omega), pu_fd_o (by omega) (by omega)]
      · rw [pu_mfd_o (by omega) (by omega), pu_fd_o (by omega) (by omega)]
      · rw [pu_mfd_o (by omega) (by omega), pu_fd_o (by omega) (by omega)]
      · rw [pu_mfd_o (by omega) (by omega), pu_fd_o (by omega) (by omega)]
  · exact ⟨-1, M, M, e_feed0 a b c d e M t (fx_0_0 hx) t2 (by omega) t1, e_mfeed0 a b c d e M t t3 (by omega) t1, h⟩
