/-! list, the reference's side -/
section
variable {M : pu_M} {I : Nat → Nat → Int32} {L : Nat → Nat → Int64}
theorem r_listed (hx : pu_fx M) (hr : pu_Rel I L (M.1 72)) (hw : pu_WF I L) (d w : Nat) (hd : d < cD I) (hw2 : w < 2) (y : Int32) (hy : ¬ y < 0 ∧ ¬ 109574 < y) : pu_r 353 [some (.ref 71), some (.int (nI d)), some (.int (nI w)), some (.int y)] [] M = some (some (.int (pz_ks I y (2 * d + w))), M) := by
  have hD := wx_bD hw
  have e1 := r_of0 hx hr hw d hd
  have e2 := pu_srt_lt hw hd
  have e3 := r_standsOn hx hr hw d hd y
  have e4 := r_spanOn hx hr hw d w hd hw2 y hy
  have none1 : (∀ k, k < cU I → pu_sh1 I y k → pu_sl0 I k ≠ 2 * d + w) → pz_ks I y (2 * d + w) = -1 := fun h => by
    rcases pz_ks_s hw y (2 * d + w) (by omega) with ⟨a1, _⟩ | ⟨k, k1, k2, k3, _⟩
    · exact a1
    · exact absurd k3 (h k k1 k2)
  by_cases c1 : I 32 d = 0
  · have c2 : ¬ 1 < pu_srt I d := fun z => by
      have : 2 ≤ pu_srt I d := by grind
      rw [e2] at this
      exact this c1
    have d0 := (wx_d0 hw d hd c1).2.2.1
    rw [d0, nI_clamp (by omega)] at e4
    by_cases c3 : pu_sd I d y
    · rw [pu_q1 c3] at e3
      have e4 : pu_r 332 [some (.ref 71), some (.int (nI d)), some (.int (nI w)), some (.int y)] [] M = some (some (.int (pz_ks I y (2 * d + w))), M) := e4
      rw [qX12_listed]
      simp [a_ent, bX12_listed_0, bX12_listed_19, bX12_listed_21, a_ald, a_cv, a_icgt, a_ifne, a_ild, a_iret, a_push, sh_71, pu_rv, pu_as, Value.category, pu_bk, pu_kl, List.replicate, pu_wi_1, pu_wi_2, nl_add, nl_ladd, nl_aa, nl_mul, nl_rmul, nl_mm, pu_qe0, pu_qe1, e1, c2, e3, e4]
      all_goals try simp (maxSteps := 400000) (disch := omega) [nl_tle, nl_fle, nl_tlt, nl_flt, nl_teq, nl_feq, nl_sub, nl_ss, nl_lt, nl_llt, nl_ltt, nl_le, nl_lle, nl_lee, nl_eq, nl_leq, nl_ee, nl_div, nl_rem, nl_cl, nl_n1, nl_n2, nl_n3, nl_n4, nl_add, nl_ladd, nl_aa, nl_mul, nl_rmul, nl_mm, pu_wi_1, pu_wi_2, bX12_listed_0, bX12_listed_19, bX12_listed_21, a_ald, a_cv, a_icgt, a_ifne, a_ild, a_iret, a_push, sh_71, pu_rv, pu_as, Value.category, pu_bk, pu_kl, pu_qe0, pu_qe1, e1, c2, e3, e4]
      all_goals try simp [bX12_listed_0, bX12_listed_19, bX12_listed_21, a_ald, a_cv, a_icgt, a_ifne, a_ild, a_iret, a_push, sh_71, pu_rv, pu_as, Value.category, pu_bk, pu_kl, List.replicate, pu_wi_1, pu_wi_2, nl_add, nl_ladd, nl_aa, nl_mul, nl_rmul, nl_mm, pu_qe0, pu_qe1, e1, c2, e3, e4]
      all_goals try simp (maxSteps := 400000) (disch := omega) [nl_tle, nl_fle, nl_tlt, nl_flt, nl_teq, nl_feq, nl_sub, nl_ss, nl_lt, nl_llt, nl_ltt, nl_le, nl_lle, nl_lee, nl_eq, nl_leq, nl_ee, nl_div, nl_rem, nl_cl, nl_n1, nl_n2, nl_n3, nl_n4, nl_add, nl_ladd, nl_aa, nl_mul, nl_rmul, nl_mm, pu_wi_1, pu_wi_2, bX12_listed_0, bX12_listed_19, bX12_listed_21, a_ald, a_cv, a_icgt, a_ifne, a_ild, a_iret, a_push, sh_71, pu_rv, pu_as, Value.category, pu_bk, pu_kl, pu_qe0, pu_qe1, e1, c2, e3, e4]
    · rw [pu_q0 c3] at e3
      rw [none1 (fun k k1 k2 k3 => c3 (by
        have := (pu_sd_of hw k1 k2).1
        rw [k3, show (2 * d + w) / 2 = d by omega] at this
        exact this))]
      rw [qX12_listed]
      simp [a_ent, bX12_listed_0, bX12_listed_19, bX12_listed_21, a_ald, a_cv, a_icgt, a_ifne, a_ild, a_iret, a_push, sh_71, pu_rv, pu_as, Value.category, pu_bk, pu_kl, List.replicate, pu_wi_1, pu_wi_2, nl_add, nl_ladd, nl_aa, nl_mul, nl_rmul, nl_mm, pu_qe0, pu_qe1, e1, c2, e3]
      all_goals try simp (maxSteps := 400000) (disch := omega) [nl_tle, nl_fle, nl_tlt, nl_flt, nl_teq, nl_feq, nl_sub, nl_ss, nl_lt, nl_llt, nl_ltt, nl_le, nl_lle, nl_lee, nl_eq, nl_leq, nl_ee, nl_div, nl_rem, nl_cl, nl_n1, nl_n2, nl_n3, nl_n4, nl_add, nl_ladd, nl_aa, nl_mul, nl_rmul, nl_mm, pu_wi_1, pu_wi_2, bX12_listed_0, bX12_listed_19, bX12_listed_21, a_ald, a_cv, a_icgt, a_ifne, a_ild, a_iret, a_push, sh_71, pu_rv, pu_as, Value.category, pu_bk, pu_kl, pu_qe0, pu_qe1, e1, c2, e3]
      all_goals try simp [bX12_listed_0, bX12_listed_19, bX12_listed_21, a_ald, a_cv, a_icgt, a_ifne, a_ild, a_iret, a_push, sh_71, pu_rv, pu_as, Value.category, pu_bk, pu_kl, List.replicate, pu_wi_1, pu_wi_2, nl_add, nl_ladd, nl_aa, nl_mul, nl_rmul, nl_mm, pu_qe0, pu_qe1, e1, c2, e3]
      all_goals try simp (maxSteps := 400000) (disch := omega) [nl_tle, nl_fle, nl_tlt, nl_flt, nl_teq, nl_feq, nl_sub, nl_ss, nl_lt, nl_llt, nl_ltt, nl_le, nl_lle, nl_lee, nl_eq, nl_leq, nl_ee, nl_div, nl_rem, nl_cl, nl_n1, nl_n2, nl_n3, nl_n4, nl_add, nl_ladd, nl_aa, nl_mul, nl_rmul, nl_mm, pu_wi_1, pu_wi_2, bX12_listed_0, bX12_listed_19, bX12_listed_21, a_ald, a_cv, a_icgt, a_ifne, a_ild, a_iret, a_push, sh_71, pu_rv, pu_as, Value.category, pu_bk, pu_kl, pu_qe0, pu_qe1, e1, c2, e3]
  · have c2 : 1 < pu_srt I d := by
      have : 2 ≤ pu_srt I d := by rw [e2]; exact c1
      grind
    rw [none1 (fun k k1 k2 k3 => c1 (by
      have := (pu_sd_of hw k1 k2).2.1
      rw [k3, show (2 * d + w) / 2 = d by omega] at this
      exact this))]
    rw [qX12_listed]
    simp [a_ent, bX12_listed_0, bX12_listed_19, bX12_listed_21, a_ald, a_cv, a_icgt, a_ifne, a_ild, a_iret, a_push, sh_71, pu_rv, pu_as, Value.category, pu_bk, pu_kl, List.replicate, pu_wi_1, pu_wi_2, nl_add, nl_ladd, nl_aa, nl_mul, nl_rmul, nl_mm, pu_qe0, pu_qe1, e1, c2]
    all_goals try simp (maxSteps := 400000) (disch := omega) [nl_tle, nl_fle, nl_tlt, nl_flt, nl_teq, nl_feq, nl_sub, nl_ss, nl_lt, nl_llt, nl_ltt, nl_le, nl_lle, nl_lee, nl_eq, nl_leq, nl_ee, nl_div, nl_rem, nl_cl, nl_n1, nl_n2, nl_n3, nl_n4, nl_add, nl_ladd, nl_aa, nl_mul, nl_rmul, nl_mm, pu_wi_1, pu_wi_2, bX12_listed_0, bX12_listed_19, bX12_listed_21, a_ald, a_cv, a_icgt, a_ifne, a_ild, a_iret, a_push, sh_71, pu_rv, pu_as, Value.category, pu_bk, pu_kl, pu_qe0, pu_qe1, e1, c2]
    all_goals try simp [bX12_listed_0, bX12_listed_19, bX12_listed_21, a_ald, a_cv, a_icgt, a_ifne, a_ild, a_iret, a_push, sh_71, pu_rv, pu_as, Value.category, pu_bk, pu_kl, List.replicate, pu_wi_1, pu_wi_2, nl_add, nl_ladd, nl_aa, nl_mul, nl_rmul, nl_mm, pu_qe0, pu_qe1, e1, c2]
    all_goals try simp (maxSteps := 400000) (disch := omega) [nl_tle, nl_fle, nl_tlt, nl_flt, nl_teq, nl_feq, nl_sub, nl_ss, nl_lt, nl_llt, nl_ltt, nl_le, nl_lle, nl_lee, nl_eq, nl_leq, nl_ee, nl_div, nl_rem, nl_cl, nl_n1, nl_n2, nl_n3, nl_n4, nl_add, nl_ladd, nl_aa, nl_mul, nl_rmul, nl_mm, pu_wi_1, pu_wi_2, bX12_listed_0, bX12_listed_19, bX12_listed_21, a_ald, a_cv, a_icgt, a_ifne, a_ild, a_iret, a_push, sh_71, pu_rv, pu_as, Value.category, pu_bk, pu_kl, pu_qe0, pu_qe1, e1, c2]
theorem r_list_i (hx : pu_fx M) (hr : pu_Rel I L (M.1 72)) (hw : pu_WF I L) (d w n : Nat) (hd : d < cD I) (hw2 : w < 2) (y : Int32) (hy : ¬ y < 0 ∧ ¬ 109574 < y) (hn : M.1 71 8 = nI n) (hl : n + 6 ≤ 1300) (t4 t5 : Option Value) : ∃ u4 u5, pu_r 533 [some (.ref 71), some (.int y), some (.int (nI d)), some (.int (nI w)), t4, t5] [] M = pu_r 533 [some (.ref 71), some (.int y), some (.int (nI d)), some (.int (nI (w + 1))), u4, u5] [] (pz_rw M n (pz_rc I y (2 * d + w))) := by
  have hD := wx_bD hw
  have hU := wx_bU hw
  have hc : ¬ 2 ≤ nI w := nI_ge (b := 2) (by omega) (by omega)
  have e1 := r_listed hx hr hw d w hd hw2 y hy
  rcases pz_ks_s hw y (2 * d + w) (by omega) with ⟨a1, a2⟩ | ⟨k, k1, k2, k3, k4⟩
  · refine ⟨some (.int (-1)), t5, ?_⟩
    have r0 : pz_rc I y (2 * d + w) = [] := by
      unfold pz_rc
      rw [if_pos a1]
    rw [r0]
    rw [a1] at e1
    show _ = pu_r 533 [some (.ref 71), some (.int y), some (.int (nI d)), some (.int (nI (w + 1))), some (.int (-1)), t5] [] M
    rw [qX12_list_29]
    simp [bX12_list_29, bX12_list_130, bX12_list_52, bX12_list_91, bX12_list_124, a_ai, a_ald, a_cv, a_gr, a_iadd, a_icge, a_icne, a_ild, a_imul, a_inc, a_ishr, a_ist, a_push, fx_71_0 hx, sh_71, sh_72, pu_rv, pu_as, Value.category, pu_bk, pu_kl, List.replicate, pu_wi_1, pu_wi_2, nl_add, nl_ladd, nl_aa, nl_mul, nl_rmul, nl_mm, pu_qe0, pu_qe1, hc, e1]
    all_goals try simp (maxSteps := 400000) (disch := omega) [nl_tle, nl_fle, nl_tlt, nl_flt, nl_teq, nl_feq, nl_sub, nl_ss, nl_lt, nl_llt, nl_ltt, nl_le, nl_lle, nl_lee, nl_eq, nl_leq, nl_ee, nl_div, nl_rem, nl_cl, nl_n1, nl_n2, nl_n3, nl_n4, nl_add, nl_ladd, nl_aa, nl_mul, nl_rmul, nl_mm, pu_wi_1, pu_wi_2, bX12_list_29, bX12_list_130, bX12_list_52, bX12_list_91, bX12_list_124, a_ai, a_ald, a_cv, a_gr, a_iadd, a_icge, a_icne, a_ild, a_imul, a_inc, a_ishr, a_ist, a_push, fx_71_0 hx, sh_71, sh_72, pu_rv, pu_as, Value.category, pu_bk, pu_kl, pu_qe0, pu_qe1, hc, e1]
    all_goals try simp [bX12_list_29, bX12_list_130, bX12_list_52, bX12_list_91, bX12_list_124, a_ai, a_ald, a_cv, a_gr, a_iadd, a_icge, a_icne, a_ild, a_imul, a_inc, a_ishr, a_ist, a_push, fx_71_0 hx, sh_71, sh_72, pu_rv, pu_as, Value.category, pu_bk, pu_kl, List.replicate, pu_wi_1, pu_wi_2, nl_add, nl_ladd, nl_aa, nl_mul, nl_rmul, nl_mm, pu_qe0, pu_qe1, hc, e1]
    all_goals try simp (maxSteps := 400000) (disch := omega) [nl_tle, nl_fle, nl_tlt, nl_flt, nl_teq, nl_feq, nl_sub, nl_ss, nl_lt, nl_llt, nl_ltt, nl_le, nl_lle, nl_lee, nl_eq, nl_leq, nl_ee, nl_div, nl_rem, nl_cl, nl_n1, nl_n2, nl_n3, nl_n4, nl_add, nl_ladd, nl_aa, nl_mul, nl_rmul, nl_mm, pu_wi_1, pu_wi_2, bX12_list_29, bX12_list_130, bX12_list_52, bX12_list_91, bX12_list_124, a_ai, a_ald, a_cv, a_gr, a_iadd, a_icge, a_icne, a_ild, a_imul, a_inc, a_ishr, a_ist, a_push, fx_71_0 hx, sh_71, sh_72, pu_rv, pu_as, Value.category, pu_bk, pu_kl, pu_qe0, pu_qe1, hc, e1]
  · have n1 : ¬ nI k = -1 := fun q => by rw [nl_n1 k (by omega)] at q; exact q
    have r0 : pz_rc I y (2 * d + w) = [nI d, I 39 (2 * d + w), nI w, I 16 k >>> 16, I 16 k >>> 8, I 16 k] := by
      unfold pz_rc
      rw [k4, if_neg n1, nI_clamp (by omega), show (2 * d + w) / 2 = d by omega, show (2 * d + w) % 2 = w by omega]
    rw [k4] at e1
    have u2 := rl_u2 hr k k1
    rw [show (I 15 k).toNatClampNeg = 2 * d + w from k3] at u2
    have u3 := rl_u3 hr k k1
    refine ⟨some (.int (nI k)), some (.int (I 16 k)), ?_⟩
    rw [r0]
    have o1 : ∀ (N : pu_M) (a : Nat) (u : Int32), (pz_rp N a u).1 72 = N.1 72 := fun N a u => funext (fun b => pz_rp_o _ _ _ _ _ (by decide) (by decide))
    obtain ⟨M1, h1⟩ : ∃ X, X = pz_rp M n (nI d) := ⟨_, rfl⟩
    obtain ⟨M2, h2⟩ : ∃ X, X = pz_rp M1 (n + 1) (I 39 (2 * d + w)) := ⟨_, rfl⟩
    obtain ⟨M3, h3⟩ : ∃ X, X = pz_rp M2 (n + 2) (nI w) := ⟨_, rfl⟩
    obtain ⟨M4, h4⟩ : ∃ X, X = pz_rp M3 (n + 3) (I 16 k >>> 16) := ⟨_, rfl⟩
    obtain ⟨M5, h5⟩ : ∃ X, X = pz_rp M4 (n + 4) (I 16 k >>> 8) := ⟨_, rfl⟩
    have b1 : pu_fx M1 ∧ M1.1 72 = M.1 72 ∧ M1.1 71 8 = nI (n + 1) := by rw [h1]; exact ⟨hx, o1 _ _ _, pz_rp_8 _ _ _⟩
    have b2 : pu_fx M2 ∧ M2.1 72 = M.1 72 ∧ M2.1 71 8 = nI (n + 2) := by rw [h2]; exact ⟨b1.1, (o1 _ _ _).trans b1.2.1, pz_rp_8 _ _ _⟩
    have b3 : pu_fx M3 ∧ M3.1 72 = M.1 72 ∧ M3.1 71 8 = nI (n + 3) := by rw [h3]; exact ⟨b2.1, (o1 _ _ _).trans b2.2.1, pz_rp_8 _ _ _⟩
    have b4 : pu_fx M4 ∧ M4.1 72 = M.1 72 ∧ M4.1 71 8 = nI (n + 4) := by rw [h4]; exact ⟨b3.1, (o1 _ _ _).trans b3.2.1, pz_rp_8 _ _ _⟩
    have b5 : pu_fx M5 ∧ M5.1 72 = M.1 72 ∧ M5.1 71 8 = nI (n + 5) := by rw [h5]; exact ⟨b4.1, (o1 _ _ _).trans b4.2.1, pz_rp_8 _ _ _⟩
    have p1 := r_put hx n (nI d) hn (by omega)
    have p2 := r_put b1.1 (n + 1) (I 39 (2 * d + w)) b1.2.2 (by omega)
    have p3 := r_put b2.1 (n + 2) (nI w) b2.2.2 (by omega)
    have p4 := r_put b3.1 (n + 3) (I 16 k >>> 16) b3.2.2 (by omega)
    have p5 := r_put b4.1 (n + 4) (I 16 k >>> 8) b4.2.2 (by omega)
    have p6 := r_put b5.1 (n + 5) (I 16 k) b5.2.2 (by omega)
    have fin : pz_rw M n [nI d, I 39 (2 * d + w), nI w, I 16 k >>> 16, I 16 k >>> 8, I 16 k] = pz_rp M5 (n + 5) (I 16 k) := by
      rw [h5, h4, h3, h2, h1]
      rfl
    rw [fin]
    rw [← h1] at p1
    rw [← h2] at p2
    rw [← h3] at p3
    rw [← h4] at p4
    rw [← h5] at p5
    generalize pz_rp M5 (n + 5) (I 16 k) = M6 at *
    clear h1 h2 h3 h4 h5
    have k16 : ((16 : Int32) &&& 31) = 16 := by decide
    have k8 : ((8 : Int32) &&& 31) = 8 := by decide
    rw [qX12_list_29]
    simp [bX12_list_29, bX12_list_130, bX12_list_52, bX12_list_91, bX12_list_124, a_ai, a_ald, a_cv, a_gr, a_iadd, a_icge, a_icne, a_ild, a_imul, a_inc, a_ishr, a_ist, a_push, fx_71_0 hx, sh_71, sh_72, pu_rv, pu_as, Value.category, pu_bk, pu_kl, List.replicate, pu_wi_1, pu_wi_2, nl_add, nl_ladd, nl_aa, nl_mul, nl_rmul, nl_mm, pu_qe0, pu_qe1, k16, k8, hc, e1, n1, u3, u2, p1, p2, p3, p4, p5, p6, fx_71_0 b1.1, b1.2.1]
    all_goals try simp (maxSteps := 400000) (disch := omega) [nl_tle, nl_fle, nl_tlt, nl_flt, nl_teq, nl_feq, nl_sub, nl_ss, nl_lt, nl_llt, nl_ltt, nl_le, nl_lle, nl_lee, nl_eq, nl_leq, nl_ee, nl_div, nl_rem, nl_cl, nl_n1, nl_n2, nl_n3, nl_n4, nl_add, nl_ladd, nl_aa, nl_mul, nl_rmul, nl_mm, pu_wi_1, pu_wi_2, bX12_list_29, bX12_list_130, bX12_list_52, bX12_list_91, bX12_list_124, a_ai, a_ald, a_cv, a_gr, a_iadd, a_icge, a_icne, a_ild, a_imul, a_inc, a_ishr, a_ist, a_push, fx_71_0 hx, sh_71, sh_72, pu_rv, pu_as, Value.category, pu_bk, pu_kl, pu_qe0, pu_qe1, k16, k8, hc, e1, n1, u3, u2, p1, p2, p3, p4, p5, p6, fx_71_0 b1.1, b1.2.1]
    all_goals try simp [bX12_list_29, bX12_list_130, bX12_list_52, bX12_list_91, bX12_list_124, a_ai, a_ald, a_cv, a_gr, a_iadd, a_icge, a_icne, a_ild, a_imul, a_inc, a_ishr, a_ist, a_push, fx_71_0 hx, sh_71, sh_72, pu_rv, pu_as, Value.category, pu_bk, pu_kl, List.replicate, pu_wi_1, pu_wi_2, nl_add, nl_ladd, nl_aa, nl_mul, nl_rmul, nl_mm, pu_qe0, pu_qe1, k16, k8, hc, e1, n1, u3, u2, p1, p2, p3, p4, p5, p6, fx_71_0 b1.1, b1.2.1]
    all_goals try simp (maxSteps := 400000) (disch := omega) [nl_tle, nl_fle, nl_tlt, nl_flt, nl_teq, nl_feq, nl_sub, nl_ss, nl_lt, nl_llt, nl_ltt, nl_le, nl_lle, nl_lee, nl_eq, nl_leq, nl_ee, nl_div, nl_rem, nl_cl, nl_n1, nl_n2, nl_n3, nl_n4, nl_add, nl_ladd, nl_aa, nl_mul, nl_rmul, nl_mm, pu_wi_1, pu_wi_2, bX12_list_29, bX12_list_130, bX12_list_52, bX12_list_91, bX12_list_124, a_ai, a_ald, a_cv, a_gr, a_iadd, a_icge, a_icne, a_ild, a_imul, a_inc, a_ishr, a_ist, a_push, fx_71_0 hx, sh_71, sh_72, pu_rv, pu_as, Value.category, pu_bk, pu_kl, pu_qe0, pu_qe1, k16, k8, hc, e1, n1, u3, u2, p1, p2, p3, p4, p5, p6, fx_71_0 b1.1, b1.2.1]
theorem r_list_l (hw : pu_WF I L) (y : Int32) (hy : ¬ y < 0 ∧ ¬ 109574 < y) : ∀ (m d n : Nat) (M : pu_M) (t3 t4 t5 : Option Value), d + m = cD I → n ≤ 12 * d → pu_fx M → pu_Rel I L (M.1 72) → M.1 71 8 = nI n → pu_r 532 [some (.ref 71), some (.int y), some (.int (nI d)), t3, t4, t5] [] M = some (some (.int (nI (n + (pz_zl I y (2 * m) (2 * d)).length))), pz_rw M n (pz_zl I y (2 * m) (2 * d)))
  | 0, d, n, M, t3, t4, t5, h, hn2, hx, hr, hn => by
    have hD := wx_bD hw
    have hc : nI (cD I) ≤ nI d := nI_le (by omega) (by omega)
    rw [qX12_list_17]
    simp [bX12_list_17, bX12_list_136, a_ai, a_ald, a_gi, a_gr, a_icge, a_ild, a_iret, a_ist, a_push, fx_71_0 hx, sh_71, sh_72, pu_rv, pu_as, Value.category, pu_bk, pu_kl, List.replicate, pu_wi_1, pu_wi_2, nl_add, nl_ladd, nl_aa, nl_mul, nl_rmul, nl_mm, pu_qe0, pu_qe1, rl_h4 hr, hc, hn, pz_zl, pz_rw]
    all_goals try simp (maxSteps := 400000) (disch := omega) [nl_tle, nl_fle, nl_tlt, nl_flt, nl_teq, nl_feq, nl_sub, nl_ss, nl_lt, nl_llt, nl_ltt, nl_le, nl_lle, nl_lee, nl_eq, nl_leq, nl_ee, nl_div, nl_rem, nl_cl, nl_n1, nl_n2, nl_n3, nl_n4, nl_add, nl_ladd, nl_aa, nl_mul, nl_rmul, nl_mm, pu_wi_1, pu_wi_2, bX12_list_17, bX12_list_136, a_ai, a_ald, a_gi, a_gr, a_icge, a_ild, a_iret, a_ist, a_push, fx_71_0 hx, sh_71, sh_72, pu_rv, pu_as, Value.category, pu_bk, pu_kl, pu_qe0, pu_qe1, rl_h4 hr, hc, hn, pz_zl, pz_rw]
    all_goals try simp [bX12_list_17, bX12_list_136, a_ai, a_ald, a_gi, a_gr, a_icge, a_ild, a_iret, a_ist, a_push, fx_71_0 hx, sh_71, sh_72, pu_rv, pu_as, Value.category, pu_bk, pu_kl, List.replicate, pu_wi_1, pu_wi_2, nl_add, nl_ladd, nl_aa, nl_mul, nl_rmul, nl_mm, pu_qe0, pu_qe1, rl_h4 hr, hc, hn, pz_zl, pz_rw]
    all_goals try simp (maxSteps := 400000) (disch := omega) [nl_tle, nl_fle, nl_tlt, nl_flt, nl_teq, nl_feq, nl_sub, nl_ss, nl_lt, nl_llt, nl_ltt, nl_le, nl_lle, nl_lee, nl_eq, nl_leq, nl_ee, nl_div, nl_rem, nl_cl, nl_n1, nl_n2, nl_n3, nl_n4, nl_add, nl_ladd, nl_aa, nl_mul, nl_rmul, nl_mm, pu_wi_1, pu_wi_2, bX12_list_17, bX12_list_136, a_ai, a_ald, a_gi, a_gr, a_icge, a_ild, a_iret, a_ist, a_push, fx_71_0 hx, sh_71, sh_72, pu_rv, pu_as, Value.category, pu_bk, pu_kl, pu_qe0, pu_qe1, rl_h4 hr, hc, hn, pz_zl, pz_rw]
  | m + 1, d, n, M, t3, t4, t5, h, hn2, hx, hr, hn => by
    have hD := wx_bD hw
    have hc : ¬ nI (cD I) ≤ nI d := nI_ge (by omega) (by omega)
    have key : ∀ (vs : List Int32) (N : pu_M) (n : Nat), N.1 71 8 = nI n → (pz_rw N n vs).1 71 8 = nI (n + vs.length) := fun vs => by
      induction vs with
      | nil => exact fun N n h => h
      | cons v vs ih =>
        intro N n _
        show (pz_rw (pz_rp N n v) (n + 1) vs).1 71 8 = _
        rw [ih _ _ (pz_rp_8 _ _ _), show n + (v :: vs).length = n + 1 + vs.length by simp; omega]
    have fxk : ∀ (vs : List Int32) (N : pu_M) (n : Nat), pu_fx N → pu_fx (pz_rw N n vs) := fun vs N n h a b r q => by
      rw [pz_rw_2]
      exact h a b r q
    have rk : ∀ (vs : List Int32) (N : pu_M) (n : Nat), pu_Rel I L (N.1 72) → pu_Rel I L ((pz_rw N n vs).1 72) := fun vs N n h => by
      rw [show (pz_rw N n vs).1 72 = N.1 72 from funext (fun b => pz_rw_o _ _ _ _ _ (by omega) (by omega))]
      exact h
    have la := pz_rc_l I y (2 * d)
    have lb := pz_rc_l I y (2 * d + 1)
    obtain ⟨a4, a5, a⟩ := r_list_i hx hr hw d 0 n (by omega) (by omega) y hy hn (by omega) t4 t5
    rw [show 2 * d + 0 = 2 * d by omega, nI_0] at a
    obtain ⟨b4, b5, b⟩ := r_list_i (M := pz_rw M n (pz_rc I y (2 * d))) (fxk _ _ _ hx) (rk _ _ _ hr) hw d 1 (n + (pz_rc I y (2 * d)).length) (by omega) (by omega) y hy (key _ _ _ hn) (by omega) a4 a5
    have ih := r_list_l hw y hy m (d + 1) (n + (pz_rc I y (2 * d)).length + (pz_rc I y (2 * d + 1)).length) (pz_rw (pz_rw M n (pz_rc I y (2 * d))) (n + (pz_rc I y (2 * d)).length) (pz_rc I y (2 * d + 1))) (some (.int (nI (1 + 1)))) b4 b5 (by omega) (by omega) (fxk _ _ _ (fxk _ _ _ hx)) (rk _ _ _ (rk _ _ _ hr)) (key _ _ _ (key _ _ _ hn))
    rw [show 2 * (m + 1) = 2 * m + 1 + 1 by omega, pz_zl, pz_zl, show 2 * d + 1 + 1 = 2 * (d + 1) by omega]
    rw [pz_rw_app, pz_rw_app, List.length_append, List.length_append, ← Nat.add_assoc, ← Nat.add_assoc]
    rw [← ih]
    have h2 : 2 ≤ nI (1 + 1) := by decide
    have z : pu_r 533 [some (.ref 71), some (.int y), some (.int (nI d)), some (.int 0), t4, t5] [] M = pu_r 532 [some (.ref 71), some (.int y), some (.int (nI (d + 1))), some (.int (nI (1 + 1))), b4, b5] [] (pz_rw (pz_rw M n (pz_rc I y (2 * d))) (n + (pz_rc I y (2 * d)).length) (pz_rc I y (2 * d + 1))) := by
      rw [a, b]
      generalize pz_rw (pz_rw M n (pz_rc I y (2 * d))) (n + (pz_rc I y (2 * d)).length) (pz_rc I y (2 * d + 1)) = N
      rw [qX12_list_29]
      simp [bX12_list_29, bX12_list_130, bX12_list_52, bX12_list_91, bX12_list_124, a_ai, a_ald, a_cv, a_gr, a_iadd, a_icge, a_icne, a_ild, a_imul, a_inc, a_ishr, a_ist, a_push, sh_71, sh_72, pu_rv, pu_as, Value.category, pu_bk, pu_kl, List.replicate, pu_wi_1, pu_wi_2, nl_add, nl_ladd, nl_aa, nl_mul, nl_rmul, nl_mm, pu_qe0, pu_qe1, h2]
      all_goals try simp (maxSteps := 400000) (disch := omega) [nl_tle, nl_fle, nl_tlt, nl_flt, nl_teq, nl_feq, nl_sub, nl_ss, nl_lt, nl_llt, nl_ltt, nl_le, nl_lle, nl_lee, nl_eq, nl_leq, nl_ee, nl_div, nl_rem, nl_cl, nl_n1, nl_n2, nl_n3, nl_n4, nl_add, nl_ladd, nl_aa, nl_mul, nl_rmul, nl_mm, pu_wi_1, pu_wi_2, bX12_list_29, bX12_list_130, bX12_list_52, bX12_list_91, bX12_list_124, a_ai, a_ald, a_cv, a_gr, a_iadd, a_icge, a_icne, a_ild, a_imul, a_inc, a_ishr, a_ist, a_push, sh_71, sh_72, pu_rv, pu_as, Value.category, pu_bk, pu_kl, pu_qe0, pu_qe1, h2]
      all_goals try simp [bX12_list_29, bX12_list_130, bX12_list_52, bX12_list_91, bX12_list_124, a_ai, a_ald, a_cv, a_gr, a_iadd, a_icge, a_icne, a_ild, a_imul, a_inc, a_ishr, a_ist, a_push, sh_71, sh_72, pu_rv, pu_as, Value.category, pu_bk, pu_kl, List.replicate, pu_wi_1, pu_wi_2, nl_add, nl_ladd, nl_aa, nl_mul, nl_rmul, nl_mm, pu_qe0, pu_qe1, h2]
      all_goals try simp (maxSteps := 400000) (disch := omega) [nl_tle, nl_fle, nl_tlt, nl_flt, nl_teq, nl_feq, nl_sub, nl_ss, nl_lt, nl_llt, nl_ltt, nl_le, nl_lle, nl_lee, nl_eq, nl_leq, nl_ee, nl_div, nl_rem, nl_cl, nl_n1, nl_n2, nl_n3, nl_n4, nl_add, nl_ladd, nl_aa, nl_mul, nl_rmul, nl_mm, pu_wi_1, pu_wi_2, bX12_list_29, bX12_list_130, bX12_list_52, bX12_list_91, bX12_list_124, a_ai, a_ald, a_cv, a_gr, a_iadd, a_icge, a_icne, a_ild, a_imul, a_inc, a_ishr, a_ist, a_push, sh_71, sh_72, pu_rv, pu_as, Value.category, pu_bk, pu_kl, pu_qe0, pu_qe1, h2]
    generalize pz_rw (pz_rw M n (pz_rc I y (2 * d))) (n + (pz_rc I y (2 * d)).length) (pz_rc I y (2 * d + 1)) = N at *
    rw [qX12_list_17]
    simp [bX12_list_17, bX12_list_136, a_ai, a_ald, a_gi, a_gr, a_icge, a_ild, a_iret, a_ist, a_push, fx_71_0 hx, sh_71, sh_72, pu_rv, pu_as, Value.category, pu_bk, pu_kl, List.replicate, pu_wi_1, pu_wi_2, nl_add, nl_ladd, nl_aa, nl_mul, nl_rmul, nl_mm, pu_qe0, pu_qe1, rl_h4 hr, hc, z]
    all_goals try simp (maxSteps := 400000) (disch := omega) [nl_tle, nl_fle, nl_tlt, nl_flt, nl_teq, nl_feq, nl_sub, nl_ss, nl_lt, nl_llt, nl_ltt, nl_le, nl_lle, nl_lee, nl_eq, nl_leq, nl_ee, nl_div, nl_rem, nl_cl, nl_n1, nl_n2, nl_n3, nl_n4, nl_add, nl_ladd, nl_aa, nl_mul, nl_rmul, nl_mm, pu_wi_1, pu_wi_2, bX12_list_17, bX12_list_136, a_ai, a_ald, a_gi, a_gr, a_icge, a_ild, a_iret, a_ist, a_push, fx_71_0 hx, sh_71, sh_72, pu_rv, pu_as, Value.category, pu_bk, pu_kl, pu_qe0, pu_qe1, rl_h4 hr, hc, z]
    all_goals try simp [bX12_list_17, bX12_list_136, a_ai, a_ald, a_gi, a_gr, a_icge, a_ild, a_iret, a_ist, a_push, fx_71_0 hx, sh_71, sh_72, pu_rv, pu_as, Value.category, pu_bk, pu_kl, List.replicate, pu_wi_1, pu_wi_2, nl_add, nl_ladd, nl_aa, nl_mul, nl_rmul, nl_mm, pu_qe0, pu_qe1, rl_h4 hr, hc, z]
    all_goals try simp (maxSteps := 400000) (disch := omega) [nl_tle, nl_fle, nl_tlt, nl_flt, nl_teq, nl_feq, nl_sub, nl_ss, nl_lt, nl_llt, nl_ltt, nl_le, nl_lle, nl_lee, nl_eq, nl_leq, nl_ee, nl_div, nl_rem, nl_cl, nl_n1, nl_n2, nl_n3, nl_n4, nl_add, nl_ladd, nl_aa, nl_mul, nl_rmul, nl_mm, pu_wi_1, pu_wi_2, bX12_list_17, bX12_list_136, a_ai, a_ald, a_gi, a_gr, a_icge, a_ild, a_iret, a_ist, a_push, fx_71_0 hx, sh_71, sh_72, pu_rv, pu_as, Value.category, pu_bk, pu_kl, pu_qe0, pu_qe1, rl_h4 hr, hc, z]
end
theorem op_list (y : Int32) : pu_op pu_Inv 221 354 [.int y] := by
  intro M h
  have hx := h.1
  have hI := pu_ag5 M
  have hr := pu_hR h
  have hw := pu_hS h
  have hD := wx_bD hw
  have e5 := c_isDay y M
  by_cases hy : ¬ y < 0 ∧ ¬ 109574 < y
  · rw [pu_q1 hy] at e5
    obtain ⟨N, n1, n2, n3, n4⟩ := c_wholes hx hI hw y
    have hxN : pu_fx N := fun a k r q => by
      rw [n1.1]
      exact hx a k r q
    obtain ⟨P, hP⟩ : ∃ P, P = pu_wi N 3 0 0 := ⟨_, rfl⟩
    have oP : ∀ a j, a ≠ 3 → a ≠ 70 → P.1 a j = M.1 a j := fun a j q1 q2 => by
      rw [hP, pu_wi_1, if_neg q1]
      exact n1.2 a j q2
    have hxP : pu_fx P := by rw [hP]; exact hxN
    have P70 : ∀ j, P.1 70 j = N.1 70 j := fun j => by rw [hP, pu_wi_1, if_neg (by decide)]
    have le := pz_zl_l (pu_si M 5) y (2 * cD (pu_si M 5)) 0
    have l1 := c_list_l hw y (2 * cD (pu_si M 5)) 0 0 P (by omega) (by omega) hxP (fun a j q1 q2 => by rw [oP a j (by omega) (by omega)]; exact hI a j q1 q2) (by rw [hP]; simp [pu_wi_1]; rfl) (fun k q1 q2 => by rw [P70]; exact n2 k q1 q2) (fun j q1 q2 => by rw [P70]; exact n3 j q1 q2)
    rw [Nat.zero_add] at l1
    obtain ⟨Z, hZ⟩ : ∃ Z, Z = pz_zl (pu_si M 5) y (2 * cD (pu_si M 5)) 0 := ⟨_, rfl⟩
    rw [← hZ] at l1 le
    obtain ⟨Q, hQ⟩ : ∃ Q, Q = pz_cw P 0 Z := ⟨_, rfl⟩
    have hP2 : P.2 = M.2 := by rw [hP]; exact n1.1
    have oQ : ∀ a j, a ≠ 3 → a ≠ 4 → a ≠ 70 → Q.1 a j = M.1 a j := fun a j q1 q2 q3 => by
      rw [hQ, pz_cw_o _ _ _ _ _ (fun z => q1 z.1) q2]
      exact oP a j q1 q3
    have hQ2 : Q.2 = M.2 := by rw [hQ, pz_cw_2, hP2]
    have hxQ : pu_fx Q := fun a k r q => by
      rw [hQ2]
      exact hx a k r q
    have hrQ : pu_Rel (pu_si M 5) (pu_sj M 5) ((pu_wi Q 71 8 0).1 72) := by
      rw [pu_s_wo (by decide), show Q.1 72 = M.1 72 from funext (fun j => oQ 72 j (by decide) (by decide) (by decide))]
      exact hr
    have l2 := r_list_l hw y hy (cD (pu_si M 5)) 0 0 (pu_wi Q 71 8 0) none none none (by omega) (by omega) hxQ hrQ (by simp [pu_wi_1]; rfl)
    rw [Nat.zero_add, Nat.mul_zero, ← hZ, nI_0] at l2
    rw [← hQ, nI_0] at l1
    refine ⟨nI Z.length, Q, pz_rw (pu_wi Q 71 8 0) 0 Z, ?_, ?_, ?_⟩
    · have fx1 := fx_0_1 hxN
      rw [hP] at l1
      rw [qX11_list]
      simp [a_ent, bX11_list_0, bX11_list_10, a_ald, a_cs, a_cv, a_gr, a_ifne, a_ild, a_iret, a_ist, a_pi, a_push, fx_0_1 hx, fx_0_2 hx, fx_0_7 hx, sh_0, sh_1, sh_3, sh_5, sh_70, pu_rv, pu_as, Value.category, pu_bk, pu_kl, List.replicate, pu_wi_1, pu_wi_2, nl_add, nl_ladd, nl_aa, nl_mul, nl_rmul, nl_mm, pu_qe0, pu_qe1, e5, n4, fx1, l1]
      all_goals try simp (maxSteps := 400000) (disch := omega) [nl_tle, nl_fle, nl_tlt, nl_flt, nl_teq, nl_feq, nl_sub, nl_ss, nl_lt, nl_llt, nl_ltt, nl_le, nl_lle, nl_lee, nl_eq, nl_leq, nl_ee, nl_div, nl_rem, nl_cl, nl_n1, nl_n2, nl_n3, nl_n4, nl_add, nl_ladd, nl_aa, nl_mul, nl_rmul, nl_mm, pu_wi_1, pu_wi_2, bX11_list_0, bX11_list_10, a_ald, a_cs, a_cv, a_gr, a_ifne, a_ild, a_iret, a_ist, a_pi, a_push, fx_0_1 hx, fx_0_2 hx, fx_0_7 hx, sh_0, sh_1, sh_3, sh_5, sh_70, pu_rv, pu_as, Value.category, pu_bk, pu_kl, pu_qe0, pu_qe1, e5, n4, fx1, l1]
      all_goals try simp [bX11_list_0, bX11_list_10, a_ald, a_cs, a_cv, a_gr, a_ifne, a_ild, a_iret, a_ist, a_pi, a_push, fx_0_1 hx, fx_0_2 hx, fx_0_7 hx, sh_0, sh_1, sh_3, sh_5, sh_70, pu_rv, pu_as, Value.category, pu_bk, pu_kl, List.replicate, pu_wi_1, pu_wi_2, nl_add, nl_ladd, nl_aa, nl_mul, nl_rmul, nl_mm, pu_qe0, pu_qe1, e5, n4, fx1, l1]
      all_goals try simp (maxSteps := 400000) (disch := omega) [nl_tle, nl_fle, nl_tlt, nl_flt, nl_teq, nl_feq, nl_sub, nl_ss, nl_lt, nl_llt, nl_ltt, nl_le, nl_lle, nl_lee, nl_eq, nl_leq, nl_ee, nl_div, nl_rem, nl_cl, nl_n1, nl_n2, nl_n3, nl_n4, nl_add, nl_ladd, nl_aa, nl_mul, nl_rmul, nl_mm, pu_wi_1, pu_wi_2, bX11_list_0, bX11_list_10, a_ald, a_cs, a_cv, a_gr, a_ifne, a_ild, a_iret, a_ist, a_pi, a_push, fx_0_1 hx, fx_0_2 hx, fx_0_7 hx, sh_0, sh_1, sh_3, sh_5, sh_70, pu_rv, pu_as, Value.category, pu_bk, pu_kl, pu_qe0, pu_qe1, e5, n4, fx1, l1]
    · have f6 := r_isDay y Q
      rw [pu_q1 hy] at f6
      rw [qX12_list]
      simp [a_ent, bX12_list_0, bX12_list_10, a_ald, a_cs, a_ifne, a_ild, a_iret, a_ist, a_pi, a_push, sh_71, pu_rv, pu_as, Value.category, pu_bk, pu_kl, List.replicate, pu_wi_1, pu_wi_2, nl_add, nl_ladd, nl_aa, nl_mul, nl_rmul, nl_mm, pu_qe0, pu_qe1, f6, l2]
      all_goals try simp (maxSteps := 400000) (disch := omega) [nl_tle, nl_fle, nl_tlt, nl_flt, nl_teq, nl_feq, nl_sub, nl_ss, nl_lt, nl_llt, nl_ltt, nl_le, nl_lle, nl_lee, nl_eq, nl_leq, nl_ee, nl_div, nl_rem, nl_cl, nl_n1, nl_n2, nl_n3, nl_n4, nl_add, nl_ladd, nl_aa, nl_mul, nl_rmul, nl_mm, pu_wi_1, pu_wi_2, bX12_list_0, bX12_list_10, a_ald, a_cs, a_ifne, a_ild, a_iret, a_ist, a_pi, a_push, sh_71, pu_rv, pu_as, Value.category, pu_bk, pu_kl, pu_qe0, pu_qe1, f6, l2]
      all_goals try simp [bX12_list_0, bX12_list_10, a_ald, a_cs, a_ifne, a_ild, a_iret, a_ist, a_pi, a_push, sh_71, pu_rv, pu_as, Value.category, pu_bk, pu_kl, List.replicate, pu_wi_1, pu_wi_2, nl_add, nl_ladd, nl_aa, nl_mul, nl_rmul, nl_mm, pu_qe0, pu_qe1, f6, l2]
      all_goals try simp (maxSteps := 400000) (disch := omega) [nl_tle, nl_fle, nl_tlt, nl_flt, nl_teq, nl_feq, nl_sub, nl_ss, nl_lt, nl_llt, nl_ltt, nl_le, nl_lle, nl_lee, nl_eq, nl_leq, nl_ee, nl_div, nl_rem, nl_cl, nl_n1, nl_n2, nl_n3, nl_n4, nl_add, nl_ladd, nl_aa, nl_mul, nl_rmul, nl_mm, pu_wi_1, pu_wi_2, bX12_list_0, bX12_list_10, a_ald, a_cs, a_ifne, a_ild, a_iret, a_ist, a_pi, a_push, sh_71, pu_rv, pu_as, Value.category, pu_bk, pu_kl, pu_qe0, pu_qe1, f6, l2]
    · have oR : ∀ a j, ¬ (a = 71 ∧ j = 8) → a ≠ 77 → (pz_rw (pu_wi Q 71 8 0) 0 Z).1 a j = Q.1 a j := fun a j q1 q2 => by
        rw [pz_rw_o _ _ _ _ _ q1 q2, pu_wi_1]
        grind
      have w := pz_wr Z P (pu_wi Q 71 8 0) 0 (by rw [hP]; simp [pu_wi_1]; rfl) (by simp [pu_wi_1]; rfl) (fun j hj => by omega)
      rw [Nat.zero_add, ← hQ] at w
      have e2 : (pz_rw (pu_wi Q 71 8 0) 0 Z).2 = M.2 := by
        rw [pz_rw_2]
        exact hQ2
      refine pu_Inv_sc h ?_ (by rw [e2]) (fun a j _ => by rw [e2]) (fun a j q => ?_) (fun a j _ => by rw [e2]) (pu_tp_fr h.2.1 ?_ ?_ (fun j => ?_) (fun j => ?_)) ⟨Z.length, by omega, ?_, w.2.1, fun j hj => ?_⟩
      · intro a k r q
        rw [e2]
        exact hx a k r q
      · rw [oR a j (by omega) (by omega), oQ a j (by omega) (by omega) (by omega)]
      · rw [oR _ _ (by omega) (by omega), oQ _ _ (by omega) (by omega) (by omega)]
      · rw [oR _ _ (by omega) (by omega), oQ _ _ (by omega) (by omega) (by omega)]
      · rw [oR _ _ (by omega) (by omega), oQ _ _ (by omega) (by omega) (by omega)]
      · rw [oR _ _ (by omega) (by omega), oQ _ _ (by omega) (by omega) (by omega)]
      · rw [oR _ _ (by omega) (by omega)]
        exact w.1
      · rw [oR _ _ (by omega) (by omega)]
        exact w.2.2 j hj
  · rw [pu_q0 hy] at e5
    have e6 := r_isDay y M
    rw [pu_q0 hy] at e6
    refine ⟨-2, M, M, ?_, ?_, h⟩
    · rw [qX11_list]
      simp [a_ent, bX11_list_0, bX11_list_10, a_ald, a_cs, a_cv, a_gr, a_ifne, a_ild, a_iret, a_ist, a_pi, a_push, fx_0_1 hx, fx_0_2 hx, fx_0_7 hx, sh_0, sh_1, sh_3, sh_5, sh_70, pu_rv, pu_as, Value.category, pu_bk, pu_kl, List.replicate, pu_wi_1, pu_wi_2, nl_add, nl_ladd, nl_aa, nl_mul, nl_rmul, nl_mm, pu_qe0, pu_qe1, e5]
      all_goals try simp (maxSteps := 400000) (disch := omega) [nl_tle, nl_fle, nl_tlt, nl_flt, nl_teq, nl_feq, nl_sub, nl_ss, nl_lt, nl_llt, nl_ltt, nl_le, nl_lle, nl_lee, nl_eq, nl_leq, nl_ee, nl_div, nl_rem, nl_cl, nl_n1, nl_n2, nl_n3, nl_n4, nl_add, nl_ladd, nl_aa, nl_mul, nl_rmul, nl_mm, pu_wi_1, pu_wi_2, bX11_list_0, bX11_list_10, a_ald, a_cs, a_cv, a_gr, a_ifne, a_ild, a_iret, a_ist, a_pi, a_push, fx_0_1 hx, fx_0_2 hx, fx_0_7 hx, sh_0, sh_1, sh_3, sh_5, sh_70, pu_rv, pu_as, Value.category, pu_bk, pu_kl, pu_qe0, pu_qe1, e5]
      all_goals try simp [bX11_list_0, bX11_list_10, a_ald, a_cs, a_cv, a_gr, a_ifne, a_ild, a_iret, a_ist, a_pi, a_push, fx_0_1 hx, fx_0_2 hx, fx_0_7 hx, sh_0, sh_1, sh_3, sh_5, sh_70, pu_rv, pu_as, Value.category, pu_bk, pu_kl, List.replicate, pu_wi_1, pu_wi_2, nl_add, nl_ladd, nl_aa, nl_mul, nl_rmul, nl_mm, pu_qe0, pu_qe1, e5]
      all_goals try simp (maxSteps := 400000) (disch := omega) [nl_tle, nl_fle, nl_tlt, nl_flt, nl_teq, nl_feq, nl_sub, nl_ss, nl_lt, nl_llt, nl_ltt, nl_le, nl_lle, nl_lee, nl_eq, nl_leq, nl_ee, nl_div, nl_rem, nl_cl, nl_n1, nl_n2, nl_n3, nl_n4, nl_add, nl_ladd, nl_aa, nl_mul, nl_rmul, nl_mm, pu_wi_1, pu_wi_2, bX11_list_0, bX11_list_10, a_ald, a_cs, a_cv, a_gr, a_ifne, a_ild, a_iret, a_ist, a_pi, a_push, fx_0_1 hx, fx_0_2 hx, fx_0_7 hx, sh_0, sh_1, sh_3, sh_5, sh_70, pu_rv, pu_as, Value.category, pu_bk, pu_kl, pu_qe0, pu_qe1, e5]
    · rw [qX12_list]
      simp [a_ent, bX12_list_0, bX12_list_10, a_ald, a_cs, a_ifne, a_ild, a_iret, a_ist, a_pi, a_push, sh_71, pu_rv, pu_as, Value.category, pu_bk, pu_kl, List.replicate, pu_wi_1, pu_wi_2, nl_add, nl_ladd, nl_aa, nl_mul, nl_rmul, nl_mm, pu_qe0, pu_qe1, e6]
      all_goals try simp (maxSteps := 400000) (disch := omega) [nl_tle, nl_fle, nl_tlt, nl_flt, nl_teq, nl_feq, nl_sub, nl_ss, nl_lt, nl_llt, nl_ltt, nl_le, nl_lle, nl_lee, nl_eq, nl_leq, nl_ee, nl_div, nl_rem, nl_cl, nl_n1, nl_n2, nl_n3, nl_n4, nl_add, nl_ladd, nl_aa, nl_mul, nl_rmul, nl_mm, pu_wi_1, pu_wi_2, bX12_list_0, bX12_list_10, a_ald, a_cs, a_ifne, a_ild, a_iret, a_ist, a_pi, a_push, sh_71, pu_rv, pu_as, Value.category, pu_bk, pu_kl, pu_qe0, pu_qe1, e6]
      all_goals try simp [bX12_list_0, bX12_list_10, a_ald, a_cs, a_ifne, a_ild, a_iret, a_ist, a_pi, a_push, sh_71, pu_rv, pu_as, Value.category, pu_bk, pu_kl, List.replicate, pu_wi_1, pu_wi_2, nl_add, nl_ladd, nl_aa, nl_mul, nl_rmul, nl_mm, pu_qe0, pu_qe1, e6]
      all_goals try simp (maxSteps := 400000) (disch := omega) [nl_tle, nl_fle, nl_tlt, nl_flt, nl_teq, nl_feq, nl_sub, nl_ss, nl_lt, nl_llt, nl_ltt, nl_le, nl_lle, nl_lee, nl_eq, nl_leq, nl_ee, nl_div, nl_rem, nl_cl, nl_n1, nl_n2, nl_n3, nl_n4, nl_add, nl_ladd, nl_aa, nl_mul, nl_rmul, nl_mm, pu_wi_1, pu_wi_2, bX12_list_0, bX12_list_10, a_ald, a_cs, a_ifne, a_ild, a_iret, a_ist, a_pi, a_push, sh_71, pu_rv, pu_as, Value.category, pu_bk, pu_kl, pu_qe0, pu_qe1, e6]
