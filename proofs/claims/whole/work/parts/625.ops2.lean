/-! about, stands, day, as -/
def pu_ui (I : Nat → Nat → Int32) (a i : Nat) (v : Int32) : Nat → Nat → Int32 := fun b j => if b = a then (if j = i then v else I b j) else I b j
def pu_us (s : Nat → Int32) (i : Nat) (v : Int32) : Nat → Int32 := fun j => if j = i then v else s j
theorem pu_si_wi {M : pu_M} {a i : Nat} {v : Int32} (h1 : 5 ≤ a) (h2 : a < 58) : pu_si (pu_wi M a i v) 5 = pu_ui (pu_si M 5) a i v := by
  funext b j
  unfold pu_si pu_ui
  dsimp only
  rw [pu_wi_1]
  by_cases q : 5 ≤ b ∧ b < 58
  · rw [if_pos q, if_pos q, show b - 5 + 5 = b by omega]
  · rw [if_neg q, if_neg q, if_neg (by omega)]
theorem pu_si_wo {M : pu_M} {a i : Nat} {v : Int32} (h : a < 5 ∨ 58 ≤ a) : pu_si (pu_wi M a i v) 5 = pu_si M 5 := by
  funext b j
  unfold pu_si
  rw [pu_wi_1]
  by_cases q : 5 ≤ b ∧ b < 58
  · rw [if_pos q, if_pos q, if_neg (by omega)]
  · rw [if_neg q, if_neg q]
theorem pu_sj_wi {M : pu_M} {a i : Nat} {v : Int32} {b : Nat} : pu_sj (pu_wi M a i v) b = pu_sj M b := rfl
theorem pu_s_wi {M : pu_M} {i : Nat} {v : Int32} : (pu_wi M 72 i v).1 72 = pu_us (M.1 72) i v := by
  funext j
  rw [pu_wi_1, if_pos rfl]
  rfl
theorem pu_s_wo {M : pu_M} {a i : Nat} {v : Int32} (h : a ≠ 72) : (pu_wi M a i v).1 72 = M.1 72 := by
  funext j
  rw [pu_wi_1, if_neg (Ne.symm h)]
theorem op_about (x w : Int32) : pu_op pu_Inv 144 330 [.int x, .int w] := by
  intro M h
  have hx := h.1
  have hI := pu_ag5 M
  have hr := pu_hR h
  have hw := pu_hS h
  generalize pu_si M 5 = I at *
  have hb := wx_bD hw
  by_cases hd : ¬ x < 0 ∧ x < nI (cD I)
  · obtain ⟨d, hd2, rfl⟩ : ∃ d, d < cD I ∧ x = nI d := by
      rcases pk_ix x (n := cD I) (by omega) with q | q | q
      · exact absurd q hd.1
      · exact absurd hd.2 (Int32.not_lt.mpr q)
      · exact q
    have e1 := c_isDoor1 hx hI hw d hd2
    have e2 := r_isDoor1 hx hr hw d hd2
    have e3 := r_of0 hx hr hw d hd2
    have e4 := pu_srt_lt hw hd2
    have e5 : ∃ b : Int32, (b = 0 ∧ 2 ≤ pu_srt I d) ∨ (b = 1 ∧ ¬ 2 ≤ pu_srt I d) := by
      by_cases q : 2 ≤ pu_srt I d
      · exact ⟨0, Or.inl ⟨rfl, q⟩⟩
      · exact ⟨1, Or.inr ⟨rfl, q⟩⟩
    rcases pk_ix w (n := 10) (by omega) with q | q | ⟨j, hj, rfl⟩
    · have q3 := sw_neg q
      refine ⟨-1, M, M, ?_, ?_, h⟩
      · rw [qX11_about]
        simp [a_ent, bX11_about_0, bX11_about_16, bX11_about_72, bX11_about_84, bX11_about_97, bX11_about_112, bX11_about_127, bX11_about_142, bX11_about_159, bX11_about_176, bX11_about_193, bX11_about_206, bX11_about_219, a_ai, a_ald, a_cv, a_gr, a_iadd, a_ifne, a_ild, a_imul, a_iret, a_push, a_sw, ag_31 hI, ag_33 hI, ag_34 hI, ag_35 hI, ag_39 hI, ag_40 hI, ag_41 hI, fx_0_2 hx, fx_31_10 hx, fx_31_2 hx, fx_31_3 hx, fx_31_4 hx, fx_31_8 hx, fx_31_9 hx, fx_5_4 hx, sh_0, sh_31, sh_33, sh_34, sh_35, sh_39, sh_40, sh_41, sh_5, pu_rv, pu_as, Value.category, pu_bk, pu_kl, List.replicate, pu_wi_1, pu_wi_2, nl_add, nl_ladd, nl_aa, nl_mul, nl_rmul, nl_mm, pu_qe0, pu_qe1, e1, q3]
        all_goals try simp (maxSteps := 400000) (disch := omega) [nl_tle, nl_fle, nl_tlt, nl_flt, nl_teq, nl_feq, nl_sub, nl_ss, nl_lt, nl_llt, nl_ltt, nl_le, nl_lle, nl_lee, nl_eq, nl_leq, nl_ee, nl_div, nl_rem, nl_cl, nl_n1, nl_n2, nl_n3, nl_n4, nl_add, nl_ladd, nl_aa, nl_mul, nl_rmul, nl_mm, pu_wi_1, pu_wi_2, bX11_about_0, bX11_about_16, bX11_about_72, bX11_about_84, bX11_about_97, bX11_about_112, bX11_about_127, bX11_about_142, bX11_about_159, bX11_about_176, bX11_about_193, bX11_about_206, bX11_about_219, a_ai, a_ald, a_cv, a_gr, a_iadd, a_ifne, a_ild, a_imul, a_iret, a_push, a_sw, ag_31 hI, ag_33 hI, ag_34 hI, ag_35 hI, ag_39 hI, ag_40 hI, ag_41 hI, fx_0_2 hx, fx_31_10 hx, fx_31_2 hx, fx_31_3 hx, fx_31_4 hx, fx_31_8 hx, fx_31_9 hx, fx_5_4 hx, sh_0, sh_31, sh_33, sh_34, sh_35, sh_39, sh_40, sh_41, sh_5, pu_rv, pu_as, Value.category, pu_bk, pu_kl, pu_qe0, pu_qe1, e1, q3]
      · by_cases z : 2 ≤ pu_srt I d
        · rw [qX12_about]
          simp [a_ent, bX12_about_0, bX12_about_10, bX12_about_24, bX12_about_25, bX12_about_80, bX12_about_87, bX12_about_93, bX12_about_108, bX12_about_109, bX12_about_110, bX12_about_125, bX12_about_126, bX12_about_127, bX12_about_135, bX12_about_143, a_ald, a_cv, a_icge, a_ifeq, a_ifne, a_ild, a_iret, a_ist, a_isub, a_push, a_sw, sh_71, pu_rv, pu_as, Value.category, pu_bk, pu_kl, List.replicate, pu_wi_1, pu_wi_2, nl_add, nl_ladd, nl_aa, nl_mul, nl_rmul, nl_mm, pu_qe0, pu_qe1, e2, e3, z, q3]
          all_goals try simp (maxSteps := 400000) (disch := omega) [nl_tle, nl_fle, nl_tlt, nl_flt, nl_teq, nl_feq, nl_sub, nl_ss, nl_lt, nl_llt, nl_ltt, nl_le, nl_lle, nl_lee, nl_eq, nl_leq, nl_ee, nl_div, nl_rem, nl_cl, nl_n1, nl_n2, nl_n3, nl_n4, nl_add, nl_ladd, nl_aa, nl_mul, nl_rmul, nl_mm, pu_wi_1, pu_wi_2, bX12_about_0, bX12_about_10, bX12_about_24, bX12_about_25, bX12_about_80, bX12_about_87, bX12_about_93, bX12_about_108, bX12_about_109, bX12_about_110, bX12_about_125, bX12_about_126, bX12_about_127, bX12_about_135, bX12_about_143, a_ald, a_cv, a_icge, a_ifeq, a_ifne, a_ild, a_iret, a_ist, a_isub, a_push, a_sw, sh_71, pu_rv, pu_as, Value.category, pu_bk, pu_kl, pu_qe0, pu_qe1, e2, e3, z, q3]
        · rw [qX12_about]
          simp [a_ent, bX12_about_0, bX12_about_10, bX12_about_24, bX12_about_25, bX12_about_80, bX12_about_87, bX12_about_93, bX12_about_108, bX12_about_109, bX12_about_110, bX12_about_125, bX12_about_126, bX12_about_127, bX12_about_135, bX12_about_143, a_ald, a_cv, a_icge, a_ifeq, a_ifne, a_ild, a_iret, a_ist, a_isub, a_push, a_sw, sh_71, pu_rv, pu_as, Value.category, pu_bk, pu_kl, List.replicate, pu_wi_1, pu_wi_2, nl_add, nl_ladd, nl_aa, nl_mul, nl_rmul, nl_mm, pu_qe0, pu_qe1, e2, e3, z, q3]
          all_goals try simp (maxSteps := 400000) (disch := omega) [nl_tle, nl_fle, nl_tlt, nl_flt, nl_teq, nl_feq, nl_sub, nl_ss, nl_lt, nl_llt, nl_ltt, nl_le, nl_lle, nl_lee, nl_eq, nl_leq, nl_ee, nl_div, nl_rem, nl_cl, nl_n1, nl_n2, nl_n3, nl_n4, nl_add, nl_ladd, nl_aa, nl_mul, nl_rmul, nl_mm, pu_wi_1, pu_wi_2, bX12_about_0, bX12_about_10, bX12_about_24, bX12_about_25, bX12_about_80, bX12_about_87, bX12_about_93, bX12_about_108, bX12_about_109, bX12_about_110, bX12_about_125, bX12_about_126, bX12_about_127, bX12_about_135, bX12_about_143, a_ald, a_cv, a_icge, a_ifeq, a_ifne, a_ild, a_iret, a_ist, a_isub, a_push, a_sw, sh_71, pu_rv, pu_as, Value.category, pu_bk, pu_kl, pu_qe0, pu_qe1, e2, e3, z, q3]
    · have q3 := sw_pos (by omega) q
      have q4 := sw_big (by omega) q
      refine ⟨-1, M, M, ?_, ?_, h⟩
      · rw [qX11_about]
        simp [a_ent, bX11_about_0, bX11_about_16, bX11_about_72, bX11_about_84, bX11_about_97, bX11_about_112, bX11_about_127, bX11_about_142, bX11_about_159, bX11_about_176, bX11_about_193, bX11_about_206, bX11_about_219, a_ai, a_ald, a_cv, a_gr, a_iadd, a_ifne, a_ild, a_imul, a_iret, a_push, a_sw, ag_31 hI, ag_33 hI, ag_34 hI, ag_35 hI, ag_39 hI, ag_40 hI, ag_41 hI, fx_0_2 hx, fx_31_10 hx, fx_31_2 hx, fx_31_3 hx, fx_31_4 hx, fx_31_8 hx, fx_31_9 hx, fx_5_4 hx, sh_0, sh_31, sh_33, sh_34, sh_35, sh_39, sh_40, sh_41, sh_5, pu_rv, pu_as, Value.category, pu_bk, pu_kl, List.replicate, pu_wi_1, pu_wi_2, nl_add, nl_ladd, nl_aa, nl_mul, nl_rmul, nl_mm, pu_qe0, pu_qe1, e1, q3, q4]
        all_goals try simp (maxSteps := 400000) (disch := omega) [nl_tle, nl_fle, nl_tlt, nl_flt, nl_teq, nl_feq, nl_sub, nl_ss, nl_lt, nl_llt, nl_ltt, nl_le, nl_lle, nl_lee, nl_eq, nl_leq, nl_ee, nl_div, nl_rem, nl_cl, nl_n1, nl_n2, nl_n3, nl_n4, nl_add, nl_ladd, nl_aa, nl_mul, nl_rmul, nl_mm, pu_wi_1, pu_wi_2, bX11_about_0, bX11_about_16, bX11_about_72, bX11_about_84, bX11_about_97, bX11_about_112, bX11_about_127, bX11_about_142, bX11_about_159, bX11_about_176, bX11_about_193, bX11_about_206, bX11_about_219, a_ai, a_ald, a_cv, a_gr, a_iadd, a_ifne, a_ild, a_imul, a_iret, a_push, a_sw, ag_31 hI, ag_33 hI, ag_34 hI, ag_35 hI, ag_39 hI, ag_40 hI, ag_41 hI, fx_0_2 hx, fx_31_10 hx, fx_31_2 hx, fx_31_3 hx, fx_31_4 hx, fx_31_8 hx, fx_31_9 hx, fx_5_4 hx, sh_0, sh_31, sh_33, sh_34, sh_35, sh_39, sh_40, sh_41, sh_5, pu_rv, pu_as, Value.category, pu_bk, pu_kl, pu_qe0, pu_qe1, e1, q3, q4]
      · by_cases z : 2 ≤ pu_srt I d
        · rw [qX12_about]
          simp [a_ent, bX12_about_0, bX12_about_10, bX12_about_24, bX12_about_25, bX12_about_80, bX12_about_87, bX12_about_93, bX12_about_108, bX12_about_109, bX12_about_110, bX12_about_125, bX12_about_126, bX12_about_127, bX12_about_135, bX12_about_143, a_ald, a_cv, a_icge, a_ifeq, a_ifne, a_ild, a_iret, a_ist, a_isub, a_push, a_sw, sh_71, pu_rv, pu_as, Value.category, pu_bk, pu_kl, List.replicate, pu_wi_1, pu_wi_2, nl_add, nl_ladd, nl_aa, nl_mul, nl_rmul, nl_mm, pu_qe0, pu_qe1, e2, e3, z, q3, q4]
          all_goals try simp (maxSteps := 400000) (disch := omega) [nl_tle, nl_fle, nl_tlt, nl_flt, nl_teq, nl_feq, nl_sub, nl_ss, nl_lt, nl_llt, nl_ltt, nl_le, nl_lle, nl_lee, nl_eq, nl_leq, nl_ee, nl_div, nl_rem, nl_cl, nl_n1, nl_n2, nl_n3, nl_n4, nl_add, nl_ladd, nl_aa, nl_mul, nl_rmul, nl_mm, pu_wi_1, pu_wi_2, bX12_about_0, bX12_about_10, bX12_about_24, bX12_about_25, bX12_about_80, bX12_about_87, bX12_about_93, bX12_about_108, bX12_about_109, bX12_about_110, bX12_about_125, bX12_about_126, bX12_about_127, bX12_about_135, bX12_about_143, a_ald, a_cv, a_icge, a_ifeq, a_ifne, a_ild, a_iret, a_ist, a_isub, a_push, a_sw, sh_71, pu_rv, pu_as, Value.category, pu_bk, pu_kl, pu_qe0, pu_qe1, e2, e3, z, q3, q4]
        · rw [qX12_about]
          simp [a_ent, bX12_about_0, bX12_about_10, bX12_about_24, bX12_about_25, bX12_about_80, bX12_about_87, bX12_about_93, bX12_about_108, bX12_about_109, bX12_about_110, bX12_about_125, bX12_about_126, bX12_about_127, bX12_about_135, bX12_about_143, a_ald, a_cv, a_icge, a_ifeq, a_ifne, a_ild, a_iret, a_ist, a_isub, a_push, a_sw, sh_71, pu_rv, pu_as, Value.category, pu_bk, pu_kl, List.replicate, pu_wi_1, pu_wi_2, nl_add, nl_ladd, nl_aa, nl_mul, nl_rmul, nl_mm, pu_qe0, pu_qe1, e2, e3, z, q3, q4]
          all_goals try simp (maxSteps := 400000) (disch := omega) [nl_tle, nl_fle, nl_tlt, nl_flt, nl_teq, nl_feq, nl_sub, nl_ss, nl_lt, nl_llt, nl_ltt, nl_le, nl_lle, nl_lee, nl_eq, nl_leq, nl_ee, nl_div, nl_rem, nl_cl, nl_n1, nl_n2, nl_n3, nl_n4, nl_add, nl_ladd, nl_aa, nl_mul, nl_rmul, nl_mm, pu_wi_1, pu_wi_2, bX12_about_0, bX12_about_10, bX12_about_24, bX12_about_25, bX12_about_80, bX12_about_87, bX12_about_93, bX12_about_108, bX12_about_109, bX12_about_110, bX12_about_125, bX12_about_126, bX12_about_127, bX12_about_135, bX12_about_143, a_ald, a_cv, a_icge, a_ifeq, a_ifne, a_ild, a_iret, a_ist, a_isub, a_push, a_sw, sh_71, pu_rv, pu_as, Value.category, pu_bk, pu_kl, pu_qe0, pu_qe1, e2, e3, z, q3, q4]
    · have d1 : I 32 d ≠ 0 → I 38 d = -1 := fun q => Classical.byContradiction (fun z => q (wx_d1 hw d hd2 z).1)
      match j, hj with
      | 0, _ =>
        refine ⟨pu_srt I d, M, M, ?_, ?_, h⟩
        · rw [qX11_about]
          simp [a_ent, bX11_about_0, bX11_about_16, bX11_about_72, bX11_about_84, bX11_about_97, bX11_about_112, bX11_about_127, bX11_about_142, bX11_about_159, bX11_about_176, bX11_about_193, bX11_about_206, bX11_about_219, a_ai, a_ald, a_cv, a_gr, a_iadd, a_ifne, a_ild, a_imul, a_iret, a_push, a_sw, ag_31 hI, ag_33 hI, ag_34 hI, ag_35 hI, ag_39 hI, ag_40 hI, ag_41 hI, fx_0_2 hx, fx_31_10 hx, fx_31_2 hx, fx_31_3 hx, fx_31_4 hx, fx_31_8 hx, fx_31_9 hx, fx_5_4 hx, sh_0, sh_31, sh_33, sh_34, sh_35, sh_39, sh_40, sh_41, sh_5, pu_rv, pu_as, Value.category, pu_bk, pu_kl, List.replicate, pu_wi_1, pu_wi_2, nl_add, nl_ladd, nl_aa, nl_mul, nl_rmul, nl_mm, pu_qe0, pu_qe1, e1, nl_cl, nl_n0, c_sortOf hx hI hw d hd2]
          all_goals try simp (maxSteps := 400000) (disch := omega) [nl_tle, nl_fle, nl_tlt, nl_flt, nl_teq, nl_feq, nl_sub, nl_ss, nl_lt, nl_llt, nl_ltt, nl_le, nl_lle, nl_lee, nl_eq, nl_leq, nl_ee, nl_div, nl_rem, nl_cl, nl_n1, nl_n2, nl_n3, nl_n4, nl_add, nl_ladd, nl_aa, nl_mul, nl_rmul, nl_mm, pu_wi_1, pu_wi_2, bX11_about_0, bX11_about_16, bX11_about_72, bX11_about_84, bX11_about_97, bX11_about_112, bX11_about_127, bX11_about_142, bX11_about_159, bX11_about_176, bX11_about_193, bX11_about_206, bX11_about_219, a_ai, a_ald, a_cv, a_gr, a_iadd, a_ifne, a_ild, a_imul, a_iret, a_push, a_sw, ag_31 hI, ag_33 hI, ag_34 hI, ag_35 hI, ag_39 hI, ag_40 hI, ag_41 hI, fx_0_2 hx, fx_31_10 hx, fx_31_2 hx, fx_31_3 hx, fx_31_4 hx, fx_31_8 hx, fx_31_9 hx, fx_5_4 hx, sh_0, sh_31, sh_33, sh_34, sh_35, sh_39, sh_40, sh_41, sh_5, pu_rv, pu_as, Value.category, pu_bk, pu_kl, pu_qe0, pu_qe1, e1, nl_cl, nl_n0, c_sortOf hx hI hw d hd2]
        · have e6 := r_of0 hx hr hw d hd2
          by_cases z : 2 ≤ pu_srt I d
          · have z1 : I 32 d ≠ 0 := by rw [← e4]; exact z
            have z2 := wx_d2 hw d hd2 z1
            have z3 := wx_dn hw d hd2 (d1 z1)
            rw [qX12_about]
            simp [a_ent, bX12_about_0, bX12_about_10, bX12_about_24, bX12_about_25, bX12_about_80, bX12_about_87, bX12_about_93, bX12_about_108, bX12_about_109, bX12_about_110, bX12_about_125, bX12_about_126, bX12_about_127, bX12_about_135, bX12_about_143, a_ald, a_cv, a_icge, a_ifeq, a_ifne, a_ild, a_iret, a_ist, a_isub, a_push, a_sw, sh_71, pu_rv, pu_as, Value.category, pu_bk, pu_kl, List.replicate, pu_wi_1, pu_wi_2, nl_add, nl_ladd, nl_aa, nl_mul, nl_rmul, nl_mm, pu_qe0, pu_qe1, e2, e3, z, nl_cl, nl_n0, e6, z2.2.2.2.2.2.1, z2.2.2.2.2.2.2.1, z2.2.2.2.2.2.2.2.1, z3.1, z3.2.1, z3.2.2]
            all_goals try simp (maxSteps := 400000) (disch := omega) [nl_tle, nl_fle, nl_tlt, nl_flt, nl_teq, nl_feq, nl_sub, nl_ss, nl_lt, nl_llt, nl_ltt, nl_le, nl_lle, nl_lee, nl_eq, nl_leq, nl_ee, nl_div, nl_rem, nl_cl, nl_n1, nl_n2, nl_n3, nl_n4, nl_add, nl_ladd, nl_aa, nl_mul, nl_rmul, nl_mm, pu_wi_1, pu_wi_2, bX12_about_0, bX12_about_10, bX12_about_24, bX12_about_25, bX12_about_80, bX12_about_87, bX12_about_93, bX12_about_108, bX12_about_109, bX12_about_110, bX12_about_125, bX12_about_126, bX12_about_127, bX12_about_135, bX12_about_143, a_ald, a_cv, a_icge, a_ifeq, a_ifne, a_ild, a_iret, a_ist, a_isub, a_push, a_sw, sh_71, pu_rv, pu_as, Value.category, pu_bk, pu_kl, pu_qe0, pu_qe1, e2, e3, z, nl_cl, nl_n0, e6, z2.2.2.2.2.2.1, z2.2.2.2.2.2.2.1, z2.2.2.2.2.2.2.2.1, z3.1, z3.2.1, z3.2.2]
          · rw [qX12_about]
            simp [a_ent, bX12_about_0, bX12_about_10, bX12_about_24, bX12_about_25, bX12_about_80, bX12_about_87, bX12_about_93, bX12_about_108, bX12_about_109, bX12_about_110, bX12_about_125, bX12_about_126, bX12_about_127, bX12_about_135, bX12_about_143, a_ald, a_cv, a_icge, a_ifeq, a_ifne, a_ild, a_iret, a_ist, a_isub, a_push, a_sw, sh_71, pu_rv, pu_as, Value.category, pu_bk, pu_kl, List.replicate, pu_wi_1, pu_wi_2, nl_add, nl_ladd, nl_aa, nl_mul, nl_rmul, nl_mm, pu_qe0, pu_qe1, e2, e3, z, nl_cl, nl_n0, e6]
            all_goals try simp (maxSteps := 400000) (disch := omega) [nl_tle, nl_fle, nl_tlt, nl_flt, nl_teq, nl_feq, nl_sub, nl_ss, nl_lt, nl_llt, nl_ltt, nl_le, nl_lle, nl_lee, nl_eq, nl_leq, nl_ee, nl_div, nl_rem, nl_cl, nl_n1, nl_n2, nl_n3, nl_n4, nl_add, nl_ladd, nl_aa, nl_mul, nl_rmul, nl_mm, pu_wi_1, pu_wi_2, bX12_about_0, bX12_about_10, bX12_about_24, bX12_about_25, bX12_about_80, bX12_about_87, bX12_about_93, bX12_about_108, bX12_about_109, bX12_about_110, bX12_about_125, bX12_about_126, bX12_about_127, bX12_about_135, bX12_about_143, a_ald, a_cv, a_icge, a_ifeq, a_ifne, a_ild, a_iret, a_ist, a_isub, a_push, a_sw, sh_71, pu_rv, pu_as, Value.category, pu_bk, pu_kl, pu_qe0, pu_qe1, e2, e3, z, nl_cl, nl_n0, e6]
      | 1, _ =>
        refine ⟨I 34 d, M, M, ?_, ?_, h⟩
        · rw [qX11_about]
          simp [a_ent, bX11_about_0, bX11_about_16, bX11_about_72, bX11_about_84, bX11_about_97, bX11_about_112, bX11_about_127, bX11_about_142, bX11_about_159, bX11_about_176, bX11_about_193, bX11_about_206, bX11_about_219, a_ai, a_ald, a_cv, a_gr, a_iadd, a_ifne, a_ild, a_imul, a_iret, a_push, a_sw, ag_31 hI, ag_33 hI, ag_34 hI, ag_35 hI, ag_39 hI, ag_40 hI, ag_41 hI, fx_0_2 hx, fx_31_10 hx, fx_31_2 hx, fx_31_3 hx, fx_31_4 hx, fx_31_8 hx, fx_31_9 hx, fx_5_4 hx, sh_0, sh_31, sh_33, sh_34, sh_35, sh_39, sh_40, sh_41, sh_5, pu_rv, pu_as, Value.category, pu_bk, pu_kl, List.replicate, pu_wi_1, pu_wi_2, nl_add, nl_ladd, nl_aa, nl_mul, nl_rmul, nl_mm, pu_qe0, pu_qe1, e1, nl_cl, nl_n0, e1]
          all_goals try simp (maxSteps := 400000) (disch := omega) [nl_tle, nl_fle, nl_tlt, nl_flt, nl_teq, nl_feq, nl_sub, nl_ss, nl_lt, nl_llt, nl_ltt, nl_le, nl_lle, nl_lee, nl_eq, nl_leq, nl_ee, nl_div, nl_rem, nl_cl, nl_n1, nl_n2, nl_n3, nl_n4, nl_add, nl_ladd, nl_aa, nl_mul, nl_rmul, nl_mm, pu_wi_1, pu_wi_2, bX11_about_0, bX11_about_16, bX11_about_72, bX11_about_84, bX11_about_97, bX11_about_112, bX11_about_127, bX11_about_142, bX11_about_159, bX11_about_176, bX11_about_193, bX11_about_206, bX11_about_219, a_ai, a_ald, a_cv, a_gr, a_iadd, a_ifne, a_ild, a_imul, a_iret, a_push, a_sw, ag_31 hI, ag_33 hI, ag_34 hI, ag_35 hI, ag_39 hI, ag_40 hI, ag_41 hI, fx_0_2 hx, fx_31_10 hx, fx_31_2 hx, fx_31_3 hx, fx_31_4 hx, fx_31_8 hx, fx_31_9 hx, fx_5_4 hx, sh_0, sh_31, sh_33, sh_34, sh_35, sh_39, sh_40, sh_41, sh_5, pu_rv, pu_as, Value.category, pu_bk, pu_kl, pu_qe0, pu_qe1, e1, nl_cl, nl_n0, e1]
        · have e6 := r_front hx hr hw d hd2
          by_cases z : 2 ≤ pu_srt I d
          · have z1 : I 32 d ≠ 0 := by rw [← e4]; exact z
            have z2 := wx_d2 hw d hd2 z1
            have z3 := wx_dn hw d hd2 (d1 z1)
            rw [qX12_about]
            simp [a_ent, bX12_about_0, bX12_about_10, bX12_about_24, bX12_about_25, bX12_about_80, bX12_about_87, bX12_about_93, bX12_about_108, bX12_about_109, bX12_about_110, bX12_about_125, bX12_about_126, bX12_about_127, bX12_about_135, bX12_about_143, a_ald, a_cv, a_icge, a_ifeq, a_ifne, a_ild, a_iret, a_ist, a_isub, a_push, a_sw, sh_71, pu_rv, pu_as, Value.category, pu_bk, pu_kl, List.replicate, pu_wi_1, pu_wi_2, nl_add, nl_ladd, nl_aa, nl_mul, nl_rmul, nl_mm, pu_qe0, pu_qe1, e2, e3, z, nl_cl, nl_n0, e6, z2.2.2.2.2.2.1, z2.2.2.2.2.2.2.1, z2.2.2.2.2.2.2.2.1, z3.1, z3.2.1, z3.2.2]
            all_goals try simp (maxSteps := 400000) (disch := omega) [nl_tle, nl_fle, nl_tlt, nl_flt, nl_teq, nl_feq, nl_sub, nl_ss, nl_lt, nl_llt, nl_ltt, nl_le, nl_lle, nl_lee, nl_eq, nl_leq, nl_ee, nl_div, nl_rem, nl_cl, nl_n1, nl_n2, nl_n3, nl_n4, nl_add, nl_ladd, nl_aa, nl_mul, nl_rmul, nl_mm, pu_wi_1, pu_wi_2, bX12_about_0, bX12_about_10, bX12_about_24, bX12_about_25, bX12_about_80, bX12_about_87, bX12_about_93, bX12_about_108, bX12_about_109, bX12_about_110, bX12_about_125, bX12_about_126, bX12_about_127, bX12_about_135, bX12_about_143, a_ald, a_cv, a_icge, a_ifeq, a_ifne, a_ild, a_iret, a_ist, a_isub, a_push, a_sw, sh_71, pu_rv, pu_as, Value.category, pu_bk, pu_kl, pu_qe0, pu_qe1, e2, e3, z, nl_cl, nl_n0, e6, z2.2.2.2.2.2.1, z2.2.2.2.2.2.2.1, z2.2.2.2.2.2.2.2.1, z3.1, z3.2.1, z3.2.2]
          · rw [qX12_about]
            simp [a_ent, bX12_about_0, bX12_about_10, bX12_about_24, bX12_about_25, bX12_about_80, bX12_about_87, bX12_about_93, bX12_about_108, bX12_about_109, bX12_about_110, bX12_about_125, bX12_about_126, bX12_about_127, bX12_about_135, bX12_about_143, a_ald, a_cv, a_icge, a_ifeq, a_ifne, a_ild, a_iret, a_ist, a_isub, a_push, a_sw, sh_71, pu_rv, pu_as, Value.category, pu_bk, pu_kl, List.replicate, pu_wi_1, pu_wi_2, nl_add, nl_ladd, nl_aa, nl_mul, nl_rmul, nl_mm, pu_qe0, pu_qe1, e2, e3, z, nl_cl, nl_n0, e6]
            all_goals try simp (maxSteps := 400000) (disch := omega) [nl_tle, nl_fle, nl_tlt, nl_flt, nl_teq, nl_feq, nl_sub, nl_ss, nl_lt, nl_llt, nl_ltt, nl_le, nl_lle, nl_lee, nl_eq, nl_leq, nl_ee, nl_div, nl_rem, nl_cl, nl_n1, nl_n2, nl_n3, nl_n4, nl_add, nl_ladd, nl_aa, nl_mul, nl_rmul, nl_mm, pu_wi_1, pu_wi_2, bX12_about_0, bX12_about_10, bX12_about_24, bX12_about_25, bX12_about_80, bX12_about_87, bX12_about_93, bX12_about_108, bX12_about_109, bX12_about_110, bX12_about_125, bX12_about_126, bX12_about_127, bX12_about_135, bX12_about_143, a_ald, a_cv, a_icge, a_ifeq, a_ifne, a_ild, a_iret, a_ist, a_isub, a_push, a_sw, sh_71, pu_rv, pu_as, Value.category, pu_bk, pu_kl, pu_qe0, pu_qe1, e2, e3, z, nl_cl, nl_n0, e6]
      | 2, _ =>
        refine ⟨I 39 (2 * d), M, M, ?_, ?_, h⟩
        · rw [qX11_about]
          simp [a_ent, bX11_about_0, bX11_about_16, bX11_about_72, bX11_about_84, bX11_about_97, bX11_about_112, bX11_about_127, bX11_about_142, bX11_about_159, bX11_about_176, bX11_about_193, bX11_about_206, bX11_about_219, a_ai, a_ald, a_cv, a_gr, a_iadd, a_ifne, a_ild, a_imul, a_iret, a_push, a_sw, ag_31 hI, ag_33 hI, ag_34 hI, ag_35 hI, ag_39 hI, ag_40 hI, ag_41 hI, fx_0_2 hx, fx_31_10 hx, fx_31_2 hx, fx_31_3 hx, fx_31_4 hx, fx_31_8 hx, fx_31_9 hx, fx_5_4 hx, sh_0, sh_31, sh_33, sh_34, sh_35, sh_39, sh_40, sh_41, sh_5, pu_rv, pu_as, Value.category, pu_bk, pu_kl, List.replicate, pu_wi_1, pu_wi_2, nl_add, nl_ladd, nl_aa, nl_mul, nl_rmul, nl_mm, pu_qe0, pu_qe1, e1, nl_cl, nl_n0, e1]
          all_goals try simp (maxSteps := 400000) (disch := omega) [nl_tle, nl_fle, nl_tlt, nl_flt, nl_teq, nl_feq, nl_sub, nl_ss, nl_lt, nl_llt, nl_ltt, nl_le, nl_lle, nl_lee, nl_eq, nl_leq, nl_ee, nl_div, nl_rem, nl_cl, nl_n1, nl_n2, nl_n3, nl_n4, nl_add, nl_ladd, nl_aa, nl_mul, nl_rmul, nl_mm, pu_wi_1, pu_wi_2, bX11_about_0, bX11_about_16, bX11_about_72, bX11_about_84, bX11_about_97, bX11_about_112, bX11_about_127, bX11_about_142, bX11_about_159, bX11_about_176, bX11_about_193, bX11_about_206, bX11_about_219, a_ai, a_ald, a_cv, a_gr, a_iadd, a_ifne, a_ild, a_imul, a_iret, a_push, a_sw, ag_31 hI, ag_33 hI, ag_34 hI, ag_35 hI, ag_39 hI, ag_40 hI, ag_41 hI, fx_0_2 hx, fx_31_10 hx, fx_31_2 hx, fx_31_3 hx, fx_31_4 hx, fx_31_8 hx, fx_31_9 hx, fx_5_4 hx, sh_0, sh_31, sh_33, sh_34, sh_35, sh_39, sh_40, sh_41, sh_5, pu_rv, pu_as, Value.category, pu_bk, pu_kl, pu_qe0, pu_qe1, e1, nl_cl, nl_n0, e1]
        · have e6 : pu_r 265 [some (.ref 71), some (.int (nI d)), some (.int (nI 1))] [] M = some (some (.int (I 39 (2 * d))), M) := r_of1 hx hr hw d hd2
          by_cases z : 2 ≤ pu_srt I d
          · have z1 : I 32 d ≠ 0 := by rw [← e4]; exact z
            have z2 := wx_d2 hw d hd2 z1
            have z3 := wx_dn hw d hd2 (d1 z1)
            rw [qX12_about]
            simp [a_ent, bX12_about_0, bX12_about_10, bX12_about_24, bX12_about_25, bX12_about_80, bX12_about_87, bX12_about_93, bX12_about_108, bX12_about_109, bX12_about_110, bX12_about_125, bX12_about_126, bX12_about_127, bX12_about_135, bX12_about_143, a_ald, a_cv, a_icge, a_ifeq, a_ifne, a_ild, a_iret, a_ist, a_isub, a_push, a_sw, sh_71, pu_rv, pu_as, Value.category, pu_bk, pu_kl, List.replicate, pu_wi_1, pu_wi_2, nl_add, nl_ladd, nl_aa, nl_mul, nl_rmul, nl_mm, pu_qe0, pu_qe1, e2, e3, z, nl_cl, nl_n0, e6, z2.2.2.2.2.2.1, z2.2.2.2.2.2.2.1, z2.2.2.2.2.2.2.2.1, z3.1, z3.2.1, z3.2.2]
            all_goals try simp (maxSteps := 400000) (disch := omega) [nl_tle, nl_fle, nl_tlt, nl_flt, nl_teq, nl_feq, nl_sub, nl_ss, nl_lt, nl_llt, nl_ltt, nl_le, nl_lle, nl_lee, nl_eq, nl_leq, nl_ee, nl_div, nl_rem, nl_cl, nl_n1, nl_n2, nl_n3, nl_n4, nl_add, nl_ladd, nl_aa, nl_mul, nl_rmul, nl_mm, pu_wi_1, pu_wi_2, bX12_about_0, bX12_about_10, bX12_about_24, bX12_about_25, bX12_about_80, bX12_about_87, bX12_about_93, bX12_about_108, bX12_about_109, bX12_about_110, bX12_about_125, bX12_about_126, bX12_about_127, bX12_about_135, bX12_about_143, a_ald, a_cv, a_icge, a_ifeq, a_ifne, a_ild, a_iret, a_ist, a_isub, a_push, a_sw, sh_71, pu_rv, pu_as, Value.category, pu_bk, pu_kl, pu_qe0, pu_qe1, e2, e3, z, nl_cl, nl_n0, e6, z2.2.2.2.2.2.1, z2.2.2.2.2.2.2.1, z2.2.2.2.2.2.2.2.1, z3.1, z3.2.1, z3.2.2]
          · rw [qX12_about]
            simp [a_ent, bX12_about_0, bX12_about_10, bX12_about_24, bX12_about_25, bX12_about_80, bX12_about_87, bX12_about_93, bX12_about_108, bX12_about_109, bX12_about_110, bX12_about_125, bX12_about_126, bX12_about_127, bX12_about_135, bX12_about_143, a_ald, a_cv, a_icge, a_ifeq, a_ifne, a_ild, a_iret, a_ist, a_isub, a_push, a_sw, sh_71, pu_rv, pu_as, Value.category, pu_bk, pu_kl, List.replicate, pu_wi_1, pu_wi_2, nl_add, nl_ladd, nl_aa, nl_mul, nl_rmul, nl_mm, pu_qe0, pu_qe1, e2, e3, z, nl_cl, nl_n0, e6]
            all_goals try simp (maxSteps := 400000) (disch := omega) [nl_tle, nl_fle, nl_tlt, nl_flt, nl_teq, nl_feq, nl_sub, nl_ss, nl_lt, nl_llt, nl_ltt, nl_le, nl_lle, nl_lee, nl_eq, nl_leq, nl_ee, nl_div, nl_rem, nl_cl, nl_n1, nl_n2, nl_n3, nl_n4, nl_add, nl_ladd, nl_aa, nl_mul, nl_rmul, nl_mm, pu_wi_1, pu_wi_2, bX12_about_0, bX12_about_10, bX12_about_24, bX12_about_25, bX12_about_80, bX12_about_87, bX12_about_93, bX12_about_108, bX12_about_109, bX12_about_110, bX12_about_125, bX12_about_126, bX12_about_127, bX12_about_135, bX12_about_143, a_ald, a_cv, a_icge, a_ifeq, a_ifne, a_ild, a_iret, a_ist, a_isub, a_push, a_sw, sh_71, pu_rv, pu_as, Value.category, pu_bk, pu_kl, pu_qe0, pu_qe1, e2, e3, z, nl_cl, nl_n0, e6]
      | 3, _ =>
        refine ⟨I 40 (2 * d), M, M, ?_, ?_, h⟩
        · rw [qX11_about]
          simp [a_ent, bX11_about_0, bX11_about_16, bX11_about_72, bX11_about_84, bX11_about_97, bX11_about_112, bX11_about_127, bX11_about_142, bX11_about_159, bX11_about_176, bX11_about_193, bX11_about_206, bX11_about_219, a_ai, a_ald, a_cv, a_gr, a_iadd, a_ifne, a_ild, a_imul, a_iret, a_push, a_sw, ag_31 hI, ag_33 hI, ag_34 hI, ag_35 hI, ag_39 hI, ag_40 hI, ag_41 hI, fx_0_2 hx, fx_31_10 hx, fx_31_2 hx, fx_31_3 hx, fx_31_4 hx, fx_31_8 hx, fx_31_9 hx, fx_5_4 hx, sh_0, sh_31, sh_33, sh_34, sh_35, sh_39, sh_40, sh_41, sh_5, pu_rv, pu_as, Value.category, pu_bk, pu_kl, List.replicate, pu_wi_1, pu_wi_2, nl_add, nl_ladd, nl_aa, nl_mul, nl_rmul, nl_mm, pu_qe0, pu_qe1, e1, nl_cl, nl_n0, e1]
          all_goals try simp (maxSteps := 400000) (disch := omega) [nl_tle, nl_fle, nl_tlt, nl_flt, nl_teq, nl_feq, nl_sub, nl_ss, nl_lt, nl_llt, nl_ltt, nl_le, nl_lle, nl_lee, nl_eq, nl_leq, nl_ee, nl_div, nl_rem, nl_cl, nl_n1, nl_n2, nl_n3, nl_n4, nl_add, nl_ladd, nl_aa, nl_mul, nl_rmul, nl_mm, pu_wi_1, pu_wi_2, bX11_about_0, bX11_about_16, bX11_about_72, bX11_about_84, bX11_about_97, bX11_about_112, bX11_about_127, bX11_about_142, bX11_about_159, bX11_about_176, bX11_about_193, bX11_about_206, bX11_about_219, a_ai, a_ald, a_cv, a_gr, a_iadd, a_ifne, a_ild, a_imul, a_iret, a_push, a_sw, ag_31 hI, ag_33 hI, ag_34 hI, ag_35 hI, ag_39 hI, ag_40 hI, ag_41 hI, fx_0_2 hx, fx_31_10 hx, fx_31_2 hx, fx_31_3 hx, fx_31_4 hx, fx_31_8 hx, fx_31_9 hx, fx_5_4 hx, sh_0, sh_31, sh_33, sh_34, sh_35, sh_39, sh_40, sh_41, sh_5, pu_rv, pu_as, Value.category, pu_bk, pu_kl, pu_qe0, pu_qe1, e1, nl_cl, nl_n0, e1]
        · have e6 : pu_r 265 [some (.ref 71), some (.int (nI d)), some (.int (nI 2))] [] M = some (some (.int (I 40 (2 * d))), M) := r_of2 hx hr hw d hd2
          by_cases z : 2 ≤ pu_srt I d
          · have z1 : I 32 d ≠ 0 := by rw [← e4]; exact z
            have z2 := wx_d2 hw d hd2 z1
            have z3 := wx_dn hw d hd2 (d1 z1)
            rw [qX12_about]
            simp [a_ent, bX12_about_0, bX12_about_10, bX12_about_24, bX12_about_25, bX12_about_80, bX12_about_87, bX12_about_93, bX12_about_108, bX12_about_109, bX12_about_110, bX12_about_125, bX12_about_126, bX12_about_127, bX12_about_135, bX12_about_143, a_ald, a_cv, a_icge, a_ifeq, a_ifne, a_ild, a_iret, a_ist, a_isub, a_push, a_sw, sh_71, pu_rv, pu_as, Value.category, pu_bk, pu_kl, List.replicate, pu_wi_1, pu_wi_2, nl_add, nl_ladd, nl_aa, nl_mul, nl_rmul, nl_mm, pu_qe0, pu_qe1, e2, e3, z, nl_cl, nl_n0, e6, z2.2.2.2.2.2.1, z2.2.2.2.2.2.2.1, z2.2.2.2.2.2.2.2.1, z3.1, z3.2.1, z3.2.2]
            all_goals try simp (maxSteps := 400000) (disch := omega) [nl_tle, nl_fle, nl_tlt, nl_flt, nl_teq, nl_feq, nl_sub, nl_ss, nl_lt, nl_llt, nl_ltt, nl_le, nl_lle, nl_lee, nl_eq, nl_leq, nl_ee, nl_div, nl_rem, nl_cl, nl_n1, nl_n2, nl_n3, nl_n4, nl_add, nl_ladd, nl_aa, nl_mul, nl_rmul, nl_mm, pu_wi_1, pu_wi_2, bX12_about_0, bX12_about_10, bX12_about_24, bX12_about_25, bX12_about_80, bX12_about_87, bX12_about_93, bX12_about_108, bX12_about_109, bX12_about_110, bX12_about_125, bX12_about_126, bX12_about_127, bX12_about_135, bX12_about_143, a_ald, a_cv, a_icge, a_ifeq, a_ifne, a_ild, a_iret, a_ist, a_isub, a_push, a_sw, sh_71, pu_rv, pu_as, Value.category, pu_bk, pu_kl, pu_qe0, pu_qe1, e2, e3, z, nl_cl, nl_n0, e6, z2.2.2.2.2.2.1, z2.2.2.2.2.2.2.1, z2.2.2.2.2.2.2.2.1, z3.1, z3.2.1, z3.2.2]
          · rw [qX12_about]
            simp [a_ent, bX12_about_0, bX12_about_10, bX12_about_24, bX12_about_25, bX12_about_80, bX12_about_87, bX12_about_93, bX12_about_108, bX12_about_109, bX12_about_110, bX12_about_125, bX12_about_126, bX12_about_127, bX12_about_135, bX12_about_143, a_ald, a_cv, a_icge, a_ifeq, a_ifne, a_ild, a_iret, a_ist, a_isub, a_push, a_sw, sh_71, pu_rv, pu_as, Value.category, pu_bk, pu_kl, List.replicate, pu_wi_1, pu_wi_2, nl_add, nl_ladd, nl_aa, nl_mul, nl_rmul, nl_mm, pu_qe0, pu_qe1, e2, e3, z, nl_cl, nl_n0, e6]
            all_goals try simp (maxSteps := 400000) (disch := omega) [nl_tle, nl_fle, nl_tlt, nl_flt, nl_teq, nl_feq, nl_sub, nl_ss, nl_lt, nl_llt, nl_ltt, nl_le, nl_lle, nl_lee, nl_eq, nl_leq, nl_ee, nl_div, nl_rem, nl_cl, nl_n1, nl_n2, nl_n3, nl_n4, nl_add, nl_ladd, nl_aa, nl_mul, nl_rmul, nl_mm, pu_wi_1, pu_wi_2, bX12_about_0, bX12_about_10, bX12_about_24, bX12_about_25, bX12_about_80, bX12_about_87, bX12_about_93, bX12_about_108, bX12_about_109, bX12_about_110, bX12_about_125, bX12_about_126, bX12_about_127, bX12_about_135, bX12_about_143, a_ald, a_cv, a_icge, a_ifeq, a_ifne, a_ild, a_iret, a_ist, a_isub, a_push, a_sw, sh_71, pu_rv, pu_as, Value.category, pu_bk, pu_kl, pu_qe0, pu_qe1, e2, e3, z, nl_cl, nl_n0, e6]
      | 4, _ =>
        refine ⟨I 41 (2 * d), M, M, ?_, ?_, h⟩
        · rw [qX11_about]
          simp [a_ent, bX11_about_0, bX11_about_16, bX11_about_72, bX11_about_84, bX11_about_97, bX11_about_112, bX11_about_127, bX11_about_142, bX11_about_159, bX11_about_176, bX11_about_193, bX11_about_206, bX11_about_219, a_ai, a_ald, a_cv, a_gr, a_iadd, a_ifne, a_ild, a_imul, a_iret, a_push, a_sw, ag_31 hI, ag_33 hI, ag_34 hI, ag_35 hI, ag_39 hI, ag_40 hI, ag_41 hI, fx_0_2 hx, fx_31_10 hx, fx_31_2 hx, fx_31_3 hx, fx_31_4 hx, fx_31_8 hx, fx_31_9 hx, fx_5_4 hx, sh_0, sh_31, sh_33, sh_34, sh_35, sh_39, sh_40, sh_41, sh_5, pu_rv, pu_as, Value.category, pu_bk, pu_kl, List.replicate, pu_wi_1, pu_wi_2, nl_add, nl_ladd, nl_aa, nl_mul, nl_rmul, nl_mm, pu_qe0, pu_qe1, e1, nl_cl, nl_n0, e1]
          all_goals try simp (maxSteps := 400000) (disch := omega) [nl_tle, nl_fle, nl_tlt, nl_flt, nl_teq, nl_feq, nl_sub, nl_ss, nl_lt, nl_llt, nl_ltt, nl_le, nl_lle, nl_lee, nl_eq, nl_leq, nl_ee, nl_div, nl_rem, nl_cl, nl_n1, nl_n2, nl_n3, nl_n4, nl_add, nl_ladd, nl_aa, nl_mul, nl_rmul, nl_mm, pu_wi_1, pu_wi_2, bX11_about_0, bX11_about_16, bX11_about_72, bX11_about_84, bX11_about_97, bX11_about_112, bX11_about_127, bX11_about_142, bX11_about_159, bX11_about_176, bX11_about_193, bX11_about_206, bX11_about_219, a_ai, a_ald, a_cv, a_gr, a_iadd, a_ifne, a_ild, a_imul, a_iret, a_push, a_sw, ag_31 hI, ag_33 hI, ag_34 hI, ag_35 hI, ag_39 hI, ag_40 hI, ag_41 hI, fx_0_2 hx, fx_31_10 hx, fx_31_2 hx, fx_31_3 hx, fx_31_4 hx, fx_31_8 hx, fx_31_9 hx, fx_5_4 hx, sh_0, sh_31, sh_33, sh_34, sh_35, sh_39, sh_40, sh_41, sh_5, pu_rv, pu_as, Value.category, pu_bk, pu_kl, pu_qe0, pu_qe1, e1, nl_cl, nl_n0, e1]
        · have e6 : pu_r 265 [some (.ref 71), some (.int (nI d)), some (.int (nI 3))] [] M = some (some (.int (I 41 (2 * d))), M) := r_of3 hx hr hw d hd2
          by_cases z : 2 ≤ pu_srt I d
          · have z1 : I 32 d ≠ 0 := by rw [← e4]; exact z
            have z2 := wx_d2 hw d hd2 z1
            have z3 := wx_dn hw d hd2 (d1 z1)
            rw [qX12_about]
            simp [a_ent, bX12_about_0, bX12_about_10, bX12_about_24, bX12_about_25, bX12_about_80, bX12_about_87, bX12_about_93, bX12_about_108, bX12_about_109, bX12_about_110, bX12_about_125, bX12_about_126, bX12_about_127, bX12_about_135, bX12_about_143, a_ald, a_cv, a_icge, a_ifeq, a_ifne, a_ild, a_iret, a_ist, a_isub, a_push, a_sw, sh_71, pu_rv, pu_as, Value.category, pu_bk, pu_kl, List.replicate, pu_wi_1, pu_wi_2, nl_add, nl_ladd, nl_aa, nl_mul, nl_rmul, nl_mm, pu_qe0, pu_qe1, e2, e3, z, nl_cl, nl_n0, e6, z2.2.2.2.2.2.1, z2.2.2.2.2.2.2.1, z2.2.2.2.2.2.2.2.1, z3.1, z3.2.1, z3.2.2]
            all_goals try simp (maxSteps := 400000) (disch := omega) [nl_tle, nl_fle, nl_tlt, nl_flt, nl_teq, nl_feq, nl_sub, nl_ss, nl_lt, nl_llt, nl_ltt, nl_le, nl_lle, nl_lee, nl_eq, nl_leq, nl_ee, nl_div, nl_rem, nl_cl, nl_n1, nl_n2, nl_n3, nl_n4, nl_add, nl_ladd, nl_aa, nl_mul, nl_rmul, nl_mm, pu_wi_1, pu_wi_2, bX12_about_0, bX12_about_10, bX12_about_24, bX12_about_25, bX12_about_80, bX12_about_87, bX12_about_93, bX12_about_108, bX12_about_109, bX12_about_110, bX12_about_125, bX12_about_126, bX12_about_127, bX12_about_135, bX12_about_143, a_ald, a_cv, a_icge, a_ifeq, a_ifne, a_ild, a_iret, a_ist, a_isub, a_push, a_sw, sh_71, pu_rv, pu_as, Value.category, pu_bk, pu_kl, pu_qe0, pu_qe1, e2, e3, z, nl_cl, nl_n0, e6, z2.2.2.2.2.2.1, z2.2.2.2.2.2.2.1, z2.2.2.2.2.2.2.2.1, z3.1, z3.2.1, z3.2.2]
          · rw [qX12_about]
            simp [a_ent, bX12_about_0, bX12_about_10, bX12_about_24, bX12_about_25, bX12_about_80, bX12_about_87, bX12_about_93, bX12_about_108, bX12_about_109, bX12_about_110, bX12_about_125, bX12_about_126, bX12_about_127, bX12_about_135, bX12_about_143, a_ald, a_cv, a_icge, a_ifeq, a_ifne, a_ild, a_iret, a_ist, a_isub, a_push, a_sw, sh_71, pu_rv, pu_as, Value.category, pu_bk, pu_kl, List.replicate, pu_wi_1, pu_wi_2, nl_add, nl_ladd, nl_aa, nl_mul, nl_rmul, nl_mm, pu_qe0, pu_qe1, e2, e3, z, nl_cl, nl_n0, e6]
            all_goals try simp (maxSteps := 400000) (disch := omega) [nl_tle, nl_fle, nl_tlt, nl_flt, nl_teq, nl_feq, nl_sub, nl_ss, nl_lt, nl_llt, nl_ltt, nl_le, nl_lle, nl_lee, nl_eq, nl_leq, nl_ee, nl_div, nl_rem, nl_cl, nl_n1, nl_n2, nl_n3, nl_n4, nl_add, nl_ladd, nl_aa, nl_mul, nl_rmul, nl_mm, pu_wi_1, pu_wi_2, bX12_about_0, bX12_about_10, bX12_about_24, bX12_about_25, bX12_about_80, bX12_about_87, bX12_about_93, bX12_about_108, bX12_about_109, bX12_about_110, bX12_about_125, bX12_about_126, bX12_about_127, bX12_about_135, bX12_about_143, a_ald, a_cv, a_icge, a_ifeq, a_ifne, a_ild, a_iret, a_ist, a_isub, a_push, a_sw, sh_71, pu_rv, pu_as, Value.category, pu_bk, pu_kl, pu_qe0, pu_qe1, e2, e3, z, nl_cl, nl_n0, e6]
      | 5, _ =>
        refine ⟨I 39 (2 * d + 1), M, M, ?_, ?_, h⟩
        · rw [qX11_about]
          simp [a_ent, bX11_about_0, bX11_about_16, bX11_about_72, bX11_about_84, bX11_about_97, bX11_about_112, bX11_about_127, bX11_about_142, bX11_about_159, bX11_about_176, bX11_about_193, bX11_about_206, bX11_about_219, a_ai, a_ald, a_cv, a_gr, a_iadd, a_ifne, a_ild, a_imul, a_iret, a_push, a_sw, ag_31 hI, ag_33 hI, ag_34 hI, ag_35 hI, ag_39 hI, ag_40 hI, ag_41 hI, fx_0_2 hx, fx_31_10 hx, fx_31_2 hx, fx_31_3 hx, fx_31_4 hx, fx_31_8 hx, fx_31_9 hx, fx_5_4 hx, sh_0, sh_31, sh_33, sh_34, sh_35, sh_39, sh_40, sh_41, sh_5, pu_rv, pu_as, Value.category, pu_bk, pu_kl, List.replicate, pu_wi_1, pu_wi_2, nl_add, nl_ladd, nl_aa, nl_mul, nl_rmul, nl_mm, pu_qe0, pu_qe1, e1, nl_cl, nl_n0, e1]
          all_goals try simp (maxSteps := 400000) (disch := omega) [nl_tle, nl_fle, nl_tlt, nl_flt, nl_teq, nl_feq, nl_sub, nl_ss, nl_lt, nl_llt, nl_ltt, nl_le, nl_lle, nl_lee, nl_eq, nl_leq, nl_ee, nl_div, nl_rem, nl_cl, nl_n1, nl_n2, nl_n3, nl_n4, nl_add, nl_ladd, nl_aa, nl_mul, nl_rmul, nl_mm, pu_wi_1, pu_wi_2, bX11_about_0, bX11_about_16, bX11_about_72, bX11_about_84, bX11_about_97, bX11_about_112, bX11_about_127, bX11_about_142, bX11_about_159, bX11_about_176, bX11_about_193, bX11_about_206, bX11_about_219, a_ai, a_ald, a_cv, a_gr, a_iadd, a_ifne, a_ild, a_imul, a_iret, a_push, a_sw, ag_31 hI, ag_33 hI, ag_34 hI, ag_35 hI, ag_39 hI, ag_40 hI, ag_41 hI, fx_0_2 hx, fx_31_10 hx, fx_31_2 hx, fx_31_3 hx, fx_31_4 hx, fx_31_8 hx, fx_31_9 hx, fx_5_4 hx, sh_0, sh_31, sh_33, sh_34, sh_35, sh_39, sh_40, sh_41, sh_5, pu_rv, pu_as, Value.category, pu_bk, pu_kl, pu_qe0, pu_qe1, e1, nl_cl, nl_n0, e1]
        · have e6 : pu_r 265 [some (.ref 71), some (.int (nI d)), some (.int (nI 4))] [] M = some (some (.int (I 39 (2 * d + 1))), M) := r_of4 hx hr hw d hd2
          by_cases z : 2 ≤ pu_srt I d
          · have z1 : I 32 d ≠ 0 := by rw [← e4]; exact z
            have z2 := wx_d2 hw d hd2 z1
            have z3 := wx_dn hw d hd2 (d1 z1)
            rw [qX12_about]
            simp [a_ent, bX12_about_0, bX12_about_10, bX12_about_24, bX12_about_25, bX12_about_80, bX12_about_87, bX12_about_93, bX12_about_108, bX12_about_109, bX12_about_110, bX12_about_125, bX12_about_126, bX12_about_127, bX12_about_135, bX12_about_143, a_ald, a_cv, a_icge, a_ifeq, a_ifne, a_ild, a_iret, a_ist, a_isub, a_push, a_sw, sh_71, pu_rv, pu_as, Value.category, pu_bk, pu_kl, List.replicate, pu_wi_1, pu_wi_2, nl_add, nl_ladd, nl_aa, nl_mul, nl_rmul, nl_mm, pu_qe0, pu_qe1, e2, e3, z, nl_cl, nl_n0, e6, z2.2.2.2.2.2.1, z2.2.2.2.2.2.2.1, z2.2.2.2.2.2.2.2.1, z3.1, z3.2.1, z3.2.2]
            all_goals try simp (maxSteps := 400000) (disch := omega) [nl_tle, nl_fle, nl_tlt, nl_flt, nl_teq, nl_feq, nl_sub, nl_ss, nl_lt, nl_llt, nl_ltt, nl_le, nl_lle, nl_lee, nl_eq, nl_leq, nl_ee, nl_div, nl_rem, nl_cl, nl_n1, nl_n2, nl_n3, nl_n4, nl_add, nl_ladd, nl_aa, nl_mul, nl_rmul, nl_mm, pu_wi_1, pu_wi_2, bX12_about_0, bX12_about_10, bX12_about_24, bX12_about_25, bX12_about_80, bX12_about_87, bX12_about_93, bX12_about_108, bX12_about_109, bX12_about_110, bX12_about_125, bX12_about_126, bX12_about_127, bX12_about_135, bX12_about_143, a_ald, a_cv, a_icge, a_ifeq, a_ifne, a_ild, a_iret, a_ist, a_isub, a_push, a_sw, sh_71, pu_rv, pu_as, Value.category, pu_bk, pu_kl, pu_qe0, pu_qe1, e2, e3, z, nl_cl, nl_n0, e6, z2.2.2.2.2.2.1, z2.2.2.2.2.2.2.1, z2.2.2.2.2.2.2.2.1, z3.1, z3.2.1, z3.2.2]
          · rw [qX12_about]
            simp [a_ent, bX12_about_0, bX12_about_10, bX12_about_24, bX12_about_25, bX12_about_80, bX12_about_87, bX12_about_93, bX12_about_108, bX12_about_109, bX12_about_110, bX12_about_125, bX12_about_126, bX12_about_127, bX12_about_135, bX12_about_143, a_ald, a_cv, a_icge, a_ifeq, a_ifne, a_ild, a_iret, a_ist, a_isub, a_push, a_sw, sh_71, pu_rv, pu_as, Value.category, pu_bk, pu_kl, List.replicate, pu_wi_1, pu_wi_2, nl_add, nl_ladd, nl_aa, nl_mul, nl_rmul, nl_mm, pu_qe0, pu_qe1, e2, e3, z, nl_cl, nl_n0, e6]
            all_goals try simp (maxSteps := 400000) (disch := omega) [nl_tle, nl_fle, nl_tlt, nl_flt, nl_teq, nl_feq, nl_sub, nl_ss, nl_lt, nl_llt, nl_ltt, nl_le, nl_lle, nl_lee, nl_eq, nl_leq, nl_ee, nl_div, nl_rem, nl_cl, nl_n1, nl_n2, nl_n3, nl_n4, nl_add, nl_ladd, nl_aa, nl_mul, nl_rmul, nl_mm, pu_wi_1, pu_wi_2, bX12_about_0, bX12_about_10, bX12_about_24, bX12_about_25, bX12_about_80, bX12_about_87, bX12_about_93, bX12_about_108, bX12_about_109, bX12_about_110, bX12_about_125, bX12_about_126, bX12_about_127, bX12_about_135, bX12_about_143, a_ald, a_cv, a_icge, a_ifeq, a_ifne, a_ild, a_iret, a_ist, a_isub, a_push, a_sw, sh_71, pu_rv, pu_as, Value.category, pu_bk, pu_kl, pu_qe0, pu_qe1, e2, e3, z, nl_cl, nl_n0, e6]
      | 6, _ =>
        refine ⟨I 40 (2 * d + 1), M, M, ?_, ?_, h⟩
        · rw [qX11_about]
          simp [a_ent, bX11_about_0, bX11_about_16, bX11_about_72, bX11_about_84, bX11_about_97, bX11_about_112, bX11_about_127, bX11_about_142, bX11_about_159, bX11_about_176, bX11_about_193, bX11_about_206, bX11_about_219, a_ai, a_ald, a_cv, a_gr, a_iadd, a_ifne, a_ild, a_imul, a_iret, a_push, a_sw, ag_31 hI, ag_33 hI, ag_34 hI, ag_35 hI, ag_39 hI, ag_40 hI, ag_41 hI, fx_0_2 hx, fx_31_10 hx, fx_31_2 hx, fx_31_3 hx, fx_31_4 hx, fx_31_8 hx, fx_31_9 hx, fx_5_4 hx, sh_0, sh_31, sh_33, sh_34, sh_35, sh_39, sh_40, sh_41, sh_5, pu_rv, pu_as, Value.category, pu_bk, pu_kl, List.replicate, pu_wi_1, pu_wi_2, nl_add, nl_ladd, nl_aa, nl_mul, nl_rmul, nl_mm, pu_qe0, pu_qe1, e1, nl_cl, nl_n0, e1]
          all_goals try simp (maxSteps := 400000) (disch := omega) [nl_tle, nl_fle, nl_tlt, nl_flt, nl_teq, nl_feq, nl_sub, nl_ss, nl_lt, nl_llt, nl_ltt, nl_le, nl_lle, nl_lee, nl_eq, nl_leq, nl_ee, nl_div, nl_rem, nl_cl, nl_n1, nl_n2, nl_n3, nl_n4, nl_add, nl_ladd, nl_aa, nl_mul, nl_rmul, nl_mm, pu_wi_1, pu_wi_2, bX11_about_0, bX11_about_16, bX11_about_72, bX11_about_84, bX11_about_97, bX11_about_112, bX11_about_127, bX11_about_142, bX11_about_159, bX11_about_176, bX11_about_193, bX11_about_206, bX11_about_219, a_ai, a_ald, a_cv, a_gr, a_iadd, a_ifne, a_ild, a_imul, a_iret, a_push, a_sw, ag_31 hI, ag_33 hI, ag_34 hI, ag_35 hI, ag_39 hI, ag_40 hI, ag_41 hI, fx_0_2 hx, fx_31_10 hx, fx_31_2 hx, fx_31_3 hx, fx_31_4 hx, fx_31_8 hx, fx_31_9 hx, fx_5_4 hx, sh_0, sh_31, sh_33, sh_34, sh_35, sh_39, sh_40, sh_41, sh_5, pu_rv, pu_as, Value.category, pu_bk, pu_kl, pu_qe0, pu_qe1, e1, nl_cl, nl_n0, e1]
        · have e6 : pu_r 265 [some (.ref 71), some (.int (nI d)), some (.int (nI 5))] [] M = some (some (.int (I 40 (2 * d + 1))), M) := r_of5 hx hr hw d hd2
          by_cases z : 2 ≤ pu_srt I d
          · have z1 : I 32 d ≠ 0 := by rw [← e4]; exact z
            have z2 := wx_d2 hw d hd2 z1
            have z3 := wx_dn hw d hd2 (d1 z1)
            rw [qX12_about]
            simp [a_ent, bX12_about_0, bX12_about_10, bX12_about_24, bX12_about_25, bX12_about_80, bX12_about_87, bX12_about_93, bX12_about_108, bX12_about_109, bX12_about_110, bX12_about_125, bX12_about_126, bX12_about_127, bX12_about_135, bX12_about_143, a_ald, a_cv, a_icge, a_ifeq, a_ifne, a_ild, a_iret, a_ist, a_isub, a_push, a_sw, sh_71, pu_rv, pu_as, Value.category, pu_bk, pu_kl, List.replicate, pu_wi_1, pu_wi_2, nl_add, nl_ladd, nl_aa, nl_mul, nl_rmul, nl_mm, pu_qe0, pu_qe1, e2, e3, z, nl_cl, nl_n0, e6, z2.2.2.2.2.2.1, z2.2.2.2.2.2.2.1, z2.2.2.2.2.2.2.2.1, z3.1, z3.2.1, z3.2.2]
            all_goals try simp (maxSteps := 400000) (disch := omega) [nl_tle, nl_fle, nl_tlt, nl_flt, nl_teq, nl_feq, nl_sub, nl_ss, nl_lt, nl_llt, nl_ltt, nl_le, nl_lle, nl_lee, nl_eq, nl_leq, nl_ee, nl_div, nl_rem, nl_cl, nl_n1, nl_n2, nl_n3, nl_n4, nl_add, nl_ladd, nl_aa, nl_mul, nl_rmul, nl_mm, pu_wi_1, pu_wi_2, bX12_about_0, bX12_about_10, bX12_about_24, bX12_about_25, bX12_about_80, bX12_about_87, bX12_about_93, bX12_about_108, bX12_about_109, bX12_about_110, bX12_about_125, bX12_about_126, bX12_about_127, bX12_about_135, bX12_about_143, a_ald, a_cv, a_icge, a_ifeq, a_ifne, a_ild, a_iret, a_ist, a_isub, a_push, a_sw, sh_71, pu_rv, pu_as, Value.category, pu_bk, pu_kl, pu_qe0, pu_qe1, e2, e3, z, nl_cl, nl_n0, e6, z2.2.2.2.2.2.1, z2.2.2.2.2.2.2.1, z2.2.2.2.2.2.2.2.1, z3.1, z3.2.1, z3.2.2]
          · rw [qX12_about]
            simp [a_ent, bX12_about_0, bX12_about_10, bX12_about_24, bX12_about_25, bX12_about_80, bX12_about_87, bX12_about_93, bX12_about_108, bX12_about_109, bX12_about_110, bX12_about_125, bX12_about_126, bX12_about_127, bX12_about_135, bX12_about_143, a_ald, a_cv, a_icge, a_ifeq, a_ifne, a_ild, a_iret, a_ist, a_isub, a_push, a_sw, sh_71, pu_rv, pu_as, Value.category, pu_bk, pu_kl, List.replicate, pu_wi_1, pu_wi_2, nl_add, nl_ladd, nl_aa, nl_mul, nl_rmul, nl_mm, pu_qe0, pu_qe1, e2, e3, z, nl_cl, nl_n0, e6]
            all_goals try simp (maxSteps := 400000) (disch := omega) [nl_tle, nl_fle, nl_tlt, nl_flt, nl_teq, nl_feq, nl_sub, nl_ss, nl_lt, nl_llt, nl_ltt, nl_le, nl_lle, nl_lee, nl_eq, nl_leq, nl_ee, nl_div, nl_rem, nl_cl, nl_n1, nl_n2, nl_n3, nl_n4, nl_add, nl_ladd, nl_aa, nl_mul, nl_rmul, nl_mm, pu_wi_1, pu_wi_2, bX12_about_0, bX12_about_10, bX12_about_24, bX12_about_25, bX12_about_80, bX12_about_87, bX12_about_93, bX12_about_108, bX12_about_109, bX12_about_110, bX12_about_125, bX12_about_126, bX12_about_127, bX12_about_135, bX12_about_143, a_ald, a_cv, a_icge, a_ifeq, a_ifne, a_ild, a_iret, a_ist, a_isub, a_push, a_sw, sh_71, pu_rv, pu_as, Value.category, pu_bk, pu_kl, pu_qe0, pu_qe1, e2, e3, z, nl_cl, nl_n0, e6]
      | 7, _ =>
        refine ⟨I 41 (2 * d + 1), M, M, ?_, ?_, h⟩
        · rw [qX11_about]
          simp [a_ent, bX11_about_0, bX11_about_16, bX11_about_72, bX11_about_84, bX11_about_97, bX11_about_112, bX11_about_127, bX11_about_142, bX11_about_159, bX11_about_176, bX11_about_193, bX11_about_206, bX11_about_219, a_ai, a_ald, a_cv, a_gr, a_iadd, a_ifne, a_ild, a_imul, a_iret, a_push, a_sw, ag_31 hI, ag_33 hI, ag_34 hI, ag_35 hI, ag_39 hI, ag_40 hI, ag_41 hI, fx_0_2 hx, fx_31_10 hx, fx_31_2 hx, fx_31_3 hx, fx_31_4 hx, fx_31_8 hx, fx_31_9 hx, fx_5_4 hx, sh_0, sh_31, sh_33, sh_34, sh_35, sh_39, sh_40, sh_41, sh_5, pu_rv, pu_as, Value.category, pu_bk, pu_kl, List.replicate, pu_wi_1, pu_wi_2, nl_add, nl_ladd, nl_aa, nl_mul, nl_rmul, nl_mm, pu_qe0, pu_qe1, e1, nl_cl, nl_n0, e1]
          all_goals try simp (maxSteps := 400000) (disch := omega) [nl_tle, nl_fle, nl_tlt, nl_flt, nl_teq, nl_feq, nl_sub, nl_ss, nl_lt, nl_llt, nl_ltt, nl_le, nl_lle, nl_lee, nl_eq, nl_leq, nl_ee, nl_div, nl_rem, nl_cl, nl_n1, nl_n2, nl_n3, nl_n4, nl_add, nl_ladd, nl_aa, nl_mul, nl_rmul, nl_mm, pu_wi_1, pu_wi_2, bX11_about_0, bX11_about_16, bX11_about_72, bX11_about_84, bX11_about_97, bX11_about_112, bX11_about_127, bX11_about_142, bX11_about_159, bX11_about_176, bX11_about_193, bX11_about_206, bX11_about_219, a_ai, a_ald, a_cv, a_gr, a_iadd, a_ifne, a_ild, a_imul, a_iret, a_push, a_sw, ag_31 hI, ag_33 hI, ag_34 hI, ag_35 hI, ag_39 hI, ag_40 hI, ag_41 hI, fx_0_2 hx, fx_31_10 hx, fx_31_2 hx, fx_31_3 hx, fx_31_4 hx, fx_31_8 hx, fx_31_9 hx, fx_5_4 hx, sh_0, sh_31, sh_33, sh_34, sh_35, sh_39, sh_40, sh_41, sh_5, pu_rv, pu_as, Value.category, pu_bk, pu_kl, pu_qe0, pu_qe1, e1, nl_cl, nl_n0, e1]
        · have e6 : pu_r 265 [some (.ref 71), some (.int (nI d)), some (.int (nI 6))] [] M = some (some (.int (I 41 (2 * d + 1))), M) := r_of6 hx hr hw d hd2
          by_cases z : 2 ≤ pu_srt I d
          · have z1 : I 32 d ≠ 0 := by rw [← e4]; exact z
            have z2 := wx_d2 hw d hd2 z1
            have z3 := wx_dn hw d hd2 (d1 z1)
            rw [qX12_about]
            simp [a_ent, bX12_about_0, bX12_about_10, bX12_about_24, bX12_about_25, bX12_about_80, bX12_about_87, bX12_about_93, bX12_about_108, bX12_about_109, bX12_about_110, bX12_about_125, bX12_about_126, bX12_about_127, bX12_about_135, bX12_about_143, a_ald, a_cv, a_icge, a_ifeq, a_ifne, a_ild, a_iret, a_ist, a_isub, a_push, a_sw, sh_71, pu_rv, pu_as, Value.category, pu_bk, pu_kl, List.replicate, pu_wi_1, pu_wi_2, nl_add, nl_ladd, nl_aa, nl_mul, nl_rmul, nl_mm, pu_qe0, pu_qe1, e2, e3, z, nl_cl, nl_n0, e6, z2.2.2.2.2.2.1, z2.2.2.2.2.2.2.1, z2.2.2.2.2.2.2.2.1, z3.1, z3.2.1, z3.2.2]
            all_goals try simp (maxSteps := 400000) (disch := omega) [nl_tle, nl_fle, nl_tlt, nl_flt, nl_teq, nl_feq, nl_sub, nl_ss, nl_lt, nl_llt, nl_ltt, nl_le, nl_lle, nl_lee, nl_eq, nl_leq, nl_ee, nl_div, nl_rem, nl_cl, nl_n1, nl_n2, nl_n3, nl_n4, nl_add, nl_ladd, nl_aa, nl_mul, nl_rmul, nl_mm, pu_wi_1, pu_wi_2, bX12_about_0, bX12_about_10, bX12_about_24, bX12_about_25, bX12_about_80, bX12_about_87, bX12_about_93, bX12_about_108, bX12_about_109, bX12_about_110, bX12_about_125, bX12_about_126, bX12_about_127, bX12_about_135, bX12_about_143, a_ald, a_cv, a_icge, a_ifeq, a_ifne, a_ild, a_iret, a_ist, a_isub, a_push, a_sw, sh_71, pu_rv, pu_as, Value.category, pu_bk, pu_kl, pu_qe0, pu_qe1, e2, e3, z, nl_cl, nl_n0, e6, z2.2.2.2.2.2.1, z2.2.2.2.2.2.2.1, z2.2.2.2.2.2.2.2.1, z3.1, z3.2.1, z3.2.2]
          · rw [qX12_about]
            simp [a_ent, bX12_about_0, bX12_about_10, bX12_about_24, bX12_about_25, bX12_about_80, bX12_about_87, bX12_about_93, bX12_about_108, bX12_about_109, bX12_about_110, bX12_about_125, bX12_about_126, bX12_about_127, bX12_about_135, bX12_about_143, a_ald, a_cv, a_icge, a_ifeq, a_ifne, a_ild, a_iret, a_ist, a_isub, a_push, a_sw, sh_71, pu_rv, pu_as, Value.category, pu_bk, pu_kl, List.replicate, pu_wi_1, pu_wi_2, nl_add, nl_ladd, nl_aa, nl_mul, nl_rmul, nl_mm, pu_qe0, pu_qe1, e2, e3, z, nl_cl, nl_n0, e6]
            all_goals try simp (maxSteps := 400000) (disch := omega) [nl_tle, nl_fle, nl_tlt, nl_flt, nl_teq, nl_feq, nl_sub, nl_ss, nl_lt, nl_llt, nl_ltt, nl_le, nl_lle, nl_lee, nl_eq, nl_leq, nl_ee, nl_div, nl_rem, nl_cl, nl_n1, nl_n2, nl_n3, nl_n4, nl_add, nl_ladd, nl_aa, nl_mul, nl_rmul, nl_mm, pu_wi_1, pu_wi_2, bX12_about_0, bX12_about_10, bX12_about_24, bX12_about_25, bX12_about_80, bX12_about_87, bX12_about_93, bX12_about_108, bX12_about_109, bX12_about_110, bX12_about_125, bX12_about_126, bX12_about_127, bX12_about_135, bX12_about_143, a_ald, a_cv, a_icge, a_ifeq, a_ifne, a_ild, a_iret, a_ist, a_isub, a_push, a_sw, sh_71, pu_rv, pu_as, Value.category, pu_bk, pu_kl, pu_qe0, pu_qe1, e2, e3, z, nl_cl, nl_n0, e6]
      | 8, _ =>
        refine ⟨I 35 d, M, M, ?_, ?_, h⟩
        · rw [qX11_about]
          simp [a_ent, bX11_about_0, bX11_about_16, bX11_about_72, bX11_about_84, bX11_about_97, bX11_about_112, bX11_about_127, bX11_about_142, bX11_about_159, bX11_about_176, bX11_about_193, bX11_about_206, bX11_about_219, a_ai, a_ald, a_cv, a_gr, a_iadd, a_ifne, a_ild, a_imul, a_iret, a_push, a_sw, ag_31 hI, ag_33 hI, ag_34 hI, ag_35 hI, ag_39 hI, ag_40 hI, ag_41 hI, fx_0_2 hx, fx_31_10 hx, fx_31_2 hx, fx_31_3 hx, fx_31_4 hx, fx_31_8 hx, fx_31_9 hx, fx_5_4 hx, sh_0, sh_31, sh_33, sh_34, sh_35, sh_39, sh_40, sh_41, sh_5, pu_rv, pu_as, Value.category, pu_bk, pu_kl, List.replicate, pu_wi_1, pu_wi_2, nl_add, nl_ladd, nl_aa, nl_mul, nl_rmul, nl_mm, pu_qe0, pu_qe1, e1, nl_cl, nl_n0, e1]
          all_goals try simp (maxSteps := 400000) (disch := omega) [nl_tle, nl_fle, nl_tlt, nl_flt, nl_teq, nl_feq, nl_sub, nl_ss, nl_lt, nl_llt, nl_ltt, nl_le, nl_lle, nl_lee, nl_eq, nl_leq, nl_ee, nl_div, nl_rem, nl_cl, nl_n1, nl_n2, nl_n3, nl_n4, nl_add, nl_ladd, nl_aa, nl_mul, nl_rmul, nl_mm, pu_wi_1, pu_wi_2, bX11_about_0, bX11_about_16, bX11_about_72, bX11_about_84, bX11_about_97, bX11_about_112, bX11_about_127, bX11_about_142, bX11_about_159, bX11_about_176, bX11_about_193, bX11_about_206, bX11_about_219, a_ai, a_ald, a_cv, a_gr, a_iadd, a_ifne, a_ild, a_imul, a_iret, a_push, a_sw, ag_31 hI, ag_33 hI, ag_34 hI, ag_35 hI, ag_39 hI, ag_40 hI, ag_41 hI, fx_0_2 hx, fx_31_10 hx, fx_31_2 hx, fx_31_3 hx, fx_31_4 hx, fx_31_8 hx, fx_31_9 hx, fx_5_4 hx, sh_0, sh_31, sh_33, sh_34, sh_35, sh_39, sh_40, sh_41, sh_5, pu_rv, pu_as, Value.category, pu_bk, pu_kl, pu_qe0, pu_qe1, e1, nl_cl, nl_n0, e1]
        · have e6 := r_of7 hx hr hw d hd2
          by_cases z : 2 ≤ pu_srt I d
          · have z1 : I 32 d ≠ 0 := by rw [← e4]; exact z
            have z2 := wx_d2 hw d hd2 z1
            have z3 := wx_dn hw d hd2 (d1 z1)
            rw [qX12_about]
            simp [a_ent, bX12_about_0, bX12_about_10, bX12_about_24, bX12_about_25, bX12_about_80, bX12_about_87, bX12_about_93, bX12_about_108, bX12_about_109, bX12_about_110, bX12_about_125, bX12_about_126, bX12_about_127, bX12_about_135, bX12_about_143, a_ald, a_cv, a_icge, a_ifeq, a_ifne, a_ild, a_iret, a_ist, a_isub, a_push, a_sw, sh_71, pu_rv, pu_as, Value.category, pu_bk, pu_kl, List.replicate, pu_wi_1, pu_wi_2, nl_add, nl_ladd, nl_aa, nl_mul, nl_rmul, nl_mm, pu_qe0, pu_qe1, e2, e3, z, nl_cl, nl_n0, e6, z2.2.2.2.2.2.1, z2.2.2.2.2.2.2.1, z2.2.2.2.2.2.2.2.1, z3.1, z3.2.1, z3.2.2]
            all_goals try simp (maxSteps := 400000) (disch := omega) [nl_tle, nl_fle, nl_tlt, nl_flt, nl_teq, nl_feq, nl_sub, nl_ss, nl_lt, nl_llt, nl_ltt, nl_le, nl_lle, nl_lee, nl_eq, nl_leq, nl_ee, nl_div, nl_rem, nl_cl, nl_n1, nl_n2, nl_n3, nl_n4, nl_add, nl_ladd, nl_aa, nl_mul, nl_rmul, nl_mm, pu_wi_1, pu_wi_2, bX12_about_0, bX12_about_10, bX12_about_24, bX12_about_25, bX12_about_80, bX12_about_87, bX12_about_93, bX12_about_108, bX12_about_109, bX12_about_110, bX12_about_125, bX12_about_126, bX12_about_127, bX12_about_135, bX12_about_143, a_ald, a_cv, a_icge, a_ifeq, a_ifne, a_ild, a_iret, a_ist, a_isub, a_push, a_sw, sh_71, pu_rv, pu_as, Value.category, pu_bk, pu_kl, pu_qe0, pu_qe1, e2, e3, z, nl_cl, nl_n0, e6, z2.2.2.2.2.2.1, z2.2.2.2.2.2.2.1, z2.2.2.2.2.2.2.2.1, z3.1, z3.2.1, z3.2.2]
          · rw [qX12_about]
            simp [a_ent, bX12_about_0, bX12_about_10, bX12_about_24, bX12_about_25, bX12_about_80, bX12_about_87, bX12_about_93, bX12_about_108, bX12_about_109, bX12_about_110, bX12_about_125, bX12_about_126, bX12_about_127, bX12_about_135, bX12_about_143, a_ald, a_cv, a_icge, a_ifeq, a_ifne, a_ild, a_iret, a_ist, a_isub, a_push, a_sw, sh_71, pu_rv, pu_as, Value.category, pu_bk, pu_kl, List.replicate, pu_wi_1, pu_wi_2, nl_add, nl_ladd, nl_aa, nl_mul, nl_rmul, nl_mm, pu_qe0, pu_qe1, e2, e3, z, nl_cl, nl_n0, e6]
            all_goals try simp (maxSteps := 400000) (disch := omega) [nl_tle, nl_fle, nl_tlt, nl_flt, nl_teq, nl_feq, nl_sub, nl_ss, nl_lt, nl_llt, nl_ltt, nl_le, nl_lle, nl_lee, nl_eq, nl_leq, nl_ee, nl_div, nl_rem, nl_cl, nl_n1, nl_n2, nl_n3, nl_n4, nl_add, nl_ladd, nl_aa, nl_mul, nl_rmul, nl_mm, pu_wi_1, pu_wi_2, bX12_about_0, bX12_about_10, bX12_about_24, bX12_about_25, bX12_about_80, bX12_about_87, bX12_about_93, bX12_about_108, bX12_about_109, bX12_about_110, bX12_about_125, bX12_about_126, bX12_about_127, bX12_about_135, bX12_about_143, a_ald, a_cv, a_icge, a_ifeq, a_ifne, a_ild, a_iret, a_ist, a_isub, a_push, a_sw, sh_71, pu_rv, pu_as, Value.category, pu_bk, pu_kl, pu_qe0, pu_qe1, e2, e3, z, nl_cl, nl_n0, e6]
      | 9, _ =>
        refine ⟨I 33 d, M, M, ?_, ?_, h⟩
        · rw [qX11_about]
          simp [a_ent, bX11_about_0, bX11_about_16, bX11_about_72, bX11_about_84, bX11_about_97, bX11_about_112, bX11_about_127, bX11_about_142, bX11_about_159, bX11_about_176, bX11_about_193, bX11_about_206, bX11_about_219, a_ai, a_ald, a_cv, a_gr, a_iadd, a_ifne, a_ild, a_imul, a_iret, a_push, a_sw, ag_31 hI, ag_33 hI, ag_34 hI, ag_35 hI, ag_39 hI, ag_40 hI, ag_41 hI, fx_0_2 hx, fx_31_10 hx, fx_31_2 hx, fx_31_3 hx, fx_31_4 hx, fx_31_8 hx, fx_31_9 hx, fx_5_4 hx, sh_0, sh_31, sh_33, sh_34, sh_35, sh_39, sh_40, sh_41, sh_5, pu_rv, pu_as, Value.category, pu_bk, pu_kl, List.replicate, pu_wi_1, pu_wi_2, nl_add, nl_ladd, nl_aa, nl_mul, nl_rmul, nl_mm, pu_qe0, pu_qe1, e1, nl_cl, nl_n0, e1]
          all_goals try simp (maxSteps := 400000) (disch := omega) [nl_tle, nl_fle, nl_tlt, nl_flt, nl_teq, nl_feq, nl_sub, nl_ss, nl_lt, nl_llt, nl_ltt, nl_le, nl_lle, nl_lee, nl_eq, nl_leq, nl_ee, nl_div, nl_rem, nl_cl, nl_n1, nl_n2, nl_n3, nl_n4, nl_add, nl_ladd, nl_aa, nl_mul, nl_rmul, nl_mm, pu_wi_1, pu_wi_2, bX11_about_0, bX11_about_16, bX11_about_72, bX11_about_84, bX11_about_97, bX11_about_112, bX11_about_127, bX11_about_142, bX11_about_159, bX11_about_176, bX11_about_193, bX11_about_206, bX11_about_219, a_ai, a_ald, a_cv, a_gr, a_iadd, a_ifne, a_ild, a_imul, a_iret, a_push, a_sw, ag_31 hI, ag_33 hI, ag_34 hI, ag_35 hI, ag_39 hI, ag_40 hI, ag_41 hI, fx_0_2 hx, fx_31_10 hx, fx_31_2 hx, fx_31_3 hx, fx_31_4 hx, fx_31_8 hx, fx_31_9 hx, fx_5_4 hx, sh_0, sh_31, sh_33, sh_34, sh_35, sh_39, sh_40, sh_41, sh_5, pu_rv, pu_as, Value.category, pu_bk, pu_kl, pu_qe0, pu_qe1, e1, nl_cl, nl_n0, e1]
        · have e6 := r_of8 hx hr hw d hd2
          by_cases z : 2 ≤ pu_srt I d
          · have z1 : I 32 d ≠ 0 := by rw [← e4]; exact z
            have z2 := wx_d2 hw d hd2 z1
            have z3 := wx_dn hw d hd2 (d1 z1)
            rw [qX12_about]
            simp [a_ent, bX12_about_0, bX12_about_10, bX12_about_24, bX12_about_25, bX12_about_80, bX12_about_87, bX12_about_93, bX12_about_108, bX12_about_109, bX12_about_110, bX12_about_125, bX12_about_126, bX12_about_127, bX12_about_135, bX12_about_143, a_ald, a_cv, a_icge, a_ifeq, a_ifne, a_ild, a_iret, a_ist, a_isub, a_push, a_sw, sh_71, pu_rv, pu_as, Value.category, pu_bk, pu_kl, List.replicate, pu_wi_1, pu_wi_2, nl_add, nl_ladd, nl_aa, nl_mul, nl_rmul, nl_mm, pu_qe0, pu_qe1, e2, e3, z, nl_cl, nl_n0, e6, z2.2.2.2.2.2.1, z2.2.2.2.2.2.2.1, z2.2.2.2.2.2.2.2.1, z3.1, z3.2.1, z3.2.2]
            all_goals try simp (maxSteps := 400000) (disch := omega) [nl_tle, nl_fle, nl_tlt, nl_flt, nl_teq, nl_feq, nl_sub, nl_ss, nl_lt, nl_llt, nl_ltt, nl_le, nl_lle, nl_lee, nl_eq, nl_leq, nl_ee, nl_div, nl_rem, nl_cl, nl_n1, nl_n2, nl_n3, nl_n4, nl_add, nl_ladd, nl_aa, nl_mul, nl_rmul, nl_mm, pu_wi_1, pu_wi_2, bX12_about_0, bX12_about_10, bX12_about_24, bX12_about_25, bX12_about_80, bX12_about_87, bX12_about_93, bX12_about_108, bX12_about_109, bX12_about_110, bX12_about_125, bX12_about_126, bX12_about_127, bX12_about_135, bX12_about_143, a_ald, a_cv, a_icge, a_ifeq, a_ifne, a_ild, a_iret, a_ist, a_isub, a_push, a_sw, sh_71, pu_rv, pu_as, Value.category, pu_bk, pu_kl, pu_qe0, pu_qe1, e2, e3, z, nl_cl, nl_n0, e6, z2.2.2.2.2.2.1, z2.2.2.2.2.2.2.1, z2.2.2.2.2.2.2.2.1, z3.1, z3.2.1, z3.2.2]
          · rw [qX12_about]
            simp [a_ent, bX12_about_0, bX12_about_10, bX12_about_24, bX12_about_25, bX12_about_80, bX12_about_87, bX12_about_93, bX12_about_108, bX12_about_109, bX12_about_110, bX12_about_125, bX12_about_126, bX12_about_127, bX12_about_135, bX12_about_143, a_ald, a_cv, a_icge, a_ifeq, a_ifne, a_ild, a_iret, a_ist, a_isub, a_push, a_sw, sh_71, pu_rv, pu_as, Value.category, pu_bk, pu_kl, List.replicate, pu_wi_1, pu_wi_2, nl_add, nl_ladd, nl_aa, nl_mul, nl_rmul, nl_mm, pu_qe0, pu_qe1, e2, e3, z, nl_cl, nl_n0, e6]
            all_goals try simp (maxSteps := 400000) (disch := omega) [nl_tle, nl_fle, nl_tlt, nl_flt, nl_teq, nl_feq, nl_sub, nl_ss, nl_lt, nl_llt, nl_ltt, nl_le, nl_lle, nl_lee, nl_eq, nl_leq, nl_ee, nl_div, nl_rem, nl_cl, nl_n1, nl_n2, nl_n3, nl_n4, nl_add, nl_ladd, nl_aa, nl_mul, nl_rmul, nl_mm, pu_wi_1, pu_wi_2, bX12_about_0, bX12_about_10, bX12_about_24, bX12_about_25, bX12_about_80, bX12_about_87, bX12_about_93, bX12_about_108, bX12_about_109, bX12_about_110, bX12_about_125, bX12_about_126, bX12_about_127, bX12_about_135, bX12_about_143, a_ald, a_cv, a_icge, a_ifeq, a_ifne, a_ild, a_iret, a_ist, a_isub, a_push, a_sw, sh_71, pu_rv, pu_as, Value.category, pu_bk, pu_kl, pu_qe0, pu_qe1, e2, e3, z, nl_cl, nl_n0, e6]
      | j + 10, hj => omega
  · have e1 := c_isDoor hx hI hw x
    have e2 := r_isDoor hx hr x
    rw [pu_q0 hd] at e1 e2
    refine ⟨-1, M, M, ?_, ?_, h⟩
    · rw [qX11_about]
      simp [a_ent, bX11_about_0, bX11_about_16, bX11_about_72, bX11_about_84, bX11_about_97, bX11_about_112, bX11_about_127, bX11_about_142, bX11_about_159, bX11_about_176, bX11_about_193, bX11_about_206, bX11_about_219, a_ai, a_ald, a_cv, a_gr, a_iadd, a_ifne, a_ild, a_imul, a_iret, a_push, a_sw, ag_31 hI, ag_33 hI, ag_34 hI, ag_35 hI, ag_39 hI, ag_40 hI, ag_41 hI, fx_0_2 hx, fx_31_10 hx, fx_31_2 hx, fx_31_3 hx, fx_31_4 hx, fx_31_8 hx, fx_31_9 hx, fx_5_4 hx, sh_0, sh_31, sh_33, sh_34, sh_35, sh_39, sh_40, sh_41, sh_5, pu_rv, pu_as, Value.category, pu_bk, pu_kl, List.replicate, pu_wi_1, pu_wi_2, nl_add, nl_ladd, nl_aa, nl_mul, nl_rmul, nl_mm, pu_qe0, pu_qe1, e1]
      all_goals try simp (maxSteps := 400000) (disch := omega) [nl_tle, nl_fle, nl_tlt, nl_flt, nl_teq, nl_feq, nl_sub, nl_ss, nl_lt, nl_llt, nl_ltt, nl_le, nl_lle, nl_lee, nl_eq, nl_leq, nl_ee, nl_div, nl_rem, nl_cl, nl_n1, nl_n2, nl_n3, nl_n4, nl_add, nl_ladd, nl_aa, nl_mul, nl_rmul, nl_mm, pu_wi_1, pu_wi_2, bX11_about_0, bX11_about_16, bX11_about_72, bX11_about_84, bX11_about_97, bX11_about_112, bX11_about_127, bX11_about_142, bX11_about_159, bX11_about_176, bX11_about_193, bX11_about_206, bX11_about_219, a_ai, a_ald, a_cv, a_gr, a_iadd, a_ifne, a_ild, a_imul, a_iret, a_push, a_sw, ag_31 hI, ag_33 hI, ag_34 hI, ag_35 hI, ag_39 hI, ag_40 hI, ag_41 hI, fx_0_2 hx, fx_31_10 hx, fx_31_2 hx, fx_31_3 hx, fx_31_4 hx, fx_31_8 hx, fx_31_9 hx, fx_5_4 hx, sh_0, sh_31, sh_33, sh_34, sh_35, sh_39, sh_40, sh_41, sh_5, pu_rv, pu_as, Value.category, pu_bk, pu_kl, pu_qe0, pu_qe1, e1]
    · rw [qX12_about]
      simp [a_ent, bX12_about_0, bX12_about_10, bX12_about_24, bX12_about_25, bX12_about_80, bX12_about_87, bX12_about_93, bX12_about_108, bX12_about_109, bX12_about_110, bX12_about_125, bX12_about_126, bX12_about_127, bX12_about_135, bX12_about_143, a_ald, a_cv, a_icge, a_ifeq, a_ifne, a_ild, a_iret, a_ist, a_isub, a_push, a_sw, sh_71, pu_rv, pu_as, Value.category, pu_bk, pu_kl, List.replicate, pu_wi_1, pu_wi_2, nl_add, nl_ladd, nl_aa, nl_mul, nl_rmul, nl_mm, pu_qe0, pu_qe1, e2]
      all_goals try simp (maxSteps := 400000) (disch := omega) [nl_tle, nl_fle, nl_tlt, nl_flt, nl_teq, nl_feq, nl_sub, nl_ss, nl_lt, nl_llt, nl_ltt, nl_le, nl_lle, nl_lee, nl_eq, nl_leq, nl_ee, nl_div, nl_rem, nl_cl, nl_n1, nl_n2, nl_n3, nl_n4, nl_add, nl_ladd, nl_aa, nl_mul, nl_rmul, nl_mm, pu_wi_1, pu_wi_2, bX12_about_0, bX12_about_10, bX12_about_24, bX12_about_25, bX12_about_80, bX12_about_87, bX12_about_93, bX12_about_108, bX12_about_109, bX12_about_110, bX12_about_125, bX12_about_126, bX12_about_127, bX12_about_135, bX12_about_143, a_ald, a_cv, a_icge, a_ifeq, a_ifne, a_ild, a_iret, a_ist, a_isub, a_push, a_sw, sh_71, pu_rv, pu_as, Value.category, pu_bk, pu_kl, pu_qe0, pu_qe1, e2]
theorem r_isDay (d : Int32) (M : pu_M) : pu_r 234 [some (.int d)] [] M = some (some (.int (pu_q (¬ d < 0 ∧ ¬ 109574 < d))), M) := by
  rw [e_X12_isDay]
  grind [pu_q]
theorem c_isDay (d : Int32) (M : pu_M) : pu_r 18 [some (.int d)] [] M = some (some (.int (pu_q (¬ d < 0 ∧ ¬ 109574 < d))), M) := by
  rw [e_X11_isDay]
  grind [pu_q]
theorem op_stands (x y : Int32) : pu_op pu_Inv 146 331 [.int x, .int y] := by
  intro M h
  have hx := h.1
  have hI := pu_ag5 M
  have hr := pu_hR h
  have hw := pu_hS h
  generalize pu_si M 5 = I at *
  have hb := wx_bD hw
  have f1 := c_isDay y M
  have f2 := r_isDay y M
  by_cases hd : ¬ x < 0 ∧ x < nI (cD I)
  · obtain ⟨d, hd2, rfl⟩ : ∃ d, d < cD I ∧ x = nI d := by
      rcases pk_ix x (n := cD I) (by omega) with q | q | q
      · exact absurd q hd.1
      · exact absurd hd.2 (Int32.not_lt.mpr q)
      · exact q
    have e1 := c_isThereOn hx hI hw d hd2 y
    have e2 := r_isDoor1 hx hr hw d hd2
    have e3 := r_standsOn hx hr hw d hd2 y
    refine ⟨pu_q ((¬ y < 0 ∧ ¬ 109574 < y) ∧ pu_sd I d y), M, M, ?_, ?_, h⟩
    · rw [qX11_stands]
      simp [a_ent, bX11_stands_0, bX11_stands_33, bX11_stands_34, a_ald, a_cs, a_cv, a_gr, a_ifeq, a_ild, a_push, a_zret, ag_31 hI, ag_6 hI, fx_0_2 hx, fx_5_0 hx, fx_5_4 hx, sh_0, sh_31, sh_5, sh_6, pu_rv, pu_as, Value.category, pu_bk, pu_kl, List.replicate, pu_wi_1, pu_wi_2, nl_add, nl_ladd, nl_aa, nl_mul, nl_rmul, nl_mm, pu_qe0, pu_qe1, e1, f1]
      all_goals try simp (maxSteps := 400000) (disch := omega) [nl_tle, nl_fle, nl_tlt, nl_flt, nl_teq, nl_feq, nl_sub, nl_ss, nl_lt, nl_llt, nl_ltt, nl_le, nl_lle, nl_lee, nl_eq, nl_leq, nl_ee, nl_div, nl_rem, nl_cl, nl_n1, nl_n2, nl_n3, nl_n4, nl_add, nl_ladd, nl_aa, nl_mul, nl_rmul, nl_mm, pu_wi_1, pu_wi_2, bX11_stands_0, bX11_stands_33, bX11_stands_34, a_ald, a_cs, a_cv, a_gr, a_ifeq, a_ild, a_push, a_zret, ag_31 hI, ag_6 hI, fx_0_2 hx, fx_5_0 hx, fx_5_4 hx, sh_0, sh_31, sh_5, sh_6, pu_rv, pu_as, Value.category, pu_bk, pu_kl, pu_qe0, pu_qe1, e1, f1]
      grind [pu_q]
    · rw [qX12_stands]
      simp [a_ent, bX12_stands_0, bX12_stands_28, bX12_stands_29, a_ald, a_cs, a_cv, a_ifeq, a_ild, a_push, a_zret, sh_71, pu_rv, pu_as, Value.category, pu_bk, pu_kl, List.replicate, pu_wi_1, pu_wi_2, nl_add, nl_ladd, nl_aa, nl_mul, nl_rmul, nl_mm, pu_qe0, pu_qe1, e2, e3, f2]
      all_goals try simp (maxSteps := 400000) (disch := omega) [nl_tle, nl_fle, nl_tlt, nl_flt, nl_teq, nl_feq, nl_sub, nl_ss, nl_lt, nl_llt, nl_ltt, nl_le, nl_lle, nl_lee, nl_eq, nl_leq, nl_ee, nl_div, nl_rem, nl_cl, nl_n1, nl_n2, nl_n3, nl_n4, nl_add, nl_ladd, nl_aa, nl_mul, nl_rmul, nl_mm, pu_wi_1, pu_wi_2, bX12_stands_0, bX12_stands_28, bX12_stands_29, a_ald, a_cs, a_cv, a_ifeq, a_ild, a_push, a_zret, sh_71, pu_rv, pu_as, Value.category, pu_bk, pu_kl, pu_qe0, pu_qe1, e2, e3, f2]
      grind [pu_q]
  · have e1 := c_isThereOn0 hx hI hw x y hd
    have e2 := r_isDoor hx hr x
    rw [pu_q0 hd] at e2
    refine ⟨0, M, M, ?_, ?_, h⟩
    · by_cases q : ¬ y < 0 ∧ ¬ 109574 < y
      · rw [pu_q1 q] at f1
        rw [qX11_stands]
        simp [a_ent, bX11_stands_0, bX11_stands_33, bX11_stands_34, a_ald, a_cs, a_cv, a_gr, a_ifeq, a_ild, a_push, a_zret, ag_31 hI, ag_6 hI, fx_0_2 hx, fx_5_0 hx, fx_5_4 hx, sh_0, sh_31, sh_5, sh_6, pu_rv, pu_as, Value.category, pu_bk, pu_kl, List.replicate, pu_wi_1, pu_wi_2, nl_add, nl_ladd, nl_aa, nl_mul, nl_rmul, nl_mm, pu_qe0, pu_qe1, e1, f1]
        all_goals try simp (maxSteps := 400000) (disch := omega) [nl_tle, nl_fle, nl_tlt, nl_flt, nl_teq, nl_feq, nl_sub, nl_ss, nl_lt, nl_llt, nl_ltt, nl_le, nl_lle, nl_lee, nl_eq, nl_leq, nl_ee, nl_div, nl_rem, nl_cl, nl_n1, nl_n2, nl_n3, nl_n4, nl_add, nl_ladd, nl_aa, nl_mul, nl_rmul, nl_mm, pu_wi_1, pu_wi_2, bX11_stands_0, bX11_stands_33, bX11_stands_34, a_ald, a_cs, a_cv, a_gr, a_ifeq, a_ild, a_push, a_zret, ag_31 hI, ag_6 hI, fx_0_2 hx, fx_5_0 hx, fx_5_4 hx, sh_0, sh_31, sh_5, sh_6, pu_rv, pu_as, Value.category, pu_bk, pu_kl, pu_qe0, pu_qe1, e1, f1]
      · rw [pu_q0 q] at f1
        rw [qX11_stands]
        simp [a_ent, bX11_stands_0, bX11_stands_33, bX11_stands_34, a_ald, a_cs, a_cv, a_gr, a_ifeq, a_ild, a_push, a_zret, ag_31 hI, ag_6 hI, fx_0_2 hx, fx_5_0 hx, fx_5_4 hx, sh_0, sh_31, sh_5, sh_6, pu_rv, pu_as, Value.category, pu_bk, pu_kl, List.replicate, pu_wi_1, pu_wi_2, nl_add, nl_ladd, nl_aa, nl_mul, nl_rmul, nl_mm, pu_qe0, pu_qe1, e1, f1]
        all_goals try simp (maxSteps := 400000) (disch := omega) [nl_tle, nl_fle, nl_tlt, nl_flt, nl_teq, nl_feq, nl_sub, nl_ss, nl_lt, nl_llt, nl_ltt, nl_le, nl_lle, nl_lee, nl_eq, nl_leq, nl_ee, nl_div, nl_rem, nl_cl, nl_n1, nl_n2, nl_n3, nl_n4, nl_add, nl_ladd, nl_aa, nl_mul, nl_rmul, nl_mm, pu_wi_1, pu_wi_2, bX11_stands_0, bX11_stands_33, bX11_stands_34, a_ald, a_cs, a_cv, a_gr, a_ifeq, a_ild, a_push, a_zret, ag_31 hI, ag_6 hI, fx_0_2 hx, fx_5_0 hx, fx_5_4 hx, sh_0, sh_31, sh_5, sh_6, pu_rv, pu_as, Value.category, pu_bk, pu_kl, pu_qe0, pu_qe1, e1, f1]
    · rw [qX12_stands]
      simp [a_ent, bX12_stands_0, bX12_stands_28, bX12_stands_29, a_ald, a_cs, a_cv, a_ifeq, a_ild, a_push, a_zret, sh_71, pu_rv, pu_as, Value.category, pu_bk, pu_kl, List.replicate, pu_wi_1, pu_wi_2, nl_add, nl_ladd, nl_aa, nl_mul, nl_rmul, nl_mm, pu_qe0, pu_qe1, e2]
      all_goals try simp (maxSteps := 400000) (disch := omega) [nl_tle, nl_fle, nl_tlt, nl_flt, nl_teq, nl_feq, nl_sub, nl_ss, nl_lt, nl_llt, nl_ltt, nl_le, nl_lle, nl_lee, nl_eq, nl_leq, nl_ee, nl_div, nl_rem, nl_cl, nl_n1, nl_n2, nl_n3, nl_n4, nl_add, nl_ladd, nl_aa, nl_mul, nl_rmul, nl_mm, pu_wi_1, pu_wi_2, bX12_stands_0, bX12_stands_28, bX12_stands_29, a_ald, a_cs, a_cv, a_ifeq, a_ild, a_push, a_zret, sh_71, pu_rv, pu_as, Value.category, pu_bk, pu_kl, pu_qe0, pu_qe1, e2]
section
variable {I : Nat → Nat → Int32} {L : Nat → Nat → Int64} {s : Nat → Int32}
theorem rf_rest {s' : Nat → Int32} (hr : pu_Rel I L s) (hw : pu_WF I L) (E : ∀ j, 32 ≤ j → s' j = s j) : rl_p I s' ∧ rl_u I s' ∧ rl_n I L s' ∧ rl_t I L s' ∧ rl_k I s' ∧ rl_d I s' ∧ rl_f I L s' ∧ rl_e I s' :=
  ⟨rf_p (rg_p hr) (wx_bP hw) (fun j _ _ => E j (by omega)), rf_u (rg_u hr) (wx_bU hw) (fun j _ _ => E j (by omega)), rf_n (rg_n hr) ⟨wx_bN hw, wx_bP hw⟩ (fun j _ _ => E j (by omega)) (fun j _ _ => E j (by omega)), rf_t (rg_t hr) (wx_bT hw) (fun j _ _ => E j (by omega)) (fun j _ _ => E j (by omega)), rf_k (rg_k hr) (wx_bK hw) (fun j _ _ => E j (by omega)) (fun j _ _ => E j (by omega)), rf_d (rg_d hr) (wx_bD hw) (fun j _ _ => E j (by omega)), rf_f (rg_f hr) (wx_bF hw) (fun j _ _ => E j (by omega)), rf_e (rg_e hr) ⟨wx_bS hw, wx_bE hw, wx_bQ hw, wx_bW hw, wx_bO hw, wx_bR hw⟩ (fun j _ _ => E j (by omega))⟩
theorem St_today {d : Int32} (h : pu_St I L s) (h1 : (I 6 0).toInt ≤ d.toInt) (h2 : d.toInt ≤ 109574) : pu_St (pu_ui I 6 0 d) L (pu_us s 0 d) := by
  obtain ⟨hw, hr⟩ := h
  have b0 := wx_p0 hw
  have hb := wg_b hw
  refine ⟨⟨(wg_c hw :), hb, ⟨⟨?_, h2⟩, (wx_p1 hw :), (wx_pf hw :), fun p hp => ⟨(wx_pk hw p hp).1, ?_⟩, (wx_pa hw :), (wx_pb hw :), (wx_pt hw :), (wx_pu hw :), (wx_pr hw :), (wx_pm hw :), (wx_po hw :), (wx_pj hw :)⟩, (wg_u hw :), (wg_n hw :), (wg_k hw :), (wg_d hw :), (wg_e hw :)⟩, ⟨rfl, (rl_h1 hr :), (rl_h2 hr :), (rl_h3 hr :), (rl_h4 hr :), (rl_h5 hr :), (rl_h6 hr :), (rl_h7 hr :), (rl_h8 hr :), (rl_h9 hr :), (rl_h10 hr :), (rl_h11 hr :), (rl_h12 hr :), (rl_h13 hr :), (rl_h14 hr :), (rl_h15 hr :), (rl_h16 hr :)⟩, ?_⟩
  · show 0 ≤ d.toInt
    omega
  · have := (wx_pk hw p hp).2
    show (I 8 p).toInt ≤ d.toInt
    omega
  · have E : ∀ j, 32 ≤ j → pu_us s 0 d j = s j := fun j hj => if_neg (by omega)
    exact (rf_rest hr hw E :)
theorem St_as {d : Int32} (h : pu_St I L s) (h1 : -1 ≤ d.toInt) (h2 : d.toInt ≤ 109574) : pu_St (pu_ui I 6 1 d) L (pu_us s 1 d) := by
  obtain ⟨hw, hr⟩ := h
  have hb := wg_b hw
  refine ⟨⟨(wg_c hw :), hb, ⟨(wx_p0 hw :), ⟨h1, h2⟩, (wx_pf hw :), (wx_pk hw :), (wx_pa hw :), (wx_pb hw :), (wx_pt hw :), (wx_pu hw :), (wx_pr hw :), (wx_pm hw :), (wx_po hw :), (wx_pj hw :)⟩, (wg_u hw :), (wg_n hw :), (wg_k hw :), (wg_d hw :), (wg_e hw :)⟩, ⟨(rl_h0 hr :), rfl, (rl_h2 hr :), (rl_h3 hr :), (rl_h4 hr :), (rl_h5 hr :), (rl_h6 hr :), (rl_h7 hr :), (rl_h8 hr :), (rl_h9 hr :), (rl_h10 hr :), (rl_h11 hr :), (rl_h12 hr :), (rl_h13 hr :), (rl_h14 hr :), (rl_h15 hr :), (rl_h16 hr :)⟩, ?_⟩
  have E : ∀ j, 32 ≤ j → pu_us s 1 d j = s j := fun j hj => if_neg (by omega)
  exact (rf_rest hr hw E :)
end
/-- behind a write to the office and one to s -/
theorem pu_Inv_ws {M N : pu_M} (h : pu_Inv M) (e2 : N.2 = M.2) (h1 : ∀ a j, a < 5 ∨ (58 ≤ a ∧ a ≠ 72) → N.1 a j = M.1 a j) (hS : pu_St (pu_si N 5) (pu_sj M 5) (N.1 72)) : pu_Inv N := by
  have e3 : N.2.1 = M.2.1 := by rw [e2]
  have e4 : N.2.2 = M.2.2 := by rw [e2]
  refine pu_Inv_of h ?_ (by rw [e4]) (fun a j _ => by rw [e4]) (fun a j q => h1 a j (by omega)) (fun a j _ => by rw [e3]) (fun j => h1 _ j (by omega)) (fun j => h1 _ j (by omega)) (pu_tp_fr h.2.1 (h1 _ _ (by omega)) (h1 _ _ (by omega)) (fun j => h1 _ _ (by omega)) (fun j => h1 _ _ (by omega))) (pu_ou_fr h.2.2.1 (h1 _ _ (by omega)) (h1 _ _ (by omega)) (fun j => h1 _ _ (by omega)) (fun j => h1 _ _ (by omega))) ?_
  · intro a k r q
    rw [e4]
    exact h.1 a k r q
  · have e5 : pu_sj N 5 = pu_sj M 5 := pu_sj_eq (fun a j _ _ => by rw [e3])
    rw [e5]
    exact hS
theorem op_day (d : Int32) : pu_op pu_Inv 19 235 [.int d] := by
  intro M h
  have hx := h.1
  have hr := pu_hR h
  have hr0 := rl_h0 hr
  have ha := pu_ag5 M 6 0 (by omega) (by omega)
  have e1 := e_X11_day d M (fx_0_2 hx) (fx_5_0 hx)
  by_cases c : d < 0 ∨ 109574 < d ∨ d < M.1 6 0
  · rw [if_pos c] at e1
    have e2 := e_X12_day d M (fx_71_0 hx)
    rw [if_pos (by rw [hr0, ← ha]; exact c)] at e2
    exact ⟨0, M, M, e1, e2, h⟩
  · rw [if_neg c] at e1
    have e2 := e_X12_day d (pu_wi M 6 0 d) (fx_71_0 hx)
    have e3 : (pu_wi M 6 0 d).1 72 0 = M.1 6 0 := by rw [pu_s_wo (by decide), hr0, ← ha]
    rw [if_neg (by rw [e3]; exact c)] at e2
    refine ⟨1, _, _, e1, e2, pu_Inv_ws h rfl (fun a j q => ?_) ?_⟩
    · simp only [pu_wi_1]
      grind
    · rw [pu_si_wo (by omega), pu_si_wi (by omega) (by omega), pu_s_wi, pu_s_wo (by decide)]
      have c1 : ¬ d < M.1 6 0 := fun q => c (Or.inr (Or.inr q))
      have c2 : ¬ 109574 < d := fun q => c (Or.inr (Or.inl q))
      rw [ha] at c1
      have e : (109574 : Int32).toInt = 109574 := by decide
      exact St_today h.2.2.2.1 (Int32.le_iff_toInt_le.mp (Int32.not_lt.mp c1)) (by have := Int32.le_iff_toInt_le.mp (Int32.not_lt.mp c2); omega)
theorem op_as (d : Int32) : pu_op pu_Inv 20 236 [.int d] := by
  intro M h
  have hx := h.1
  by_cases c : (d = -1 ∨ (¬ d < 0 ∧ ¬ 109574 < d))
  · have e1 := e_X11_as1 hx d c
    refine ⟨1, _, pu_wi (pu_wi M 6 1 d) 72 1 d, e1, ?_, pu_Inv_ws h rfl (fun a j q => ?_) ?_⟩
    · have hx2 : pu_fx (pu_wi M 6 1 d) := hx
      generalize pu_wi M 6 1 d = N at *
      have f := r_isDay d N
      rcases c with c | c
      · subst c
        rw [qX12_as]
        simp [a_ent, bX12_as_0, bX12_as_14, a_ald, a_cs, a_gr, a_iceq, a_ifne, a_ild, a_push, a_wi, a_zret, fx_71_0 hx, sh_71, sh_72, pu_rv, pu_as, Value.category, pu_bk, pu_kl, List.replicate, pu_wi_1, pu_wi_2, nl_add, nl_ladd, nl_aa, nl_mul, nl_rmul, nl_mm, pu_qe0, pu_qe1, fx_71_0 hx2]
        all_goals try simp (maxSteps := 400000) (disch := omega) [nl_tle, nl_fle, nl_tlt, nl_flt, nl_teq, nl_feq, nl_sub, nl_ss, nl_lt, nl_llt, nl_ltt, nl_le, nl_lle, nl_lee, nl_eq, nl_leq, nl_ee, nl_div, nl_rem, nl_cl, nl_n1, nl_n2, nl_n3, nl_n4, nl_add, nl_ladd, nl_aa, nl_mul, nl_rmul, nl_mm, pu_wi_1, pu_wi_2, bX12_as_0, bX12_as_14, a_ald, a_cs, a_gr, a_iceq, a_ifne, a_ild, a_push, a_wi, a_zret, fx_71_0 hx, sh_71, sh_72, pu_rv, pu_as, Value.category, pu_bk, pu_kl, pu_qe0, pu_qe1, fx_71_0 hx2]
      · rw [pu_q1 c] at f
        by_cases q : d = -1
        · rw [qX12_as]
          simp [a_ent, bX12_as_0, bX12_as_14, a_ald, a_cs, a_gr, a_iceq, a_ifne, a_ild, a_push, a_wi, a_zret, fx_71_0 hx, sh_71, sh_72, pu_rv, pu_as, Value.category, pu_bk, pu_kl, List.replicate, pu_wi_1, pu_wi_2, nl_add, nl_ladd, nl_aa, nl_mul, nl_rmul, nl_mm, pu_qe0, pu_qe1, q, fx_71_0 hx2]
          all_goals try simp (maxSteps := 400000) (disch := omega) [nl_tle, nl_fle, nl_tlt, nl_flt, nl_teq, nl_feq, nl_sub, nl_ss, nl_lt, nl_llt, nl_ltt, nl_le, nl_lle, nl_lee, nl_eq, nl_leq, nl_ee, nl_div, nl_rem, nl_cl, nl_n1, nl_n2, nl_n3, nl_n4, nl_add, nl_ladd, nl_aa, nl_mul, nl_rmul, nl_mm, pu_wi_1, pu_wi_2, bX12_as_0, bX12_as_14, a_ald, a_cs, a_gr, a_iceq, a_ifne, a_ild, a_push, a_wi, a_zret, fx_71_0 hx, sh_71, sh_72, pu_rv, pu_as, Value.category, pu_bk, pu_kl, pu_qe0, pu_qe1, q, fx_71_0 hx2]
        · rw [qX12_as]
          simp [a_ent, bX12_as_0, bX12_as_14, a_ald, a_cs, a_gr, a_iceq, a_ifne, a_ild, a_push, a_wi, a_zret, fx_71_0 hx, sh_71, sh_72, pu_rv, pu_as, Value.category, pu_bk, pu_kl, List.replicate, pu_wi_1, pu_wi_2, nl_add, nl_ladd, nl_aa, nl_mul, nl_rmul, nl_mm, pu_qe0, pu_qe1, f, q, fx_71_0 hx2]
          all_goals try simp (maxSteps := 400000) (disch := omega) [nl_tle, nl_fle, nl_tlt, nl_flt, nl_teq, nl_feq, nl_sub, nl_ss, nl_lt, nl_llt, nl_ltt, nl_le, nl_lle, nl_lee, nl_eq, nl_leq, nl_ee, nl_div, nl_rem, nl_cl, nl_n1, nl_n2, nl_n3, nl_n4, nl_add, nl_ladd, nl_aa, nl_mul, nl_rmul, nl_mm, pu_wi_1, pu_wi_2, bX12_as_0, bX12_as_14, a_ald, a_cs, a_gr, a_iceq, a_ifne, a_ild, a_push, a_wi, a_zret, fx_71_0 hx, sh_71, sh_72, pu_rv, pu_as, Value.category, pu_bk, pu_kl, pu_qe0, pu_qe1, f, q, fx_71_0 hx2]
    · simp only [pu_wi_1]
      grind
    · rw [pu_si_wo (by omega), pu_si_wi (by omega) (by omega), pu_s_wi, pu_s_wo (by decide)]
      have e : (109574 : Int32).toInt = 109574 := by decide
      have e0 : (0 : Int32).toInt = 0 := by decide
      have em : (-1 : Int32).toInt = -1 := by decide
      rcases c with c | c
      · subst c
        exact St_as h.2.2.2.1 (by omega) (by omega)
      · have c1 := Int32.le_iff_toInt_le.mp (Int32.not_lt.mp c.1)
        have c2 := Int32.le_iff_toInt_le.mp (Int32.not_lt.mp c.2)
        exact St_as h.2.2.2.1 (by omega) (by omega)
  · have e1 := e_X11_as0 hx d c
    refine ⟨0, M, M, e1, ?_, h⟩
    have f := r_isDay d M
    rw [pu_q0 (fun q => c (Or.inr q))] at f
    have q : ¬ d = -1 := fun q => c (Or.inl q)
    rw [qX12_as]
    simp [a_ent, bX12_as_0, bX12_as_14, a_ald, a_cs, a_gr, a_iceq, a_ifne, a_ild, a_push, a_wi, a_zret, fx_71_0 hx, sh_71, sh_72, pu_rv, pu_as, Value.category, pu_bk, pu_kl, List.replicate, pu_wi_1, pu_wi_2, nl_add, nl_ladd, nl_aa, nl_mul, nl_rmul, nl_mm, pu_qe0, pu_qe1, f, q]
    all_goals try simp (maxSteps := 400000) (disch := omega) [nl_tle, nl_fle, nl_tlt, nl_flt, nl_teq, nl_feq, nl_sub, nl_ss, nl_lt, nl_llt, nl_ltt, nl_le, nl_lle, nl_lee, nl_eq, nl_leq, nl_ee, nl_div, nl_rem, nl_cl, nl_n1, nl_n2, nl_n3, nl_n4, nl_add, nl_ladd, nl_aa, nl_mul, nl_rmul, nl_mm, pu_wi_1, pu_wi_2, bX12_as_0, bX12_as_14, a_ald, a_cs, a_gr, a_iceq, a_ifne, a_ild, a_push, a_wi, a_zret, fx_71_0 hx, sh_71, sh_72, pu_rv, pu_as, Value.category, pu_bk, pu_kl, pu_qe0, pu_qe1, f, q]
