/-! doors on both sides -/
/-- a door's sort: a corner is 1 -/
def pu_srt (I : Nat → Nat → Int32) (d : Nat) : Int32 := if I 38 d = -1 then I 32 d else 1
theorem pu_srt_lt {I : Nat → Nat → Int32} {L : Nat → Nat → Int64} (hw : pu_WF I L) {d : Nat} (hd : d < cD I) : (2 ≤ pu_srt I d) = (I 32 d ≠ 0) := by
  have h1 := wx_ds hw d hd
  have h2 := wx_d1 hw d hd
  unfold pu_srt
  have e2 : (2 : Int32).toInt = 2 := by decide
  have e0 : (0 : Int32).toInt = 0 := by decide
  split
  · rename_i q
    rcases h1 with h1 | h1
    · simp [h1]
    · have a1 : 2 ≤ I 32 d := Int32.le_iff_toInt_le.mpr (by omega)
      have a2 : I 32 d ≠ 0 := fun z => by rw [z] at h1; omega
      simp [a1, a2]
  · rename_i q
    have h3 := (h2 q).1
    simp [h3]
section
variable {M : pu_M} {I : Nat → Nat → Int32} {L : Nat → Nat → Int64}
theorem c_isDoor (hx : pu_fx M) (hI : pu_ag M I) (hw : pu_WF I L) (x : Int32) : pu_r 85 [some (.ref 31), some (.int x)] [] M = some (some (.int (pu_q (¬ x < 0 ∧ x < nI (cD I)))), M) := by
  have hn := wx_cD hw
  rw [qX2_isDoor]
  simp [a_ent, bX2_isDoor_0, bX2_isDoor_16, bX2_isDoor_17, a_ald, a_gi, a_icge, a_iflt, a_ild, a_push, a_zret, ag_31 hI, sh_31, pu_rv, pu_as, Value.category, pu_bk, pu_kl, List.replicate, pu_wi_1, pu_wi_2, nl_add, nl_ladd, nl_aa, nl_mul, nl_rmul, nl_mm, pu_qe0, pu_qe1, hn]
  all_goals try simp (maxSteps := 400000) (disch := omega) [nl_tle, nl_fle, nl_tlt, nl_flt, nl_teq, nl_feq, nl_sub, nl_ss, nl_lt, nl_llt, nl_ltt, nl_le, nl_lle, nl_lee, nl_eq, nl_leq, nl_ee, nl_div, nl_rem, nl_cl, nl_n1, nl_n2, nl_n3, nl_n4, nl_add, nl_ladd, nl_aa, nl_mul, nl_rmul, nl_mm, pu_wi_1, pu_wi_2, bX2_isDoor_0, bX2_isDoor_16, bX2_isDoor_17, a_ald, a_gi, a_icge, a_iflt, a_ild, a_push, a_zret, ag_31 hI, sh_31, pu_rv, pu_as, Value.category, pu_bk, pu_kl, pu_qe0, pu_qe1, hn]
  grind [pu_q]
theorem c_isDoor1 (hx : pu_fx M) (hI : pu_ag M I) (hw : pu_WF I L) (d : Nat) (hd : d < cD I) : pu_r 85 [some (.ref 31), some (.int (nI d))] [] M = some (some (.int 1), M) := by
  have hb := wx_bD hw
  rw [c_isDoor hx hI hw, pu_q1 ⟨nI_pos (by omega), nI_lt hd (by omega)⟩]
theorem c_sortOf (hx : pu_fx M) (hI : pu_ag M I) (hw : pu_WF I L) (d : Nat) (hd : d < cD I) : pu_r 91 [some (.ref 31), some (.int (nI d))] [] M = some (some (.int (pu_srt I d)), M) := by
  have hb := wx_bD hw
  have e := c_isDoor1 hx hI hw d hd
  rw [qX2_sortOf]
  simp [a_ent, bX2_sortOf_0, bX2_sortOf_10, bX2_sortOf_24, bX2_sortOf_30, a_ai, a_ald, a_cv, a_gr, a_iceq, a_ifne, a_ild, a_iret, a_push, ag_32 hI, ag_38 hI, fx_31_1 hx, fx_31_7 hx, sh_31, sh_32, sh_38, pu_rv, pu_as, Value.category, pu_bk, pu_kl, List.replicate, pu_wi_1, pu_wi_2, nl_add, nl_ladd, nl_aa, nl_mul, nl_rmul, nl_mm, pu_qe0, pu_qe1, e]
  all_goals try simp (maxSteps := 400000) (disch := omega) [nl_tle, nl_fle, nl_tlt, nl_flt, nl_teq, nl_feq, nl_sub, nl_ss, nl_lt, nl_llt, nl_ltt, nl_le, nl_lle, nl_lee, nl_eq, nl_leq, nl_ee, nl_div, nl_rem, nl_cl, nl_n1, nl_n2, nl_n3, nl_n4, nl_add, nl_ladd, nl_aa, nl_mul, nl_rmul, nl_mm, pu_wi_1, pu_wi_2, bX2_sortOf_0, bX2_sortOf_10, bX2_sortOf_24, bX2_sortOf_30, a_ai, a_ald, a_cv, a_gr, a_iceq, a_ifne, a_ild, a_iret, a_push, ag_32 hI, ag_38 hI, fx_31_1 hx, fx_31_7 hx, sh_31, sh_32, sh_38, pu_rv, pu_as, Value.category, pu_bk, pu_kl, pu_qe0, pu_qe1, e]
  grind [pu_srt]
theorem c_isOpen (hx : pu_fx M) (hI : pu_ag M I) (hw : pu_WF I L) (d : Nat) (hd : d < cD I) : pu_r 90 [some (.ref 31), some (.int (nI d))] [] M = some (some (.int (pu_q (I 37 d = -1))), M) := by
  have hb := wx_bD hw
  have e := c_isDoor1 hx hI hw d hd
  rw [qX2_isOpen]
  simp [a_ent, bX2_isOpen_0, bX2_isOpen_22, bX2_isOpen_23, a_ai, a_ald, a_cv, a_gr, a_icne, a_ifeq, a_ild, a_push, a_zret, ag_37 hI, fx_31_6 hx, sh_31, sh_37, pu_rv, pu_as, Value.category, pu_bk, pu_kl, List.replicate, pu_wi_1, pu_wi_2, nl_add, nl_ladd, nl_aa, nl_mul, nl_rmul, nl_mm, pu_qe0, pu_qe1, e]
  all_goals try simp (maxSteps := 400000) (disch := omega) [nl_tle, nl_fle, nl_tlt, nl_flt, nl_teq, nl_feq, nl_sub, nl_ss, nl_lt, nl_llt, nl_ltt, nl_le, nl_lle, nl_lee, nl_eq, nl_leq, nl_ee, nl_div, nl_rem, nl_cl, nl_n1, nl_n2, nl_n3, nl_n4, nl_add, nl_ladd, nl_aa, nl_mul, nl_rmul, nl_mm, pu_wi_1, pu_wi_2, bX2_isOpen_0, bX2_isOpen_22, bX2_isOpen_23, a_ai, a_ald, a_cv, a_gr, a_icne, a_ifeq, a_ild, a_push, a_zret, ag_37 hI, fx_31_6 hx, sh_31, sh_37, pu_rv, pu_as, Value.category, pu_bk, pu_kl, pu_qe0, pu_qe1, e]
  grind [pu_q]
theorem c_isOpen0 (hx : pu_fx M) (hI : pu_ag M I) (hw : pu_WF I L) (x : Int32) (h : ¬ (¬ x < 0 ∧ x < nI (cD I))) : pu_r 90 [some (.ref 31), some (.int x)] [] M = some (some (.int 0), M) := by
  have e := c_isDoor hx hI hw x
  rw [pu_q0 h] at e
  rw [qX2_isOpen]
  simp [a_ent, bX2_isOpen_0, bX2_isOpen_22, bX2_isOpen_23, a_ai, a_ald, a_cv, a_gr, a_icne, a_ifeq, a_ild, a_push, a_zret, ag_37 hI, fx_31_6 hx, sh_31, sh_37, pu_rv, pu_as, Value.category, pu_bk, pu_kl, List.replicate, pu_wi_1, pu_wi_2, nl_add, nl_ladd, nl_aa, nl_mul, nl_rmul, nl_mm, pu_qe0, pu_qe1, e]
  all_goals try simp (maxSteps := 400000) (disch := omega) [nl_tle, nl_fle, nl_tlt, nl_flt, nl_teq, nl_feq, nl_sub, nl_ss, nl_lt, nl_llt, nl_ltt, nl_le, nl_lle, nl_lee, nl_eq, nl_leq, nl_ee, nl_div, nl_rem, nl_cl, nl_n1, nl_n2, nl_n3, nl_n4, nl_add, nl_ladd, nl_aa, nl_mul, nl_rmul, nl_mm, pu_wi_1, pu_wi_2, bX2_isOpen_0, bX2_isOpen_22, bX2_isOpen_23, a_ai, a_ald, a_cv, a_gr, a_icne, a_ifeq, a_ild, a_push, a_zret, ag_37 hI, fx_31_6 hx, sh_31, sh_37, pu_rv, pu_as, Value.category, pu_bk, pu_kl, pu_qe0, pu_qe1, e]
theorem c_streetOf (hx : pu_fx M) (hI : pu_ag M I) (hw : pu_WF I L) (k : Nat) (hk : k < 2 * cD I) : pu_r 66 [some (.ref 31), some (.int (nI k))] [] M = some (some (.int (I 39 k)), M) := by
  have hb := wx_bD hw
  have hn := wx_cD hw
  rw [qX2_streetOf]
  simp [a_ent, bX2_streetOf_0, bX2_streetOf_23, bX2_streetOf_24, a_ai, a_ald, a_gi, a_gr, a_icge, a_iflt, a_ild, a_imul, a_iret, a_push, ag_31 hI, ag_39 hI, fx_31_8 hx, sh_31, sh_39, pu_rv, pu_as, Value.category, pu_bk, pu_kl, List.replicate, pu_wi_1, pu_wi_2, nl_add, nl_ladd, nl_aa, nl_mul, nl_rmul, nl_mm, pu_qe0, pu_qe1, hn]
  all_goals try simp (maxSteps := 400000) (disch := omega) [nl_tle, nl_fle, nl_tlt, nl_flt, nl_teq, nl_feq, nl_sub, nl_ss, nl_lt, nl_llt, nl_ltt, nl_le, nl_lle, nl_lee, nl_eq, nl_leq, nl_ee, nl_div, nl_rem, nl_cl, nl_n1, nl_n2, nl_n3, nl_n4, nl_add, nl_ladd, nl_aa, nl_mul, nl_rmul, nl_mm, pu_wi_1, pu_wi_2, bX2_streetOf_0, bX2_streetOf_23, bX2_streetOf_24, a_ai, a_ald, a_gi, a_gr, a_icge, a_iflt, a_ild, a_imul, a_iret, a_push, ag_31 hI, ag_39 hI, fx_31_8 hx, sh_31, sh_39, pu_rv, pu_as, Value.category, pu_bk, pu_kl, pu_qe0, pu_qe1, hn]
theorem pu_cw {x : Int32} {n : Nat} (h : -1 ≤ x.toInt ∧ x.toInt < n) : x = -1 ∨ ∃ l, l < n ∧ x = nI l := by
  by_cases q : x = -1
  · exact Or.inl q
  · have h1 := pu_ne1 h.1 q
    exact Or.inr ⟨x.toNatClampNeg, by have := pu_nnT h1; omega, pu_nn0 h1⟩
theorem pu_on {x : Int32} {n : Nat} (h : 0 ≤ x.toInt ∧ x.toInt < n) : x = nI x.toNatClampNeg ∧ x.toNatClampNeg < n := ⟨pu_nn0 h.1, by have := pu_nnT h.1; omega⟩
/-- the door stands on a day -/
def pu_sd (I : Nat → Nat → Int32) (d : Nat) (y : Int32) : Prop := pu_hd I (I 36 d).toNatClampNeg (I 37 d) y
theorem c_isThereOn (hx : pu_fx M) (hI : pu_ag M I) (hw : pu_WF I L) (d : Nat) (hd : d < cD I) (y : Int32) : pu_r 145 [some (.ref 31), some (.int (nI d)), some (.int y), some (.ref 6)] [] M = some (some (.int (pu_q (pu_sd I d y))), M) := by
  have hb := wx_bD hw
  have e := c_isDoor1 hx hI hw d hd
  obtain ⟨o1, o2⟩ := pu_on (wx_do hw d hd)
  have c1 := pu_cw ⟨(wx_dc hw d hd).1, (wx_dc hw d hd).2.1⟩
  have g := c_holds hx hI hw _ o2 (I 37 d) y c1
  rw [← o1] at g
  rw [qX2_isThereOn]
  simp [a_ent, bX2_isThereOn_0, bX2_isThereOn_32, bX2_isThereOn_33, a_ai, a_ald, a_cv, a_gr, a_ifeq, a_ild, a_push, a_zret, ag_36 hI, ag_37 hI, fx_31_5 hx, fx_31_6 hx, sh_31, sh_36, sh_37, sh_6, pu_rv, pu_as, Value.category, pu_bk, pu_kl, List.replicate, pu_wi_1, pu_wi_2, nl_add, nl_ladd, nl_aa, nl_mul, nl_rmul, nl_mm, pu_qe0, pu_qe1, e, g, sh_6]
  all_goals try simp (maxSteps := 400000) (disch := omega) [nl_tle, nl_fle, nl_tlt, nl_flt, nl_teq, nl_feq, nl_sub, nl_ss, nl_lt, nl_llt, nl_ltt, nl_le, nl_lle, nl_lee, nl_eq, nl_leq, nl_ee, nl_div, nl_rem, nl_cl, nl_n1, nl_n2, nl_n3, nl_n4, nl_add, nl_ladd, nl_aa, nl_mul, nl_rmul, nl_mm, pu_wi_1, pu_wi_2, bX2_isThereOn_0, bX2_isThereOn_32, bX2_isThereOn_33, a_ai, a_ald, a_cv, a_gr, a_ifeq, a_ild, a_push, a_zret, ag_36 hI, ag_37 hI, fx_31_5 hx, fx_31_6 hx, sh_31, sh_36, sh_37, sh_6, pu_rv, pu_as, Value.category, pu_bk, pu_kl, pu_qe0, pu_qe1, e, g, sh_6]
  grind [pu_q, pu_sd]
theorem c_isThereOn0 (hx : pu_fx M) (hI : pu_ag M I) (hw : pu_WF I L) (x y : Int32) (h : ¬ (¬ x < 0 ∧ x < nI (cD I))) : pu_r 145 [some (.ref 31), some (.int x), some (.int y), some (.ref 6)] [] M = some (some (.int 0), M) := by
  have e := c_isDoor hx hI hw x
  rw [pu_q0 h] at e
  rw [qX2_isThereOn]
  simp [a_ent, bX2_isThereOn_0, bX2_isThereOn_32, bX2_isThereOn_33, a_ai, a_ald, a_cv, a_gr, a_ifeq, a_ild, a_push, a_zret, ag_36 hI, ag_37 hI, fx_31_5 hx, fx_31_6 hx, sh_31, sh_36, sh_37, sh_6, pu_rv, pu_as, Value.category, pu_bk, pu_kl, List.replicate, pu_wi_1, pu_wi_2, nl_add, nl_ladd, nl_aa, nl_mul, nl_rmul, nl_mm, pu_qe0, pu_qe1, e]
  all_goals try simp (maxSteps := 400000) (disch := omega) [nl_tle, nl_fle, nl_tlt, nl_flt, nl_teq, nl_feq, nl_sub, nl_ss, nl_lt, nl_llt, nl_ltt, nl_le, nl_lle, nl_lee, nl_eq, nl_leq, nl_ee, nl_div, nl_rem, nl_cl, nl_n1, nl_n2, nl_n3, nl_n4, nl_add, nl_ladd, nl_aa, nl_mul, nl_rmul, nl_mm, pu_wi_1, pu_wi_2, bX2_isThereOn_0, bX2_isThereOn_32, bX2_isThereOn_33, a_ai, a_ald, a_cv, a_gr, a_ifeq, a_ild, a_push, a_zret, ag_36 hI, ag_37 hI, fx_31_5 hx, fx_31_6 hx, sh_31, sh_36, sh_37, sh_6, pu_rv, pu_as, Value.category, pu_bk, pu_kl, pu_qe0, pu_qe1, e]
theorem r_isDoor (hx : pu_fx M) (hr : pu_Rel I L (M.1 72)) (x : Int32) : pu_r 264 [some (.ref 71), some (.int x)] [] M = some (some (.int (pu_q (¬ x < 0 ∧ x < nI (cD I)))), M) := by
  rw [qX12_isDoor]
  simp [a_ent, bX12_isDoor_0, bX12_isDoor_18, bX12_isDoor_19, a_ai, a_ald, a_gr, a_icge, a_iflt, a_ild, a_push, a_zret, fx_71_0 hx, sh_71, sh_72, pu_rv, pu_as, Value.category, pu_bk, pu_kl, List.replicate, pu_wi_1, pu_wi_2, nl_add, nl_ladd, nl_aa, nl_mul, nl_rmul, nl_mm, pu_qe0, pu_qe1, rl_h4 hr]
  all_goals try simp (maxSteps := 400000) (disch := omega) [nl_tle, nl_fle, nl_tlt, nl_flt, nl_teq, nl_feq, nl_sub, nl_ss, nl_lt, nl_llt, nl_ltt, nl_le, nl_lle, nl_lee, nl_eq, nl_leq, nl_ee, nl_div, nl_rem, nl_cl, nl_n1, nl_n2, nl_n3, nl_n4, nl_add, nl_ladd, nl_aa, nl_mul, nl_rmul, nl_mm, pu_wi_1, pu_wi_2, bX12_isDoor_0, bX12_isDoor_18, bX12_isDoor_19, a_ai, a_ald, a_gr, a_icge, a_iflt, a_ild, a_push, a_zret, fx_71_0 hx, sh_71, sh_72, pu_rv, pu_as, Value.category, pu_bk, pu_kl, pu_qe0, pu_qe1, rl_h4 hr]
  grind [pu_q]
theorem r_isDoor1 (hx : pu_fx M) (hr : pu_Rel I L (M.1 72)) (hw : pu_WF I L) (d : Nat) (hd : d < cD I) : pu_r 264 [some (.ref 71), some (.int (nI d))] [] M = some (some (.int 1), M) := by
  have hb := wx_bD hw
  rw [r_isDoor hx hr, pu_q1 ⟨nI_pos (by omega), nI_lt hd (by omega)⟩]
theorem r_of (hx : pu_fx M) (d j : Nat) (hd : d < 100) (hj : j < 12) : pu_r 265 [some (.ref 71), some (.int (nI d)), some (.int (nI j))] [] M = some (some (.int (M.1 72 (9552 + 12 * d + j))), M) := by
  rw [qX12_of]
  simp [a_ent, bX12_of_0, a_ai, a_ald, a_gr, a_iadd, a_ild, a_imul, a_iret, a_push, fx_71_0 hx, sh_71, sh_72, pu_rv, pu_as, Value.category, pu_bk, pu_kl, List.replicate, pu_wi_1, pu_wi_2, nl_add, nl_ladd, nl_aa, nl_mul, nl_rmul, nl_mm, pu_qe0, pu_qe1]
  all_goals try simp (maxSteps := 400000) (disch := omega) [nl_tle, nl_fle, nl_tlt, nl_flt, nl_teq, nl_feq, nl_sub, nl_ss, nl_lt, nl_llt, nl_ltt, nl_le, nl_lle, nl_lee, nl_eq, nl_leq, nl_ee, nl_div, nl_rem, nl_cl, nl_n1, nl_n2, nl_n3, nl_n4, nl_add, nl_ladd, nl_aa, nl_mul, nl_rmul, nl_mm, pu_wi_1, pu_wi_2, bX12_of_0, a_ai, a_ald, a_gr, a_iadd, a_ild, a_imul, a_iret, a_push, fx_71_0 hx, sh_71, sh_72, pu_rv, pu_as, Value.category, pu_bk, pu_kl, pu_qe0, pu_qe1]
theorem r_of0 (hx : pu_fx M) (hr : pu_Rel I L (M.1 72)) (hw : pu_WF I L) (d : Nat) (hd : d < cD I) : pu_r 265 [some (.ref 71), some (.int (nI d)), some (.int 0)] [] M = some (some (.int (pu_srt I d)), M) := by
  have hb := wx_bD hw
  have e := r_of hx d 0 (by omega) (by omega)
  rw [show 9552 + 12 * d + 0 = 9552 + 12 * d from rfl, rl_d0 hr d hd] at e
  exact e
theorem r_of1 (hx : pu_fx M) (hr : pu_Rel I L (M.1 72)) (hw : pu_WF I L) (d : Nat) (hd : d < cD I) : pu_r 265 [some (.ref 71), some (.int (nI d)), some (.int 1)] [] M = some (some (.int (I 39 (2 * d))), M) := by
  have hb := wx_bD hw
  have e := r_of hx d 1 (by omega) (by omega)
  rw [show 9552 + 12 * d + 1 = 9552 + 12 * d + 1 from rfl, rl_d1 hr d hd] at e
  exact e
theorem r_of2 (hx : pu_fx M) (hr : pu_Rel I L (M.1 72)) (hw : pu_WF I L) (d : Nat) (hd : d < cD I) : pu_r 265 [some (.ref 71), some (.int (nI d)), some (.int 2)] [] M = some (some (.int (I 40 (2 * d))), M) := by
  have hb := wx_bD hw
  have e := r_of hx d 2 (by omega) (by omega)
  rw [show 9552 + 12 * d + 2 = 9552 + 12 * d + 2 from rfl, rl_d2 hr d hd] at e
  exact e
theorem r_of3 (hx : pu_fx M) (hr : pu_Rel I L (M.1 72)) (hw : pu_WF I L) (d : Nat) (hd : d < cD I) : pu_r 265 [some (.ref 71), some (.int (nI d)), some (.int 3)] [] M = some (some (.int (I 41 (2 * d))), M) := by
  have hb := wx_bD hw
  have e := r_of hx d 3 (by omega) (by omega)
  rw [show 9552 + 12 * d + 3 = 9552 + 12 * d + 3 from rfl, rl_d3 hr d hd] at e
  exact e
theorem r_of4 (hx : pu_fx M) (hr : pu_Rel I L (M.1 72)) (hw : pu_WF I L) (d : Nat) (hd : d < cD I) : pu_r 265 [some (.ref 71), some (.int (nI d)), some (.int 4)] [] M = some (some (.int (I 39 (2 * d + 1))), M) := by
  have hb := wx_bD hw
  have e := r_of hx d 4 (by omega) (by omega)
  rw [show 9552 + 12 * d + 4 = 9552 + 12 * d + 4 from rfl, rl_d4 hr d hd] at e
  exact e
theorem r_of5 (hx : pu_fx M) (hr : pu_Rel I L (M.1 72)) (hw : pu_WF I L) (d : Nat) (hd : d < cD I) : pu_r 265 [some (.ref 71), some (.int (nI d)), some (.int 5)] [] M = some (some (.int (I 40 (2 * d + 1))), M) := by
  have hb := wx_bD hw
  have e := r_of hx d 5 (by omega) (by omega)
  rw [show 9552 + 12 * d + 5 = 9552 + 12 * d + 5 from rfl, rl_d5 hr d hd] at e
  exact e
theorem r_of6 (hx : pu_fx M) (hr : pu_Rel I L (M.1 72)) (hw : pu_WF I L) (d : Nat) (hd : d < cD I) : pu_r 265 [some (.ref 71), some (.int (nI d)), some (.int 6)] [] M = some (some (.int (I 41 (2 * d + 1))), M) := by
  have hb := wx_bD hw
  have e := r_of hx d 6 (by omega) (by omega)
  rw [show 9552 + 12 * d + 6 = 9552 + 12 * d + 6 from rfl, rl_d6 hr d hd] at e
  exact e
theorem r_of7 (hx : pu_fx M) (hr : pu_Rel I L (M.1 72)) (hw : pu_WF I L) (d : Nat) (hd : d < cD I) : pu_r 265 [some (.ref 71), some (.int (nI d)), some (.int 7)] [] M = some (some (.int (I 35 d)), M) := by
  have hb := wx_bD hw
  have e := r_of hx d 7 (by omega) (by omega)
  rw [show 9552 + 12 * d + 7 = 9552 + 12 * d + 7 from rfl, rl_d7 hr d hd] at e
  exact e
theorem r_of8 (hx : pu_fx M) (hr : pu_Rel I L (M.1 72)) (hw : pu_WF I L) (d : Nat) (hd : d < cD I) : pu_r 265 [some (.ref 71), some (.int (nI d)), some (.int 8)] [] M = some (some (.int (I 33 d)), M) := by
  have hb := wx_bD hw
  have e := r_of hx d 8 (by omega) (by omega)
  rw [show 9552 + 12 * d + 8 = 9552 + 12 * d + 8 from rfl, rl_d8 hr d hd] at e
  exact e
theorem r_of9 (hx : pu_fx M) (hr : pu_Rel I L (M.1 72)) (hw : pu_WF I L) (d : Nat) (hd : d < cD I) : pu_r 265 [some (.ref 71), some (.int (nI d)), some (.int 9)] [] M = some (some (.int (I 36 d)), M) := by
  have hb := wx_bD hw
  have e := r_of hx d 9 (by omega) (by omega)
  rw [show 9552 + 12 * d + 9 = 9552 + 12 * d + 9 from rfl, rl_d9 hr d hd] at e
  exact e
theorem r_of10 (hx : pu_fx M) (hr : pu_Rel I L (M.1 72)) (hw : pu_WF I L) (d : Nat) (hd : d < cD I) : pu_r 265 [some (.ref 71), some (.int (nI d)), some (.int 10)] [] M = some (some (.int (I 37 d)), M) := by
  have hb := wx_bD hw
  have e := r_of hx d 10 (by omega) (by omega)
  rw [show 9552 + 12 * d + 10 = 9552 + 12 * d + 10 from rfl, rl_d10 hr d hd] at e
  exact e
theorem r_of11 (hx : pu_fx M) (hr : pu_Rel I L (M.1 72)) (hw : pu_WF I L) (d : Nat) (hd : d < cD I) : pu_r 265 [some (.ref 71), some (.int (nI d)), some (.int 11)] [] M = some (some (.int (I 38 d)), M) := by
  have hb := wx_bD hw
  have e := r_of hx d 11 (by omega) (by omega)
  rw [show 9552 + 12 * d + 11 = 9552 + 12 * d + 11 from rfl, rl_d11 hr d hd] at e
  exact e
theorem r_isOpen (hx : pu_fx M) (hr : pu_Rel I L (M.1 72)) (hw : pu_WF I L) (d : Nat) (hd : d < cD I) : pu_r 266 [some (.ref 71), some (.int (nI d))] [] M = some (some (.int (pu_q (I 37 d = -1))), M) := by
  have e := r_isDoor1 hx hr hw d hd
  have e2 := r_of10 hx hr hw d hd
  rw [qX12_isOpen]
  simp [a_ent, bX12_isOpen_0, bX12_isOpen_23, bX12_isOpen_24, a_ald, a_cv, a_icne, a_ifeq, a_ild, a_push, a_zret, sh_71, pu_rv, pu_as, Value.category, pu_bk, pu_kl, List.replicate, pu_wi_1, pu_wi_2, nl_add, nl_ladd, nl_aa, nl_mul, nl_rmul, nl_mm, pu_qe0, pu_qe1, e, e2]
  all_goals try simp (maxSteps := 400000) (disch := omega) [nl_tle, nl_fle, nl_tlt, nl_flt, nl_teq, nl_feq, nl_sub, nl_ss, nl_lt, nl_llt, nl_ltt, nl_le, nl_lle, nl_lee, nl_eq, nl_leq, nl_ee, nl_div, nl_rem, nl_cl, nl_n1, nl_n2, nl_n3, nl_n4, nl_add, nl_ladd, nl_aa, nl_mul, nl_rmul, nl_mm, pu_wi_1, pu_wi_2, bX12_isOpen_0, bX12_isOpen_23, bX12_isOpen_24, a_ald, a_cv, a_icne, a_ifeq, a_ild, a_push, a_zret, sh_71, pu_rv, pu_as, Value.category, pu_bk, pu_kl, pu_qe0, pu_qe1, e, e2]
  grind [pu_q]
theorem r_isOpen0 (hx : pu_fx M) (hr : pu_Rel I L (M.1 72)) (x : Int32) (h : ¬ (¬ x < 0 ∧ x < nI (cD I))) : pu_r 266 [some (.ref 71), some (.int x)] [] M = some (some (.int 0), M) := by
  have e := r_isDoor hx hr x
  rw [pu_q0 h] at e
  rw [qX12_isOpen]
  simp [a_ent, bX12_isOpen_0, bX12_isOpen_23, bX12_isOpen_24, a_ald, a_cv, a_icne, a_ifeq, a_ild, a_push, a_zret, sh_71, pu_rv, pu_as, Value.category, pu_bk, pu_kl, List.replicate, pu_wi_1, pu_wi_2, nl_add, nl_ladd, nl_aa, nl_mul, nl_rmul, nl_mm, pu_qe0, pu_qe1, e]
  all_goals try simp (maxSteps := 400000) (disch := omega) [nl_tle, nl_fle, nl_tlt, nl_flt, nl_teq, nl_feq, nl_sub, nl_ss, nl_lt, nl_llt, nl_ltt, nl_le, nl_lle, nl_lee, nl_eq, nl_leq, nl_ee, nl_div, nl_rem, nl_cl, nl_n1, nl_n2, nl_n3, nl_n4, nl_add, nl_ladd, nl_aa, nl_mul, nl_rmul, nl_mm, pu_wi_1, pu_wi_2, bX12_isOpen_0, bX12_isOpen_23, bX12_isOpen_24, a_ald, a_cv, a_icne, a_ifeq, a_ild, a_push, a_zret, sh_71, pu_rv, pu_as, Value.category, pu_bk, pu_kl, pu_qe0, pu_qe1, e]
/-- the door has a place w -/
def pu_hp (I : Nat → Nat → Int32) (d w : Nat) : Prop := I 32 d = 0 ∧ (w = 0 ∨ w = 1 ∧ I 38 d ≠ -1)
theorem r_hasPlace (hx : pu_fx M) (hr : pu_Rel I L (M.1 72)) (hw : pu_WF I L) (d w : Nat) (hd : d < cD I) (hw2 : w < 2) : pu_r 267 [some (.ref 71), some (.int (nI d)), some (.int (nI w))] [] M = some (some (.int (pu_q (pu_hp I d w))), M) := by
  have e := r_of0 hx hr hw d hd
  have e2 := r_of11 hx hr hw d hd
  have e3 := pu_srt_lt hw hd
  rw [qX12_hasPlace]
  simp [a_ent, bX12_hasPlace_0, bX12_hasPlace_34, bX12_hasPlace_35, bX12_hasPlace_30, a_ald, a_cv, a_iceq, a_icge, a_icne, a_ifeq, a_ild, a_push, a_zret, sh_71, pu_rv, pu_as, Value.category, pu_bk, pu_kl, List.replicate, pu_wi_1, pu_wi_2, nl_add, nl_ladd, nl_aa, nl_mul, nl_rmul, nl_mm, pu_qe0, pu_qe1, e, e2, e3]
  all_goals try simp (maxSteps := 400000) (disch := omega) [nl_tle, nl_fle, nl_tlt, nl_flt, nl_teq, nl_feq, nl_sub, nl_ss, nl_lt, nl_llt, nl_ltt, nl_le, nl_lle, nl_lee, nl_eq, nl_leq, nl_ee, nl_div, nl_rem, nl_cl, nl_n1, nl_n2, nl_n3, nl_n4, nl_add, nl_ladd, nl_aa, nl_mul, nl_rmul, nl_mm, pu_wi_1, pu_wi_2, bX12_hasPlace_0, bX12_hasPlace_34, bX12_hasPlace_35, bX12_hasPlace_30, a_ald, a_cv, a_iceq, a_icge, a_icne, a_ifeq, a_ild, a_push, a_zret, sh_71, pu_rv, pu_as, Value.category, pu_bk, pu_kl, pu_qe0, pu_qe1, e, e2, e3]
  grind [pu_q, pu_hp]
theorem r_streetAt (hx : pu_fx M) (hr : pu_Rel I L (M.1 72)) (hw : pu_WF I L) (d w : Nat) (hd : d < cD I) (hw2 : w < 2) : pu_r 268 [some (.ref 71), some (.int (nI d)), some (.int (nI w))] [] M = some (some (.int (I 39 (2 * d + w))), M) := by
  have hb := wx_bD hw
  have e := r_of hx d (1 + 3 * w) (by omega) (by omega)
  have e2 : M.1 72 (9552 + 12 * d + (1 + 3 * w)) = I 39 (2 * d + w) := by
    match w, hw2 with
    | 0, _ => exact rl_d1 hr d hd
    | 1, _ => exact rl_d4 hr d hd
    | w + 2, h => omega
  rw [qX12_streetAt]
  simp [a_ent, bX12_streetAt_0, a_ald, a_cv, a_iadd, a_ild, a_imul, a_iret, a_push, sh_71, pu_rv, pu_as, Value.category, pu_bk, pu_kl, List.replicate, pu_wi_1, pu_wi_2, nl_add, nl_ladd, nl_aa, nl_mul, nl_rmul, nl_mm, pu_qe0, pu_qe1, e, e2]
  all_goals try simp (maxSteps := 400000) (disch := omega) [nl_tle, nl_fle, nl_tlt, nl_flt, nl_teq, nl_feq, nl_sub, nl_ss, nl_lt, nl_llt, nl_ltt, nl_le, nl_lle, nl_lee, nl_eq, nl_leq, nl_ee, nl_div, nl_rem, nl_cl, nl_n1, nl_n2, nl_n3, nl_n4, nl_add, nl_ladd, nl_aa, nl_mul, nl_rmul, nl_mm, pu_wi_1, pu_wi_2, bX12_streetAt_0, a_ald, a_cv, a_iadd, a_ild, a_imul, a_iret, a_push, sh_71, pu_rv, pu_as, Value.category, pu_bk, pu_kl, pu_qe0, pu_qe1, e, e2]
theorem r_sideAt (hx : pu_fx M) (hr : pu_Rel I L (M.1 72)) (hw : pu_WF I L) (d w : Nat) (hd : d < cD I) (hw2 : w < 2) : pu_r 269 [some (.ref 71), some (.int (nI d)), some (.int (nI w))] [] M = some (some (.int (I 40 (2 * d + w))), M) := by
  have hb := wx_bD hw
  have e := r_of hx d (2 + 3 * w) (by omega) (by omega)
  have e2 : M.1 72 (9552 + 12 * d + (2 + 3 * w)) = I 40 (2 * d + w) := by
    match w, hw2 with
    | 0, _ => exact rl_d2 hr d hd
    | 1, _ => exact rl_d5 hr d hd
    | w + 2, h => omega
  rw [qX12_sideAt]
  simp [a_ent, bX12_sideAt_0, a_ald, a_cv, a_iadd, a_ild, a_imul, a_iret, a_push, sh_71, pu_rv, pu_as, Value.category, pu_bk, pu_kl, List.replicate, pu_wi_1, pu_wi_2, nl_add, nl_ladd, nl_aa, nl_mul, nl_rmul, nl_mm, pu_qe0, pu_qe1, e, e2]
  all_goals try simp (maxSteps := 400000) (disch := omega) [nl_tle, nl_fle, nl_tlt, nl_flt, nl_teq, nl_feq, nl_sub, nl_ss, nl_lt, nl_llt, nl_ltt, nl_le, nl_lle, nl_lee, nl_eq, nl_leq, nl_ee, nl_div, nl_rem, nl_cl, nl_n1, nl_n2, nl_n3, nl_n4, nl_add, nl_ladd, nl_aa, nl_mul, nl_rmul, nl_mm, pu_wi_1, pu_wi_2, bX12_sideAt_0, a_ald, a_cv, a_iadd, a_ild, a_imul, a_iret, a_push, sh_71, pu_rv, pu_as, Value.category, pu_bk, pu_kl, pu_qe0, pu_qe1, e, e2]
theorem r_pacesAt (hx : pu_fx M) (hr : pu_Rel I L (M.1 72)) (hw : pu_WF I L) (d w : Nat) (hd : d < cD I) (hw2 : w < 2) : pu_r 270 [some (.ref 71), some (.int (nI d)), some (.int (nI w))] [] M = some (some (.int (I 41 (2 * d + w))), M) := by
  have hb := wx_bD hw
  have e := r_of hx d (3 + 3 * w) (by omega) (by omega)
  have e2 : M.1 72 (9552 + 12 * d + (3 + 3 * w)) = I 41 (2 * d + w) := by
    match w, hw2 with
    | 0, _ => exact rl_d3 hr d hd
    | 1, _ => exact rl_d6 hr d hd
    | w + 2, h => omega
  rw [qX12_pacesAt]
  simp [a_ent, bX12_pacesAt_0, a_ald, a_cv, a_iadd, a_ild, a_imul, a_iret, a_push, sh_71, pu_rv, pu_as, Value.category, pu_bk, pu_kl, List.replicate, pu_wi_1, pu_wi_2, nl_add, nl_ladd, nl_aa, nl_mul, nl_rmul, nl_mm, pu_qe0, pu_qe1, e, e2]
  all_goals try simp (maxSteps := 400000) (disch := omega) [nl_tle, nl_fle, nl_tlt, nl_flt, nl_teq, nl_feq, nl_sub, nl_ss, nl_lt, nl_llt, nl_ltt, nl_le, nl_lle, nl_lee, nl_eq, nl_leq, nl_ee, nl_div, nl_rem, nl_cl, nl_n1, nl_n2, nl_n3, nl_n4, nl_add, nl_ladd, nl_aa, nl_mul, nl_rmul, nl_mm, pu_wi_1, pu_wi_2, bX12_pacesAt_0, a_ald, a_cv, a_iadd, a_ild, a_imul, a_iret, a_push, sh_71, pu_rv, pu_as, Value.category, pu_bk, pu_kl, pu_qe0, pu_qe1, e, e2]
theorem r_front_l (hx : pu_fx M) (hr : pu_Rel I L (M.1 72)) (hw : pu_WF I L) : ∀ (n f : Nat) (x : Int32), f < n → f < cD I → pu_r 456 [some (.ref 71), some (.int x), some (.int (nI f))] [] M = some (some (.int (I 34 f)), M)
  | 0, f, x, h, _ => by omega
  | n + 1, f, x, h, hf => by
    have e := r_of0 hx hr hw f hf
    have e2 := r_of8 hx hr hw f hf
    have e3 := pu_srt_lt hw hf
    by_cases q : I 32 f = 0
    · have q1 : ¬ 2 ≤ pu_srt I f := by rw [e3]; simp [q]
      have q2 : pu_srt I f < 2 := Int32.not_le.mp q1
      have q3 := (wx_d0 hw f hf q).2.2.1
      rw [qX12_front_2]
      simp [bX12_front_2, bX12_front_23, a_ald, a_cv, a_iclt, a_ild, a_iret, a_ist, a_push, sh_71, pu_rv, pu_as, Value.category, pu_bk, pu_kl, List.replicate, pu_wi_1, pu_wi_2, nl_add, nl_ladd, nl_aa, nl_mul, nl_rmul, nl_mm, pu_qe0, pu_qe1, e, e2, q1, q2, q3]
      all_goals try simp (maxSteps := 400000) (disch := omega) [nl_tle, nl_fle, nl_tlt, nl_flt, nl_teq, nl_feq, nl_sub, nl_ss, nl_lt, nl_llt, nl_ltt, nl_le, nl_lle, nl_lee, nl_eq, nl_leq, nl_ee, nl_div, nl_rem, nl_cl, nl_n1, nl_n2, nl_n3, nl_n4, nl_add, nl_ladd, nl_aa, nl_mul, nl_rmul, nl_mm, pu_wi_1, pu_wi_2, bX12_front_2, bX12_front_23, a_ald, a_cv, a_iclt, a_ild, a_iret, a_ist, a_push, sh_71, pu_rv, pu_as, Value.category, pu_bk, pu_kl, pu_qe0, pu_qe1, e, e2, q1, q2, q3]
    · have q1 : 2 ≤ pu_srt I f := by rw [e3]; exact q
      have q2 : ¬ pu_srt I f < 2 := Int32.not_lt.mpr q1
      have q4 := wx_d2 hw f hf q
      have q5 := pu_on (x := I 33 f) (n := f) ⟨q4.1, q4.2.1⟩
      have q3 := q4.2.2.2.2.1
      have ih := r_front_l hx hr hw n (I 33 f).toNatClampNeg x (by omega) (by omega)
      rw [← q5.1, ← q3] at ih
      rw [qX12_front_2]
      simp [bX12_front_2, bX12_front_23, a_ald, a_cv, a_iclt, a_ild, a_iret, a_ist, a_push, sh_71, pu_rv, pu_as, Value.category, pu_bk, pu_kl, List.replicate, pu_wi_1, pu_wi_2, nl_add, nl_ladd, nl_aa, nl_mul, nl_rmul, nl_mm, pu_qe0, pu_qe1, e, e2, q1, q2, ih]
      all_goals try simp (maxSteps := 400000) (disch := omega) [nl_tle, nl_fle, nl_tlt, nl_flt, nl_teq, nl_feq, nl_sub, nl_ss, nl_lt, nl_llt, nl_ltt, nl_le, nl_lle, nl_lee, nl_eq, nl_leq, nl_ee, nl_div, nl_rem, nl_cl, nl_n1, nl_n2, nl_n3, nl_n4, nl_add, nl_ladd, nl_aa, nl_mul, nl_rmul, nl_mm, pu_wi_1, pu_wi_2, bX12_front_2, bX12_front_23, a_ald, a_cv, a_iclt, a_ild, a_iret, a_ist, a_push, sh_71, pu_rv, pu_as, Value.category, pu_bk, pu_kl, pu_qe0, pu_qe1, e, e2, q1, q2, ih]
theorem r_front (hx : pu_fx M) (hr : pu_Rel I L (M.1 72)) (hw : pu_WF I L) (d : Nat) (hd : d < cD I) : pu_r 271 [some (.ref 71), some (.int (nI d))] [] M = some (some (.int (I 34 d)), M) := by
  have e := r_front_l hx hr hw (d + 1) d (nI d) (by omega) hd
  rw [qX12_front]
  simp [a_ent, bX12_front_0, a_ild, a_ist, pu_rv, pu_as, Value.category, pu_bk, pu_kl, List.replicate, pu_wi_1, pu_wi_2, nl_add, nl_ladd, nl_aa, nl_mul, nl_rmul, nl_mm, pu_qe0, pu_qe1, e]
  all_goals try simp (maxSteps := 400000) (disch := omega) [nl_tle, nl_fle, nl_tlt, nl_flt, nl_teq, nl_feq, nl_sub, nl_ss, nl_lt, nl_llt, nl_ltt, nl_le, nl_lle, nl_lee, nl_eq, nl_leq, nl_ee, nl_div, nl_rem, nl_cl, nl_n1, nl_n2, nl_n3, nl_n4, nl_add, nl_ladd, nl_aa, nl_mul, nl_rmul, nl_mm, pu_wi_1, pu_wi_2, bX12_front_0, a_ild, a_ist, pu_rv, pu_as, Value.category, pu_bk, pu_kl, pu_qe0, pu_qe1, e]
theorem r_standsOn (hx : pu_fx M) (hr : pu_Rel I L (M.1 72)) (hw : pu_WF I L) (d : Nat) (hd : d < cD I) (y : Int32) : pu_r 315 [some (.ref 71), some (.int (nI d)), some (.int y)] [] M = some (some (.int (pu_q (pu_sd I d y))), M) := by
  have e1 := r_of9 hx hr hw d hd
  have e2 := r_of10 hx hr hw d hd
  obtain ⟨o1, o2⟩ := pu_on (wx_do hw d hd)
  have c1 := pu_cw ⟨(wx_dc hw d hd).1, (wx_dc hw d hd).2.1⟩
  have g := r_holds hx hr hw _ o2 (I 37 d) y c1
  rw [← o1] at g
  rw [qX12_standsOn]
  simp [a_ent, bX12_standsOn_0, a_ald, a_cv, a_ild, a_push, a_zret, sh_71, pu_rv, pu_as, Value.category, pu_bk, pu_kl, List.replicate, pu_wi_1, pu_wi_2, nl_add, nl_ladd, nl_aa, nl_mul, nl_rmul, nl_mm, pu_qe0, pu_qe1, e1, e2, g]
  all_goals try simp (maxSteps := 400000) (disch := omega) [nl_tle, nl_fle, nl_tlt, nl_flt, nl_teq, nl_feq, nl_sub, nl_ss, nl_lt, nl_llt, nl_ltt, nl_le, nl_lle, nl_lee, nl_eq, nl_leq, nl_ee, nl_div, nl_rem, nl_cl, nl_n1, nl_n2, nl_n3, nl_n4, nl_add, nl_ladd, nl_aa, nl_mul, nl_rmul, nl_mm, pu_wi_1, pu_wi_2, bX12_standsOn_0, a_ald, a_cv, a_ild, a_push, a_zret, sh_71, pu_rv, pu_as, Value.category, pu_bk, pu_kl, pu_qe0, pu_qe1, e1, e2, g]
  grind [pu_q, pu_sd]
end
