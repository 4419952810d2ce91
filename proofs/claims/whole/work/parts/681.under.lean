/-! a front's streets and papers -/
def py_fr (I : Nat → Nat → Int32) (d : Nat) : Nat := (I 34 d).toNatClampNeg
def py_ea (I : Nat → Nat → Int32) (g : Nat) (y : Int32) : Prop := (∃ k, pu_no I (I 39 (2 * g)).toNatClampNeg k ∧ pu_ey I (I 39 (2 * g)) (I 21 k) y) ∨ (I 38 g ≠ -1 ∧ ∃ k, pu_no I (I 39 (2 * g + 1)).toNatClampNeg k ∧ pu_ey I (I 39 (2 * g + 1)) (I 21 k) y)
section
variable {M : pu_M} {I : Nat → Nat → Int32} {L : Nat → Nat → Int64}
theorem py_fr_lt (hw : pu_WF I L) {d : Nat} (hd : d < cD I) : py_fr I d < cD I ∧ I 34 d = nI (py_fr I d) ∧ I 32 (py_fr I d) = 0 := by
  have x := wx_df hw d hd
  have v := pu_on (x := I 34 d) (n := d + 1) ⟨x.1, by omega⟩
  exact ⟨by unfold py_fr; omega, v.1, x.2.2.1⟩
theorem py_st0 (hw : pu_WF I L) {g : Nat} (hg : g < cD I) (h : I 32 g = 0) : I 39 (2 * g) = nI (I 39 (2 * g)).toNatClampNeg ∧ (I 39 (2 * g)).toNatClampNeg < cK I := by
  have y := wx_d0 hw g hg h
  exact pu_on ⟨y.2.2.2.1, y.2.2.2.2.1⟩
theorem py_st1 (hw : pu_WF I L) {g : Nat} (hg : g < cD I) (h : I 38 g ≠ -1) : I 39 (2 * g + 1) = nI (I 39 (2 * g + 1)).toNatClampNeg ∧ (I 39 (2 * g + 1)).toNatClampNeg < cK I := by
  have y := wx_d1 hw g hg h
  exact pu_on ⟨y.2.1, y.2.2.1⟩
theorem py_ea_a (hw : pu_WF I L) {g : Nat} (hg : g < cD I) (h0 : I 32 g = 0) {y : Int32} (h : ¬ py_ea I g y) : ∀ p, p < cP I → pu_tc I p (I 39 (2 * g)) → (I 7 p).toInt ≤ y.toInt := by
  have s := py_st0 hw hg h0
  obtain ⟨k, hk⟩ := pu_no_ex hw s.2
  have e : ¬ pu_ey I (nI (I 39 (2 * g)).toNatClampNeg) (I 21 k) y := fun z => h (Or.inl ⟨k, hk, by rw [← s.1] at z; exact z⟩)
  have q := pz_ey_tc hw s.2 e
  rw [← s.1] at q
  exact q
theorem py_ea_b (hw : pu_WF I L) {g : Nat} (hg : g < cD I) {y : Int32} (h : ¬ py_ea I g y) (hc : I 38 g ≠ -1) : ∀ p, p < cP I → pu_tc I p (I 39 (2 * g + 1)) → (I 7 p).toInt ≤ y.toInt := by
  have s := py_st1 hw hg hc
  obtain ⟨k, hk⟩ := pu_no_ex hw s.2
  have e : ¬ pu_ey I (nI (I 39 (2 * g + 1)).toNatClampNeg) (I 21 k) y := fun z => h (Or.inr ⟨hc, k, hk, by rw [← s.1] at z; exact z⟩)
  have q := pz_ey_tc hw s.2 e
  rw [← s.1] at q
  exact q
theorem c_slotOf2 (hx : pu_fx M) (hI : pu_ag M I) (hw : pu_WF I L) {d : Nat} (hd : d < cD I) : pu_r 97 [some (.ref 5), some (.int (nI d))] [] M = some (some (.int (nI (2 * py_fr I d))), M) := by
  have e := c_isDoor1 hx hI hw d hd
  have g := (py_fr_lt hw hd).2.1
  have bD := wx_bD hw
  rw [qX5_slotOf]
  simp [a_ent, bX5_slotOf_0, bX5_slotOf_25, bX5_slotOf_26, a_ai, a_ald, a_cv, a_gr, a_ifeq, a_ild, a_imul, a_iret, a_push, ag_31 hI, ag_34 hI, fx_31_3 hx, fx_5_4 hx, sh_31, sh_34, sh_5, pu_rv, pu_as, Value.category, pu_bk, pu_kl, List.replicate, pu_wi_1, pu_wi_2, nl_add, nl_ladd, nl_aa, nl_mul, nl_rmul, nl_mm, pu_qe0, pu_qe1, e, g]
  all_goals try simp (maxSteps := 400000) (disch := omega) [nl_tle, nl_fle, nl_tlt, nl_flt, nl_teq, nl_feq, nl_sub, nl_ss, nl_lt, nl_llt, nl_ltt, nl_le, nl_lle, nl_lee, nl_eq, nl_leq, nl_ee, nl_div, nl_rem, nl_cl, nl_n1, nl_n2, nl_n3, nl_n4, nl_add, nl_ladd, nl_aa, nl_mul, nl_rmul, nl_mm, pu_wi_1, pu_wi_2, bX5_slotOf_0, bX5_slotOf_25, bX5_slotOf_26, a_ai, a_ald, a_cv, a_gr, a_ifeq, a_ild, a_imul, a_iret, a_push, ag_31 hI, ag_34 hI, fx_31_3 hx, fx_5_4 hx, sh_31, sh_34, sh_5, pu_rv, pu_as, Value.category, pu_bk, pu_kl, pu_qe0, pu_qe1, e, g]
  all_goals try simp [bX5_slotOf_0, bX5_slotOf_25, bX5_slotOf_26, a_ai, a_ald, a_cv, a_gr, a_ifeq, a_ild, a_imul, a_iret, a_push, ag_31 hI, ag_34 hI, fx_31_3 hx, fx_5_4 hx, sh_31, sh_34, sh_5, pu_rv, pu_as, Value.category, pu_bk, pu_kl, List.replicate, pu_wi_1, pu_wi_2, nl_add, nl_ladd, nl_aa, nl_mul, nl_rmul, nl_mm, pu_qe0, pu_qe1, e, g]
  all_goals try simp (maxSteps := 400000) (disch := omega) [nl_tle, nl_fle, nl_tlt, nl_flt, nl_teq, nl_feq, nl_sub, nl_ss, nl_lt, nl_llt, nl_ltt, nl_le, nl_lle, nl_lee, nl_eq, nl_leq, nl_ee, nl_div, nl_rem, nl_cl, nl_n1, nl_n2, nl_n3, nl_n4, nl_add, nl_ladd, nl_aa, nl_mul, nl_rmul, nl_mm, pu_wi_1, pu_wi_2, bX5_slotOf_0, bX5_slotOf_25, bX5_slotOf_26, a_ai, a_ald, a_cv, a_gr, a_ifeq, a_ild, a_imul, a_iret, a_push, ag_31 hI, ag_34 hI, fx_31_3 hx, fx_5_4 hx, sh_31, sh_34, sh_5, pu_rv, pu_as, Value.category, pu_bk, pu_kl, pu_qe0, pu_qe1, e, g]
theorem c_earliestOnDoor (hx : pu_fx M) (hI : pu_ag M I) (hw : pu_WF I L) {d : Nat} (hd : d < cD I) : ∃ E, pu_r 98 [some (.ref 5), some (.int (nI d))] [] M = some (some (.int E), M) ∧ ∀ y : Int32, ¬ y < 0 → (y < E) = py_ea I (py_fr I d) y := by
  obtain ⟨g1, g2, g3⟩ := py_fr_lt hw hd
  have bD := wx_bD hw
  have e0 := c_slotOf2 hx hI hw hd
  have e1 := c_streetOf hx hI hw (2 * py_fr I d) (by omega)
  have e2 := c_streetOf hx hI hw (2 * py_fr I d + 1) (by omega)
  have s := py_st0 hw g1 g3
  obtain ⟨k, hk⟩ := pu_no_ex hw s.2
  have e3 := c_earliestOn hx hI hw hk
  rw [← s.1] at e3
  by_cases c : I 38 (py_fr I d) = -1
  · have z := (wx_dn hw _ g1 c).1
    rw [z] at e2
    refine ⟨pu_lat I (I 39 (2 * py_fr I d)) (I 21 k) (cP I) 0 0, ?_, fun y hy => ?_⟩
    · rw [qX5_earliestOnDoor]
      simp [a_ent, bX5_earliestOnDoor_0, bX5_earliestOnDoor_41, bX5_earliestOnDoor_51, a_ald, a_cv, a_gr, a_iadd, a_icne, a_ild, a_iret, a_ist, a_max, a_push, ag_31 hI, fx_5_4 hx, sh_31, sh_5, pu_rv, pu_as, Value.category, pu_bk, pu_kl, List.replicate, pu_wi_1, pu_wi_2, nl_add, nl_ladd, nl_aa, nl_mul, nl_rmul, nl_mm, pu_qe0, pu_qe1, e0, e1, e2, e3]
      all_goals try simp (maxSteps := 400000) (disch := omega) [nl_tle, nl_fle, nl_tlt, nl_flt, nl_teq, nl_feq, nl_sub, nl_ss, nl_lt, nl_llt, nl_ltt, nl_le, nl_lle, nl_lee, nl_eq, nl_leq, nl_ee, nl_div, nl_rem, nl_cl, nl_n1, nl_n2, nl_n3, nl_n4, nl_add, nl_ladd, nl_aa, nl_mul, nl_rmul, nl_mm, pu_wi_1, pu_wi_2, bX5_earliestOnDoor_0, bX5_earliestOnDoor_41, bX5_earliestOnDoor_51, a_ald, a_cv, a_gr, a_iadd, a_icne, a_ild, a_iret, a_ist, a_max, a_push, ag_31 hI, fx_5_4 hx, sh_31, sh_5, pu_rv, pu_as, Value.category, pu_bk, pu_kl, pu_qe0, pu_qe1, e0, e1, e2, e3]
      all_goals try simp [bX5_earliestOnDoor_0, bX5_earliestOnDoor_41, bX5_earliestOnDoor_51, a_ald, a_cv, a_gr, a_iadd, a_icne, a_ild, a_iret, a_ist, a_max, a_push, ag_31 hI, fx_5_4 hx, sh_31, sh_5, pu_rv, pu_as, Value.category, pu_bk, pu_kl, List.replicate, pu_wi_1, pu_wi_2, nl_add, nl_ladd, nl_aa, nl_mul, nl_rmul, nl_mm, pu_qe0, pu_qe1, e0, e1, e2, e3]
      all_goals try simp (maxSteps := 400000) (disch := omega) [nl_tle, nl_fle, nl_tlt, nl_flt, nl_teq, nl_feq, nl_sub, nl_ss, nl_lt, nl_llt, nl_ltt, nl_le, nl_lle, nl_lee, nl_eq, nl_leq, nl_ee, nl_div, nl_rem, nl_cl, nl_n1, nl_n2, nl_n3, nl_n4, nl_add, nl_ladd, nl_aa, nl_mul, nl_rmul, nl_mm, pu_wi_1, pu_wi_2, bX5_earliestOnDoor_0, bX5_earliestOnDoor_41, bX5_earliestOnDoor_51, a_ald, a_cv, a_gr, a_iadd, a_icne, a_ild, a_iret, a_ist, a_max, a_push, ag_31 hI, fx_5_4 hx, sh_31, sh_5, pu_rv, pu_as, Value.category, pu_bk, pu_kl, pu_qe0, pu_qe1, e0, e1, e2, e3]
    · rw [pu_lat_ey _ _ _ _ hy]
      apply propext
      constructor
      · exact fun q => Or.inl ⟨k, hk, q⟩
      · rintro (⟨l, l1, l2⟩ | ⟨q, _⟩)
        · rw [pu_no_un hw hk l1]
          exact l2
        · exact absurd c q
  · have s1 := py_st1 hw g1 c
    obtain ⟨l, hl⟩ := pu_no_ex hw s1.2
    have e4 := c_earliestOn hx hI hw hl
    rw [← s1.1] at e4
    have bK := wx_bK hw
    have ne : ¬ I 39 (2 * py_fr I d + 1) = -1 := fun q => by
      rw [s1.1, nl_n1 _ (by omega)] at q
      exact q
    refine ⟨if pu_lat I (I 39 (2 * py_fr I d)) (I 21 k) (cP I) 0 0 < pu_lat I (I 39 (2 * py_fr I d + 1)) (I 21 l) (cP I) 0 0 then pu_lat I (I 39 (2 * py_fr I d + 1)) (I 21 l) (cP I) 0 0 else pu_lat I (I 39 (2 * py_fr I d)) (I 21 k) (cP I) 0 0, ?_, fun y hy => ?_⟩
    · rw [qX5_earliestOnDoor]
      simp [a_ent, bX5_earliestOnDoor_0, bX5_earliestOnDoor_41, bX5_earliestOnDoor_51, a_ald, a_cv, a_gr, a_iadd, a_icne, a_ild, a_iret, a_ist, a_max, a_push, ag_31 hI, fx_5_4 hx, sh_31, sh_5, pu_rv, pu_as, Value.category, pu_bk, pu_kl, List.replicate, pu_wi_1, pu_wi_2, nl_add, nl_ladd, nl_aa, nl_mul, nl_rmul, nl_mm, pu_qe0, pu_qe1, e0, e1, e2, e3, e4, ne]
      all_goals try simp (maxSteps := 400000) (disch := omega) [nl_tle, nl_fle, nl_tlt, nl_flt, nl_teq, nl_feq, nl_sub, nl_ss, nl_lt, nl_llt, nl_ltt, nl_le, nl_lle, nl_lee, nl_eq, nl_leq, nl_ee, nl_div, nl_rem, nl_cl, nl_n1, nl_n2, nl_n3, nl_n4, nl_add, nl_ladd, nl_aa, nl_mul, nl_rmul, nl_mm, pu_wi_1, pu_wi_2, bX5_earliestOnDoor_0, bX5_earliestOnDoor_41, bX5_earliestOnDoor_51, a_ald, a_cv, a_gr, a_iadd, a_icne, a_ild, a_iret, a_ist, a_max, a_push, ag_31 hI, fx_5_4 hx, sh_31, sh_5, pu_rv, pu_as, Value.category, pu_bk, pu_kl, pu_qe0, pu_qe1, e0, e1, e2, e3, e4, ne]
      all_goals try simp [bX5_earliestOnDoor_0, bX5_earliestOnDoor_41, bX5_earliestOnDoor_51, a_ald, a_cv, a_gr, a_iadd, a_icne, a_ild, a_iret, a_ist, a_max, a_push, ag_31 hI, fx_5_4 hx, sh_31, sh_5, pu_rv, pu_as, Value.category, pu_bk, pu_kl, List.replicate, pu_wi_1, pu_wi_2, nl_add, nl_ladd, nl_aa, nl_mul, nl_rmul, nl_mm, pu_qe0, pu_qe1, e0, e1, e2, e3, e4, ne]
      all_goals try simp (maxSteps := 400000) (disch := omega) [nl_tle, nl_fle, nl_tlt, nl_flt, nl_teq, nl_feq, nl_sub, nl_ss, nl_lt, nl_llt, nl_ltt, nl_le, nl_lle, nl_lee, nl_eq, nl_leq, nl_ee, nl_div, nl_rem, nl_cl, nl_n1, nl_n2, nl_n3, nl_n4, nl_add, nl_ladd, nl_aa, nl_mul, nl_rmul, nl_mm, pu_wi_1, pu_wi_2, bX5_earliestOnDoor_0, bX5_earliestOnDoor_41, bX5_earliestOnDoor_51, a_ald, a_cv, a_gr, a_iadd, a_icne, a_ild, a_iret, a_ist, a_max, a_push, ag_31 hI, fx_5_4 hx, sh_31, sh_5, pu_rv, pu_as, Value.category, pu_bk, pu_kl, pu_qe0, pu_qe1, e0, e1, e2, e3, e4, ne]
    · rw [py_max_lt, pu_lat_ey _ _ _ _ hy, pu_lat_ey _ _ _ _ hy]
      apply propext
      constructor
      · rintro (q | q)
        · exact Or.inl ⟨k, hk, q⟩
        · exact Or.inr ⟨c, l, hl, q⟩
      · rintro (⟨m, l1, l2⟩ | ⟨_, m, l1, l2⟩)
        · rw [pu_no_un hw hk l1]
          exact Or.inl l2
        · rw [pu_no_un hw hl l1]
          exact Or.inr l2
theorem r_isEarlyAt (hx : pu_fx M) (hr : pu_Rel I L (M.1 72)) (hw : pu_WF I L) {g : Nat} (hg : g < cD I) (h0 : I 32 g = 0) (y : Int32) (hy : ¬ y < 0) : pu_r 289 [some (.ref 71), some (.int (nI g)), some (.int y)] [] M = some (some (.int (pu_q (py_ea I g y))), M) := by
  have e1 := r_of1 hx hr hw g hg
  have e2 := r_hasPlace hx hr hw g 1 hg (by omega)
  rw [show nI 1 = (1 : Int32) from rfl] at e2
  have e3 := r_of4 hx hr hw g hg
  have s := py_st0 hw hg h0
  obtain ⟨k, hk⟩ := pu_no_ex hw s.2
  have e4 := r_isEarly hx hr hw hk y hy
  rw [← s.1] at e4
  by_cases a : pu_ey I (I 39 (2 * g)) (I 21 k) y
  · rw [pu_q1 a] at e4
    rw [pu_q1 (show py_ea I g y from Or.inl ⟨k, hk, a⟩)]
    rw [qX12_isEarlyAt]
    simp [a_ent, bX12_isEarlyAt_0, bX12_isEarlyAt_37, bX12_isEarlyAt_42, bX12_isEarlyAt_41, a_ald, a_cv, a_ifeq, a_ifne, a_ild, a_push, a_zret, sh_71, pu_rv, pu_as, Value.category, pu_bk, pu_kl, List.replicate, pu_wi_1, pu_wi_2, nl_add, nl_ladd, nl_aa, nl_mul, nl_rmul, nl_mm, pu_qe0, pu_qe1, e1, e4]
    all_goals try simp (maxSteps := 400000) (disch := omega) [nl_tle, nl_fle, nl_tlt, nl_flt, nl_teq, nl_feq, nl_sub, nl_ss, nl_lt, nl_llt, nl_ltt, nl_le, nl_lle, nl_lee, nl_eq, nl_leq, nl_ee, nl_div, nl_rem, nl_cl, nl_n1, nl_n2, nl_n3, nl_n4, nl_add, nl_ladd, nl_aa, nl_mul, nl_rmul, nl_mm, pu_wi_1, pu_wi_2, bX12_isEarlyAt_0, bX12_isEarlyAt_37, bX12_isEarlyAt_42, bX12_isEarlyAt_41, a_ald, a_cv, a_ifeq, a_ifne, a_ild, a_push, a_zret, sh_71, pu_rv, pu_as, Value.category, pu_bk, pu_kl, pu_qe0, pu_qe1, e1, e4]
    all_goals try simp [bX12_isEarlyAt_0, bX12_isEarlyAt_37, bX12_isEarlyAt_42, bX12_isEarlyAt_41, a_ald, a_cv, a_ifeq, a_ifne, a_ild, a_push, a_zret, sh_71, pu_rv, pu_as, Value.category, pu_bk, pu_kl, List.replicate, pu_wi_1, pu_wi_2, nl_add, nl_ladd, nl_aa, nl_mul, nl_rmul, nl_mm, pu_qe0, pu_qe1, e1, e4]
    all_goals try simp (maxSteps := 400000) (disch := omega) [nl_tle, nl_fle, nl_tlt, nl_flt, nl_teq, nl_feq, nl_sub, nl_ss, nl_lt, nl_llt, nl_ltt, nl_le, nl_lle, nl_lee, nl_eq, nl_leq, nl_ee, nl_div, nl_rem, nl_cl, nl_n1, nl_n2, nl_n3, nl_n4, nl_add, nl_ladd, nl_aa, nl_mul, nl_rmul, nl_mm, pu_wi_1, pu_wi_2, bX12_isEarlyAt_0, bX12_isEarlyAt_37, bX12_isEarlyAt_42, bX12_isEarlyAt_41, a_ald, a_cv, a_ifeq, a_ifne, a_ild, a_push, a_zret, sh_71, pu_rv, pu_as, Value.category, pu_bk, pu_kl, pu_qe0, pu_qe1, e1, e4]
  · rw [pu_q0 a] at e4
    by_cases c : I 38 g = -1
    · rw [pu_q0 (fun z => by
        rcases z.2 with w | w
        · exact absurd w (by decide)
        · exact w.2 c)] at e2
      rw [pu_q0 (fun z => by
        rcases z with ⟨l, l1, l2⟩ | ⟨q, _⟩
        · rw [pu_no_un hw l1 hk] at l2
          exact a l2
        · exact q c)]
      rw [qX12_isEarlyAt]
      simp [a_ent, bX12_isEarlyAt_0, bX12_isEarlyAt_37, bX12_isEarlyAt_42, bX12_isEarlyAt_41, a_ald, a_cv, a_ifeq, a_ifne, a_ild, a_push, a_zret, sh_71, pu_rv, pu_as, Value.category, pu_bk, pu_kl, List.replicate, pu_wi_1, pu_wi_2, nl_add, nl_ladd, nl_aa, nl_mul, nl_rmul, nl_mm, pu_qe0, pu_qe1, e1, e2, e4]
      all_goals try simp (maxSteps := 400000) (disch := omega) [nl_tle, nl_fle, nl_tlt, nl_flt, nl_teq, nl_feq, nl_sub, nl_ss, nl_lt, nl_llt, nl_ltt, nl_le, nl_lle, nl_lee, nl_eq, nl_leq, nl_ee, nl_div, nl_rem, nl_cl, nl_n1, nl_n2, nl_n3, nl_n4, nl_add, nl_ladd, nl_aa, nl_mul, nl_rmul, nl_mm, pu_wi_1, pu_wi_2, bX12_isEarlyAt_0, bX12_isEarlyAt_37, bX12_isEarlyAt_42, bX12_isEarlyAt_41, a_ald, a_cv, a_ifeq, a_ifne, a_ild, a_push, a_zret, sh_71, pu_rv, pu_as, Value.category, pu_bk, pu_kl, pu_qe0, pu_qe1, e1, e2, e4]
      all_goals try simp [bX12_isEarlyAt_0, bX12_isEarlyAt_37, bX12_isEarlyAt_42, bX12_isEarlyAt_41, a_ald, a_cv, a_ifeq, a_ifne, a_ild, a_push, a_zret, sh_71, pu_rv, pu_as, Value.category, pu_bk, pu_kl, List.replicate, pu_wi_1, pu_wi_2, nl_add, nl_ladd, nl_aa, nl_mul, nl_rmul, nl_mm, pu_qe0, pu_qe1, e1, e2, e4]
      all_goals try simp (maxSteps := 400000) (disch := omega) [nl_tle, nl_fle, nl_tlt, nl_flt, nl_teq, nl_feq, nl_sub, nl_ss, nl_lt, nl_llt, nl_ltt, nl_le, nl_lle, nl_lee, nl_eq, nl_leq, nl_ee, nl_div, nl_rem, nl_cl, nl_n1, nl_n2, nl_n3, nl_n4, nl_add, nl_ladd, nl_aa, nl_mul, nl_rmul, nl_mm, pu_wi_1, pu_wi_2, bX12_isEarlyAt_0, bX12_isEarlyAt_37, bX12_isEarlyAt_42, bX12_isEarlyAt_41, a_ald, a_cv, a_ifeq, a_ifne, a_ild, a_push, a_zret, sh_71, pu_rv, pu_as, Value.category, pu_bk, pu_kl, pu_qe0, pu_qe1, e1, e2, e4]
    · rw [pu_q1 ⟨h0, Or.inr ⟨rfl, c⟩⟩] at e2
      have s1 := py_st1 hw hg c
      obtain ⟨l, hl⟩ := pu_no_ex hw s1.2
      have e5 := r_isEarly hx hr hw hl y hy
      rw [← s1.1] at e5
      by_cases b : pu_ey I (I 39 (2 * g + 1)) (I 21 l) y
      · rw [pu_q1 b] at e5
        rw [pu_q1 (show py_ea I g y from Or.inr ⟨c, l, hl, b⟩)]
        rw [qX12_isEarlyAt]
        simp [a_ent, bX12_isEarlyAt_0, bX12_isEarlyAt_37, bX12_isEarlyAt_42, bX12_isEarlyAt_41, a_ald, a_cv, a_ifeq, a_ifne, a_ild, a_push, a_zret, sh_71, pu_rv, pu_as, Value.category, pu_bk, pu_kl, List.replicate, pu_wi_1, pu_wi_2, nl_add, nl_ladd, nl_aa, nl_mul, nl_rmul, nl_mm, pu_qe0, pu_qe1, e1, e2, e3, e4, e5]
        all_goals try simp (maxSteps := 400000) (disch := omega) [nl_tle, nl_fle, nl_tlt, nl_flt, nl_teq, nl_feq, nl_sub, nl_ss, nl_lt, nl_llt, nl_ltt, nl_le, nl_lle, nl_lee, nl_eq, nl_leq, nl_ee, nl_div, nl_rem, nl_cl, nl_n1, nl_n2, nl_n3, nl_n4, nl_add, nl_ladd, nl_aa, nl_mul, nl_rmul, nl_mm, pu_wi_1, pu_wi_2, bX12_isEarlyAt_0, bX12_isEarlyAt_37, bX12_isEarlyAt_42, bX12_isEarlyAt_41, a_ald, a_cv, a_ifeq, a_ifne, a_ild, a_push, a_zret, sh_71, pu_rv, pu_as, Value.category, pu_bk, pu_kl, pu_qe0, pu_qe1, e1, e2, e3, e4, e5]
        all_goals try simp [bX12_isEarlyAt_0, bX12_isEarlyAt_37, bX12_isEarlyAt_42, bX12_isEarlyAt_41, a_ald, a_cv, a_ifeq, a_ifne, a_ild, a_push, a_zret, sh_71, pu_rv, pu_as, Value.category, pu_bk, pu_kl, List.replicate, pu_wi_1, pu_wi_2, nl_add, nl_ladd, nl_aa, nl_mul, nl_rmul, nl_mm, pu_qe0, pu_qe1, e1, e2, e3, e4, e5]
        all_goals try simp (maxSteps := 400000) (disch := omega) [nl_tle, nl_fle, nl_tlt, nl_flt, nl_teq, nl_feq, nl_sub, nl_ss, nl_lt, nl_llt, nl_ltt, nl_le, nl_lle, nl_lee, nl_eq, nl_leq, nl_ee, nl_div, nl_rem, nl_cl, nl_n1, nl_n2, nl_n3, nl_n4, nl_add, nl_ladd, nl_aa, nl_mul, nl_rmul, nl_mm, pu_wi_1, pu_wi_2, bX12_isEarlyAt_0, bX12_isEarlyAt_37, bX12_isEarlyAt_42, bX12_isEarlyAt_41, a_ald, a_cv, a_ifeq, a_ifne, a_ild, a_push, a_zret, sh_71, pu_rv, pu_as, Value.category, pu_bk, pu_kl, pu_qe0, pu_qe1, e1, e2, e3, e4, e5]
      · rw [pu_q0 b] at e5
        rw [pu_q0 (fun z => by
          rcases z with ⟨m, l1, l2⟩ | ⟨_, m, l1, l2⟩
          · rw [pu_no_un hw l1 hk] at l2
            exact a l2
          · rw [pu_no_un hw l1 hl] at l2
            exact b l2)]
        rw [qX12_isEarlyAt]
        simp [a_ent, bX12_isEarlyAt_0, bX12_isEarlyAt_37, bX12_isEarlyAt_42, bX12_isEarlyAt_41, a_ald, a_cv, a_ifeq, a_ifne, a_ild, a_push, a_zret, sh_71, pu_rv, pu_as, Value.category, pu_bk, pu_kl, List.replicate, pu_wi_1, pu_wi_2, nl_add, nl_ladd, nl_aa, nl_mul, nl_rmul, nl_mm, pu_qe0, pu_qe1, e1, e2, e3, e4, e5]
        all_goals try simp (maxSteps := 400000) (disch := omega) [nl_tle, nl_fle, nl_tlt, nl_flt, nl_teq, nl_feq, nl_sub, nl_ss, nl_lt, nl_llt, nl_ltt, nl_le, nl_lle, nl_lee, nl_eq, nl_leq, nl_ee, nl_div, nl_rem, nl_cl, nl_n1, nl_n2, nl_n3, nl_n4, nl_add, nl_ladd, nl_aa, nl_mul, nl_rmul, nl_mm, pu_wi_1, pu_wi_2, bX12_isEarlyAt_0, bX12_isEarlyAt_37, bX12_isEarlyAt_42, bX12_isEarlyAt_41, a_ald, a_cv, a_ifeq, a_ifne, a_ild, a_push, a_zret, sh_71, pu_rv, pu_as, Value.category, pu_bk, pu_kl, pu_qe0, pu_qe1, e1, e2, e3, e4, e5]
        all_goals try simp [bX12_isEarlyAt_0, bX12_isEarlyAt_37, bX12_isEarlyAt_42, bX12_isEarlyAt_41, a_ald, a_cv, a_ifeq, a_ifne, a_ild, a_push, a_zret, sh_71, pu_rv, pu_as, Value.category, pu_bk, pu_kl, List.replicate, pu_wi_1, pu_wi_2, nl_add, nl_ladd, nl_aa, nl_mul, nl_rmul, nl_mm, pu_qe0, pu_qe1, e1, e2, e3, e4, e5]
        all_goals try simp (maxSteps := 400000) (disch := omega) [nl_tle, nl_fle, nl_tlt, nl_flt, nl_teq, nl_feq, nl_sub, nl_ss, nl_lt, nl_llt, nl_ltt, nl_le, nl_lle, nl_lee, nl_eq, nl_leq, nl_ee, nl_div, nl_rem, nl_cl, nl_n1, nl_n2, nl_n3, nl_n4, nl_add, nl_ladd, nl_aa, nl_mul, nl_rmul, nl_mm, pu_wi_1, pu_wi_2, bX12_isEarlyAt_0, bX12_isEarlyAt_37, bX12_isEarlyAt_42, bX12_isEarlyAt_41, a_ald, a_cv, a_ifeq, a_ifne, a_ild, a_push, a_zret, sh_71, pu_rv, pu_as, Value.category, pu_bk, pu_kl, pu_qe0, pu_qe1, e1, e2, e3, e4, e5]
theorem c_layOnDoor (hx : pu_fx M) (hI : pu_ag M I) (hw : pu_WF I L) {d : Nat} (hd : d < cD I) (hP : cP I < 200) (f : Int32) : pu_r 100 [some (.ref 5), some (.int (nI d)), some (.int f)] [] M = some (some (.int (nI (cP I))), pz_ly M (cP I) (M.1 6 0) f (I 39 (2 * py_fr I d)) (I 39 (2 * py_fr I d + 1))) := by
  obtain ⟨g1, g2, g3⟩ := py_fr_lt hw hd
  have bD := wx_bD hw
  have e0 := c_slotOf2 hx hI hw hd
  have e1 := c_streetOf hx hI hw (2 * py_fr I d) (by omega)
  have e2 := c_streetOf hx hI hw (2 * py_fr I d + 1) (by omega)
  have e3 := c_lay hx (cP I) (by rw [hI 6 2 (by omega) (by omega)]; exact wx_cP hw) hP f (I 39 (2 * py_fr I d)) (I 39 (2 * py_fr I d + 1))
  rw [qX5_layOnDoor]
  simp [a_ent, bX5_layOnDoor_0, a_ald, a_cv, a_gr, a_iadd, a_ild, a_iret, a_ist, a_push, fx_5_0 hx, fx_5_4 hx, sh_31, sh_5, sh_6, pu_rv, pu_as, Value.category, pu_bk, pu_kl, List.replicate, pu_wi_1, pu_wi_2, nl_add, nl_ladd, nl_aa, nl_mul, nl_rmul, nl_mm, pu_qe0, pu_qe1, e0, e1, e2, e3]
  all_goals try simp (maxSteps := 400000) (disch := omega) [nl_tle, nl_fle, nl_tlt, nl_flt, nl_teq, nl_feq, nl_sub, nl_ss, nl_lt, nl_llt, nl_ltt, nl_le, nl_lle, nl_lee, nl_eq, nl_leq, nl_ee, nl_div, nl_rem, nl_cl, nl_n1, nl_n2, nl_n3, nl_n4, nl_add, nl_ladd, nl_aa, nl_mul, nl_rmul, nl_mm, pu_wi_1, pu_wi_2, bX5_layOnDoor_0, a_ald, a_cv, a_gr, a_iadd, a_ild, a_iret, a_ist, a_push, fx_5_0 hx, fx_5_4 hx, sh_31, sh_5, sh_6, pu_rv, pu_as, Value.category, pu_bk, pu_kl, pu_qe0, pu_qe1, e0, e1, e2, e3]
  all_goals try simp [bX5_layOnDoor_0, a_ald, a_cv, a_gr, a_iadd, a_ild, a_iret, a_ist, a_push, fx_5_0 hx, fx_5_4 hx, sh_31, sh_5, sh_6, pu_rv, pu_as, Value.category, pu_bk, pu_kl, List.replicate, pu_wi_1, pu_wi_2, nl_add, nl_ladd, nl_aa, nl_mul, nl_rmul, nl_mm, pu_qe0, pu_qe1, e0, e1, e2, e3]
  all_goals try simp (maxSteps := 400000) (disch := omega) [nl_tle, nl_fle, nl_tlt, nl_flt, nl_teq, nl_feq, nl_sub, nl_ss, nl_lt, nl_llt, nl_ltt, nl_le, nl_lle, nl_lee, nl_eq, nl_leq, nl_ee, nl_div, nl_rem, nl_cl, nl_n1, nl_n2, nl_n3, nl_n4, nl_add, nl_ladd, nl_aa, nl_mul, nl_rmul, nl_mm, pu_wi_1, pu_wi_2, bX5_layOnDoor_0, a_ald, a_cv, a_gr, a_iadd, a_ild, a_iret, a_ist, a_push, fx_5_0 hx, fx_5_4 hx, sh_31, sh_5, sh_6, pu_rv, pu_as, Value.category, pu_bk, pu_kl, pu_qe0, pu_qe1, e0, e1, e2, e3]
theorem r_paperOn (hx : pu_fx M) (hr : pu_Rel I L (M.1 72)) (hw : pu_WF I L) {g : Nat} (hg : g < cD I) (h0 : I 32 g = 0) (hP : cP I < 200) (f : Int32) : pu_r 290 [some (.ref 71), some (.int (nI g)), some (.int f)] [] M = some (some (.int (nI (cP I))), py_rp M (cP I) (M.1 72 0) f (I 39 (2 * g)) (I 39 (2 * g + 1)) (-1) (-1)) := by
  have e1 := r_of1 hx hr hw g hg
  have e2 := r_hasPlace hx hr hw g 1 hg (by omega)
  rw [show nI 1 = (1 : Int32) from rfl] at e2
  have e3 := r_of4 hx hr hw g hg
  have e4 := r_paper hx (cP I) (rl_h5 hr) hP f (I 39 (2 * g)) (I 39 (2 * g + 1)) (-1) (-1)
  by_cases c : I 38 g = -1
  · rw [pu_q0 (fun z => by
      rcases z.2 with w | w
      · exact absurd w (by decide)
      · exact w.2 c)] at e2
    rw [(wx_dn hw g hg c).1] at e4 ⊢
    rw [qX12_paperOn]
    simp [a_ent, bX12_paperOn_0, bX12_paperOn_26, bX12_paperOn_27, a_ald, a_cv, a_ifeq, a_ild, a_iret, a_push, sh_71, pu_rv, pu_as, Value.category, pu_bk, pu_kl, List.replicate, pu_wi_1, pu_wi_2, nl_add, nl_ladd, nl_aa, nl_mul, nl_rmul, nl_mm, pu_qe0, pu_qe1, e1, e2, e4]
    all_goals try simp (maxSteps := 400000) (disch := omega) [nl_tle, nl_fle, nl_tlt, nl_flt, nl_teq, nl_feq, nl_sub, nl_ss, nl_lt, nl_llt, nl_ltt, nl_le, nl_lle, nl_lee, nl_eq, nl_leq, nl_ee, nl_div, nl_rem, nl_cl, nl_n1, nl_n2, nl_n3, nl_n4, nl_add, nl_ladd, nl_aa, nl_mul, nl_rmul, nl_mm, pu_wi_1, pu_wi_2, bX12_paperOn_0, bX12_paperOn_26, bX12_paperOn_27, a_ald, a_cv, a_ifeq, a_ild, a_iret, a_push, sh_71, pu_rv, pu_as, Value.category, pu_bk, pu_kl, pu_qe0, pu_qe1, e1, e2, e4]
    all_goals try simp [bX12_paperOn_0, bX12_paperOn_26, bX12_paperOn_27, a_ald, a_cv, a_ifeq, a_ild, a_iret, a_push, sh_71, pu_rv, pu_as, Value.category, pu_bk, pu_kl, List.replicate, pu_wi_1, pu_wi_2, nl_add, nl_ladd, nl_aa, nl_mul, nl_rmul, nl_mm, pu_qe0, pu_qe1, e1, e2, e4]
    all_goals try simp (maxSteps := 400000) (disch := omega) [nl_tle, nl_fle, nl_tlt, nl_flt, nl_teq, nl_feq, nl_sub, nl_ss, nl_lt, nl_llt, nl_ltt, nl_le, nl_lle, nl_lee, nl_eq, nl_leq, nl_ee, nl_div, nl_rem, nl_cl, nl_n1, nl_n2, nl_n3, nl_n4, nl_add, nl_ladd, nl_aa, nl_mul, nl_rmul, nl_mm, pu_wi_1, pu_wi_2, bX12_paperOn_0, bX12_paperOn_26, bX12_paperOn_27, a_ald, a_cv, a_ifeq, a_ild, a_iret, a_push, sh_71, pu_rv, pu_as, Value.category, pu_bk, pu_kl, pu_qe0, pu_qe1, e1, e2, e4]
  · rw [pu_q1 ⟨h0, Or.inr ⟨rfl, c⟩⟩] at e2
    rw [qX12_paperOn]
    simp [a_ent, bX12_paperOn_0, bX12_paperOn_26, bX12_paperOn_27, a_ald, a_cv, a_ifeq, a_ild, a_iret, a_push, sh_71, pu_rv, pu_as, Value.category, pu_bk, pu_kl, List.replicate, pu_wi_1, pu_wi_2, nl_add, nl_ladd, nl_aa, nl_mul, nl_rmul, nl_mm, pu_qe0, pu_qe1, e1, e2, e3, e4]
    all_goals try simp (maxSteps := 400000) (disch := omega) [nl_tle, nl_fle, nl_tlt, nl_flt, nl_teq, nl_feq, nl_sub, nl_ss, nl_lt, nl_llt, nl_ltt, nl_le, nl_lle, nl_lee, nl_eq, nl_leq, nl_ee, nl_div, nl_rem, nl_cl, nl_n1, nl_n2, nl_n3, nl_n4, nl_add, nl_ladd, nl_aa, nl_mul, nl_rmul, nl_mm, pu_wi_1, pu_wi_2, bX12_paperOn_0, bX12_paperOn_26, bX12_paperOn_27, a_ald, a_cv, a_ifeq, a_ild, a_iret, a_push, sh_71, pu_rv, pu_as, Value.category, pu_bk, pu_kl, pu_qe0, pu_qe1, e1, e2, e3, e4]
    all_goals try simp [bX12_paperOn_0, bX12_paperOn_26, bX12_paperOn_27, a_ald, a_cv, a_ifeq, a_ild, a_iret, a_push, sh_71, pu_rv, pu_as, Value.category, pu_bk, pu_kl, List.replicate, pu_wi_1, pu_wi_2, nl_add, nl_ladd, nl_aa, nl_mul, nl_rmul, nl_mm, pu_qe0, pu_qe1, e1, e2, e3, e4]
    all_goals try simp (maxSteps := 400000) (disch := omega) [nl_tle, nl_fle, nl_tlt, nl_flt, nl_teq, nl_feq, nl_sub, nl_ss, nl_lt, nl_llt, nl_ltt, nl_le, nl_lle, nl_lee, nl_eq, nl_leq, nl_ee, nl_div, nl_rem, nl_cl, nl_n1, nl_n2, nl_n3, nl_n4, nl_add, nl_ladd, nl_aa, nl_mul, nl_rmul, nl_mm, pu_wi_1, pu_wi_2, bX12_paperOn_0, bX12_paperOn_26, bX12_paperOn_27, a_ald, a_cv, a_ifeq, a_ild, a_iret, a_push, sh_71, pu_rv, pu_as, Value.category, pu_bk, pu_kl, pu_qe0, pu_qe1, e1, e2, e3, e4]
/-- an open door of a sort and number under o -/
def py_un (I : Nat → Nat → Int32) (o : Nat) (so k : Int32) (i : Nat) : Prop := I 37 i = -1 ∧ I 33 i = nI o ∧ I 32 i = so ∧ I 35 i = k
theorem c_hasOpenUnder_l (hx : pu_fx M) (hI : pu_ag M I) (hw : pu_WF I L) (o : Nat) (so k : Int32) : ∀ m i x, x = nI i → i + m = cD I → pu_r 378 [some (.ref 31), some (.int (nI o)), some (.int so), some (.int k), some (.int x)] [] M = some (some (.int (pu_q (∃ j, i ≤ j ∧ j < cD I ∧ py_un I o so k j))), M)
  | 0, i, x, hi, h => by
    subst hi
    have hb := wx_bD hw
    have hn := wx_cD hw
    have hc : nI (cD I) ≤ nI i := nI_le (by omega) (by omega)
    rw [pu_q0 (fun ⟨p, h1, h2, _⟩ => by omega)]
    rw [qX2_hasOpenUnder_3]
    simp [bX2_hasOpenUnder_3, bX2_hasOpenUnder_62, bX2_hasOpenUnder_56, bX2_hasOpenUnder_50, a_ai, a_ald, a_cv, a_gi, a_gr, a_icge, a_icne, a_ifeq, a_ild, a_inc, a_push, a_zret, ag_31 hI, ag_32 hI, ag_33 hI, ag_35 hI, fx_31_1 hx, fx_31_2 hx, fx_31_4 hx, sh_31, sh_32, sh_33, sh_35, pu_rv, pu_as, Value.category, pu_bk, pu_kl, List.replicate, pu_wi_1, pu_wi_2, nl_add, nl_ladd, nl_aa, nl_mul, nl_rmul, nl_mm, pu_qe0, pu_qe1, hn, hc]
    all_goals try simp (maxSteps := 400000) (disch := omega) [nl_tle, nl_fle, nl_tlt, nl_flt, nl_teq, nl_feq, nl_sub, nl_ss, nl_lt, nl_llt, nl_ltt, nl_le, nl_lle, nl_lee, nl_eq, nl_leq, nl_ee, nl_div, nl_rem, nl_cl, nl_n1, nl_n2, nl_n3, nl_n4, nl_add, nl_ladd, nl_aa, nl_mul, nl_rmul, nl_mm, pu_wi_1, pu_wi_2, bX2_hasOpenUnder_3, bX2_hasOpenUnder_62, bX2_hasOpenUnder_56, bX2_hasOpenUnder_50, a_ai, a_ald, a_cv, a_gi, a_gr, a_icge, a_icne, a_ifeq, a_ild, a_inc, a_push, a_zret, ag_31 hI, ag_32 hI, ag_33 hI, ag_35 hI, fx_31_1 hx, fx_31_2 hx, fx_31_4 hx, sh_31, sh_32, sh_33, sh_35, pu_rv, pu_as, Value.category, pu_bk, pu_kl, pu_qe0, pu_qe1, hn, hc]
    all_goals try simp [bX2_hasOpenUnder_3, bX2_hasOpenUnder_62, bX2_hasOpenUnder_56, bX2_hasOpenUnder_50, a_ai, a_ald, a_cv, a_gi, a_gr, a_icge, a_icne, a_ifeq, a_ild, a_inc, a_push, a_zret, ag_31 hI, ag_32 hI, ag_33 hI, ag_35 hI, fx_31_1 hx, fx_31_2 hx, fx_31_4 hx, sh_31, sh_32, sh_33, sh_35, pu_rv, pu_as, Value.category, pu_bk, pu_kl, List.replicate, pu_wi_1, pu_wi_2, nl_add, nl_ladd, nl_aa, nl_mul, nl_rmul, nl_mm, pu_qe0, pu_qe1, hn, hc]
    all_goals try simp (maxSteps := 400000) (disch := omega) [nl_tle, nl_fle, nl_tlt, nl_flt, nl_teq, nl_feq, nl_sub, nl_ss, nl_lt, nl_llt, nl_ltt, nl_le, nl_lle, nl_lee, nl_eq, nl_leq, nl_ee, nl_div, nl_rem, nl_cl, nl_n1, nl_n2, nl_n3, nl_n4, nl_add, nl_ladd, nl_aa, nl_mul, nl_rmul, nl_mm, pu_wi_1, pu_wi_2, bX2_hasOpenUnder_3, bX2_hasOpenUnder_62, bX2_hasOpenUnder_56, bX2_hasOpenUnder_50, a_ai, a_ald, a_cv, a_gi, a_gr, a_icge, a_icne, a_ifeq, a_ild, a_inc, a_push, a_zret, ag_31 hI, ag_32 hI, ag_33 hI, ag_35 hI, fx_31_1 hx, fx_31_2 hx, fx_31_4 hx, sh_31, sh_32, sh_33, sh_35, pu_rv, pu_as, Value.category, pu_bk, pu_kl, pu_qe0, pu_qe1, hn, hc]
  | m + 1, i, x, hi, h => by
    subst hi
    have hb := wx_bD hw
    have hn := wx_cD hw
    have hc : ¬ nI (cD I) ≤ nI i := nI_ge (by omega) (by omega)
    have ih := c_hasOpenUnder_l hx hI hw o so k m (i + 1) _ rfl (by omega)
    have e1 := c_isOpen hx hI hw i (by omega)
    by_cases c : py_un I o so k i
    · rw [pu_q1 ⟨i, by omega, by omega, c⟩]
      rw [pu_q1 c.1] at e1
      obtain ⟨c1, c2, c3, c4⟩ := c
      rw [qX2_hasOpenUnder_3]
      simp [bX2_hasOpenUnder_3, bX2_hasOpenUnder_62, bX2_hasOpenUnder_56, bX2_hasOpenUnder_50, a_ai, a_ald, a_cv, a_gi, a_gr, a_icge, a_icne, a_ifeq, a_ild, a_inc, a_push, a_zret, ag_31 hI, ag_32 hI, ag_33 hI, ag_35 hI, fx_31_1 hx, fx_31_2 hx, fx_31_4 hx, sh_31, sh_32, sh_33, sh_35, pu_rv, pu_as, Value.category, pu_bk, pu_kl, List.replicate, pu_wi_1, pu_wi_2, nl_add, nl_ladd, nl_aa, nl_mul, nl_rmul, nl_mm, pu_qe0, pu_qe1, hn, hc, e1, c2, c3, c4]
      all_goals try simp (maxSteps := 400000) (disch := omega) [nl_tle, nl_fle, nl_tlt, nl_flt, nl_teq, nl_feq, nl_sub, nl_ss, nl_lt, nl_llt, nl_ltt, nl_le, nl_lle, nl_lee, nl_eq, nl_leq, nl_ee, nl_div, nl_rem, nl_cl, nl_n1, nl_n2, nl_n3, nl_n4, nl_add, nl_ladd, nl_aa, nl_mul, nl_rmul, nl_mm, pu_wi_1, pu_wi_2, bX2_hasOpenUnder_3, bX2_hasOpenUnder_62, bX2_hasOpenUnder_56, bX2_hasOpenUnder_50, a_ai, a_ald, a_cv, a_gi, a_gr, a_icge, a_icne, a_ifeq, a_ild, a_inc, a_push, a_zret, ag_31 hI, ag_32 hI, ag_33 hI, ag_35 hI, fx_31_1 hx, fx_31_2 hx, fx_31_4 hx, sh_31, sh_32, sh_33, sh_35, pu_rv, pu_as, Value.category, pu_bk, pu_kl, pu_qe0, pu_qe1, hn, hc, e1, c2, c3, c4]
      all_goals try simp [bX2_hasOpenUnder_3, bX2_hasOpenUnder_62, bX2_hasOpenUnder_56, bX2_hasOpenUnder_50, a_ai, a_ald, a_cv, a_gi, a_gr, a_icge, a_icne, a_ifeq, a_ild, a_inc, a_push, a_zret, ag_31 hI, ag_32 hI, ag_33 hI, ag_35 hI, fx_31_1 hx, fx_31_2 hx, fx_31_4 hx, sh_31, sh_32, sh_33, sh_35, pu_rv, pu_as, Value.category, pu_bk, pu_kl, List.replicate, pu_wi_1, pu_wi_2, nl_add, nl_ladd, nl_aa, nl_mul, nl_rmul, nl_mm, pu_qe0, pu_qe1, hn, hc, e1, c2, c3, c4]
      all_goals try simp (maxSteps := 400000) (disch := omega) [nl_tle, nl_fle, nl_tlt, nl_flt, nl_teq, nl_feq, nl_sub, nl_ss, nl_lt, nl_llt, nl_ltt, nl_le, nl_lle, nl_lee, nl_eq, nl_leq, nl_ee, nl_div, nl_rem, nl_cl, nl_n1, nl_n2, nl_n3, nl_n4, nl_add, nl_ladd, nl_aa, nl_mul, nl_rmul, nl_mm, pu_wi_1, pu_wi_2, bX2_hasOpenUnder_3, bX2_hasOpenUnder_62, bX2_hasOpenUnder_56, bX2_hasOpenUnder_50, a_ai, a_ald, a_cv, a_gi, a_gr, a_icge, a_icne, a_ifeq, a_ild, a_inc, a_push, a_zret, ag_31 hI, ag_32 hI, ag_33 hI, ag_35 hI, fx_31_1 hx, fx_31_2 hx, fx_31_4 hx, sh_31, sh_32, sh_33, sh_35, pu_rv, pu_as, Value.category, pu_bk, pu_kl, pu_qe0, pu_qe1, hn, hc, e1, c2, c3, c4]
    · have e : (∃ j, i ≤ j ∧ j < cD I ∧ py_un I o so k j) = (∃ j, i + 1 ≤ j ∧ j < cD I ∧ py_un I o so k j) := by
        apply propext
        constructor
        · intro ⟨p, h1, h2, h3⟩
          refine ⟨p, ?_, h2, h3⟩
          have : p ≠ i := fun q => c (by rw [← q]; exact h3)
          omega
        · intro ⟨p, h1, h2, h3⟩
          exact ⟨p, by omega, h2, h3⟩
      rw [e]
      by_cases c1 : I 37 i = -1
      · rw [pu_q1 c1] at e1
        by_cases c2 : I 33 i = nI o
        · by_cases c3 : I 32 i = so
          · have c4 : ¬ I 35 i = k := fun z => c ⟨c1, c2, c3, z⟩
            rw [qX2_hasOpenUnder_3]
            simp [bX2_hasOpenUnder_3, bX2_hasOpenUnder_62, bX2_hasOpenUnder_56, bX2_hasOpenUnder_50, a_ai, a_ald, a_cv, a_gi, a_gr, a_icge, a_icne, a_ifeq, a_ild, a_inc, a_push, a_zret, ag_31 hI, ag_32 hI, ag_33 hI, ag_35 hI, fx_31_1 hx, fx_31_2 hx, fx_31_4 hx, sh_31, sh_32, sh_33, sh_35, pu_rv, pu_as, Value.category, pu_bk, pu_kl, List.replicate, pu_wi_1, pu_wi_2, nl_add, nl_ladd, nl_aa, nl_mul, nl_rmul, nl_mm, pu_qe0, pu_qe1, hn, hc, e1, c2, c3, c4, ih]
            all_goals try simp (maxSteps := 400000) (disch := omega) [nl_tle, nl_fle, nl_tlt, nl_flt, nl_teq, nl_feq, nl_sub, nl_ss, nl_lt, nl_llt, nl_ltt, nl_le, nl_lle, nl_lee, nl_eq, nl_leq, nl_ee, nl_div, nl_rem, nl_cl, nl_n1, nl_n2, nl_n3, nl_n4, nl_add, nl_ladd, nl_aa, nl_mul, nl_rmul, nl_mm, pu_wi_1, pu_wi_2, bX2_hasOpenUnder_3, bX2_hasOpenUnder_62, bX2_hasOpenUnder_56, bX2_hasOpenUnder_50, a_ai, a_ald, a_cv, a_gi, a_gr, a_icge, a_icne, a_ifeq, a_ild, a_inc, a_push, a_zret, ag_31 hI, ag_32 hI, ag_33 hI, ag_35 hI, fx_31_1 hx, fx_31_2 hx, fx_31_4 hx, sh_31, sh_32, sh_33, sh_35, pu_rv, pu_as, Value.category, pu_bk, pu_kl, pu_qe0, pu_qe1, hn, hc, e1, c2, c3, c4, ih]
            all_goals try simp [bX2_hasOpenUnder_3, bX2_hasOpenUnder_62, bX2_hasOpenUnder_56, bX2_hasOpenUnder_50, a_ai, a_ald, a_cv, a_gi, a_gr, a_icge, a_icne, a_ifeq, a_ild, a_inc, a_push, a_zret, ag_31 hI, ag_32 hI, ag_33 hI, ag_35 hI, fx_31_1 hx, fx_31_2 hx, fx_31_4 hx, sh_31, sh_32, sh_33, sh_35, pu_rv, pu_as, Value.category, pu_bk, pu_kl, List.replicate, pu_wi_1, pu_wi_2, nl_add, nl_ladd, nl_aa, nl_mul, nl_rmul, nl_mm, pu_qe0, pu_qe1, hn, hc, e1, c2, c3, c4, ih]
            all_goals try simp (maxSteps := 400000) (disch := omega) [nl_tle, nl_fle, nl_tlt, nl_flt, nl_teq, nl_feq, nl_sub, nl_ss, nl_lt, nl_llt, nl_ltt, nl_le, nl_lle, nl_lee, nl_eq, nl_leq, nl_ee, nl_div, nl_rem, nl_cl, nl_n1, nl_n2, nl_n3, nl_n4, nl_add, nl_ladd, nl_aa, nl_mul, nl_rmul, nl_mm, pu_wi_1, pu_wi_2, bX2_hasOpenUnder_3, bX2_hasOpenUnder_62, bX2_hasOpenUnder_56, bX2_hasOpenUnder_50, a_ai, a_ald, a_cv, a_gi, a_gr, a_icge, a_icne, a_ifeq, a_ild, a_inc, a_push, a_zret, ag_31 hI, ag_32 hI, ag_33 hI, ag_35 hI, fx_31_1 hx, fx_31_2 hx, fx_31_4 hx, sh_31, sh_32, sh_33, sh_35, pu_rv, pu_as, Value.category, pu_bk, pu_kl, pu_qe0, pu_qe1, hn, hc, e1, c2, c3, c4, ih]
          · rw [qX2_hasOpenUnder_3]
            simp [bX2_hasOpenUnder_3, bX2_hasOpenUnder_62, bX2_hasOpenUnder_56, bX2_hasOpenUnder_50, a_ai, a_ald, a_cv, a_gi, a_gr, a_icge, a_icne, a_ifeq, a_ild, a_inc, a_push, a_zret, ag_31 hI, ag_32 hI, ag_33 hI, ag_35 hI, fx_31_1 hx, fx_31_2 hx, fx_31_4 hx, sh_31, sh_32, sh_33, sh_35, pu_rv, pu_as, Value.category, pu_bk, pu_kl, List.replicate, pu_wi_1, pu_wi_2, nl_add, nl_ladd, nl_aa, nl_mul, nl_rmul, nl_mm, pu_qe0, pu_qe1, hn, hc, e1, c2, c3, ih]
            all_goals try simp (maxSteps := 400000) (disch := omega) [nl_tle, nl_fle, nl_tlt, nl_flt, nl_teq, nl_feq, nl_sub, nl_ss, nl_lt, nl_llt, nl_ltt, nl_le, nl_lle, nl_lee, nl_eq, nl_leq, nl_ee, nl_div, nl_rem, nl_cl, nl_n1, nl_n2, nl_n3, nl_n4, nl_add, nl_ladd, nl_aa, nl_mul, nl_rmul, nl_mm, pu_wi_1, pu_wi_2, bX2_hasOpenUnder_3, bX2_hasOpenUnder_62, bX2_hasOpenUnder_56, bX2_hasOpenUnder_50, a_ai, a_ald, a_cv, a_gi, a_gr, a_icge, a_icne, a_ifeq, a_ild, a_inc, a_push, a_zret, ag_31 hI, ag_32 hI, ag_33 hI, ag_35 hI, fx_31_1 hx, fx_31_2 hx, fx_31_4 hx, sh_31, sh_32, sh_33, sh_35, pu_rv, pu_as, Value.category, pu_bk, pu_kl, pu_qe0, pu_qe1, hn, hc, e1, c2, c3, ih]
            all_goals try simp [bX2_hasOpenUnder_3, bX2_hasOpenUnder_62, bX2_hasOpenUnder_56, bX2_hasOpenUnder_50, a_ai, a_ald, a_cv, a_gi, a_gr, a_icge, a_icne, a_ifeq, a_ild, a_inc, a_push, a_zret, ag_31 hI, ag_32 hI, ag_33 hI, ag_35 hI, fx_31_1 hx, fx_31_2 hx, fx_31_4 hx, sh_31, sh_32, sh_33, sh_35, pu_rv, pu_as, Value.category, pu_bk, pu_kl, List.replicate, pu_wi_1, pu_wi_2, nl_add, nl_ladd, nl_aa, nl_mul, nl_rmul, nl_mm, pu_qe0, pu_qe1, hn, hc, e1, c2, c3, ih]
            all_goals try simp (maxSteps := 400000) (disch := omega) [nl_tle, nl_fle, nl_tlt, nl_flt, nl_teq, nl_feq, nl_sub, nl_ss, nl_lt, nl_llt, nl_ltt, nl_le, nl_lle, nl_lee, nl_eq, nl_leq, nl_ee, nl_div, nl_rem, nl_cl, nl_n1, nl_n2, nl_n3, nl_n4, nl_add, nl_ladd, nl_aa, nl_mul, nl_rmul, nl_mm, pu_wi_1, pu_wi_2, bX2_hasOpenUnder_3, bX2_hasOpenUnder_62, bX2_hasOpenUnder_56, bX2_hasOpenUnder_50, a_ai, a_ald, a_cv, a_gi, a_gr, a_icge, a_icne, a_ifeq, a_ild, a_inc, a_push, a_zret, ag_31 hI, ag_32 hI, ag_33 hI, ag_35 hI, fx_31_1 hx, fx_31_2 hx, fx_31_4 hx, sh_31, sh_32, sh_33, sh_35, pu_rv, pu_as, Value.category, pu_bk, pu_kl, pu_qe0, pu_qe1, hn, hc, e1, c2, c3, ih]
        · rw [qX2_hasOpenUnder_3]
          simp [bX2_hasOpenUnder_3, bX2_hasOpenUnder_62, bX2_hasOpenUnder_56, bX2_hasOpenUnder_50, a_ai, a_ald, a_cv, a_gi, a_gr, a_icge, a_icne, a_ifeq, a_ild, a_inc, a_push, a_zret, ag_31 hI, ag_32 hI, ag_33 hI, ag_35 hI, fx_31_1 hx, fx_31_2 hx, fx_31_4 hx, sh_31, sh_32, sh_33, sh_35, pu_rv, pu_as, Value.category, pu_bk, pu_kl, List.replicate, pu_wi_1, pu_wi_2, nl_add, nl_ladd, nl_aa, nl_mul, nl_rmul, nl_mm, pu_qe0, pu_qe1, hn, hc, e1, c2, ih]
          all_goals try simp (maxSteps := 400000) (disch := omega) [nl_tle, nl_fle, nl_tlt, nl_flt, nl_teq, nl_feq, nl_sub, nl_ss, nl_lt, nl_llt, nl_ltt, nl_le, nl_lle, nl_lee, nl_eq, nl_leq, nl_ee, nl_div, nl_rem, nl_cl, nl_n1, nl_n2, nl_n3, nl_n4, nl_add, nl_ladd, nl_aa, nl_mul, nl_rmul, nl_mm, pu_wi_1, pu_wi_2, bX2_hasOpenUnder_3, bX2_hasOpenUnder_62, bX2_hasOpenUnder_56, bX2_hasOpenUnder_50, a_ai, a_ald, a_cv, a_gi, a_gr, a_icge, a_icne, a_ifeq, a_ild, a_inc, a_push, a_zret, ag_31 hI, ag_32 hI, ag_33 hI, ag_35 hI, fx_31_1 hx, fx_31_2 hx, fx_31_4 hx, sh_31, sh_32, sh_33, sh_35, pu_rv, pu_as, Value.category, pu_bk, pu_kl, pu_qe0, pu_qe1, hn, hc, e1, c2, ih]
          all_goals try simp [bX2_hasOpenUnder_3, bX2_hasOpenUnder_62, bX2_hasOpenUnder_56, bX2_hasOpenUnder_50, a_ai, a_ald, a_cv, a_gi, a_gr, a_icge, a_icne, a_ifeq, a_ild, a_inc, a_push, a_zret, ag_31 hI, ag_32 hI, ag_33 hI, ag_35 hI, fx_31_1 hx, fx_31_2 hx, fx_31_4 hx, sh_31, sh_32, sh_33, sh_35, pu_rv, pu_as, Value.category, pu_bk, pu_kl, List.replicate, pu_wi_1, pu_wi_2, nl_add, nl_ladd, nl_aa, nl_mul, nl_rmul, nl_mm, pu_qe0, pu_qe1, hn, hc, e1, c2, ih]
          all_goals try simp (maxSteps := 400000) (disch := omega) [nl_tle, nl_fle, nl_tlt, nl_flt, nl_teq, nl_feq, nl_sub, nl_ss, nl_lt, nl_llt, nl_ltt, nl_le, nl_lle, nl_lee, nl_eq, nl_leq, nl_ee, nl_div, nl_rem, nl_cl, nl_n1, nl_n2, nl_n3, nl_n4, nl_add, nl_ladd, nl_aa, nl_mul, nl_rmul, nl_mm, pu_wi_1, pu_wi_2, bX2_hasOpenUnder_3, bX2_hasOpenUnder_62, bX2_hasOpenUnder_56, bX2_hasOpenUnder_50, a_ai, a_ald, a_cv, a_gi, a_gr, a_icge, a_icne, a_ifeq, a_ild, a_inc, a_push, a_zret, ag_31 hI, ag_32 hI, ag_33 hI, ag_35 hI, fx_31_1 hx, fx_31_2 hx, fx_31_4 hx, sh_31, sh_32, sh_33, sh_35, pu_rv, pu_as, Value.category, pu_bk, pu_kl, pu_qe0, pu_qe1, hn, hc, e1, c2, ih]
      · rw [pu_q0 c1] at e1
        rw [qX2_hasOpenUnder_3]
        simp [bX2_hasOpenUnder_3, bX2_hasOpenUnder_62, bX2_hasOpenUnder_56, bX2_hasOpenUnder_50, a_ai, a_ald, a_cv, a_gi, a_gr, a_icge, a_icne, a_ifeq, a_ild, a_inc, a_push, a_zret, ag_31 hI, ag_32 hI, ag_33 hI, ag_35 hI, fx_31_1 hx, fx_31_2 hx, fx_31_4 hx, sh_31, sh_32, sh_33, sh_35, pu_rv, pu_as, Value.category, pu_bk, pu_kl, List.replicate, pu_wi_1, pu_wi_2, nl_add, nl_ladd, nl_aa, nl_mul, nl_rmul, nl_mm, pu_qe0, pu_qe1, hn, hc, e1, ih]
        all_goals try simp (maxSteps := 400000) (disch := omega) [nl_tle, nl_fle, nl_tlt, nl_flt, nl_teq, nl_feq, nl_sub, nl_ss, nl_lt, nl_llt, nl_ltt, nl_le, nl_lle, nl_lee, nl_eq, nl_leq, nl_ee, nl_div, nl_rem, nl_cl, nl_n1, nl_n2, nl_n3, nl_n4, nl_add, nl_ladd, nl_aa, nl_mul, nl_rmul, nl_mm, pu_wi_1, pu_wi_2, bX2_hasOpenUnder_3, bX2_hasOpenUnder_62, bX2_hasOpenUnder_56, bX2_hasOpenUnder_50, a_ai, a_ald, a_cv, a_gi, a_gr, a_icge, a_icne, a_ifeq, a_ild, a_inc, a_push, a_zret, ag_31 hI, ag_32 hI, ag_33 hI, ag_35 hI, fx_31_1 hx, fx_31_2 hx, fx_31_4 hx, sh_31, sh_32, sh_33, sh_35, pu_rv, pu_as, Value.category, pu_bk, pu_kl, pu_qe0, pu_qe1, hn, hc, e1, ih]
        all_goals try simp [bX2_hasOpenUnder_3, bX2_hasOpenUnder_62, bX2_hasOpenUnder_56, bX2_hasOpenUnder_50, a_ai, a_ald, a_cv, a_gi, a_gr, a_icge, a_icne, a_ifeq, a_ild, a_inc, a_push, a_zret, ag_31 hI, ag_32 hI, ag_33 hI, ag_35 hI, fx_31_1 hx, fx_31_2 hx, fx_31_4 hx, sh_31, sh_32, sh_33, sh_35, pu_rv, pu_as, Value.category, pu_bk, pu_kl, List.replicate, pu_wi_1, pu_wi_2, nl_add, nl_ladd, nl_aa, nl_mul, nl_rmul, nl_mm, pu_qe0, pu_qe1, hn, hc, e1, ih]
        all_goals try simp (maxSteps := 400000) (disch := omega) [nl_tle, nl_fle, nl_tlt, nl_flt, nl_teq, nl_feq, nl_sub, nl_ss, nl_lt, nl_llt, nl_ltt, nl_le, nl_lle, nl_lee, nl_eq, nl_leq, nl_ee, nl_div, nl_rem, nl_cl, nl_n1, nl_n2, nl_n3, nl_n4, nl_add, nl_ladd, nl_aa, nl_mul, nl_rmul, nl_mm, pu_wi_1, pu_wi_2, bX2_hasOpenUnder_3, bX2_hasOpenUnder_62, bX2_hasOpenUnder_56, bX2_hasOpenUnder_50, a_ai, a_ald, a_cv, a_gi, a_gr, a_icge, a_icne, a_ifeq, a_ild, a_inc, a_push, a_zret, ag_31 hI, ag_32 hI, ag_33 hI, ag_35 hI, fx_31_1 hx, fx_31_2 hx, fx_31_4 hx, sh_31, sh_32, sh_33, sh_35, pu_rv, pu_as, Value.category, pu_bk, pu_kl, pu_qe0, pu_qe1, hn, hc, e1, ih]
theorem c_hasOpenUnder (hx : pu_fx M) (hI : pu_ag M I) (hw : pu_WF I L) (o : Nat) (so k : Int32) : pu_r 99 [some (.ref 31), some (.int (nI o)), some (.int so), some (.int k)] [] M = some (some (.int (pu_q (∃ j, j < cD I ∧ py_un I o so k j))), M) := by
  have e := c_hasOpenUnder_l hx hI hw o so k (cD I) 0 0 rfl (by omega)
  have e2 : (∃ j, 0 ≤ j ∧ j < cD I ∧ py_un I o so k j) = (∃ j, j < cD I ∧ py_un I o so k j) := by simp
  rw [e2] at e
  rw [qX2_hasOpenUnder]
  simp [a_ent, bX2_hasOpenUnder_0, a_ist, a_push, pu_rv, pu_as, Value.category, pu_bk, pu_kl, List.replicate, pu_wi_1, pu_wi_2, nl_add, nl_ladd, nl_aa, nl_mul, nl_rmul, nl_mm, pu_qe0, pu_qe1, e]
  all_goals try simp (maxSteps := 400000) (disch := omega) [nl_tle, nl_fle, nl_tlt, nl_flt, nl_teq, nl_feq, nl_sub, nl_ss, nl_lt, nl_llt, nl_ltt, nl_le, nl_lle, nl_lee, nl_eq, nl_leq, nl_ee, nl_div, nl_rem, nl_cl, nl_n1, nl_n2, nl_n3, nl_n4, nl_add, nl_ladd, nl_aa, nl_mul, nl_rmul, nl_mm, pu_wi_1, pu_wi_2, bX2_hasOpenUnder_0, a_ist, a_push, pu_rv, pu_as, Value.category, pu_bk, pu_kl, pu_qe0, pu_qe1, e]
  all_goals try simp [bX2_hasOpenUnder_0, a_ist, a_push, pu_rv, pu_as, Value.category, pu_bk, pu_kl, List.replicate, pu_wi_1, pu_wi_2, nl_add, nl_ladd, nl_aa, nl_mul, nl_rmul, nl_mm, pu_qe0, pu_qe1, e]
  all_goals try simp (maxSteps := 400000) (disch := omega) [nl_tle, nl_fle, nl_tlt, nl_flt, nl_teq, nl_feq, nl_sub, nl_ss, nl_lt, nl_llt, nl_ltt, nl_le, nl_lle, nl_lee, nl_eq, nl_leq, nl_ee, nl_div, nl_rem, nl_cl, nl_n1, nl_n2, nl_n3, nl_n4, nl_add, nl_ladd, nl_aa, nl_mul, nl_rmul, nl_mm, pu_wi_1, pu_wi_2, bX2_hasOpenUnder_0, a_ist, a_push, pu_rv, pu_as, Value.category, pu_bk, pu_kl, pu_qe0, pu_qe1, e]
theorem py_srt2 (hw : pu_WF I L) {i : Nat} (hi : i < cD I) {so : Int32} (hs : 2 ≤ so) : (pu_srt I i = so) = (I 32 i = so) := by
  unfold pu_srt
  by_cases c : I 38 i = -1
  · rw [if_pos c]
  · rw [if_neg c]
    have z := (wx_d1 hw i hi c).1
    have e2 : (2 : Int32).toInt = 2 := by decide
    have h2 := Int32.le_iff_toInt_le.mp hs
    apply propext
    constructor
    · intro q
      rw [← q] at h2
      exact absurd h2 (by decide)
    · intro q
      rw [z] at q
      rw [← q] at h2
      exact absurd h2 (by decide)
theorem r_underneath_l (hx : pu_fx M) (hr : pu_Rel I L (M.1 72)) (hw : pu_WF I L) (o : Nat) (so k : Int32) (hs : 2 ≤ so) : ∀ m i x, x = nI i → i + m = cD I → pu_r 466 [some (.ref 71), some (.int (nI o)), some (.int so), some (.int k), some (.int x)] [] M = some (some (.int (pu_f1 (py_un I o so k) m i)), M)
  | 0, i, x, hi, h => by
    subst hi
    have hb := wx_bD hw
    have hc : nI (cD I) ≤ nI i := nI_le (by omega) (by omega)
    rw [qX12_underneath_3]
    simp [bX12_underneath_3, bX12_underneath_67, bX12_underneath_61, bX12_underneath_49, a_ai, a_ald, a_cv, a_gr, a_icge, a_icne, a_ifeq, a_ild, a_inc, a_iret, a_push, fx_71_0 hx, sh_71, sh_72, pu_rv, pu_as, Value.category, pu_bk, pu_kl, List.replicate, pu_wi_1, pu_wi_2, nl_add, nl_ladd, nl_aa, nl_mul, nl_rmul, nl_mm, pu_qe0, pu_qe1, rl_h4 hr, hc, pu_f1]
    all_goals try simp (maxSteps := 400000) (disch := omega) [nl_tle, nl_fle, nl_tlt, nl_flt, nl_teq, nl_feq, nl_sub, nl_ss, nl_lt, nl_llt, nl_ltt, nl_le, nl_lle, nl_lee, nl_eq, nl_leq, nl_ee, nl_div, nl_rem, nl_cl, nl_n1, nl_n2, nl_n3, nl_n4, nl_add, nl_ladd, nl_aa, nl_mul, nl_rmul, nl_mm, pu_wi_1, pu_wi_2, bX12_underneath_3, bX12_underneath_67, bX12_underneath_61, bX12_underneath_49, a_ai, a_ald, a_cv, a_gr, a_icge, a_icne, a_ifeq, a_ild, a_inc, a_iret, a_push, fx_71_0 hx, sh_71, sh_72, pu_rv, pu_as, Value.category, pu_bk, pu_kl, pu_qe0, pu_qe1, rl_h4 hr, hc, pu_f1]
    all_goals try simp [bX12_underneath_3, bX12_underneath_67, bX12_underneath_61, bX12_underneath_49, a_ai, a_ald, a_cv, a_gr, a_icge, a_icne, a_ifeq, a_ild, a_inc, a_iret, a_push, fx_71_0 hx, sh_71, sh_72, pu_rv, pu_as, Value.category, pu_bk, pu_kl, List.replicate, pu_wi_1, pu_wi_2, nl_add, nl_ladd, nl_aa, nl_mul, nl_rmul, nl_mm, pu_qe0, pu_qe1, rl_h4 hr, hc, pu_f1]
    all_goals try simp (maxSteps := 400000) (disch := omega) [nl_tle, nl_fle, nl_tlt, nl_flt, nl_teq, nl_feq, nl_sub, nl_ss, nl_lt, nl_llt, nl_ltt, nl_le, nl_lle, nl_lee, nl_eq, nl_leq, nl_ee, nl_div, nl_rem, nl_cl, nl_n1, nl_n2, nl_n3, nl_n4, nl_add, nl_ladd, nl_aa, nl_mul, nl_rmul, nl_mm, pu_wi_1, pu_wi_2, bX12_underneath_3, bX12_underneath_67, bX12_underneath_61, bX12_underneath_49, a_ai, a_ald, a_cv, a_gr, a_icge, a_icne, a_ifeq, a_ild, a_inc, a_iret, a_push, fx_71_0 hx, sh_71, sh_72, pu_rv, pu_as, Value.category, pu_bk, pu_kl, pu_qe0, pu_qe1, rl_h4 hr, hc, pu_f1]
  | m + 1, i, x, hi, h => by
    subst hi
    have hb := wx_bD hw
    have hc : ¬ nI (cD I) ≤ nI i := nI_ge (by omega) (by omega)
    have ih := r_underneath_l hx hr hw o so k hs m (i + 1) _ rfl (by omega)
    have e1 := r_isOpen hx hr hw i (by omega)
    have e2 := r_of8 hx hr hw i (by omega)
    have e3 := r_of0 hx hr hw i (by omega)
    have e4 := r_of7 hx hr hw i (by omega)
    have e5 := py_srt2 hw (i := i) (by omega) hs
    by_cases c : py_un I o so k i
    · rw [pu_f1_t c]
      rw [pu_q1 c.1] at e1
      obtain ⟨c1, c2, c3, c4⟩ := c
      have c5 : pu_srt I i = so := by rw [e5]; exact c3
      rw [qX12_underneath_3]
      simp [bX12_underneath_3, bX12_underneath_67, bX12_underneath_61, bX12_underneath_49, a_ai, a_ald, a_cv, a_gr, a_icge, a_icne, a_ifeq, a_ild, a_inc, a_iret, a_push, fx_71_0 hx, sh_71, sh_72, pu_rv, pu_as, Value.category, pu_bk, pu_kl, List.replicate, pu_wi_1, pu_wi_2, nl_add, nl_ladd, nl_aa, nl_mul, nl_rmul, nl_mm, pu_qe0, pu_qe1, rl_h4 hr, hc, e1, e2, e3, e4, c2, c5, c4]
      all_goals try simp (maxSteps := 400000) (disch := omega) [nl_tle, nl_fle, nl_tlt, nl_flt, nl_teq, nl_feq, nl_sub, nl_ss, nl_lt, nl_llt, nl_ltt, nl_le, nl_lle, nl_lee, nl_eq, nl_leq, nl_ee, nl_div, nl_rem, nl_cl, nl_n1, nl_n2, nl_n3, nl_n4, nl_add, nl_ladd, nl_aa, nl_mul, nl_rmul, nl_mm, pu_wi_1, pu_wi_2, bX12_underneath_3, bX12_underneath_67, bX12_underneath_61, bX12_underneath_49, a_ai, a_ald, a_cv, a_gr, a_icge, a_icne, a_ifeq, a_ild, a_inc, a_iret, a_push, fx_71_0 hx, sh_71, sh_72, pu_rv, pu_as, Value.category, pu_bk, pu_kl, pu_qe0, pu_qe1, rl_h4 hr, hc, e1, e2, e3, e4, c2, c5, c4]
      all_goals try simp [bX12_underneath_3, bX12_underneath_67, bX12_underneath_61, bX12_underneath_49, a_ai, a_ald, a_cv, a_gr, a_icge, a_icne, a_ifeq, a_ild, a_inc, a_iret, a_push, fx_71_0 hx, sh_71, sh_72, pu_rv, pu_as, Value.category, pu_bk, pu_kl, List.replicate, pu_wi_1, pu_wi_2, nl_add, nl_ladd, nl_aa, nl_mul, nl_rmul, nl_mm, pu_qe0, pu_qe1, rl_h4 hr, hc, e1, e2, e3, e4, c2, c5, c4]
      all_goals try simp (maxSteps := 400000) (disch := omega) [nl_tle, nl_fle, nl_tlt, nl_flt, nl_teq, nl_feq, nl_sub, nl_ss, nl_lt, nl_llt, nl_ltt, nl_le, nl_lle, nl_lee, nl_eq, nl_leq, nl_ee, nl_div, nl_rem, nl_cl, nl_n1, nl_n2, nl_n3, nl_n4, nl_add, nl_ladd, nl_aa, nl_mul, nl_rmul, nl_mm, pu_wi_1, pu_wi_2, bX12_underneath_3, bX12_underneath_67, bX12_underneath_61, bX12_underneath_49, a_ai, a_ald, a_cv, a_gr, a_icge, a_icne, a_ifeq, a_ild, a_inc, a_iret, a_push, fx_71_0 hx, sh_71, sh_72, pu_rv, pu_as, Value.category, pu_bk, pu_kl, pu_qe0, pu_qe1, rl_h4 hr, hc, e1, e2, e3, e4, c2, c5, c4]
    · rw [pu_f1_f c]
      by_cases c1 : I 37 i = -1
      · rw [pu_q1 c1] at e1
        by_cases c2 : I 33 i = nI o
        · by_cases c3 : I 32 i = so
          · have c4 : ¬ I 35 i = k := fun z => c ⟨c1, c2, c3, z⟩
            have c5 : pu_srt I i = so := by rw [e5]; exact c3
            rw [qX12_underneath_3]
            simp [bX12_underneath_3, bX12_underneath_67, bX12_underneath_61, bX12_underneath_49, a_ai, a_ald, a_cv, a_gr, a_icge, a_icne, a_ifeq, a_ild, a_inc, a_iret, a_push, fx_71_0 hx, sh_71, sh_72, pu_rv, pu_as, Value.category, pu_bk, pu_kl, List.replicate, pu_wi_1, pu_wi_2, nl_add, nl_ladd, nl_aa, nl_mul, nl_rmul, nl_mm, pu_qe0, pu_qe1, rl_h4 hr, hc, e1, e2, e3, e4, c2, c5, c4, ih]
            all_goals try simp (maxSteps := 400000) (disch := omega) [nl_tle, nl_fle, nl_tlt, nl_flt, nl_teq, nl_feq, nl_sub, nl_ss, nl_lt, nl_llt, nl_ltt, nl_le, nl_lle, nl_lee, nl_eq, nl_leq, nl_ee, nl_div, nl_rem, nl_cl, nl_n1, nl_n2, nl_n3, nl_n4, nl_add, nl_ladd, nl_aa, nl_mul, nl_rmul, nl_mm, pu_wi_1, pu_wi_2, bX12_underneath_3, bX12_underneath_67, bX12_underneath_61, bX12_underneath_49, a_ai, a_ald, a_cv, a_gr, a_icge, a_icne, a_ifeq, a_ild, a_inc, a_iret, a_push, fx_71_0 hx, sh_71, sh_72, pu_rv, pu_as, Value.category, pu_bk, pu_kl, pu_qe0, pu_qe1, rl_h4 hr, hc, e1, e2, e3, e4, c2, c5, c4, ih]
            all_goals try simp [bX12_underneath_3, bX12_underneath_67, bX12_underneath_61, bX12_underneath_49, a_ai, a_ald, a_cv, a_gr, a_icge, a_icne, a_ifeq, a_ild, a_inc, a_iret, a_push, fx_71_0 hx, sh_71, sh_72, pu_rv, pu_as, Value.category, pu_bk, pu_kl, List.replicate, pu_wi_1, pu_wi_2, nl_add, nl_ladd, nl_aa, nl_mul, nl_rmul, nl_mm, pu_qe0, pu_qe1, rl_h4 hr, hc, e1, e2, e3, e4, c2, c5, c4, ih]
            all_goals try simp (maxSteps := 400000) (disch := omega) [nl_tle, nl_fle, nl_tlt, nl_flt, nl_teq, nl_feq, nl_sub, nl_ss, nl_lt, nl_llt, nl_ltt, nl_le, nl_lle, nl_lee, nl_eq, nl_leq, nl_ee, nl_div, nl_rem, nl_cl, nl_n1, nl_n2, nl_n3, nl_n4, nl_add, nl_ladd, nl_aa, nl_mul, nl_rmul, nl_mm, pu_wi_1, pu_wi_2, bX12_underneath_3, bX12_underneath_67, bX12_underneath_61, bX12_underneath_49, a_ai, a_ald, a_cv, a_gr, a_icge, a_icne, a_ifeq, a_ild, a_inc, a_iret, a_push, fx_71_0 hx, sh_71, sh_72, pu_rv, pu_as, Value.category, pu_bk, pu_kl, pu_qe0, pu_qe1, rl_h4 hr, hc, e1, e2, e3, e4, c2, c5, c4, ih]
          · have c5 : ¬ pu_srt I i = so := by rw [e5]; exact c3
            rw [qX12_underneath_3]
            simp [bX12_underneath_3, bX12_underneath_67, bX12_underneath_61, bX12_underneath_49, a_ai, a_ald, a_cv, a_gr, a_icge, a_icne, a_ifeq, a_ild, a_inc, a_iret, a_push, fx_71_0 hx, sh_71, sh_72, pu_rv, pu_as, Value.category, pu_bk, pu_kl, List.replicate, pu_wi_1, pu_wi_2, nl_add, nl_ladd, nl_aa, nl_mul, nl_rmul, nl_mm, pu_qe0, pu_qe1, rl_h4 hr, hc, e1, e2, e3, c2, c5, ih]
            all_goals try simp (maxSteps := 400000) (disch := omega) [nl_tle, nl_fle, nl_tlt, nl_flt, nl_teq, nl_feq, nl_sub, nl_ss, nl_lt, nl_llt, nl_ltt, nl_le, nl_lle, nl_lee, nl_eq, nl_leq, nl_ee, nl_div, nl_rem, nl_cl, nl_n1, nl_n2, nl_n3, nl_n4, nl_add, nl_ladd, nl_aa, nl_mul, nl_rmul, nl_mm, pu_wi_1, pu_wi_2, bX12_underneath_3, bX12_underneath_67, bX12_underneath_61, bX12_underneath_49, a_ai, a_ald, a_cv, a_gr, a_icge, a_icne, a_ifeq, a_ild, a_inc, a_iret, a_push, fx_71_0 hx, sh_71, sh_72, pu_rv, pu_as, Value.category, pu_bk, pu_kl, pu_qe0, pu_qe1, rl_h4 hr, hc, e1, e2, e3, c2, c5, ih]
            all_goals try simp [bX12_underneath_3, bX12_underneath_67, bX12_underneath_61, bX12_underneath_49, a_ai, a_ald, a_cv, a_gr, a_icge, a_icne, a_ifeq, a_ild, a_inc, a_iret, a_push, fx_71_0 hx, sh_71, sh_72, pu_rv, pu_as, Value.category, pu_bk, pu_kl, List.replicate, pu_wi_1, pu_wi_2, nl_add, nl_ladd, nl_aa, nl_mul, nl_rmul, nl_mm, pu_qe0, pu_qe1, rl_h4 hr, hc, e1, e2, e3, c2, c5, ih]
            all_goals try simp (maxSteps := 400000) (disch := omega) [nl_tle, nl_fle, nl_tlt, nl_flt, nl_teq, nl_feq, nl_sub, nl_ss, nl_lt, nl_llt, nl_ltt, nl_le, nl_lle, nl_lee, nl_eq, nl_leq, nl_ee, nl_div, nl_rem, nl_cl, nl_n1, nl_n2, nl_n3, nl_n4, nl_add, nl_ladd, nl_aa, nl_mul, nl_rmul, nl_mm, pu_wi_1, pu_wi_2, bX12_underneath_3, bX12_underneath_67, bX12_underneath_61, bX12_underneath_49, a_ai, a_ald, a_cv, a_gr, a_icge, a_icne, a_ifeq, a_ild, a_inc, a_iret, a_push, fx_71_0 hx, sh_71, sh_72, pu_rv, pu_as, Value.category, pu_bk, pu_kl, pu_qe0, pu_qe1, rl_h4 hr, hc, e1, e2, e3, c2, c5, ih]
        · rw [qX12_underneath_3]
          simp [bX12_underneath_3, bX12_underneath_67, bX12_underneath_61, bX12_underneath_49, a_ai, a_ald, a_cv, a_gr, a_icge, a_icne, a_ifeq, a_ild, a_inc, a_iret, a_push, fx_71_0 hx, sh_71, sh_72, pu_rv, pu_as, Value.category, pu_bk, pu_kl, List.replicate, pu_wi_1, pu_wi_2, nl_add, nl_ladd, nl_aa, nl_mul, nl_rmul, nl_mm, pu_qe0, pu_qe1, rl_h4 hr, hc, e1, e2, c2, ih]
          all_goals try simp (maxSteps := 400000) (disch := omega) [nl_tle, nl_fle, nl_tlt, nl_flt, nl_teq, nl_feq, nl_sub, nl_ss, nl_lt, nl_llt, nl_ltt, nl_le, nl_lle, nl_lee, nl_eq, nl_leq, nl_ee, nl_div, nl_rem, nl_cl, nl_n1, nl_n2, nl_n3, nl_n4, nl_add, nl_ladd, nl_aa, nl_mul, nl_rmul, nl_mm, pu_wi_1, pu_wi_2, bX12_underneath_3, bX12_underneath_67, bX12_underneath_61, bX12_underneath_49, a_ai, a_ald, a_cv, a_gr, a_icge, a_icne, a_ifeq, a_ild, a_inc, a_iret, a_push, fx_71_0 hx, sh_71, sh_72, pu_rv, pu_as, Value.category, pu_bk, pu_kl, pu_qe0, pu_qe1, rl_h4 hr, hc, e1, e2, c2, ih]
          all_goals try simp [bX12_underneath_3, bX12_underneath_67, bX12_underneath_61, bX12_underneath_49, a_ai, a_ald, a_cv, a_gr, a_icge, a_icne, a_ifeq, a_ild, a_inc, a_iret, a_push, fx_71_0 hx, sh_71, sh_72, pu_rv, pu_as, Value.category, pu_bk, pu_kl, List.replicate, pu_wi_1, pu_wi_2, nl_add, nl_ladd, nl_aa, nl_mul, nl_rmul, nl_mm, pu_qe0, pu_qe1, rl_h4 hr, hc, e1, e2, c2, ih]
          all_goals try simp (maxSteps := 400000) (disch := omega) [nl_tle, nl_fle, nl_tlt, nl_flt, nl_teq, nl_feq, nl_sub, nl_ss, nl_lt, nl_llt, nl_ltt, nl_le, nl_lle, nl_lee, nl_eq, nl_leq, nl_ee, nl_div, nl_rem, nl_cl, nl_n1, nl_n2, nl_n3, nl_n4, nl_add, nl_ladd, nl_aa, nl_mul, nl_rmul, nl_mm, pu_wi_1, pu_wi_2, bX12_underneath_3, bX12_underneath_67, bX12_underneath_61, bX12_underneath_49, a_ai, a_ald, a_cv, a_gr, a_icge, a_icne, a_ifeq, a_ild, a_inc, a_iret, a_push, fx_71_0 hx, sh_71, sh_72, pu_rv, pu_as, Value.category, pu_bk, pu_kl, pu_qe0, pu_qe1, rl_h4 hr, hc, e1, e2, c2, ih]
      · rw [pu_q0 c1] at e1
        rw [qX12_underneath_3]
        simp [bX12_underneath_3, bX12_underneath_67, bX12_underneath_61, bX12_underneath_49, a_ai, a_ald, a_cv, a_gr, a_icge, a_icne, a_ifeq, a_ild, a_inc, a_iret, a_push, fx_71_0 hx, sh_71, sh_72, pu_rv, pu_as, Value.category, pu_bk, pu_kl, List.replicate, pu_wi_1, pu_wi_2, nl_add, nl_ladd, nl_aa, nl_mul, nl_rmul, nl_mm, pu_qe0, pu_qe1, rl_h4 hr, hc, e1, ih]
        all_goals try simp (maxSteps := 400000) (disch := omega) [nl_tle, nl_fle, nl_tlt, nl_flt, nl_teq, nl_feq, nl_sub, nl_ss, nl_lt, nl_llt, nl_ltt, nl_le, nl_lle, nl_lee, nl_eq, nl_leq, nl_ee, nl_div, nl_rem, nl_cl, nl_n1, nl_n2, nl_n3, nl_n4, nl_add, nl_ladd, nl_aa, nl_mul, nl_rmul, nl_mm, pu_wi_1, pu_wi_2, bX12_underneath_3, bX12_underneath_67, bX12_underneath_61, bX12_underneath_49, a_ai, a_ald, a_cv, a_gr, a_icge, a_icne, a_ifeq, a_ild, a_inc, a_iret, a_push, fx_71_0 hx, sh_71, sh_72, pu_rv, pu_as, Value.category, pu_bk, pu_kl, pu_qe0, pu_qe1, rl_h4 hr, hc, e1, ih]
        all_goals try simp [bX12_underneath_3, bX12_underneath_67, bX12_underneath_61, bX12_underneath_49, a_ai, a_ald, a_cv, a_gr, a_icge, a_icne, a_ifeq, a_ild, a_inc, a_iret, a_push, fx_71_0 hx, sh_71, sh_72, pu_rv, pu_as, Value.category, pu_bk, pu_kl, List.replicate, pu_wi_1, pu_wi_2, nl_add, nl_ladd, nl_aa, nl_mul, nl_rmul, nl_mm, pu_qe0, pu_qe1, rl_h4 hr, hc, e1, ih]
        all_goals try simp (maxSteps := 400000) (disch := omega) [nl_tle, nl_fle, nl_tlt, nl_flt, nl_teq, nl_feq, nl_sub, nl_ss, nl_lt, nl_llt, nl_ltt, nl_le, nl_lle, nl_lee, nl_eq, nl_leq, nl_ee, nl_div, nl_rem, nl_cl, nl_n1, nl_n2, nl_n3, nl_n4, nl_add, nl_ladd, nl_aa, nl_mul, nl_rmul, nl_mm, pu_wi_1, pu_wi_2, bX12_underneath_3, bX12_underneath_67, bX12_underneath_61, bX12_underneath_49, a_ai, a_ald, a_cv, a_gr, a_icge, a_icne, a_ifeq, a_ild, a_inc, a_iret, a_push, fx_71_0 hx, sh_71, sh_72, pu_rv, pu_as, Value.category, pu_bk, pu_kl, pu_qe0, pu_qe1, rl_h4 hr, hc, e1, ih]
theorem r_underneath (hx : pu_fx M) (hr : pu_Rel I L (M.1 72)) (hw : pu_WF I L) (o : Nat) (so k : Int32) (hs : 2 ≤ so) : ∃ v, pu_r 288 [some (.ref 71), some (.int (nI o)), some (.int so), some (.int k)] [] M = some (some (.int v), M) ∧ (v = -1) = ¬ ∃ j, j < cD I ∧ py_un I o so k j := by
  have hb := wx_bD hw
  have e := r_underneath_l hx hr hw o so k hs (cD I) 0 0 rfl (by omega)
  refine ⟨pu_f1 (py_un I o so k) (cD I) 0, ?_, ?_⟩
  · rw [qX12_underneath]
    simp [a_ent, bX12_underneath_0, a_ist, a_push, pu_rv, pu_as, Value.category, pu_bk, pu_kl, List.replicate, pu_wi_1, pu_wi_2, nl_add, nl_ladd, nl_aa, nl_mul, nl_rmul, nl_mm, pu_qe0, pu_qe1, e]
    all_goals try simp (maxSteps := 400000) (disch := omega) [nl_tle, nl_fle, nl_tlt, nl_flt, nl_teq, nl_feq, nl_sub, nl_ss, nl_lt, nl_llt, nl_ltt, nl_le, nl_lle, nl_lee, nl_eq, nl_leq, nl_ee, nl_div, nl_rem, nl_cl, nl_n1, nl_n2, nl_n3, nl_n4, nl_add, nl_ladd, nl_aa, nl_mul, nl_rmul, nl_mm, pu_wi_1, pu_wi_2, bX12_underneath_0, a_ist, a_push, pu_rv, pu_as, Value.category, pu_bk, pu_kl, pu_qe0, pu_qe1, e]
    all_goals try simp [bX12_underneath_0, a_ist, a_push, pu_rv, pu_as, Value.category, pu_bk, pu_kl, List.replicate, pu_wi_1, pu_wi_2, nl_add, nl_ladd, nl_aa, nl_mul, nl_rmul, nl_mm, pu_qe0, pu_qe1, e]
    all_goals try simp (maxSteps := 400000) (disch := omega) [nl_tle, nl_fle, nl_tlt, nl_flt, nl_teq, nl_feq, nl_sub, nl_ss, nl_lt, nl_llt, nl_ltt, nl_le, nl_lle, nl_lee, nl_eq, nl_leq, nl_ee, nl_div, nl_rem, nl_cl, nl_n1, nl_n2, nl_n3, nl_n4, nl_add, nl_ladd, nl_aa, nl_mul, nl_rmul, nl_mm, pu_wi_1, pu_wi_2, bX12_underneath_0, a_ist, a_push, pu_rv, pu_as, Value.category, pu_bk, pu_kl, pu_qe0, pu_qe1, e]
  · apply propext
    rcases pu_f1_spec (py_un I o so k) (cD I) 0 with ⟨a, b⟩ | ⟨j, _, h2, h3, h4, _⟩
    · rw [a]
      exact ⟨fun _ ⟨j, j1, j2⟩ => b j (by omega) (by omega) j2, fun _ => rfl⟩
    · rw [h3]
      constructor
      · intro z
        rw [nl_n1 _ (by omega)] at z
        exact z.elim
      · intro z
        exact absurd ⟨j, by omega, h4⟩ z
end
