/-! papers on both sides -/
theorem pu_nn0 {x : Int32} (h : 0 ≤ x.toInt) : x = nI x.toNatClampNeg := by
  have h2 : ¬ x < 0 := fun q => by
    have := Int32.lt_iff_toInt_lt.mp q
    have e : (0 : Int32).toInt = 0 := by decide
    omega
  obtain ⟨j, hj, rfl⟩ := nI_of h2
  rw [nI_clamp hj]
theorem pu_nnT {x : Int32} (h : 0 ≤ x.toInt) : (x.toNatClampNeg : Int) = x.toInt := by
  show ((x.toInt.toNat : Nat) : Int) = x.toInt
  omega
theorem pu_ne1 {x : Int32} (h : -1 ≤ x.toInt) (h2 : x ≠ -1) : 0 ≤ x.toInt := by
  have e : (-1 : Int32).toInt = -1 := by decide
  have : x.toInt ≠ -1 := fun q => h2 (Int32.toInt_inj.mp (by rw [q, e]))
  omega
section
variable {M : pu_M} {I : Nat → Nat → Int32} {L : Nat → Nat → Int64}
theorem c_isThere (hx : pu_fx M) (hI : pu_ag M I) (hw : pu_WF I L) (j : Nat) (hj : j < cP I) : pu_r 67 [some (.ref 6), some (.int (nI j))] [] M = some (some (.int (pu_q (pu_kn I j))), M) := by
  have hb := wx_bP hw
  have hn := wx_cP hw
  rw [qX6_isThere]
  simp [a_ent, bX6_isThere_0, bX6_isThere_37, bX6_isThere_38, bX6_isThere_33, a_ai, a_ald, a_gi, a_gr, a_iceq, a_icge, a_icgt, a_iflt, a_ild, a_push, a_zret, ag_6 hI, ag_8 hI, fx_6_4 hx, sh_6, sh_8, pu_rv, pu_as, Value.category, pu_bk, pu_kl, List.replicate, pu_wi_1, pu_wi_2, nl_add, nl_ladd, nl_aa, nl_mul, nl_rmul, nl_mm, pu_qe0, pu_qe1, hn]
  all_goals try simp (maxSteps := 400000) (disch := omega) [nl_tle, nl_fle, nl_tlt, nl_flt, nl_teq, nl_feq, nl_sub, nl_ss, nl_lt, nl_llt, nl_ltt, nl_le, nl_lle, nl_lee, nl_eq, nl_leq, nl_ee, nl_div, nl_rem, nl_cl, nl_n1, nl_n2, nl_n3, nl_n4, nl_add, nl_ladd, nl_aa, nl_mul, nl_rmul, nl_mm, pu_wi_1, pu_wi_2, hn]
  grind [pu_q, pu_kn]
theorem c_isThere_n (hx : pu_fx M) (hI : pu_ag M I) : pu_r 67 [some (.ref 6), some (.int (-1))] [] M = some (some (.int 0), M) := by
  rw [qX6_isThere]
  simp [a_ent, bX6_isThere_0, bX6_isThere_37, bX6_isThere_38, bX6_isThere_33, a_ai, a_ald, a_gi, a_gr, a_iceq, a_icge, a_icgt, a_iflt, a_ild, a_push, a_zret, ag_6 hI, ag_8 hI, fx_6_4 hx, sh_6, sh_8, pu_rv, pu_as, Value.category, pu_bk, pu_kl, List.replicate, pu_wi_1, pu_wi_2, nl_add, nl_ladd, nl_aa, nl_mul, nl_rmul, nl_mm, pu_qe0, pu_qe1]
  all_goals try simp (maxSteps := 400000) (disch := omega) [nl_tle, nl_fle, nl_tlt, nl_flt, nl_teq, nl_feq, nl_sub, nl_ss, nl_lt, nl_llt, nl_ltt, nl_le, nl_lle, nl_lee, nl_eq, nl_leq, nl_ee, nl_div, nl_rem, nl_cl, nl_n1, nl_n2, nl_n3, nl_n4, nl_add, nl_ladd, nl_aa, nl_mul, nl_rmul, nl_mm, pu_wi_1, pu_wi_2]
theorem c_holds (hx : pu_fx M) (hI : pu_ag M I) (hw : pu_WF I L) (j : Nat) (hj : j < cP I) (c d : Int32) (hc : c = -1 ∨ ∃ l, l < cP I ∧ c = nI l) : pu_r 68 [some (.ref 6), some (.int (nI j)), some (.int c), some (.int d)] [] M = some (some (.int (pu_q (pu_hd I j c d))), M) := by
  have hb := wx_bP hw
  have hn := wx_cP hw
  have g1 := c_isThere hx hI hw j hj
  have g2 := c_isThere_n hx hI
  rcases hc with hc | ⟨l, hl, hc⟩
  · subst hc
    rw [qX6_holds]
    simp [a_ent, bX6_holds_0, bX6_holds_40, bX6_holds_41, bX6_holds_36, a_ai, a_ald, a_cv, a_gr, a_icge, a_icgt, a_ifeq, a_ild, a_push, a_zret, ag_7 hI, fx_6_3 hx, sh_6, sh_7, pu_rv, pu_as, Value.category, pu_bk, pu_kl, List.replicate, pu_wi_1, pu_wi_2, nl_add, nl_ladd, nl_aa, nl_mul, nl_rmul, nl_mm, pu_qe0, pu_qe1, g1, g2]
    all_goals try simp (maxSteps := 400000) (disch := omega) [nl_tle, nl_fle, nl_tlt, nl_flt, nl_teq, nl_feq, nl_sub, nl_ss, nl_lt, nl_llt, nl_ltt, nl_le, nl_lle, nl_lee, nl_eq, nl_leq, nl_ee, nl_div, nl_rem, nl_cl, nl_n1, nl_n2, nl_n3, nl_n4, nl_add, nl_ladd, nl_aa, nl_mul, nl_rmul, nl_mm, pu_wi_1, pu_wi_2, g1, g2]
    grind [pu_q, pu_hd]
  · subst hc
    have g3 := c_isThere hx hI hw l hl
    have e1 : ¬ nI l = -1 := fun q => by rw [nl_n1 l (by omega)] at q; exact q
    have e2 : (nI l).toNatClampNeg = l := nI_clamp (by omega)
    rw [qX6_holds]
    simp [a_ent, bX6_holds_0, bX6_holds_40, bX6_holds_41, bX6_holds_36, a_ai, a_ald, a_cv, a_gr, a_icge, a_icgt, a_ifeq, a_ild, a_push, a_zret, ag_7 hI, fx_6_3 hx, sh_6, sh_7, pu_rv, pu_as, Value.category, pu_bk, pu_kl, List.replicate, pu_wi_1, pu_wi_2, nl_add, nl_ladd, nl_aa, nl_mul, nl_rmul, nl_mm, pu_qe0, pu_qe1, g1, g3]
    all_goals try simp (maxSteps := 400000) (disch := omega) [nl_tle, nl_fle, nl_tlt, nl_flt, nl_teq, nl_feq, nl_sub, nl_ss, nl_lt, nl_llt, nl_ltt, nl_le, nl_lle, nl_lee, nl_eq, nl_leq, nl_ee, nl_div, nl_rem, nl_cl, nl_n1, nl_n2, nl_n3, nl_n4, nl_add, nl_ladd, nl_aa, nl_mul, nl_rmul, nl_mm, pu_wi_1, pu_wi_2, g1, g3]
    grind [pu_q, pu_hd]
theorem r_isKnown (hx : pu_fx M) (hr : pu_Rel I L (M.1 72)) (hw : pu_WF I L) (j : Nat) (hj : j < cP I) : pu_r 237 [some (.ref 71), some (.int (nI j))] [] M = some (some (.int (pu_q (pu_kn I j))), M) := by
  have hb := wx_bP hw
  rw [qX12_isKnown]
  simp [a_ent, bX12_isKnown_0, bX12_isKnown_32, bX12_isKnown_37, bX12_isKnown_36, a_ai, a_ald, a_gr, a_iadd, a_iceq, a_icgt, a_ild, a_imul, a_push, a_zret, fx_71_0 hx, sh_71, sh_72, pu_rv, pu_as, Value.category, pu_bk, pu_kl, List.replicate, pu_wi_1, pu_wi_2, nl_add, nl_ladd, nl_aa, nl_mul, nl_rmul, nl_mm, pu_qe0, pu_qe1, rl_h1 hr, rl_p0 hr]
  all_goals try simp (maxSteps := 400000) (disch := omega) [nl_tle, nl_fle, nl_tlt, nl_flt, nl_teq, nl_feq, nl_sub, nl_ss, nl_lt, nl_llt, nl_ltt, nl_le, nl_lle, nl_lee, nl_eq, nl_leq, nl_ee, nl_div, nl_rem, nl_cl, nl_n1, nl_n2, nl_n3, nl_n4, nl_add, nl_ladd, nl_aa, nl_mul, nl_rmul, nl_mm, pu_wi_1, pu_wi_2, rl_h1 hr, rl_p0 hr]
  grind [pu_q, pu_kn]
theorem r_from (hx : pu_fx M) (hr : pu_Rel I L (M.1 72)) (hw : pu_WF I L) (j : Nat) (hj : j < cP I) : pu_r 238 [some (.ref 71), some (.int (nI j))] [] M = some (some (.int (I 7 j)), M) := by
  have hb := wx_bP hw
  rw [qX12_from]
  simp [a_ent, bX12_from_0, a_ai, a_ald, a_gr, a_iadd, a_ild, a_imul, a_iret, a_push, fx_71_0 hx, sh_71, sh_72, pu_rv, pu_as, Value.category, pu_bk, pu_kl, List.replicate, pu_wi_1, pu_wi_2, nl_add, nl_ladd, nl_aa, nl_mul, nl_rmul, nl_mm, pu_qe0, pu_qe1, rl_p1 hr]
  all_goals try simp (maxSteps := 400000) (disch := omega) [nl_tle, nl_fle, nl_tlt, nl_flt, nl_teq, nl_feq, nl_sub, nl_ss, nl_lt, nl_llt, nl_ltt, nl_le, nl_lle, nl_lee, nl_eq, nl_leq, nl_ee, nl_div, nl_rem, nl_cl, nl_n1, nl_n2, nl_n3, nl_n4, nl_add, nl_ladd, nl_aa, nl_mul, nl_rmul, nl_mm, pu_wi_1, pu_wi_2, rl_p1 hr]
theorem r_holds (hx : pu_fx M) (hr : pu_Rel I L (M.1 72)) (hw : pu_WF I L) (j : Nat) (hj : j < cP I) (c d : Int32) (hc : c = -1 ∨ ∃ l, l < cP I ∧ c = nI l) : pu_r 239 [some (.ref 71), some (.int (nI j)), some (.int c), some (.int d)] [] M = some (some (.int (pu_q (pu_hd I j c d))), M) := by
  have hb := wx_bP hw
  have g1 := r_isKnown hx hr hw j hj
  have f1 := r_from hx hr hw j hj
  rcases hc with hc | ⟨l, hl, hc⟩
  · subst hc
    rw [qX12_holds]
    simp [a_ent, bX12_holds_0, bX12_holds_17, bX12_holds_19, bX12_holds_41, bX12_holds_46, bX12_holds_45, a_ald, a_cv, a_iceq, a_icle, a_ifeq, a_ild, a_push, a_zret, sh_71, pu_rv, pu_as, Value.category, pu_bk, pu_kl, List.replicate, pu_wi_1, pu_wi_2, nl_add, nl_ladd, nl_aa, nl_mul, nl_rmul, nl_mm, pu_qe0, pu_qe1, g1, f1]
    all_goals try simp (maxSteps := 400000) (disch := omega) [nl_tle, nl_fle, nl_tlt, nl_flt, nl_teq, nl_feq, nl_sub, nl_ss, nl_lt, nl_llt, nl_ltt, nl_le, nl_lle, nl_lee, nl_eq, nl_leq, nl_ee, nl_div, nl_rem, nl_cl, nl_n1, nl_n2, nl_n3, nl_n4, nl_add, nl_ladd, nl_aa, nl_mul, nl_rmul, nl_mm, pu_wi_1, pu_wi_2, g1, f1]
    grind [pu_q, pu_hd]
  · subst hc
    have g3 := r_isKnown hx hr hw l hl
    have f3 := r_from hx hr hw l hl
    have e1 : ¬ nI l = -1 := fun q => by rw [nl_n1 l (by omega)] at q; exact q
    have e2 : (nI l).toNatClampNeg = l := nI_clamp (by omega)
    rw [qX12_holds]
    simp [a_ent, bX12_holds_0, bX12_holds_17, bX12_holds_19, bX12_holds_41, bX12_holds_46, bX12_holds_45, a_ald, a_cv, a_iceq, a_icle, a_ifeq, a_ild, a_push, a_zret, sh_71, pu_rv, pu_as, Value.category, pu_bk, pu_kl, List.replicate, pu_wi_1, pu_wi_2, nl_add, nl_ladd, nl_aa, nl_mul, nl_rmul, nl_mm, pu_qe0, pu_qe1, g1, f1, e1, g3, f3]
    all_goals try simp (maxSteps := 400000) (disch := omega) [nl_tle, nl_fle, nl_tlt, nl_flt, nl_teq, nl_feq, nl_sub, nl_ss, nl_lt, nl_llt, nl_ltt, nl_le, nl_lle, nl_lee, nl_eq, nl_leq, nl_ee, nl_div, nl_rem, nl_cl, nl_n1, nl_n2, nl_n3, nl_n4, nl_add, nl_ladd, nl_aa, nl_mul, nl_rmul, nl_mm, pu_wi_1, pu_wi_2, g1, f1, e1, g3, f3]
    grind [pu_q, pu_hd]
end
