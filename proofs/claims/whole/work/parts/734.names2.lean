/-! names on a day -/
section
variable {M : pu_M} {I : Nat → Nat → Int32} {L : Nat → Nat → Int64}
/-- span k of a name holds on day y -/
def py_nh (I : Nat → Nat → Int32) (y : Int32) (k : Nat) : Prop := pu_hd I (I 22 k).toNatClampNeg (I 23 k) y
theorem c_nholds (hx : pu_fx M) (hI : pu_ag M I) (hw : pu_WF I L) (y : Int32) (k : Nat) (hk : k < cN I) : pu_r 68 [some (.ref 6), some (.int (I 22 k)), some (.int (I 23 k)), some (.int y)] [] M = some (some (.int (pu_q (py_nh I y k))), M) := by
  obtain ⟨o1, o2⟩ := pu_on (x := I 22 k) (n := cP I) ⟨(wx_no hw k hk).1, (wx_no hw k hk).2.1⟩
  have c1 := pu_cw ⟨(wx_nc hw k hk).1, (wx_nc hw k hk).2.1⟩
  have g := c_holds hx hI hw _ o2 (I 23 k) y c1
  rw [← o1] at g
  exact g
theorem r_nholds (hx : pu_fx M) (hr : pu_Rel I L (M.1 72)) (hw : pu_WF I L) (y : Int32) (k : Nat) (hk : k < cN I) : pu_r 239 [some (.ref 71), some (.int (I 22 k)), some (.int (I 23 k)), some (.int y)] [] M = some (some (.int (pu_q (py_nh I y k))), M) := by
  obtain ⟨o1, o2⟩ := pu_on (x := I 22 k) (n := cP I) ⟨(wx_no hw k hk).1, (wx_no hw k hk).2.1⟩
  have c1 := pu_cw ⟨(wx_nc hw k hk).1, (wx_nc hw k hk).2.1⟩
  have g := r_holds hx hr hw _ o2 (I 23 k) y c1
  rw [← o1] at g
  exact g
/-- what a later paper's being known tells of an earlier one -/
theorem py_kn_m (hw : pu_WF I L) {p r : Nat} (h : p ≤ r) (hr : r < cP I) (k : pu_kn I r) : pu_kn I p := by
  rcases k with z | z
  · exact Or.inl z
  · refine Or.inr ?_
    have := wx_pm hw p r h hr
    rw [Int32.le_iff_toInt_le] at z ⊢
    omega
/-- closed by no later than another opens: not both hold on a day -/
theorem py_apart (hw : pu_WF I L) {c o c2 : Int32} {o1 : Nat} {y : Int32} (hc : c ≠ -1) (h0 : 0 ≤ c.toInt) (ho : 0 ≤ o.toInt) (ho2 : o.toInt < cP I) (h1 : c.toInt ≤ o.toInt) (h2 : (I 7 c.toNatClampNeg).toInt ≤ (I 7 o.toNatClampNeg).toInt) (a : pu_hd I o1 c y) (b : pu_hd I o.toNatClampNeg c2 y) : False := by
  have e1 := pu_nnT h0
  have e2 := pu_nnT ho
  refine a.2 ⟨hc, py_kn_m hw (r := o.toNatClampNeg) (by omega) (by omega) b.1.1, ?_⟩
  have := b.1.2
  rw [Int32.le_iff_toInt_le] at this ⊢
  omega
theorem py_nu (hw : pu_WF I L) {y : Int32} {k l : Nat} (hk : k < cN I) (hl : l < cN I) (a : py_nh I y k) (b : py_nh I y l) (e : I 20 k = I 20 l) : k = l := by
  have W : ∀ k l, k < l → l < cN I → py_nh I y k → py_nh I y l → I 20 k = I 20 l → False := fun k l h hl a b e => by
    obtain ⟨n1, n2, n3⟩ := wx_n6 hw k l h hl e
    exact py_apart hw n1 (pu_ne1 (wx_nc hw k (by omega)).1 n1) (wx_no hw l hl).1 (wx_no hw l hl).2.1 n2 n3 a b
  rcases Nat.lt_trichotomy k l with h | h | h
  · exact (W k l h hl a b e).elim
  · exact h
  · exact (W l k h hk b a e.symm).elim
theorem c_nholding_l (hx : pu_fx M) (hI : pu_ag M I) (hw : pu_WF I L) (a y : Int32) : ∀ m i x, x = nI i → i + m = cN I → pu_r 394 [some (.ref 19), some (.int a), some (.int y), some (.ref 6), some (.int x)] [] M = some (some (.int (pu_f1 (fun k => I 20 k = a ∧ py_nh I y k) m i)), M)
  | 0, i, x, hi, h => by
    subst hi
    have hb := wx_bN hw
    have hn := wx_cN hw
    have hc : nI (cN I) ≤ nI i := nI_le (by omega) (by omega)
    rw [qX3_holding_3]
    simp [bX3_holding_3, bX3_holding_54, bX3_holding_48, a_ai, a_ald, a_cv, a_gi, a_gr, a_icge, a_icne, a_ifeq, a_ild, a_inc, a_iret, a_push, ag_19 hI, ag_20 hI, ag_22 hI, ag_23 hI, fx_19_1 hx, fx_19_3 hx, fx_19_4 hx, sh_19, sh_20, sh_22, sh_23, sh_6, pu_rv, pu_as, Value.category, pu_bk, pu_kl, List.replicate, pu_wi_1, pu_wi_2, nl_add, nl_ladd, nl_aa, nl_mul, nl_rmul, nl_mm, pu_qe0, pu_qe1, hn, hc, pu_f1]
    all_goals try simp (maxSteps := 400000) (disch := omega) [nl_tle, nl_fle, nl_tlt, nl_flt, nl_teq, nl_feq, nl_sub, nl_ss, nl_lt, nl_llt, nl_ltt, nl_le, nl_lle, nl_lee, nl_eq, nl_leq, nl_ee, nl_div, nl_rem, nl_cl, nl_n1, nl_n2, nl_n3, nl_n4, nl_add, nl_ladd, nl_aa, nl_mul, nl_rmul, nl_mm, pu_wi_1, pu_wi_2, bX3_holding_3, bX3_holding_54, bX3_holding_48, a_ai, a_ald, a_cv, a_gi, a_gr, a_icge, a_icne, a_ifeq, a_ild, a_inc, a_iret, a_push, ag_19 hI, ag_20 hI, ag_22 hI, ag_23 hI, fx_19_1 hx, fx_19_3 hx, fx_19_4 hx, sh_19, sh_20, sh_22, sh_23, sh_6, pu_rv, pu_as, Value.category, pu_bk, pu_kl, pu_qe0, pu_qe1, hn, hc, pu_f1]
    all_goals try simp [bX3_holding_3, bX3_holding_54, bX3_holding_48, a_ai, a_ald, a_cv, a_gi, a_gr, a_icge, a_icne, a_ifeq, a_ild, a_inc, a_iret, a_push, ag_19 hI, ag_20 hI, ag_22 hI, ag_23 hI, fx_19_1 hx, fx_19_3 hx, fx_19_4 hx, sh_19, sh_20, sh_22, sh_23, sh_6, pu_rv, pu_as, Value.category, pu_bk, pu_kl, List.replicate, pu_wi_1, pu_wi_2, nl_add, nl_ladd, nl_aa, nl_mul, nl_rmul, nl_mm, pu_qe0, pu_qe1, hn, hc, pu_f1]
    all_goals try simp (maxSteps := 400000) (disch := omega) [nl_tle, nl_fle, nl_tlt, nl_flt, nl_teq, nl_feq, nl_sub, nl_ss, nl_lt, nl_llt, nl_ltt, nl_le, nl_lle, nl_lee, nl_eq, nl_leq, nl_ee, nl_div, nl_rem, nl_cl, nl_n1, nl_n2, nl_n3, nl_n4, nl_add, nl_ladd, nl_aa, nl_mul, nl_rmul, nl_mm, pu_wi_1, pu_wi_2, bX3_holding_3, bX3_holding_54, bX3_holding_48, a_ai, a_ald, a_cv, a_gi, a_gr, a_icge, a_icne, a_ifeq, a_ild, a_inc, a_iret, a_push, ag_19 hI, ag_20 hI, ag_22 hI, ag_23 hI, fx_19_1 hx, fx_19_3 hx, fx_19_4 hx, sh_19, sh_20, sh_22, sh_23, sh_6, pu_rv, pu_as, Value.category, pu_bk, pu_kl, pu_qe0, pu_qe1, hn, hc, pu_f1]
    all_goals try simp [bX3_holding_3, bX3_holding_54, bX3_holding_48, a_ai, a_ald, a_cv, a_gi, a_gr, a_icge, a_icne, a_ifeq, a_ild, a_inc, a_iret, a_push, ag_19 hI, ag_20 hI, ag_22 hI, ag_23 hI, fx_19_1 hx, fx_19_3 hx, fx_19_4 hx, sh_19, sh_20, sh_22, sh_23, sh_6, pu_rv, pu_as, Value.category, pu_bk, pu_kl, List.replicate, pu_wi_1, pu_wi_2, nl_add, nl_ladd, nl_aa, nl_mul, nl_rmul, nl_mm, pu_qe0, pu_qe1, hn, hc, pu_f1]
    all_goals try simp (maxSteps := 400000) (disch := omega) [nl_tle, nl_fle, nl_tlt, nl_flt, nl_teq, nl_feq, nl_sub, nl_ss, nl_lt, nl_llt, nl_ltt, nl_le, nl_lle, nl_lee, nl_eq, nl_leq, nl_ee, nl_div, nl_rem, nl_cl, nl_n1, nl_n2, nl_n3, nl_n4, nl_add, nl_ladd, nl_aa, nl_mul, nl_rmul, nl_mm, pu_wi_1, pu_wi_2, bX3_holding_3, bX3_holding_54, bX3_holding_48, a_ai, a_ald, a_cv, a_gi, a_gr, a_icge, a_icne, a_ifeq, a_ild, a_inc, a_iret, a_push, ag_19 hI, ag_20 hI, ag_22 hI, ag_23 hI, fx_19_1 hx, fx_19_3 hx, fx_19_4 hx, sh_19, sh_20, sh_22, sh_23, sh_6, pu_rv, pu_as, Value.category, pu_bk, pu_kl, pu_qe0, pu_qe1, hn, hc, pu_f1]
    all_goals try simp [bX3_holding_3, bX3_holding_54, bX3_holding_48, a_ai, a_ald, a_cv, a_gi, a_gr, a_icge, a_icne, a_ifeq, a_ild, a_inc, a_iret, a_push, ag_19 hI, ag_20 hI, ag_22 hI, ag_23 hI, fx_19_1 hx, fx_19_3 hx, fx_19_4 hx, sh_19, sh_20, sh_22, sh_23, sh_6, pu_rv, pu_as, Value.category, pu_bk, pu_kl, List.replicate, pu_wi_1, pu_wi_2, nl_add, nl_ladd, nl_aa, nl_mul, nl_rmul, nl_mm, pu_qe0, pu_qe1, hn, hc, pu_f1]
  | m + 1, i, x, hi, h => by
    subst hi
    have hb := wx_bN hw
    have hn := wx_cN hw
    have hc : ¬ nI (cN I) ≤ nI i := nI_ge (by omega) (by omega)
    have ih := c_nholding_l hx hI hw a y m (i + 1) _ rfl (by omega)
    have g := c_nholds hx hI hw y i (by omega)
    by_cases c1 : I 20 i = a ∧ py_nh I y i
    · rw [pu_f1_t c1]
      rw [pu_q1 c1.2] at g
      rw [qX3_holding_3]
      simp [bX3_holding_3, bX3_holding_54, bX3_holding_48, a_ai, a_ald, a_cv, a_gi, a_gr, a_icge, a_icne, a_ifeq, a_ild, a_inc, a_iret, a_push, ag_19 hI, ag_20 hI, ag_22 hI, ag_23 hI, fx_19_1 hx, fx_19_3 hx, fx_19_4 hx, sh_19, sh_20, sh_22, sh_23, sh_6, pu_rv, pu_as, Value.category, pu_bk, pu_kl, List.replicate, pu_wi_1, pu_wi_2, nl_add, nl_ladd, nl_aa, nl_mul, nl_rmul, nl_mm, pu_qe0, pu_qe1, hn, hc, g, c1.1, sh_6]
      all_goals try simp (maxSteps := 400000) (disch := omega) [nl_tle, nl_fle, nl_tlt, nl_flt, nl_teq, nl_feq, nl_sub, nl_ss, nl_lt, nl_llt, nl_ltt, nl_le, nl_lle, nl_lee, nl_eq, nl_leq, nl_ee, nl_div, nl_rem, nl_cl, nl_n1, nl_n2, nl_n3, nl_n4, nl_add, nl_ladd, nl_aa, nl_mul, nl_rmul, nl_mm, pu_wi_1, pu_wi_2, bX3_holding_3, bX3_holding_54, bX3_holding_48, a_ai, a_ald, a_cv, a_gi, a_gr, a_icge, a_icne, a_ifeq, a_ild, a_inc, a_iret, a_push, ag_19 hI, ag_20 hI, ag_22 hI, ag_23 hI, fx_19_1 hx, fx_19_3 hx, fx_19_4 hx, sh_19, sh_20, sh_22, sh_23, sh_6, pu_rv, pu_as, Value.category, pu_bk, pu_kl, pu_qe0, pu_qe1, hn, hc, g, c1.1, sh_6]
      all_goals try simp [bX3_holding_3, bX3_holding_54, bX3_holding_48, a_ai, a_ald, a_cv, a_gi, a_gr, a_icge, a_icne, a_ifeq, a_ild, a_inc, a_iret, a_push, ag_19 hI, ag_20 hI, ag_22 hI, ag_23 hI, fx_19_1 hx, fx_19_3 hx, fx_19_4 hx, sh_19, sh_20, sh_22, sh_23, sh_6, pu_rv, pu_as, Value.category, pu_bk, pu_kl, List.replicate, pu_wi_1, pu_wi_2, nl_add, nl_ladd, nl_aa, nl_mul, nl_rmul, nl_mm, pu_qe0, pu_qe1, hn, hc, g, c1.1, sh_6]
      all_goals try simp (maxSteps := 400000) (disch := omega) [nl_tle, nl_fle, nl_tlt, nl_flt, nl_teq, nl_feq, nl_sub, nl_ss, nl_lt, nl_llt, nl_ltt, nl_le, nl_lle, nl_lee, nl_eq, nl_leq, nl_ee, nl_div, nl_rem, nl_cl, nl_n1, nl_n2, nl_n3, nl_n4, nl_add, nl_ladd, nl_aa, nl_mul, nl_rmul, nl_mm, pu_wi_1, pu_wi_2, bX3_holding_3, bX3_holding_54, bX3_holding_48, a_ai, a_ald, a_cv, a_gi, a_gr, a_icge, a_icne, a_ifeq, a_ild, a_inc, a_iret, a_push, ag_19 hI, ag_20 hI, ag_22 hI, ag_23 hI, fx_19_1 hx, fx_19_3 hx, fx_19_4 hx, sh_19, sh_20, sh_22, sh_23, sh_6, pu_rv, pu_as, Value.category, pu_bk, pu_kl, pu_qe0, pu_qe1, hn, hc, g, c1.1, sh_6]
      all_goals try simp [bX3_holding_3, bX3_holding_54, bX3_holding_48, a_ai, a_ald, a_cv, a_gi, a_gr, a_icge, a_icne, a_ifeq, a_ild, a_inc, a_iret, a_push, ag_19 hI, ag_20 hI, ag_22 hI, ag_23 hI, fx_19_1 hx, fx_19_3 hx, fx_19_4 hx, sh_19, sh_20, sh_22, sh_23, sh_6, pu_rv, pu_as, Value.category, pu_bk, pu_kl, List.replicate, pu_wi_1, pu_wi_2, nl_add, nl_ladd, nl_aa, nl_mul, nl_rmul, nl_mm, pu_qe0, pu_qe1, hn, hc, g, c1.1, sh_6]
      all_goals try simp (maxSteps := 400000) (disch := omega) [nl_tle, nl_fle, nl_tlt, nl_flt, nl_teq, nl_feq, nl_sub, nl_ss, nl_lt, nl_llt, nl_ltt, nl_le, nl_lle, nl_lee, nl_eq, nl_leq, nl_ee, nl_div, nl_rem, nl_cl, nl_n1, nl_n2, nl_n3, nl_n4, nl_add, nl_ladd, nl_aa, nl_mul, nl_rmul, nl_mm, pu_wi_1, pu_wi_2, bX3_holding_3, bX3_holding_54, bX3_holding_48, a_ai, a_ald, a_cv, a_gi, a_gr, a_icge, a_icne, a_ifeq, a_ild, a_inc, a_iret, a_push, ag_19 hI, ag_20 hI, ag_22 hI, ag_23 hI, fx_19_1 hx, fx_19_3 hx, fx_19_4 hx, sh_19, sh_20, sh_22, sh_23, sh_6, pu_rv, pu_as, Value.category, pu_bk, pu_kl, pu_qe0, pu_qe1, hn, hc, g, c1.1, sh_6]
      all_goals try simp [bX3_holding_3, bX3_holding_54, bX3_holding_48, a_ai, a_ald, a_cv, a_gi, a_gr, a_icge, a_icne, a_ifeq, a_ild, a_inc, a_iret, a_push, ag_19 hI, ag_20 hI, ag_22 hI, ag_23 hI, fx_19_1 hx, fx_19_3 hx, fx_19_4 hx, sh_19, sh_20, sh_22, sh_23, sh_6, pu_rv, pu_as, Value.category, pu_bk, pu_kl, List.replicate, pu_wi_1, pu_wi_2, nl_add, nl_ladd, nl_aa, nl_mul, nl_rmul, nl_mm, pu_qe0, pu_qe1, hn, hc, g, c1.1, sh_6]
    · rw [pu_f1_f c1]
      by_cases c2 : I 20 i = a
      · rw [pu_q0 (fun q => c1 ⟨c2, q⟩)] at g
        rw [qX3_holding_3]
        simp [bX3_holding_3, bX3_holding_54, bX3_holding_48, a_ai, a_ald, a_cv, a_gi, a_gr, a_icge, a_icne, a_ifeq, a_ild, a_inc, a_iret, a_push, ag_19 hI, ag_20 hI, ag_22 hI, ag_23 hI, fx_19_1 hx, fx_19_3 hx, fx_19_4 hx, sh_19, sh_20, sh_22, sh_23, sh_6, pu_rv, pu_as, Value.category, pu_bk, pu_kl, List.replicate, pu_wi_1, pu_wi_2, nl_add, nl_ladd, nl_aa, nl_mul, nl_rmul, nl_mm, pu_qe0, pu_qe1, hn, hc, g, c2, ih, sh_6]
        all_goals try simp (maxSteps := 400000) (disch := omega) [nl_tle, nl_fle, nl_tlt, nl_flt, nl_teq, nl_feq, nl_sub, nl_ss, nl_lt, nl_llt, nl_ltt, nl_le, nl_lle, nl_lee, nl_eq, nl_leq, nl_ee, nl_div, nl_rem, nl_cl, nl_n1, nl_n2, nl_n3, nl_n4, nl_add, nl_ladd, nl_aa, nl_mul, nl_rmul, nl_mm, pu_wi_1, pu_wi_2, bX3_holding_3, bX3_holding_54, bX3_holding_48, a_ai, a_ald, a_cv, a_gi, a_gr, a_icge, a_icne, a_ifeq, a_ild, a_inc, a_iret, a_push, ag_19 hI, ag_20 hI, ag_22 hI, ag_23 hI, fx_19_1 hx, fx_19_3 hx, fx_19_4 hx, sh_19, sh_20, sh_22, sh_23, sh_6, pu_rv, pu_as, Value.category, pu_bk, pu_kl, pu_qe0, pu_qe1, hn, hc, g, c2, ih, sh_6]
        all_goals try simp [bX3_holding_3, bX3_holding_54, bX3_holding_48, a_ai, a_ald, a_cv, a_gi, a_gr, a_icge, a_icne, a_ifeq, a_ild, a_inc, a_iret, a_push, ag_19 hI, ag_20 hI, ag_22 hI, ag_23 hI, fx_19_1 hx, fx_19_3 hx, fx_19_4 hx, sh_19, sh_20, sh_22, sh_23, sh_6, pu_rv, pu_as, Value.category, pu_bk, pu_kl, List.replicate, pu_wi_1, pu_wi_2, nl_add, nl_ladd, nl_aa, nl_mul, nl_rmul, nl_mm, pu_qe0, pu_qe1, hn, hc, g, c2, ih, sh_6]
        all_goals try simp (maxSteps := 400000) (disch := omega) [nl_tle, nl_fle, nl_tlt, nl_flt, nl_teq, nl_feq, nl_sub, nl_ss, nl_lt, nl_llt, nl_ltt, nl_le, nl_lle, nl_lee, nl_eq, nl_leq, nl_ee, nl_div, nl_rem, nl_cl, nl_n1, nl_n2, nl_n3, nl_n4, nl_add, nl_ladd, nl_aa, nl_mul, nl_rmul, nl_mm, pu_wi_1, pu_wi_2, bX3_holding_3, bX3_holding_54, bX3_holding_48, a_ai, a_ald, a_cv, a_gi, a_gr, a_icge, a_icne, a_ifeq, a_ild, a_inc, a_iret, a_push, ag_19 hI, ag_20 hI, ag_22 hI, ag_23 hI, fx_19_1 hx, fx_19_3 hx, fx_19_4 hx, sh_19, sh_20, sh_22, sh_23, sh_6, pu_rv, pu_as, Value.category, pu_bk, pu_kl, pu_qe0, pu_qe1, hn, hc, g, c2, ih, sh_6]
        all_goals try simp [bX3_holding_3, bX3_holding_54, bX3_holding_48, a_ai, a_ald, a_cv, a_gi, a_gr, a_icge, a_icne, a_ifeq, a_ild, a_inc, a_iret, a_push, ag_19 hI, ag_20 hI, ag_22 hI, ag_23 hI, fx_19_1 hx, fx_19_3 hx, fx_19_4 hx, sh_19, sh_20, sh_22, sh_23, sh_6, pu_rv, pu_as, Value.category, pu_bk, pu_kl, List.replicate, pu_wi_1, pu_wi_2, nl_add, nl_ladd, nl_aa, nl_mul, nl_rmul, nl_mm, pu_qe0, pu_qe1, hn, hc, g, c2, ih, sh_6]
        all_goals try simp (maxSteps := 400000) (disch := omega) [nl_tle, nl_fle, nl_tlt, nl_flt, nl_teq, nl_feq, nl_sub, nl_ss, nl_lt, nl_llt, nl_ltt, nl_le, nl_lle, nl_lee, nl_eq, nl_leq, nl_ee, nl_div, nl_rem, nl_cl, nl_n1, nl_n2, nl_n3, nl_n4, nl_add, nl_ladd, nl_aa, nl_mul, nl_rmul, nl_mm, pu_wi_1, pu_wi_2, bX3_holding_3, bX3_holding_54, bX3_holding_48, a_ai, a_ald, a_cv, a_gi, a_gr, a_icge, a_icne, a_ifeq, a_ild, a_inc, a_iret, a_push, ag_19 hI, ag_20 hI, ag_22 hI, ag_23 hI, fx_19_1 hx, fx_19_3 hx, fx_19_4 hx, sh_19, sh_20, sh_22, sh_23, sh_6, pu_rv, pu_as, Value.category, pu_bk, pu_kl, pu_qe0, pu_qe1, hn, hc, g, c2, ih, sh_6]
        all_goals try simp [bX3_holding_3, bX3_holding_54, bX3_holding_48, a_ai, a_ald, a_cv, a_gi, a_gr, a_icge, a_icne, a_ifeq, a_ild, a_inc, a_iret, a_push, ag_19 hI, ag_20 hI, ag_22 hI, ag_23 hI, fx_19_1 hx, fx_19_3 hx, fx_19_4 hx, sh_19, sh_20, sh_22, sh_23, sh_6, pu_rv, pu_as, Value.category, pu_bk, pu_kl, List.replicate, pu_wi_1, pu_wi_2, nl_add, nl_ladd, nl_aa, nl_mul, nl_rmul, nl_mm, pu_qe0, pu_qe1, hn, hc, g, c2, ih, sh_6]
      · rw [qX3_holding_3]
        simp [bX3_holding_3, bX3_holding_54, bX3_holding_48, a_ai, a_ald, a_cv, a_gi, a_gr, a_icge, a_icne, a_ifeq, a_ild, a_inc, a_iret, a_push, ag_19 hI, ag_20 hI, ag_22 hI, ag_23 hI, fx_19_1 hx, fx_19_3 hx, fx_19_4 hx, sh_19, sh_20, sh_22, sh_23, sh_6, pu_rv, pu_as, Value.category, pu_bk, pu_kl, List.replicate, pu_wi_1, pu_wi_2, nl_add, nl_ladd, nl_aa, nl_mul, nl_rmul, nl_mm, pu_qe0, pu_qe1, hn, hc, c2, ih]
        all_goals try simp (maxSteps := 400000) (disch := omega) [nl_tle, nl_fle, nl_tlt, nl_flt, nl_teq, nl_feq, nl_sub, nl_ss, nl_lt, nl_llt, nl_ltt, nl_le, nl_lle, nl_lee, nl_eq, nl_leq, nl_ee, nl_div, nl_rem, nl_cl, nl_n1, nl_n2, nl_n3, nl_n4, nl_add, nl_ladd, nl_aa, nl_mul, nl_rmul, nl_mm, pu_wi_1, pu_wi_2, bX3_holding_3, bX3_holding_54, bX3_holding_48, a_ai, a_ald, a_cv, a_gi, a_gr, a_icge, a_icne, a_ifeq, a_ild, a_inc, a_iret, a_push, ag_19 hI, ag_20 hI, ag_22 hI, ag_23 hI, fx_19_1 hx, fx_19_3 hx, fx_19_4 hx, sh_19, sh_20, sh_22, sh_23, sh_6, pu_rv, pu_as, Value.category, pu_bk, pu_kl, pu_qe0, pu_qe1, hn, hc, c2, ih]
        all_goals try simp [bX3_holding_3, bX3_holding_54, bX3_holding_48, a_ai, a_ald, a_cv, a_gi, a_gr, a_icge, a_icne, a_ifeq, a_ild, a_inc, a_iret, a_push, ag_19 hI, ag_20 hI, ag_22 hI, ag_23 hI, fx_19_1 hx, fx_19_3 hx, fx_19_4 hx, sh_19, sh_20, sh_22, sh_23, sh_6, pu_rv, pu_as, Value.category, pu_bk, pu_kl, List.replicate, pu_wi_1, pu_wi_2, nl_add, nl_ladd, nl_aa, nl_mul, nl_rmul, nl_mm, pu_qe0, pu_qe1, hn, hc, c2, ih]
        all_goals try simp (maxSteps := 400000) (disch := omega) [nl_tle, nl_fle, nl_tlt, nl_flt, nl_teq, nl_feq, nl_sub, nl_ss, nl_lt, nl_llt, nl_ltt, nl_le, nl_lle, nl_lee, nl_eq, nl_leq, nl_ee, nl_div, nl_rem, nl_cl, nl_n1, nl_n2, nl_n3, nl_n4, nl_add, nl_ladd, nl_aa, nl_mul, nl_rmul, nl_mm, pu_wi_1, pu_wi_2, bX3_holding_3, bX3_holding_54, bX3_holding_48, a_ai, a_ald, a_cv, a_gi, a_gr, a_icge, a_icne, a_ifeq, a_ild, a_inc, a_iret, a_push, ag_19 hI, ag_20 hI, ag_22 hI, ag_23 hI, fx_19_1 hx, fx_19_3 hx, fx_19_4 hx, sh_19, sh_20, sh_22, sh_23, sh_6, pu_rv, pu_as, Value.category, pu_bk, pu_kl, pu_qe0, pu_qe1, hn, hc, c2, ih]
        all_goals try simp [bX3_holding_3, bX3_holding_54, bX3_holding_48, a_ai, a_ald, a_cv, a_gi, a_gr, a_icge, a_icne, a_ifeq, a_ild, a_inc, a_iret, a_push, ag_19 hI, ag_20 hI, ag_22 hI, ag_23 hI, fx_19_1 hx, fx_19_3 hx, fx_19_4 hx, sh_19, sh_20, sh_22, sh_23, sh_6, pu_rv, pu_as, Value.category, pu_bk, pu_kl, List.replicate, pu_wi_1, pu_wi_2, nl_add, nl_ladd, nl_aa, nl_mul, nl_rmul, nl_mm, pu_qe0, pu_qe1, hn, hc, c2, ih]
        all_goals try simp (maxSteps := 400000) (disch := omega) [nl_tle, nl_fle, nl_tlt, nl_flt, nl_teq, nl_feq, nl_sub, nl_ss, nl_lt, nl_llt, nl_ltt, nl_le, nl_lle, nl_lee, nl_eq, nl_leq, nl_ee, nl_div, nl_rem, nl_cl, nl_n1, nl_n2, nl_n3, nl_n4, nl_add, nl_ladd, nl_aa, nl_mul, nl_rmul, nl_mm, pu_wi_1, pu_wi_2, bX3_holding_3, bX3_holding_54, bX3_holding_48, a_ai, a_ald, a_cv, a_gi, a_gr, a_icge, a_icne, a_ifeq, a_ild, a_inc, a_iret, a_push, ag_19 hI, ag_20 hI, ag_22 hI, ag_23 hI, fx_19_1 hx, fx_19_3 hx, fx_19_4 hx, sh_19, sh_20, sh_22, sh_23, sh_6, pu_rv, pu_as, Value.category, pu_bk, pu_kl, pu_qe0, pu_qe1, hn, hc, c2, ih]
        all_goals try simp [bX3_holding_3, bX3_holding_54, bX3_holding_48, a_ai, a_ald, a_cv, a_gi, a_gr, a_icge, a_icne, a_ifeq, a_ild, a_inc, a_iret, a_push, ag_19 hI, ag_20 hI, ag_22 hI, ag_23 hI, fx_19_1 hx, fx_19_3 hx, fx_19_4 hx, sh_19, sh_20, sh_22, sh_23, sh_6, pu_rv, pu_as, Value.category, pu_bk, pu_kl, List.replicate, pu_wi_1, pu_wi_2, nl_add, nl_ladd, nl_aa, nl_mul, nl_rmul, nl_mm, pu_qe0, pu_qe1, hn, hc, c2, ih]
theorem c_nholding (hx : pu_fx M) (hI : pu_ag M I) (hw : pu_WF I L) (a y : Int32) : pu_r 150 [some (.ref 19), some (.int a), some (.int y), some (.ref 6)] [] M = some (some (.int (pu_f1 (fun k => I 20 k = a ∧ py_nh I y k) (cN I) 0)), M) := by
  have e := c_nholding_l hx hI hw a y (cN I) 0 0 rfl (by omega)
  rw [qX3_holding]
  simp [a_ent, bX3_holding_0, a_ist, a_push, pu_rv, pu_as, Value.category, pu_bk, pu_kl, List.replicate, pu_wi_1, pu_wi_2, nl_add, nl_ladd, nl_aa, nl_mul, nl_rmul, nl_mm, pu_qe0, pu_qe1, e]
  all_goals try simp (maxSteps := 400000) (disch := omega) [nl_tle, nl_fle, nl_tlt, nl_flt, nl_teq, nl_feq, nl_sub, nl_ss, nl_lt, nl_llt, nl_ltt, nl_le, nl_lle, nl_lee, nl_eq, nl_leq, nl_ee, nl_div, nl_rem, nl_cl, nl_n1, nl_n2, nl_n3, nl_n4, nl_add, nl_ladd, nl_aa, nl_mul, nl_rmul, nl_mm, pu_wi_1, pu_wi_2, bX3_holding_0, a_ist, a_push, pu_rv, pu_as, Value.category, pu_bk, pu_kl, pu_qe0, pu_qe1, e]
  all_goals try simp [bX3_holding_0, a_ist, a_push, pu_rv, pu_as, Value.category, pu_bk, pu_kl, List.replicate, pu_wi_1, pu_wi_2, nl_add, nl_ladd, nl_aa, nl_mul, nl_rmul, nl_mm, pu_qe0, pu_qe1, e]
  all_goals try simp (maxSteps := 400000) (disch := omega) [nl_tle, nl_fle, nl_tlt, nl_flt, nl_teq, nl_feq, nl_sub, nl_ss, nl_lt, nl_llt, nl_ltt, nl_le, nl_lle, nl_lee, nl_eq, nl_leq, nl_ee, nl_div, nl_rem, nl_cl, nl_n1, nl_n2, nl_n3, nl_n4, nl_add, nl_ladd, nl_aa, nl_mul, nl_rmul, nl_mm, pu_wi_1, pu_wi_2, bX3_holding_0, a_ist, a_push, pu_rv, pu_as, Value.category, pu_bk, pu_kl, pu_qe0, pu_qe1, e]
  all_goals try simp [bX3_holding_0, a_ist, a_push, pu_rv, pu_as, Value.category, pu_bk, pu_kl, List.replicate, pu_wi_1, pu_wi_2, nl_add, nl_ladd, nl_aa, nl_mul, nl_rmul, nl_mm, pu_qe0, pu_qe1, e]
  all_goals try simp (maxSteps := 400000) (disch := omega) [nl_tle, nl_fle, nl_tlt, nl_flt, nl_teq, nl_feq, nl_sub, nl_ss, nl_lt, nl_llt, nl_ltt, nl_le, nl_lle, nl_lee, nl_eq, nl_leq, nl_ee, nl_div, nl_rem, nl_cl, nl_n1, nl_n2, nl_n3, nl_n4, nl_add, nl_ladd, nl_aa, nl_mul, nl_rmul, nl_mm, pu_wi_1, pu_wi_2, bX3_holding_0, a_ist, a_push, pu_rv, pu_as, Value.category, pu_bk, pu_kl, pu_qe0, pu_qe1, e]
  all_goals try simp [bX3_holding_0, a_ist, a_push, pu_rv, pu_as, Value.category, pu_bk, pu_kl, List.replicate, pu_wi_1, pu_wi_2, nl_add, nl_ladd, nl_aa, nl_mul, nl_rmul, nl_mm, pu_qe0, pu_qe1, e]
/-- the reference's last span that holds: none, or the one -/
theorem r_wn_no (hx : pu_fx M) (hr : pu_Rel I L (M.1 72)) (hw : pu_WF I L) (t1 t2 t4 nm : Int32) (st y : Int32) (hno : ∀ k, k < cN I → ¬ (I 20 k = st ∧ py_nh I y k)) : ∀ m i (t8 : Option Value), i + m = cN I → ∃ u8, pu_r 511 [some (.ref 71), some (.int t1), some (.int t2), some (.int y), some (.int t4), some (.int st), some (.int nm), some (.int (nI i)), t8] [] M = kX12_write_139 pu_r [some (.ref 71), some (.int t1), some (.int t2), some (.int y), some (.int t4), some (.int st), some (.int nm), some (.int (nI (cN I))), u8] [] M
  | 0, i, t8, h => by
    have bN := wx_bN hw
    have ff := fx_71_0 hx
    have h7 := rl_h7 hr
    have e : i = cN I := by omega
    subst e
    have hc : nI (cN I) ≤ nI (cN I) := nI_le (by omega) (by omega)
    refine ⟨t8, ?_⟩
    rw [qX12_write_69]
    simp [bX12_write_69, bX12_write_133, bX12_write_112, a_ai, a_ald, a_cv, a_gr, a_iadd, a_icge, a_icne, a_ifeq, a_ild, a_imul, a_inc, a_ist, a_push, sh_71, sh_72, pu_rv, pu_as, Value.category, pu_bk, pu_kl, List.replicate, pu_wi_1, pu_wi_2, nl_add, nl_ladd, nl_aa, nl_mul, nl_rmul, nl_mm, pu_qe0, pu_qe1, ff, h7, hc]
    all_goals try simp (maxSteps := 400000) (disch := omega) [nl_tle, nl_fle, nl_tlt, nl_flt, nl_teq, nl_feq, nl_sub, nl_ss, nl_lt, nl_llt, nl_ltt, nl_le, nl_lle, nl_lee, nl_eq, nl_leq, nl_ee, nl_div, nl_rem, nl_cl, nl_n1, nl_n2, nl_n3, nl_n4, nl_add, nl_ladd, nl_aa, nl_mul, nl_rmul, nl_mm, pu_wi_1, pu_wi_2, bX12_write_69, bX12_write_133, bX12_write_112, a_ai, a_ald, a_cv, a_gr, a_iadd, a_icge, a_icne, a_ifeq, a_ild, a_imul, a_inc, a_ist, a_push, sh_71, sh_72, pu_rv, pu_as, Value.category, pu_bk, pu_kl, pu_qe0, pu_qe1, ff, h7, hc]
    all_goals try simp [bX12_write_69, bX12_write_133, bX12_write_112, a_ai, a_ald, a_cv, a_gr, a_iadd, a_icge, a_icne, a_ifeq, a_ild, a_imul, a_inc, a_ist, a_push, sh_71, sh_72, pu_rv, pu_as, Value.category, pu_bk, pu_kl, List.replicate, pu_wi_1, pu_wi_2, nl_add, nl_ladd, nl_aa, nl_mul, nl_rmul, nl_mm, pu_qe0, pu_qe1, ff, h7, hc]
    all_goals try simp (maxSteps := 400000) (disch := omega) [nl_tle, nl_fle, nl_tlt, nl_flt, nl_teq, nl_feq, nl_sub, nl_ss, nl_lt, nl_llt, nl_ltt, nl_le, nl_lle, nl_lee, nl_eq, nl_leq, nl_ee, nl_div, nl_rem, nl_cl, nl_n1, nl_n2, nl_n3, nl_n4, nl_add, nl_ladd, nl_aa, nl_mul, nl_rmul, nl_mm, pu_wi_1, pu_wi_2, bX12_write_69, bX12_write_133, bX12_write_112, a_ai, a_ald, a_cv, a_gr, a_iadd, a_icge, a_icne, a_ifeq, a_ild, a_imul, a_inc, a_ist, a_push, sh_71, sh_72, pu_rv, pu_as, Value.category, pu_bk, pu_kl, pu_qe0, pu_qe1, ff, h7, hc]
    all_goals try simp [bX12_write_69, bX12_write_133, bX12_write_112, a_ai, a_ald, a_cv, a_gr, a_iadd, a_icge, a_icne, a_ifeq, a_ild, a_imul, a_inc, a_ist, a_push, sh_71, sh_72, pu_rv, pu_as, Value.category, pu_bk, pu_kl, List.replicate, pu_wi_1, pu_wi_2, nl_add, nl_ladd, nl_aa, nl_mul, nl_rmul, nl_mm, pu_qe0, pu_qe1, ff, h7, hc]
    all_goals try simp (maxSteps := 400000) (disch := omega) [nl_tle, nl_fle, nl_tlt, nl_flt, nl_teq, nl_feq, nl_sub, nl_ss, nl_lt, nl_llt, nl_ltt, nl_le, nl_lle, nl_lee, nl_eq, nl_leq, nl_ee, nl_div, nl_rem, nl_cl, nl_n1, nl_n2, nl_n3, nl_n4, nl_add, nl_ladd, nl_aa, nl_mul, nl_rmul, nl_mm, pu_wi_1, pu_wi_2, bX12_write_69, bX12_write_133, bX12_write_112, a_ai, a_ald, a_cv, a_gr, a_iadd, a_icge, a_icne, a_ifeq, a_ild, a_imul, a_inc, a_ist, a_push, sh_71, sh_72, pu_rv, pu_as, Value.category, pu_bk, pu_kl, pu_qe0, pu_qe1, ff, h7, hc]
    all_goals try simp [bX12_write_69, bX12_write_133, bX12_write_112, a_ai, a_ald, a_cv, a_gr, a_iadd, a_icge, a_icne, a_ifeq, a_ild, a_imul, a_inc, a_ist, a_push, sh_71, sh_72, pu_rv, pu_as, Value.category, pu_bk, pu_kl, List.replicate, pu_wi_1, pu_wi_2, nl_add, nl_ladd, nl_aa, nl_mul, nl_rmul, nl_mm, pu_qe0, pu_qe1, ff, h7, hc]
  | m + 1, i, t8, h => by
    have bN := wx_bN hw
    have ff := fx_71_0 hx
    have h7 := rl_h7 hr
    have hc : ¬ nI (cN I) ≤ nI i := nI_ge (by omega) (by omega)
    obtain ⟨k, k1, k2⟩ := rl_nb hr i (by omega)
    have g0 : M.1 72 (7552 + 5 * i) = I 20 k := k2.1
    have g3 : M.1 72 (7552 + 5 * i + 3) = I 22 k := k2.2.2.1
    have g4 : M.1 72 (7552 + 5 * i + 4) = I 23 k := k2.2.2.2.1
    have i4 : i < 400 := by omega
    obtain ⟨u8, hu⟩ := r_wn_no hx hr hw t1 t2 t4 nm st y hno m (i + 1) (some (.int (nI (7552 + 5 * i)))) (by omega)
    refine ⟨u8, ?_⟩
    rw [← hu, qX12_write_69]
    have g := r_nholds hx hr hw y k k1
    by_cases c : I 20 k = st
    · rw [pu_q0 (fun z => hno k k1 ⟨c, z⟩)] at g
      simp [bX12_write_69, bX12_write_133, bX12_write_112, a_ai, a_ald, a_cv, a_gr, a_iadd, a_icge, a_icne, a_ifeq, a_ild, a_imul, a_inc, a_ist, a_push, sh_71, sh_72, pu_rv, pu_as, Value.category, pu_bk, pu_kl, List.replicate, pu_wi_1, pu_wi_2, nl_add, nl_ladd, nl_aa, nl_mul, nl_rmul, nl_mm, pu_qe0, pu_qe1, ff, h7, hc, g0, c, g3, g4, g, i4]
      all_goals try simp (maxSteps := 400000) (disch := omega) [nl_tle, nl_fle, nl_tlt, nl_flt, nl_teq, nl_feq, nl_sub, nl_ss, nl_lt, nl_llt, nl_ltt, nl_le, nl_lle, nl_lee, nl_eq, nl_leq, nl_ee, nl_div, nl_rem, nl_cl, nl_n1, nl_n2, nl_n3, nl_n4, nl_add, nl_ladd, nl_aa, nl_mul, nl_rmul, nl_mm, pu_wi_1, pu_wi_2, bX12_write_69, bX12_write_133, bX12_write_112, a_ai, a_ald, a_cv, a_gr, a_iadd, a_icge, a_icne, a_ifeq, a_ild, a_imul, a_inc, a_ist, a_push, sh_71, sh_72, pu_rv, pu_as, Value.category, pu_bk, pu_kl, pu_qe0, pu_qe1, ff, h7, hc, g0, c, g3, g4, g, i4]
      all_goals try simp [bX12_write_69, bX12_write_133, bX12_write_112, a_ai, a_ald, a_cv, a_gr, a_iadd, a_icge, a_icne, a_ifeq, a_ild, a_imul, a_inc, a_ist, a_push, sh_71, sh_72, pu_rv, pu_as, Value.category, pu_bk, pu_kl, List.replicate, pu_wi_1, pu_wi_2, nl_add, nl_ladd, nl_aa, nl_mul, nl_rmul, nl_mm, pu_qe0, pu_qe1, ff, h7, hc, g0, c, g3, g4, g, i4]
      all_goals try simp (maxSteps := 400000) (disch := omega) [nl_tle, nl_fle, nl_tlt, nl_flt, nl_teq, nl_feq, nl_sub, nl_ss, nl_lt, nl_llt, nl_ltt, nl_le, nl_lle, nl_lee, nl_eq, nl_leq, nl_ee, nl_div, nl_rem, nl_cl, nl_n1, nl_n2, nl_n3, nl_n4, nl_add, nl_ladd, nl_aa, nl_mul, nl_rmul, nl_mm, pu_wi_1, pu_wi_2, bX12_write_69, bX12_write_133, bX12_write_112, a_ai, a_ald, a_cv, a_gr, a_iadd, a_icge, a_icne, a_ifeq, a_ild, a_imul, a_inc, a_ist, a_push, sh_71, sh_72, pu_rv, pu_as, Value.category, pu_bk, pu_kl, pu_qe0, pu_qe1, ff, h7, hc, g0, c, g3, g4, g, i4]
      all_goals try simp [bX12_write_69, bX12_write_133, bX12_write_112, a_ai, a_ald, a_cv, a_gr, a_iadd, a_icge, a_icne, a_ifeq, a_ild, a_imul, a_inc, a_ist, a_push, sh_71, sh_72, pu_rv, pu_as, Value.category, pu_bk, pu_kl, List.replicate, pu_wi_1, pu_wi_2, nl_add, nl_ladd, nl_aa, nl_mul, nl_rmul, nl_mm, pu_qe0, pu_qe1, ff, h7, hc, g0, c, g3, g4, g, i4]
      all_goals try simp (maxSteps := 400000) (disch := omega) [nl_tle, nl_fle, nl_tlt, nl_flt, nl_teq, nl_feq, nl_sub, nl_ss, nl_lt, nl_llt, nl_ltt, nl_le, nl_lle, nl_lee, nl_eq, nl_leq, nl_ee, nl_div, nl_rem, nl_cl, nl_n1, nl_n2, nl_n3, nl_n4, nl_add, nl_ladd, nl_aa, nl_mul, nl_rmul, nl_mm, pu_wi_1, pu_wi_2, bX12_write_69, bX12_write_133, bX12_write_112, a_ai, a_ald, a_cv, a_gr, a_iadd, a_icge, a_icne, a_ifeq, a_ild, a_imul, a_inc, a_ist, a_push, sh_71, sh_72, pu_rv, pu_as, Value.category, pu_bk, pu_kl, pu_qe0, pu_qe1, ff, h7, hc, g0, c, g3, g4, g, i4]
      all_goals try simp [bX12_write_69, bX12_write_133, bX12_write_112, a_ai, a_ald, a_cv, a_gr, a_iadd, a_icge, a_icne, a_ifeq, a_ild, a_imul, a_inc, a_ist, a_push, sh_71, sh_72, pu_rv, pu_as, Value.category, pu_bk, pu_kl, List.replicate, pu_wi_1, pu_wi_2, nl_add, nl_ladd, nl_aa, nl_mul, nl_rmul, nl_mm, pu_qe0, pu_qe1, ff, h7, hc, g0, c, g3, g4, g, i4]
    · simp [bX12_write_69, bX12_write_133, bX12_write_112, a_ai, a_ald, a_cv, a_gr, a_iadd, a_icge, a_icne, a_ifeq, a_ild, a_imul, a_inc, a_ist, a_push, sh_71, sh_72, pu_rv, pu_as, Value.category, pu_bk, pu_kl, List.replicate, pu_wi_1, pu_wi_2, nl_add, nl_ladd, nl_aa, nl_mul, nl_rmul, nl_mm, pu_qe0, pu_qe1, ff, h7, hc, g0, c, i4]
      all_goals try simp (maxSteps := 400000) (disch := omega) [nl_tle, nl_fle, nl_tlt, nl_flt, nl_teq, nl_feq, nl_sub, nl_ss, nl_lt, nl_llt, nl_ltt, nl_le, nl_lle, nl_lee, nl_eq, nl_leq, nl_ee, nl_div, nl_rem, nl_cl, nl_n1, nl_n2, nl_n3, nl_n4, nl_add, nl_ladd, nl_aa, nl_mul, nl_rmul, nl_mm, pu_wi_1, pu_wi_2, bX12_write_69, bX12_write_133, bX12_write_112, a_ai, a_ald, a_cv, a_gr, a_iadd, a_icge, a_icne, a_ifeq, a_ild, a_imul, a_inc, a_ist, a_push, sh_71, sh_72, pu_rv, pu_as, Value.category, pu_bk, pu_kl, pu_qe0, pu_qe1, ff, h7, hc, g0, c, i4]
      all_goals try simp [bX12_write_69, bX12_write_133, bX12_write_112, a_ai, a_ald, a_cv, a_gr, a_iadd, a_icge, a_icne, a_ifeq, a_ild, a_imul, a_inc, a_ist, a_push, sh_71, sh_72, pu_rv, pu_as, Value.category, pu_bk, pu_kl, List.replicate, pu_wi_1, pu_wi_2, nl_add, nl_ladd, nl_aa, nl_mul, nl_rmul, nl_mm, pu_qe0, pu_qe1, ff, h7, hc, g0, c, i4]
      all_goals try simp (maxSteps := 400000) (disch := omega) [nl_tle, nl_fle, nl_tlt, nl_flt, nl_teq, nl_feq, nl_sub, nl_ss, nl_lt, nl_llt, nl_ltt, nl_le, nl_lle, nl_lee, nl_eq, nl_leq, nl_ee, nl_div, nl_rem, nl_cl, nl_n1, nl_n2, nl_n3, nl_n4, nl_add, nl_ladd, nl_aa, nl_mul, nl_rmul, nl_mm, pu_wi_1, pu_wi_2, bX12_write_69, bX12_write_133, bX12_write_112, a_ai, a_ald, a_cv, a_gr, a_iadd, a_icge, a_icne, a_ifeq, a_ild, a_imul, a_inc, a_ist, a_push, sh_71, sh_72, pu_rv, pu_as, Value.category, pu_bk, pu_kl, pu_qe0, pu_qe1, ff, h7, hc, g0, c, i4]
      all_goals try simp [bX12_write_69, bX12_write_133, bX12_write_112, a_ai, a_ald, a_cv, a_gr, a_iadd, a_icge, a_icne, a_ifeq, a_ild, a_imul, a_inc, a_ist, a_push, sh_71, sh_72, pu_rv, pu_as, Value.category, pu_bk, pu_kl, List.replicate, pu_wi_1, pu_wi_2, nl_add, nl_ladd, nl_aa, nl_mul, nl_rmul, nl_mm, pu_qe0, pu_qe1, ff, h7, hc, g0, c, i4]
      all_goals try simp (maxSteps := 400000) (disch := omega) [nl_tle, nl_fle, nl_tlt, nl_flt, nl_teq, nl_feq, nl_sub, nl_ss, nl_lt, nl_llt, nl_ltt, nl_le, nl_lle, nl_lee, nl_eq, nl_leq, nl_ee, nl_div, nl_rem, nl_cl, nl_n1, nl_n2, nl_n3, nl_n4, nl_add, nl_ladd, nl_aa, nl_mul, nl_rmul, nl_mm, pu_wi_1, pu_wi_2, bX12_write_69, bX12_write_133, bX12_write_112, a_ai, a_ald, a_cv, a_gr, a_iadd, a_icge, a_icne, a_ifeq, a_ild, a_imul, a_inc, a_ist, a_push, sh_71, sh_72, pu_rv, pu_as, Value.category, pu_bk, pu_kl, pu_qe0, pu_qe1, ff, h7, hc, g0, c, i4]
      all_goals try simp [bX12_write_69, bX12_write_133, bX12_write_112, a_ai, a_ald, a_cv, a_gr, a_iadd, a_icge, a_icne, a_ifeq, a_ild, a_imul, a_inc, a_ist, a_push, sh_71, sh_72, pu_rv, pu_as, Value.category, pu_bk, pu_kl, List.replicate, pu_wi_1, pu_wi_2, nl_add, nl_ladd, nl_aa, nl_mul, nl_rmul, nl_mm, pu_qe0, pu_qe1, ff, h7, hc, g0, c, i4]
theorem r_wn_one (hx : pu_fx M) (hr : pu_Rel I L (M.1 72)) (hw : pu_WF I L) (t1 t2 t4 : Int32) (st y : Int32) {k0 j0 : Nat} (hk0 : k0 < cN I) (h0 : I 20 k0 = st ∧ py_nh I y k0) (hj0 : j0 < cN I) (hjk : pz_nr I L (M.1 72) j0 k0) : ∀ m i (nm : Int32) (t8 : Option Value), i + m = cN I → (j0 < i → nm = nI j0) → ∃ u8, pu_r 511 [some (.ref 71), some (.int t1), some (.int t2), some (.int y), some (.int t4), some (.int st), some (.int nm), some (.int (nI i)), t8] [] M = kX12_write_139 pu_r [some (.ref 71), some (.int t1), some (.int t2), some (.int y), some (.int t4), some (.int st), some (.int (nI j0)), some (.int (nI (cN I))), u8] [] M
  | 0, i, nm, t8, h, hn => by
    have bN := wx_bN hw
    have ff := fx_71_0 hx
    have h7 := rl_h7 hr
    have e : i = cN I := by omega
    subst e
    have hc : nI (cN I) ≤ nI (cN I) := nI_le (by omega) (by omega)
    refine ⟨t8, ?_⟩
    rw [qX12_write_69, hn hj0]
    simp [bX12_write_69, bX12_write_133, bX12_write_112, a_ai, a_ald, a_cv, a_gr, a_iadd, a_icge, a_icne, a_ifeq, a_ild, a_imul, a_inc, a_ist, a_push, sh_71, sh_72, pu_rv, pu_as, Value.category, pu_bk, pu_kl, List.replicate, pu_wi_1, pu_wi_2, nl_add, nl_ladd, nl_aa, nl_mul, nl_rmul, nl_mm, pu_qe0, pu_qe1, ff, h7, hc]
    all_goals try simp (maxSteps := 400000) (disch := omega) [nl_tle, nl_fle, nl_tlt, nl_flt, nl_teq, nl_feq, nl_sub, nl_ss, nl_lt, nl_llt, nl_ltt, nl_le, nl_lle, nl_lee, nl_eq, nl_leq, nl_ee, nl_div, nl_rem, nl_cl, nl_n1, nl_n2, nl_n3, nl_n4, nl_add, nl_ladd, nl_aa, nl_mul, nl_rmul, nl_mm, pu_wi_1, pu_wi_2, bX12_write_69, bX12_write_133, bX12_write_112, a_ai, a_ald, a_cv, a_gr, a_iadd, a_icge, a_icne, a_ifeq, a_ild, a_imul, a_inc, a_ist, a_push, sh_71, sh_72, pu_rv, pu_as, Value.category, pu_bk, pu_kl, pu_qe0, pu_qe1, ff, h7, hc]
    all_goals try simp [bX12_write_69, bX12_write_133, bX12_write_112, a_ai, a_ald, a_cv, a_gr, a_iadd, a_icge, a_icne, a_ifeq, a_ild, a_imul, a_inc, a_ist, a_push, sh_71, sh_72, pu_rv, pu_as, Value.category, pu_bk, pu_kl, List.replicate, pu_wi_1, pu_wi_2, nl_add, nl_ladd, nl_aa, nl_mul, nl_rmul, nl_mm, pu_qe0, pu_qe1, ff, h7, hc]
    all_goals try simp (maxSteps := 400000) (disch := omega) [nl_tle, nl_fle, nl_tlt, nl_flt, nl_teq, nl_feq, nl_sub, nl_ss, nl_lt, nl_llt, nl_ltt, nl_le, nl_lle, nl_lee, nl_eq, nl_leq, nl_ee, nl_div, nl_rem, nl_cl, nl_n1, nl_n2, nl_n3, nl_n4, nl_add, nl_ladd, nl_aa, nl_mul, nl_rmul, nl_mm, pu_wi_1, pu_wi_2, bX12_write_69, bX12_write_133, bX12_write_112, a_ai, a_ald, a_cv, a_gr, a_iadd, a_icge, a_icne, a_ifeq, a_ild, a_imul, a_inc, a_ist, a_push, sh_71, sh_72, pu_rv, pu_as, Value.category, pu_bk, pu_kl, pu_qe0, pu_qe1, ff, h7, hc]
    all_goals try simp [bX12_write_69, bX12_write_133, bX12_write_112, a_ai, a_ald, a_cv, a_gr, a_iadd, a_icge, a_icne, a_ifeq, a_ild, a_imul, a_inc, a_ist, a_push, sh_71, sh_72, pu_rv, pu_as, Value.category, pu_bk, pu_kl, List.replicate, pu_wi_1, pu_wi_2, nl_add, nl_ladd, nl_aa, nl_mul, nl_rmul, nl_mm, pu_qe0, pu_qe1, ff, h7, hc]
    all_goals try simp (maxSteps := 400000) (disch := omega) [nl_tle, nl_fle, nl_tlt, nl_flt, nl_teq, nl_feq, nl_sub, nl_ss, nl_lt, nl_llt, nl_ltt, nl_le, nl_lle, nl_lee, nl_eq, nl_leq, nl_ee, nl_div, nl_rem, nl_cl, nl_n1, nl_n2, nl_n3, nl_n4, nl_add, nl_ladd, nl_aa, nl_mul, nl_rmul, nl_mm, pu_wi_1, pu_wi_2, bX12_write_69, bX12_write_133, bX12_write_112, a_ai, a_ald, a_cv, a_gr, a_iadd, a_icge, a_icne, a_ifeq, a_ild, a_imul, a_inc, a_ist, a_push, sh_71, sh_72, pu_rv, pu_as, Value.category, pu_bk, pu_kl, pu_qe0, pu_qe1, ff, h7, hc]
    all_goals try simp [bX12_write_69, bX12_write_133, bX12_write_112, a_ai, a_ald, a_cv, a_gr, a_iadd, a_icge, a_icne, a_ifeq, a_ild, a_imul, a_inc, a_ist, a_push, sh_71, sh_72, pu_rv, pu_as, Value.category, pu_bk, pu_kl, List.replicate, pu_wi_1, pu_wi_2, nl_add, nl_ladd, nl_aa, nl_mul, nl_rmul, nl_mm, pu_qe0, pu_qe1, ff, h7, hc]
  | m + 1, i, nm, t8, h, hn => by
    have bN := wx_bN hw
    have ff := fx_71_0 hx
    have h7 := rl_h7 hr
    have hc : ¬ nI (cN I) ≤ nI i := nI_ge (by omega) (by omega)
    obtain ⟨k, k1, k2⟩ := rl_nb hr i (by omega)
    have g0 : M.1 72 (7552 + 5 * i) = I 20 k := k2.1
    have g3 : M.1 72 (7552 + 5 * i + 3) = I 22 k := k2.2.2.1
    have g4 : M.1 72 (7552 + 5 * i + 4) = I 23 k := k2.2.2.2.1
    have i4 : i < 400 := by omega
    have g := r_nholds hx hr hw y k k1
    by_cases c : I 20 k = st ∧ py_nh I y k
    · have ek : k = k0 := py_nu hw k1 hk0 c.2 h0.2 (c.1.trans h0.1.symm)
      have ei : i = j0 := pz_nr_un hr (by omega) hj0 k2 hjk (by rw [ek]) (by rw [ek])
      obtain ⟨u8, hu⟩ := r_wn_one hx hr hw t1 t2 t4 st y hk0 h0 hj0 hjk m (i + 1) (nI i) (some (.int (nI (7552 + 5 * i)))) (by omega) (fun _ => by rw [ei])
      refine ⟨u8, ?_⟩
      rw [pu_q1 c.2] at g
      obtain ⟨c1, _⟩ := c
      rw [← hu, qX12_write_69]
      simp [bX12_write_69, bX12_write_133, bX12_write_112, a_ai, a_ald, a_cv, a_gr, a_iadd, a_icge, a_icne, a_ifeq, a_ild, a_imul, a_inc, a_ist, a_push, sh_71, sh_72, pu_rv, pu_as, Value.category, pu_bk, pu_kl, List.replicate, pu_wi_1, pu_wi_2, nl_add, nl_ladd, nl_aa, nl_mul, nl_rmul, nl_mm, pu_qe0, pu_qe1, ff, h7, hc, g0, c1, g3, g4, g, i4]
      all_goals try simp (maxSteps := 400000) (disch := omega) [nl_tle, nl_fle, nl_tlt, nl_flt, nl_teq, nl_feq, nl_sub, nl_ss, nl_lt, nl_llt, nl_ltt, nl_le, nl_lle, nl_lee, nl_eq, nl_leq, nl_ee, nl_div, nl_rem, nl_cl, nl_n1, nl_n2, nl_n3, nl_n4, nl_add, nl_ladd, nl_aa, nl_mul, nl_rmul, nl_mm, pu_wi_1, pu_wi_2, bX12_write_69, bX12_write_133, bX12_write_112, a_ai, a_ald, a_cv, a_gr, a_iadd, a_icge, a_icne, a_ifeq, a_ild, a_imul, a_inc, a_ist, a_push, sh_71, sh_72, pu_rv, pu_as, Value.category, pu_bk, pu_kl, pu_qe0, pu_qe1, ff, h7, hc, g0, c1, g3, g4, g, i4]
      all_goals try simp [bX12_write_69, bX12_write_133, bX12_write_112, a_ai, a_ald, a_cv, a_gr, a_iadd, a_icge, a_icne, a_ifeq, a_ild, a_imul, a_inc, a_ist, a_push, sh_71, sh_72, pu_rv, pu_as, Value.category, pu_bk, pu_kl, List.replicate, pu_wi_1, pu_wi_2, nl_add, nl_ladd, nl_aa, nl_mul, nl_rmul, nl_mm, pu_qe0, pu_qe1, ff, h7, hc, g0, c1, g3, g4, g, i4]
      all_goals try simp (maxSteps := 400000) (disch := omega) [nl_tle, nl_fle, nl_tlt, nl_flt, nl_teq, nl_feq, nl_sub, nl_ss, nl_lt, nl_llt, nl_ltt, nl_le, nl_lle, nl_lee, nl_eq, nl_leq, nl_ee, nl_div, nl_rem, nl_cl, nl_n1, nl_n2, nl_n3, nl_n4, nl_add, nl_ladd, nl_aa, nl_mul, nl_rmul, nl_mm, pu_wi_1, pu_wi_2, bX12_write_69, bX12_write_133, bX12_write_112, a_ai, a_ald, a_cv, a_gr, a_iadd, a_icge, a_icne, a_ifeq, a_ild, a_imul, a_inc, a_ist, a_push, sh_71, sh_72, pu_rv, pu_as, Value.category, pu_bk, pu_kl, pu_qe0, pu_qe1, ff, h7, hc, g0, c1, g3, g4, g, i4]
      all_goals try simp [bX12_write_69, bX12_write_133, bX12_write_112, a_ai, a_ald, a_cv, a_gr, a_iadd, a_icge, a_icne, a_ifeq, a_ild, a_imul, a_inc, a_ist, a_push, sh_71, sh_72, pu_rv, pu_as, Value.category, pu_bk, pu_kl, List.replicate, pu_wi_1, pu_wi_2, nl_add, nl_ladd, nl_aa, nl_mul, nl_rmul, nl_mm, pu_qe0, pu_qe1, ff, h7, hc, g0, c1, g3, g4, g, i4]
      all_goals try simp (maxSteps := 400000) (disch := omega) [nl_tle, nl_fle, nl_tlt, nl_flt, nl_teq, nl_feq, nl_sub, nl_ss, nl_lt, nl_llt, nl_ltt, nl_le, nl_lle, nl_lee, nl_eq, nl_leq, nl_ee, nl_div, nl_rem, nl_cl, nl_n1, nl_n2, nl_n3, nl_n4, nl_add, nl_ladd, nl_aa, nl_mul, nl_rmul, nl_mm, pu_wi_1, pu_wi_2, bX12_write_69, bX12_write_133, bX12_write_112, a_ai, a_ald, a_cv, a_gr, a_iadd, a_icge, a_icne, a_ifeq, a_ild, a_imul, a_inc, a_ist, a_push, sh_71, sh_72, pu_rv, pu_as, Value.category, pu_bk, pu_kl, pu_qe0, pu_qe1, ff, h7, hc, g0, c1, g3, g4, g, i4]
      all_goals try simp [bX12_write_69, bX12_write_133, bX12_write_112, a_ai, a_ald, a_cv, a_gr, a_iadd, a_icge, a_icne, a_ifeq, a_ild, a_imul, a_inc, a_ist, a_push, sh_71, sh_72, pu_rv, pu_as, Value.category, pu_bk, pu_kl, List.replicate, pu_wi_1, pu_wi_2, nl_add, nl_ladd, nl_aa, nl_mul, nl_rmul, nl_mm, pu_qe0, pu_qe1, ff, h7, hc, g0, c1, g3, g4, g, i4]
    · have ne : i ≠ j0 := fun z => by
        subst z
        have b1 : I 20 k = I 20 k0 := k2.1.symm.trans hjk.1
        have b2 : I 22 k = I 22 k0 := k2.2.2.1.symm.trans hjk.2.2.1
        have b3 : I 23 k = I 23 k0 := k2.2.2.2.1.symm.trans hjk.2.2.2.1
        refine c ⟨b1.trans h0.1, ?_⟩
        unfold py_nh
        rw [b2, b3]
        exact h0.2
      obtain ⟨u8, hu⟩ := r_wn_one hx hr hw t1 t2 t4 st y hk0 h0 hj0 hjk m (i + 1) nm (some (.int (nI (7552 + 5 * i)))) (by omega) (fun z => hn (by omega))
      refine ⟨u8, ?_⟩
      rw [← hu, qX12_write_69]
      by_cases c1 : I 20 k = st
      · rw [pu_q0 (fun z => c ⟨c1, z⟩)] at g
        simp [bX12_write_69, bX12_write_133, bX12_write_112, a_ai, a_ald, a_cv, a_gr, a_iadd, a_icge, a_icne, a_ifeq, a_ild, a_imul, a_inc, a_ist, a_push, sh_71, sh_72, pu_rv, pu_as, Value.category, pu_bk, pu_kl, List.replicate, pu_wi_1, pu_wi_2, nl_add, nl_ladd, nl_aa, nl_mul, nl_rmul, nl_mm, pu_qe0, pu_qe1, ff, h7, hc, g0, c1, g3, g4, g, i4]
        all_goals try simp (maxSteps := 400000) (disch := omega) [nl_tle, nl_fle, nl_tlt, nl_flt, nl_teq, nl_feq, nl_sub, nl_ss, nl_lt, nl_llt, nl_ltt, nl_le, nl_lle, nl_lee, nl_eq, nl_leq, nl_ee, nl_div, nl_rem, nl_cl, nl_n1, nl_n2, nl_n3, nl_n4, nl_add, nl_ladd, nl_aa, nl_mul, nl_rmul, nl_mm, pu_wi_1, pu_wi_2, bX12_write_69, bX12_write_133, bX12_write_112, a_ai, a_ald, a_cv, a_gr, a_iadd, a_icge, a_icne, a_ifeq, a_ild, a_imul, a_inc, a_ist, a_push, sh_71, sh_72, pu_rv, pu_as, Value.category, pu_bk, pu_kl, pu_qe0, pu_qe1, ff, h7, hc, g0, c1, g3, g4, g, i4]
        all_goals try simp [bX12_write_69, bX12_write_133, bX12_write_112, a_ai, a_ald, a_cv, a_gr, a_iadd, a_icge, a_icne, a_ifeq, a_ild, a_imul, a_inc, a_ist, a_push, sh_71, sh_72, pu_rv, pu_as, Value.category, pu_bk, pu_kl, List.replicate, pu_wi_1, pu_wi_2, nl_add, nl_ladd, nl_aa, nl_mul, nl_rmul, nl_mm, pu_qe0, pu_qe1, ff, h7, hc, g0, c1, g3, g4, g, i4]
        all_goals try simp (maxSteps := 400000) (disch := omega) [nl_tle, nl_fle, nl_tlt, nl_flt, nl_teq, nl_feq, nl_sub, nl_ss, nl_lt, nl_llt, nl_ltt, nl_le, nl_lle, nl_lee, nl_eq, nl_leq, nl_ee, nl_div, nl_rem, nl_cl, nl_n1, nl_n2, nl_n3, nl_n4, nl_add, nl_ladd, nl_aa, nl_mul, nl_rmul, nl_mm, pu_wi_1, pu_wi_2, bX12_write_69, bX12_write_133, bX12_write_112, a_ai, a_ald, a_cv, a_gr, a_iadd, a_icge, a_icne, a_ifeq, a_ild, a_imul, a_inc, a_ist, a_push, sh_71, sh_72, pu_rv, pu_as, Value.category, pu_bk, pu_kl, pu_qe0, pu_qe1, ff, h7, hc, g0, c1, g3, g4, g, i4]
        all_goals try simp [bX12_write_69, bX12_write_133, bX12_write_112, a_ai, a_ald, a_cv, a_gr, a_iadd, a_icge, a_icne, a_ifeq, a_ild, a_imul, a_inc, a_ist, a_push, sh_71, sh_72, pu_rv, pu_as, Value.category, pu_bk, pu_kl, List.replicate, pu_wi_1, pu_wi_2, nl_add, nl_ladd, nl_aa, nl_mul, nl_rmul, nl_mm, pu_qe0, pu_qe1, ff, h7, hc, g0, c1, g3, g4, g, i4]
        all_goals try simp (maxSteps := 400000) (disch := omega) [nl_tle, nl_fle, nl_tlt, nl_flt, nl_teq, nl_feq, nl_sub, nl_ss, nl_lt, nl_llt, nl_ltt, nl_le, nl_lle, nl_lee, nl_eq, nl_leq, nl_ee, nl_div, nl_rem, nl_cl, nl_n1, nl_n2, nl_n3, nl_n4, nl_add, nl_ladd, nl_aa, nl_mul, nl_rmul, nl_mm, pu_wi_1, pu_wi_2, bX12_write_69, bX12_write_133, bX12_write_112, a_ai, a_ald, a_cv, a_gr, a_iadd, a_icge, a_icne, a_ifeq, a_ild, a_imul, a_inc, a_ist, a_push, sh_71, sh_72, pu_rv, pu_as, Value.category, pu_bk, pu_kl, pu_qe0, pu_qe1, ff, h7, hc, g0, c1, g3, g4, g, i4]
        all_goals try simp [bX12_write_69, bX12_write_133, bX12_write_112, a_ai, a_ald, a_cv, a_gr, a_iadd, a_icge, a_icne, a_ifeq, a_ild, a_imul, a_inc, a_ist, a_push, sh_71, sh_72, pu_rv, pu_as, Value.category, pu_bk, pu_kl, List.replicate, pu_wi_1, pu_wi_2, nl_add, nl_ladd, nl_aa, nl_mul, nl_rmul, nl_mm, pu_qe0, pu_qe1, ff, h7, hc, g0, c1, g3, g4, g, i4]
      · simp [bX12_write_69, bX12_write_133, bX12_write_112, a_ai, a_ald, a_cv, a_gr, a_iadd, a_icge, a_icne, a_ifeq, a_ild, a_imul, a_inc, a_ist, a_push, sh_71, sh_72, pu_rv, pu_as, Value.category, pu_bk, pu_kl, List.replicate, pu_wi_1, pu_wi_2, nl_add, nl_ladd, nl_aa, nl_mul, nl_rmul, nl_mm, pu_qe0, pu_qe1, ff, h7, hc, g0, c1, i4]
        all_goals try simp (maxSteps := 400000) (disch := omega) [nl_tle, nl_fle, nl_tlt, nl_flt, nl_teq, nl_feq, nl_sub, nl_ss, nl_lt, nl_llt, nl_ltt, nl_le, nl_lle, nl_lee, nl_eq, nl_leq, nl_ee, nl_div, nl_rem, nl_cl, nl_n1, nl_n2, nl_n3, nl_n4, nl_add, nl_ladd, nl_aa, nl_mul, nl_rmul, nl_mm, pu_wi_1, pu_wi_2, bX12_write_69, bX12_write_133, bX12_write_112, a_ai, a_ald, a_cv, a_gr, a_iadd, a_icge, a_icne, a_ifeq, a_ild, a_imul, a_inc, a_ist, a_push, sh_71, sh_72, pu_rv, pu_as, Value.category, pu_bk, pu_kl, pu_qe0, pu_qe1, ff, h7, hc, g0, c1, i4]
        all_goals try simp [bX12_write_69, bX12_write_133, bX12_write_112, a_ai, a_ald, a_cv, a_gr, a_iadd, a_icge, a_icne, a_ifeq, a_ild, a_imul, a_inc, a_ist, a_push, sh_71, sh_72, pu_rv, pu_as, Value.category, pu_bk, pu_kl, List.replicate, pu_wi_1, pu_wi_2, nl_add, nl_ladd, nl_aa, nl_mul, nl_rmul, nl_mm, pu_qe0, pu_qe1, ff, h7, hc, g0, c1, i4]
        all_goals try simp (maxSteps := 400000) (disch := omega) [nl_tle, nl_fle, nl_tlt, nl_flt, nl_teq, nl_feq, nl_sub, nl_ss, nl_lt, nl_llt, nl_ltt, nl_le, nl_lle, nl_lee, nl_eq, nl_leq, nl_ee, nl_div, nl_rem, nl_cl, nl_n1, nl_n2, nl_n3, nl_n4, nl_add, nl_ladd, nl_aa, nl_mul, nl_rmul, nl_mm, pu_wi_1, pu_wi_2, bX12_write_69, bX12_write_133, bX12_write_112, a_ai, a_ald, a_cv, a_gr, a_iadd, a_icge, a_icne, a_ifeq, a_ild, a_imul, a_inc, a_ist, a_push, sh_71, sh_72, pu_rv, pu_as, Value.category, pu_bk, pu_kl, pu_qe0, pu_qe1, ff, h7, hc, g0, c1, i4]
        all_goals try simp [bX12_write_69, bX12_write_133, bX12_write_112, a_ai, a_ald, a_cv, a_gr, a_iadd, a_icge, a_icne, a_ifeq, a_ild, a_imul, a_inc, a_ist, a_push, sh_71, sh_72, pu_rv, pu_as, Value.category, pu_bk, pu_kl, List.replicate, pu_wi_1, pu_wi_2, nl_add, nl_ladd, nl_aa, nl_mul, nl_rmul, nl_mm, pu_qe0, pu_qe1, ff, h7, hc, g0, c1, i4]
        all_goals try simp (maxSteps := 400000) (disch := omega) [nl_tle, nl_fle, nl_tlt, nl_flt, nl_teq, nl_feq, nl_sub, nl_ss, nl_lt, nl_llt, nl_ltt, nl_le, nl_lle, nl_lee, nl_eq, nl_leq, nl_ee, nl_div, nl_rem, nl_cl, nl_n1, nl_n2, nl_n3, nl_n4, nl_add, nl_ladd, nl_aa, nl_mul, nl_rmul, nl_mm, pu_wi_1, pu_wi_2, bX12_write_69, bX12_write_133, bX12_write_112, a_ai, a_ald, a_cv, a_gr, a_iadd, a_icge, a_icne, a_ifeq, a_ild, a_imul, a_inc, a_ist, a_push, sh_71, sh_72, pu_rv, pu_as, Value.category, pu_bk, pu_kl, pu_qe0, pu_qe1, ff, h7, hc, g0, c1, i4]
        all_goals try simp [bX12_write_69, bX12_write_133, bX12_write_112, a_ai, a_ald, a_cv, a_gr, a_iadd, a_icge, a_icne, a_ifeq, a_ild, a_imul, a_inc, a_ist, a_push, sh_71, sh_72, pu_rv, pu_as, Value.category, pu_bk, pu_kl, List.replicate, pu_wi_1, pu_wi_2, nl_add, nl_ladd, nl_aa, nl_mul, nl_rmul, nl_mm, pu_qe0, pu_qe1, ff, h7, hc, g0, c1, i4]
/-- a row of three words as letters and as numbers -/
theorem py_dss {s : Nat → Int32} {a x : Nat} {f : Nat → Int64} (h : ∀ w, w < 3 → pu_Wd s (a + 12 * w) (f (x + w))) : ∃ ds : Nat → List Nat, (∀ w, w < 3 → (ds w).length ≤ 12) ∧ (∀ w, w < 3 → ∀ d ∈ ds w, d < 26) ∧ (∀ w, w < 3 → ∀ j, j < 12 → s (a + 12 * w + j) = pu_lt (ds w) j) ∧ ∀ w, w < 3 → f (x + w) = lN (pu_wv (ds w)) := by
  refine ⟨fun w => if h2 : w < 3 then Classical.choose (h w h2) else [], fun w hw => ?_, fun w hw => ?_, fun w hw => ?_, fun w hw => ?_⟩
  · have := Classical.choose_spec (h w hw)
    simp only [dif_pos hw]
    exact this.1
  · have := Classical.choose_spec (h w hw)
    simp only [dif_pos hw]
    exact this.2.1
  · have := Classical.choose_spec (h w hw)
    simp only [dif_pos hw]
    exact this.2.2.1
  · have := Classical.choose_spec (h w hw)
    simp only [dif_pos hw]
    exact this.2.2.2
/-- what is behind the number -/
def py_ex (I : Nat → Nat → Int32) (d : Nat) : List Int32 := if pu_srt I d = 2 then [32, 98, 97, 99, 107] else if pu_srt I d = 3 then [32, 99, 111, 117, 114, 116, 32] ++ py_dg (I 35 d).toNatClampNeg else if pu_srt I d = 4 then [32, 102, 108, 111, 111, 114, 32] ++ py_dg (I 35 d).toNatClampNeg else []
theorem py_ex_l (I : Nat → Nat → Int32) (d : Nat) : (py_ex I d).length ≤ 11 := by
  unfold py_ex
  have := py_dg_l (I 35 d).toNatClampNeg
  split
  · simp
  · split
    · simp; omega
    · split
      · simp; omega
      · simp
theorem py_srt_k (hw : pu_WF I L) {d : Nat} (hd : d < cD I) (h : pu_srt I d = 3 ∨ pu_srt I d = 4) : I 35 d = nI (I 35 d).toNatClampNeg ∧ 0 < (I 35 d).toNatClampNeg ∧ (I 35 d).toNatClampNeg < 100 := by
  have c38 : I 38 d = -1 := by
    apply Classical.byContradiction
    intro z
    unfold pu_srt at h
    rw [if_neg z] at h
    rcases h with h | h
    · exact absurd h (by decide)
    · exact absurd h (by decide)
  unfold pu_srt at h
  rw [if_pos c38] at h
  have n0 : I 32 d ≠ 0 := fun z => by
    rw [z] at h
    rcases h with h | h
    · exact absurd h (by decide)
    · exact absurd h (by decide)
  have n2 : I 32 d ≠ 2 := fun z => by
    rw [z] at h
    rcases h with h | h
    · exact absurd h (by decide)
    · exact absurd h (by decide)
  have y := wx_d2 hw d hd n0
  obtain ⟨_, _, _, _, _, _, _, _, y1, y2, _, y4⟩ := y
  have q := pu_on (x := I 35 d) (n := 100) ⟨y1, by omega⟩
  refine ⟨q.1, ?_, q.2⟩
  apply Nat.pos_of_ne_zero
  intro z
  rw [z] at q
  exact y4 n2 q.1
theorem c_putExtra (hx : pu_fx M) (hI : pu_ag M I) (hw : pu_WF I L) {d : Nat} (hd : d < cD I) (n : Nat) (hn : M.1 3 0 = nI n) (hc : n + 11 ≤ 1200) : pu_r 163 [some (.ref 0), some (.int (nI d))] [] M = some (none, pz_cw M n (py_ex I d)) := by
  have bD := wx_bD hw
  have e1 := c_sortOf hx hI hw d hd
  unfold py_ex
  by_cases c2 : pu_srt I d = 2
  · rw [if_pos c2]
    rw [c2] at e1
    have t := c_text1 hx n hn (by omega)
    rw [qX11_putExtra]
    simp [a_ent, bX11_putExtra_0, bX11_putExtra_36, bX11_putExtra_113, bX11_putExtra_49, bX11_putExtra_81, a_ai, a_ald, a_cv, a_gr, a_ild, a_push, a_sw, a_vret, ag_31 hI, ag_35 hI, fx_0_1 hx, fx_0_2 hx, fx_31_4 hx, fx_5_4 hx, sh_0, sh_1, sh_3, sh_31, sh_35, sh_5, pu_rv, pu_as, Value.category, pu_bk, pu_kl, List.replicate, pu_wi_1, pu_wi_2, nl_add, nl_ladd, nl_aa, nl_mul, nl_rmul, nl_mm, pu_qe0, pu_qe1, e1, t]
    all_goals try simp (maxSteps := 400000) (disch := omega) [nl_tle, nl_fle, nl_tlt, nl_flt, nl_teq, nl_feq, nl_sub, nl_ss, nl_lt, nl_llt, nl_ltt, nl_le, nl_lle, nl_lee, nl_eq, nl_leq, nl_ee, nl_div, nl_rem, nl_cl, nl_n1, nl_n2, nl_n3, nl_n4, nl_add, nl_ladd, nl_aa, nl_mul, nl_rmul, nl_mm, pu_wi_1, pu_wi_2, bX11_putExtra_0, bX11_putExtra_36, bX11_putExtra_113, bX11_putExtra_49, bX11_putExtra_81, a_ai, a_ald, a_cv, a_gr, a_ild, a_push, a_sw, a_vret, ag_31 hI, ag_35 hI, fx_0_1 hx, fx_0_2 hx, fx_31_4 hx, fx_5_4 hx, sh_0, sh_1, sh_3, sh_31, sh_35, sh_5, pu_rv, pu_as, Value.category, pu_bk, pu_kl, pu_qe0, pu_qe1, e1, t]
    all_goals try simp [bX11_putExtra_0, bX11_putExtra_36, bX11_putExtra_113, bX11_putExtra_49, bX11_putExtra_81, a_ai, a_ald, a_cv, a_gr, a_ild, a_push, a_sw, a_vret, ag_31 hI, ag_35 hI, fx_0_1 hx, fx_0_2 hx, fx_31_4 hx, fx_5_4 hx, sh_0, sh_1, sh_3, sh_31, sh_35, sh_5, pu_rv, pu_as, Value.category, pu_bk, pu_kl, List.replicate, pu_wi_1, pu_wi_2, nl_add, nl_ladd, nl_aa, nl_mul, nl_rmul, nl_mm, pu_qe0, pu_qe1, e1, t]
    all_goals try simp (maxSteps := 400000) (disch := omega) [nl_tle, nl_fle, nl_tlt, nl_flt, nl_teq, nl_feq, nl_sub, nl_ss, nl_lt, nl_llt, nl_ltt, nl_le, nl_lle, nl_lee, nl_eq, nl_leq, nl_ee, nl_div, nl_rem, nl_cl, nl_n1, nl_n2, nl_n3, nl_n4, nl_add, nl_ladd, nl_aa, nl_mul, nl_rmul, nl_mm, pu_wi_1, pu_wi_2, bX11_putExtra_0, bX11_putExtra_36, bX11_putExtra_113, bX11_putExtra_49, bX11_putExtra_81, a_ai, a_ald, a_cv, a_gr, a_ild, a_push, a_sw, a_vret, ag_31 hI, ag_35 hI, fx_0_1 hx, fx_0_2 hx, fx_31_4 hx, fx_5_4 hx, sh_0, sh_1, sh_3, sh_31, sh_35, sh_5, pu_rv, pu_as, Value.category, pu_bk, pu_kl, pu_qe0, pu_qe1, e1, t]
    all_goals try simp [bX11_putExtra_0, bX11_putExtra_36, bX11_putExtra_113, bX11_putExtra_49, bX11_putExtra_81, a_ai, a_ald, a_cv, a_gr, a_ild, a_push, a_sw, a_vret, ag_31 hI, ag_35 hI, fx_0_1 hx, fx_0_2 hx, fx_31_4 hx, fx_5_4 hx, sh_0, sh_1, sh_3, sh_31, sh_35, sh_5, pu_rv, pu_as, Value.category, pu_bk, pu_kl, List.replicate, pu_wi_1, pu_wi_2, nl_add, nl_ladd, nl_aa, nl_mul, nl_rmul, nl_mm, pu_qe0, pu_qe1, e1, t]
    all_goals try simp (maxSteps := 400000) (disch := omega) [nl_tle, nl_fle, nl_tlt, nl_flt, nl_teq, nl_feq, nl_sub, nl_ss, nl_lt, nl_llt, nl_ltt, nl_le, nl_lle, nl_lee, nl_eq, nl_leq, nl_ee, nl_div, nl_rem, nl_cl, nl_n1, nl_n2, nl_n3, nl_n4, nl_add, nl_ladd, nl_aa, nl_mul, nl_rmul, nl_mm, pu_wi_1, pu_wi_2, bX11_putExtra_0, bX11_putExtra_36, bX11_putExtra_113, bX11_putExtra_49, bX11_putExtra_81, a_ai, a_ald, a_cv, a_gr, a_ild, a_push, a_sw, a_vret, ag_31 hI, ag_35 hI, fx_0_1 hx, fx_0_2 hx, fx_31_4 hx, fx_5_4 hx, sh_0, sh_1, sh_3, sh_31, sh_35, sh_5, pu_rv, pu_as, Value.category, pu_bk, pu_kl, pu_qe0, pu_qe1, e1, t]
    all_goals try simp [bX11_putExtra_0, bX11_putExtra_36, bX11_putExtra_113, bX11_putExtra_49, bX11_putExtra_81, a_ai, a_ald, a_cv, a_gr, a_ild, a_push, a_sw, a_vret, ag_31 hI, ag_35 hI, fx_0_1 hx, fx_0_2 hx, fx_31_4 hx, fx_5_4 hx, sh_0, sh_1, sh_3, sh_31, sh_35, sh_5, pu_rv, pu_as, Value.category, pu_bk, pu_kl, List.replicate, pu_wi_1, pu_wi_2, nl_add, nl_ladd, nl_aa, nl_mul, nl_rmul, nl_mm, pu_qe0, pu_qe1, e1, t]
  · rw [if_neg c2]
    by_cases c3 : pu_srt I d = 3
    · rw [if_pos c3, pz_cw_app]
      rw [c3] at e1
      obtain ⟨k1, k2, k3⟩ := py_srt_k hw hd (Or.inl c3)
      have t := c_text2 hx n hn (by omega)
      have nq := py_cw_3 hn [32, 99, 111, 117, 114, 116, 32]
      have hxQ : pu_fx (pz_cw M n [32, 99, 111, 117, 114, 116, 32]) := pz_fx_of hx (pz_cw_2 _ _ _)
      have g35 : (pz_cw M n [32, 99, 111, 117, 114, 116, 32]).1 35 d = nI (I 35 d).toNatClampNeg := by
        rw [pz_cw_o _ _ _ _ _ (by omega) (by omega), hI 35 d (by omega) (by omega)]
        exact k1
      generalize pz_cw M n [32, 99, 111, 117, 114, 116, 32] = Q at *
      have pd := c_putDecimal hxQ _ nq (by simp; omega) (I 35 d).toNatClampNeg k2 (by omega)
      have f1 := fx_0_1 hxQ
      have f2 := fx_0_2 hxQ
      have f3 := fx_5_4 hxQ
      have f4 := fx_31_4 hxQ
      generalize [32, 99, 111, 117, 114, 116, (32 : Int32)].length = l7 at *
      rw [qX11_putExtra]
      simp [a_ent, bX11_putExtra_0, bX11_putExtra_36, bX11_putExtra_113, bX11_putExtra_49, bX11_putExtra_81, a_ai, a_ald, a_cv, a_gr, a_ild, a_push, a_sw, a_vret, ag_31 hI, ag_35 hI, fx_0_1 hx, fx_0_2 hx, fx_31_4 hx, fx_5_4 hx, sh_0, sh_1, sh_3, sh_31, sh_35, sh_5, pu_rv, pu_as, Value.category, pu_bk, pu_kl, List.replicate, pu_wi_1, pu_wi_2, nl_add, nl_ladd, nl_aa, nl_mul, nl_rmul, nl_mm, pu_qe0, pu_qe1, e1, t, f1, f2, f3, f4, g35, pd]
      all_goals try simp (maxSteps := 400000) (disch := omega) [nl_tle, nl_fle, nl_tlt, nl_flt, nl_teq, nl_feq, nl_sub, nl_ss, nl_lt, nl_llt, nl_ltt, nl_le, nl_lle, nl_lee, nl_eq, nl_leq, nl_ee, nl_div, nl_rem, nl_cl, nl_n1, nl_n2, nl_n3, nl_n4, nl_add, nl_ladd, nl_aa, nl_mul, nl_rmul, nl_mm, pu_wi_1, pu_wi_2, bX11_putExtra_0, bX11_putExtra_36, bX11_putExtra_113, bX11_putExtra_49, bX11_putExtra_81, a_ai, a_ald, a_cv, a_gr, a_ild, a_push, a_sw, a_vret, ag_31 hI, ag_35 hI, fx_0_1 hx, fx_0_2 hx, fx_31_4 hx, fx_5_4 hx, sh_0, sh_1, sh_3, sh_31, sh_35, sh_5, pu_rv, pu_as, Value.category, pu_bk, pu_kl, pu_qe0, pu_qe1, e1, t, f1, f2, f3, f4, g35, pd]
      all_goals try simp [bX11_putExtra_0, bX11_putExtra_36, bX11_putExtra_113, bX11_putExtra_49, bX11_putExtra_81, a_ai, a_ald, a_cv, a_gr, a_ild, a_push, a_sw, a_vret, ag_31 hI, ag_35 hI, fx_0_1 hx, fx_0_2 hx, fx_31_4 hx, fx_5_4 hx, sh_0, sh_1, sh_3, sh_31, sh_35, sh_5, pu_rv, pu_as, Value.category, pu_bk, pu_kl, List.replicate, pu_wi_1, pu_wi_2, nl_add, nl_ladd, nl_aa, nl_mul, nl_rmul, nl_mm, pu_qe0, pu_qe1, e1, t, f1, f2, f3, f4, g35, pd]
      all_goals try simp (maxSteps := 400000) (disch := omega) [nl_tle, nl_fle, nl_tlt, nl_flt, nl_teq, nl_feq, nl_sub, nl_ss, nl_lt, nl_llt, nl_ltt, nl_le, nl_lle, nl_lee, nl_eq, nl_leq, nl_ee, nl_div, nl_rem, nl_cl, nl_n1, nl_n2, nl_n3, nl_n4, nl_add, nl_ladd, nl_aa, nl_mul, nl_rmul, nl_mm, pu_wi_1, pu_wi_2, bX11_putExtra_0, bX11_putExtra_36, bX11_putExtra_113, bX11_putExtra_49, bX11_putExtra_81, a_ai, a_ald, a_cv, a_gr, a_ild, a_push, a_sw, a_vret, ag_31 hI, ag_35 hI, fx_0_1 hx, fx_0_2 hx, fx_31_4 hx, fx_5_4 hx, sh_0, sh_1, sh_3, sh_31, sh_35, sh_5, pu_rv, pu_as, Value.category, pu_bk, pu_kl, pu_qe0, pu_qe1, e1, t, f1, f2, f3, f4, g35, pd]
      all_goals try simp [bX11_putExtra_0, bX11_putExtra_36, bX11_putExtra_113, bX11_putExtra_49, bX11_putExtra_81, a_ai, a_ald, a_cv, a_gr, a_ild, a_push, a_sw, a_vret, ag_31 hI, ag_35 hI, fx_0_1 hx, fx_0_2 hx, fx_31_4 hx, fx_5_4 hx, sh_0, sh_1, sh_3, sh_31, sh_35, sh_5, pu_rv, pu_as, Value.category, pu_bk, pu_kl, List.replicate, pu_wi_1, pu_wi_2, nl_add, nl_ladd, nl_aa, nl_mul, nl_rmul, nl_mm, pu_qe0, pu_qe1, e1, t, f1, f2, f3, f4, g35, pd]
      all_goals try simp (maxSteps := 400000) (disch := omega) [nl_tle, nl_fle, nl_tlt, nl_flt, nl_teq, nl_feq, nl_sub, nl_ss, nl_lt, nl_llt, nl_ltt, nl_le, nl_lle, nl_lee, nl_eq, nl_leq, nl_ee, nl_div, nl_rem, nl_cl, nl_n1, nl_n2, nl_n3, nl_n4, nl_add, nl_ladd, nl_aa, nl_mul, nl_rmul, nl_mm, pu_wi_1, pu_wi_2, bX11_putExtra_0, bX11_putExtra_36, bX11_putExtra_113, bX11_putExtra_49, bX11_putExtra_81, a_ai, a_ald, a_cv, a_gr, a_ild, a_push, a_sw, a_vret, ag_31 hI, ag_35 hI, fx_0_1 hx, fx_0_2 hx, fx_31_4 hx, fx_5_4 hx, sh_0, sh_1, sh_3, sh_31, sh_35, sh_5, pu_rv, pu_as, Value.category, pu_bk, pu_kl, pu_qe0, pu_qe1, e1, t, f1, f2, f3, f4, g35, pd]
      all_goals try simp [bX11_putExtra_0, bX11_putExtra_36, bX11_putExtra_113, bX11_putExtra_49, bX11_putExtra_81, a_ai, a_ald, a_cv, a_gr, a_ild, a_push, a_sw, a_vret, ag_31 hI, ag_35 hI, fx_0_1 hx, fx_0_2 hx, fx_31_4 hx, fx_5_4 hx, sh_0, sh_1, sh_3, sh_31, sh_35, sh_5, pu_rv, pu_as, Value.category, pu_bk, pu_kl, List.replicate, pu_wi_1, pu_wi_2, nl_add, nl_ladd, nl_aa, nl_mul, nl_rmul, nl_mm, pu_qe0, pu_qe1, e1, t, f1, f2, f3, f4, g35, pd]
    · rw [if_neg c3]
      by_cases c4 : pu_srt I d = 4
      · rw [if_pos c4, pz_cw_app]
        rw [c4] at e1
        obtain ⟨k1, k2, k3⟩ := py_srt_k hw hd (Or.inr c4)
        have t := c_text3 hx n hn (by omega)
        have nq := py_cw_3 hn [32, 102, 108, 111, 111, 114, 32]
        have hxQ : pu_fx (pz_cw M n [32, 102, 108, 111, 111, 114, 32]) := pz_fx_of hx (pz_cw_2 _ _ _)
        have g35 : (pz_cw M n [32, 102, 108, 111, 111, 114, 32]).1 35 d = nI (I 35 d).toNatClampNeg := by
          rw [pz_cw_o _ _ _ _ _ (by omega) (by omega), hI 35 d (by omega) (by omega)]
          exact k1
        generalize pz_cw M n [32, 102, 108, 111, 111, 114, 32] = Q at *
        have pd := c_putDecimal hxQ _ nq (by simp; omega) (I 35 d).toNatClampNeg k2 (by omega)
        have f1 := fx_0_1 hxQ
        have f2 := fx_0_2 hxQ
        have f3 := fx_5_4 hxQ
        have f4 := fx_31_4 hxQ
        generalize [32, 102, 108, 111, 111, 114, (32 : Int32)].length = l7 at *
        rw [qX11_putExtra]
        simp [a_ent, bX11_putExtra_0, bX11_putExtra_36, bX11_putExtra_113, bX11_putExtra_49, bX11_putExtra_81, a_ai, a_ald, a_cv, a_gr, a_ild, a_push, a_sw, a_vret, ag_31 hI, ag_35 hI, fx_0_1 hx, fx_0_2 hx, fx_31_4 hx, fx_5_4 hx, sh_0, sh_1, sh_3, sh_31, sh_35, sh_5, pu_rv, pu_as, Value.category, pu_bk, pu_kl, List.replicate, pu_wi_1, pu_wi_2, nl_add, nl_ladd, nl_aa, nl_mul, nl_rmul, nl_mm, pu_qe0, pu_qe1, e1, t, f1, f2, f3, f4, g35, pd]
        all_goals try simp (maxSteps := 400000) (disch := omega) [nl_tle, nl_fle, nl_tlt, nl_flt, nl_teq, nl_feq, nl_sub, nl_ss, nl_lt, nl_llt, nl_ltt, nl_le, nl_lle, nl_lee, nl_eq, nl_leq, nl_ee, nl_div, nl_rem, nl_cl, nl_n1, nl_n2, nl_n3, nl_n4, nl_add, nl_ladd, nl_aa, nl_mul, nl_rmul, nl_mm, pu_wi_1, pu_wi_2, bX11_putExtra_0, bX11_putExtra_36, bX11_putExtra_113, bX11_putExtra_49, bX11_putExtra_81, a_ai, a_ald, a_cv, a_gr, a_ild, a_push, a_sw, a_vret, ag_31 hI, ag_35 hI, fx_0_1 hx, fx_0_2 hx, fx_31_4 hx, fx_5_4 hx, sh_0, sh_1, sh_3, sh_31, sh_35, sh_5, pu_rv, pu_as, Value.category, pu_bk, pu_kl, pu_qe0, pu_qe1, e1, t, f1, f2, f3, f4, g35, pd]
        all_goals try simp [bX11_putExtra_0, bX11_putExtra_36, bX11_putExtra_113, bX11_putExtra_49, bX11_putExtra_81, a_ai, a_ald, a_cv, a_gr, a_ild, a_push, a_sw, a_vret, ag_31 hI, ag_35 hI, fx_0_1 hx, fx_0_2 hx, fx_31_4 hx, fx_5_4 hx, sh_0, sh_1, sh_3, sh_31, sh_35, sh_5, pu_rv, pu_as, Value.category, pu_bk, pu_kl, List.replicate, pu_wi_1, pu_wi_2, nl_add, nl_ladd, nl_aa, nl_mul, nl_rmul, nl_mm, pu_qe0, pu_qe1, e1, t, f1, f2, f3, f4, g35, pd]
        all_goals try simp (maxSteps := 400000) (disch := omega) [nl_tle, nl_fle, nl_tlt, nl_flt, nl_teq, nl_feq, nl_sub, nl_ss, nl_lt, nl_llt, nl_ltt, nl_le, nl_lle, nl_lee, nl_eq, nl_leq, nl_ee, nl_div, nl_rem, nl_cl, nl_n1, nl_n2, nl_n3, nl_n4, nl_add, nl_ladd, nl_aa, nl_mul, nl_rmul, nl_mm, pu_wi_1, pu_wi_2, bX11_putExtra_0, bX11_putExtra_36, bX11_putExtra_113, bX11_putExtra_49, bX11_putExtra_81, a_ai, a_ald, a_cv, a_gr, a_ild, a_push, a_sw, a_vret, ag_31 hI, ag_35 hI, fx_0_1 hx, fx_0_2 hx, fx_31_4 hx, fx_5_4 hx, sh_0, sh_1, sh_3, sh_31, sh_35, sh_5, pu_rv, pu_as, Value.category, pu_bk, pu_kl, pu_qe0, pu_qe1, e1, t, f1, f2, f3, f4, g35, pd]
        all_goals try simp [bX11_putExtra_0, bX11_putExtra_36, bX11_putExtra_113, bX11_putExtra_49, bX11_putExtra_81, a_ai, a_ald, a_cv, a_gr, a_ild, a_push, a_sw, a_vret, ag_31 hI, ag_35 hI, fx_0_1 hx, fx_0_2 hx, fx_31_4 hx, fx_5_4 hx, sh_0, sh_1, sh_3, sh_31, sh_35, sh_5, pu_rv, pu_as, Value.category, pu_bk, pu_kl, List.replicate, pu_wi_1, pu_wi_2, nl_add, nl_ladd, nl_aa, nl_mul, nl_rmul, nl_mm, pu_qe0, pu_qe1, e1, t, f1, f2, f3, f4, g35, pd]
        all_goals try simp (maxSteps := 400000) (disch := omega) [nl_tle, nl_fle, nl_tlt, nl_flt, nl_teq, nl_feq, nl_sub, nl_ss, nl_lt, nl_llt, nl_ltt, nl_le, nl_lle, nl_lee, nl_eq, nl_leq, nl_ee, nl_div, nl_rem, nl_cl, nl_n1, nl_n2, nl_n3, nl_n4, nl_add, nl_ladd, nl_aa, nl_mul, nl_rmul, nl_mm, pu_wi_1, pu_wi_2, bX11_putExtra_0, bX11_putExtra_36, bX11_putExtra_113, bX11_putExtra_49, bX11_putExtra_81, a_ai, a_ald, a_cv, a_gr, a_ild, a_push, a_sw, a_vret, ag_31 hI, ag_35 hI, fx_0_1 hx, fx_0_2 hx, fx_31_4 hx, fx_5_4 hx, sh_0, sh_1, sh_3, sh_31, sh_35, sh_5, pu_rv, pu_as, Value.category, pu_bk, pu_kl, pu_qe0, pu_qe1, e1, t, f1, f2, f3, f4, g35, pd]
        all_goals try simp [bX11_putExtra_0, bX11_putExtra_36, bX11_putExtra_113, bX11_putExtra_49, bX11_putExtra_81, a_ai, a_ald, a_cv, a_gr, a_ild, a_push, a_sw, a_vret, ag_31 hI, ag_35 hI, fx_0_1 hx, fx_0_2 hx, fx_31_4 hx, fx_5_4 hx, sh_0, sh_1, sh_3, sh_31, sh_35, sh_5, pu_rv, pu_as, Value.category, pu_bk, pu_kl, List.replicate, pu_wi_1, pu_wi_2, nl_add, nl_ladd, nl_aa, nl_mul, nl_rmul, nl_mm, pu_qe0, pu_qe1, e1, t, f1, f2, f3, f4, g35, pd]
      · rw [if_neg c4]
        show _ = some (none, M)
        have v : pu_srt I d = 0 ∨ pu_srt I d = 1 := by
          unfold pu_srt at c2 c3 c4 ⊢
          by_cases z : I 38 d = -1
          · rw [if_pos z] at c2 c3 c4 ⊢
            rcases wx_ds hw d hd with y | y
            · exact Or.inl y
            · exfalso
              have q := pu_on (x := I 32 d) (n := 5) ⟨by omega, by omega⟩
              have : (I 32 d).toNatClampNeg = 2 ∨ (I 32 d).toNatClampNeg = 3 ∨ (I 32 d).toNatClampNeg = 4 := by
                have := pu_nnT (x := I 32 d) (by omega)
                omega
              rcases this with y | y | y
              · rw [y] at q; exact c2 q.1
              · rw [y] at q; exact c3 q.1
              · rw [y] at q; exact c4 q.1
          · rw [if_neg z]
            exact Or.inr rfl
        rcases v with v | v
        · rw [v] at e1
          rw [qX11_putExtra]
          simp [a_ent, bX11_putExtra_0, bX11_putExtra_36, bX11_putExtra_113, bX11_putExtra_49, bX11_putExtra_81, a_ai, a_ald, a_cv, a_gr, a_ild, a_push, a_sw, a_vret, ag_31 hI, ag_35 hI, fx_0_1 hx, fx_0_2 hx, fx_31_4 hx, fx_5_4 hx, sh_0, sh_1, sh_3, sh_31, sh_35, sh_5, pu_rv, pu_as, Value.category, pu_bk, pu_kl, List.replicate, pu_wi_1, pu_wi_2, nl_add, nl_ladd, nl_aa, nl_mul, nl_rmul, nl_mm, pu_qe0, pu_qe1, e1]
          all_goals try simp (maxSteps := 400000) (disch := omega) [nl_tle, nl_fle, nl_tlt, nl_flt, nl_teq, nl_feq, nl_sub, nl_ss, nl_lt, nl_llt, nl_ltt, nl_le, nl_lle, nl_lee, nl_eq, nl_leq, nl_ee, nl_div, nl_rem, nl_cl, nl_n1, nl_n2, nl_n3, nl_n4, nl_add, nl_ladd, nl_aa, nl_mul, nl_rmul, nl_mm, pu_wi_1, pu_wi_2, bX11_putExtra_0, bX11_putExtra_36, bX11_putExtra_113, bX11_putExtra_49, bX11_putExtra_81, a_ai, a_ald, a_cv, a_gr, a_ild, a_push, a_sw, a_vret, ag_31 hI, ag_35 hI, fx_0_1 hx, fx_0_2 hx, fx_31_4 hx, fx_5_4 hx, sh_0, sh_1, sh_3, sh_31, sh_35, sh_5, pu_rv, pu_as, Value.category, pu_bk, pu_kl, pu_qe0, pu_qe1, e1]
          all_goals try simp [bX11_putExtra_0, bX11_putExtra_36, bX11_putExtra_113, bX11_putExtra_49, bX11_putExtra_81, a_ai, a_ald, a_cv, a_gr, a_ild, a_push, a_sw, a_vret, ag_31 hI, ag_35 hI, fx_0_1 hx, fx_0_2 hx, fx_31_4 hx, fx_5_4 hx, sh_0, sh_1, sh_3, sh_31, sh_35, sh_5, pu_rv, pu_as, Value.category, pu_bk, pu_kl, List.replicate, pu_wi_1, pu_wi_2, nl_add, nl_ladd, nl_aa, nl_mul, nl_rmul, nl_mm, pu_qe0, pu_qe1, e1]
          all_goals try simp (maxSteps := 400000) (disch := omega) [nl_tle, nl_fle, nl_tlt, nl_flt, nl_teq, nl_feq, nl_sub, nl_ss, nl_lt, nl_llt, nl_ltt, nl_le, nl_lle, nl_lee, nl_eq, nl_leq, nl_ee, nl_div, nl_rem, nl_cl, nl_n1, nl_n2, nl_n3, nl_n4, nl_add, nl_ladd, nl_aa, nl_mul, nl_rmul, nl_mm, pu_wi_1, pu_wi_2, bX11_putExtra_0, bX11_putExtra_36, bX11_putExtra_113, bX11_putExtra_49, bX11_putExtra_81, a_ai, a_ald, a_cv, a_gr, a_ild, a_push, a_sw, a_vret, ag_31 hI, ag_35 hI, fx_0_1 hx, fx_0_2 hx, fx_31_4 hx, fx_5_4 hx, sh_0, sh_1, sh_3, sh_31, sh_35, sh_5, pu_rv, pu_as, Value.category, pu_bk, pu_kl, pu_qe0, pu_qe1, e1]
          all_goals try simp [bX11_putExtra_0, bX11_putExtra_36, bX11_putExtra_113, bX11_putExtra_49, bX11_putExtra_81, a_ai, a_ald, a_cv, a_gr, a_ild, a_push, a_sw, a_vret, ag_31 hI, ag_35 hI, fx_0_1 hx, fx_0_2 hx, fx_31_4 hx, fx_5_4 hx, sh_0, sh_1, sh_3, sh_31, sh_35, sh_5, pu_rv, pu_as, Value.category, pu_bk, pu_kl, List.replicate, pu_wi_1, pu_wi_2, nl_add, nl_ladd, nl_aa, nl_mul, nl_rmul, nl_mm, pu_qe0, pu_qe1, e1]
          all_goals try simp (maxSteps := 400000) (disch := omega) [nl_tle, nl_fle, nl_tlt, nl_flt, nl_teq, nl_feq, nl_sub, nl_ss, nl_lt, nl_llt, nl_ltt, nl_le, nl_lle, nl_lee, nl_eq, nl_leq, nl_ee, nl_div, nl_rem, nl_cl, nl_n1, nl_n2, nl_n3, nl_n4, nl_add, nl_ladd, nl_aa, nl_mul, nl_rmul, nl_mm, pu_wi_1, pu_wi_2, bX11_putExtra_0, bX11_putExtra_36, bX11_putExtra_113, bX11_putExtra_49, bX11_putExtra_81, a_ai, a_ald, a_cv, a_gr, a_ild, a_push, a_sw, a_vret, ag_31 hI, ag_35 hI, fx_0_1 hx, fx_0_2 hx, fx_31_4 hx, fx_5_4 hx, sh_0, sh_1, sh_3, sh_31, sh_35, sh_5, pu_rv, pu_as, Value.category, pu_bk, pu_kl, pu_qe0, pu_qe1, e1]
          all_goals try simp [bX11_putExtra_0, bX11_putExtra_36, bX11_putExtra_113, bX11_putExtra_49, bX11_putExtra_81, a_ai, a_ald, a_cv, a_gr, a_ild, a_push, a_sw, a_vret, ag_31 hI, ag_35 hI, fx_0_1 hx, fx_0_2 hx, fx_31_4 hx, fx_5_4 hx, sh_0, sh_1, sh_3, sh_31, sh_35, sh_5, pu_rv, pu_as, Value.category, pu_bk, pu_kl, List.replicate, pu_wi_1, pu_wi_2, nl_add, nl_ladd, nl_aa, nl_mul, nl_rmul, nl_mm, pu_qe0, pu_qe1, e1]
        · rw [v] at e1
          rw [qX11_putExtra]
          simp [a_ent, bX11_putExtra_0, bX11_putExtra_36, bX11_putExtra_113, bX11_putExtra_49, bX11_putExtra_81, a_ai, a_ald, a_cv, a_gr, a_ild, a_push, a_sw, a_vret, ag_31 hI, ag_35 hI, fx_0_1 hx, fx_0_2 hx, fx_31_4 hx, fx_5_4 hx, sh_0, sh_1, sh_3, sh_31, sh_35, sh_5, pu_rv, pu_as, Value.category, pu_bk, pu_kl, List.replicate, pu_wi_1, pu_wi_2, nl_add, nl_ladd, nl_aa, nl_mul, nl_rmul, nl_mm, pu_qe0, pu_qe1, e1]
          all_goals try simp (maxSteps := 400000) (disch := omega) [nl_tle, nl_fle, nl_tlt, nl_flt, nl_teq, nl_feq, nl_sub, nl_ss, nl_lt, nl_llt, nl_ltt, nl_le, nl_lle, nl_lee, nl_eq, nl_leq, nl_ee, nl_div, nl_rem, nl_cl, nl_n1, nl_n2, nl_n3, nl_n4, nl_add, nl_ladd, nl_aa, nl_mul, nl_rmul, nl_mm, pu_wi_1, pu_wi_2, bX11_putExtra_0, bX11_putExtra_36, bX11_putExtra_113, bX11_putExtra_49, bX11_putExtra_81, a_ai, a_ald, a_cv, a_gr, a_ild, a_push, a_sw, a_vret, ag_31 hI, ag_35 hI, fx_0_1 hx, fx_0_2 hx, fx_31_4 hx, fx_5_4 hx, sh_0, sh_1, sh_3, sh_31, sh_35, sh_5, pu_rv, pu_as, Value.category, pu_bk, pu_kl, pu_qe0, pu_qe1, e1]
          all_goals try simp [bX11_putExtra_0, bX11_putExtra_36, bX11_putExtra_113, bX11_putExtra_49, bX11_putExtra_81, a_ai, a_ald, a_cv, a_gr, a_ild, a_push, a_sw, a_vret, ag_31 hI, ag_35 hI, fx_0_1 hx, fx_0_2 hx, fx_31_4 hx, fx_5_4 hx, sh_0, sh_1, sh_3, sh_31, sh_35, sh_5, pu_rv, pu_as, Value.category, pu_bk, pu_kl, List.replicate, pu_wi_1, pu_wi_2, nl_add, nl_ladd, nl_aa, nl_mul, nl_rmul, nl_mm, pu_qe0, pu_qe1, e1]
          all_goals try simp (maxSteps := 400000) (disch := omega) [nl_tle, nl_fle, nl_tlt, nl_flt, nl_teq, nl_feq, nl_sub, nl_ss, nl_lt, nl_llt, nl_ltt, nl_le, nl_lle, nl_lee, nl_eq, nl_leq, nl_ee, nl_div, nl_rem, nl_cl, nl_n1, nl_n2, nl_n3, nl_n4, nl_add, nl_ladd, nl_aa, nl_mul, nl_rmul, nl_mm, pu_wi_1, pu_wi_2, bX11_putExtra_0, bX11_putExtra_36, bX11_putExtra_113, bX11_putExtra_49, bX11_putExtra_81, a_ai, a_ald, a_cv, a_gr, a_ild, a_push, a_sw, a_vret, ag_31 hI, ag_35 hI, fx_0_1 hx, fx_0_2 hx, fx_31_4 hx, fx_5_4 hx, sh_0, sh_1, sh_3, sh_31, sh_35, sh_5, pu_rv, pu_as, Value.category, pu_bk, pu_kl, pu_qe0, pu_qe1, e1]
          all_goals try simp [bX11_putExtra_0, bX11_putExtra_36, bX11_putExtra_113, bX11_putExtra_49, bX11_putExtra_81, a_ai, a_ald, a_cv, a_gr, a_ild, a_push, a_sw, a_vret, ag_31 hI, ag_35 hI, fx_0_1 hx, fx_0_2 hx, fx_31_4 hx, fx_5_4 hx, sh_0, sh_1, sh_3, sh_31, sh_35, sh_5, pu_rv, pu_as, Value.category, pu_bk, pu_kl, List.replicate, pu_wi_1, pu_wi_2, nl_add, nl_ladd, nl_aa, nl_mul, nl_rmul, nl_mm, pu_qe0, pu_qe1, e1]
          all_goals try simp (maxSteps := 400000) (disch := omega) [nl_tle, nl_fle, nl_tlt, nl_flt, nl_teq, nl_feq, nl_sub, nl_ss, nl_lt, nl_llt, nl_ltt, nl_le, nl_lle, nl_lee, nl_eq, nl_leq, nl_ee, nl_div, nl_rem, nl_cl, nl_n1, nl_n2, nl_n3, nl_n4, nl_add, nl_ladd, nl_aa, nl_mul, nl_rmul, nl_mm, pu_wi_1, pu_wi_2, bX11_putExtra_0, bX11_putExtra_36, bX11_putExtra_113, bX11_putExtra_49, bX11_putExtra_81, a_ai, a_ald, a_cv, a_gr, a_ild, a_push, a_sw, a_vret, ag_31 hI, ag_35 hI, fx_0_1 hx, fx_0_2 hx, fx_31_4 hx, fx_5_4 hx, sh_0, sh_1, sh_3, sh_31, sh_35, sh_5, pu_rv, pu_as, Value.category, pu_bk, pu_kl, pu_qe0, pu_qe1, e1]
          all_goals try simp [bX11_putExtra_0, bX11_putExtra_36, bX11_putExtra_113, bX11_putExtra_49, bX11_putExtra_81, a_ai, a_ald, a_cv, a_gr, a_ild, a_push, a_sw, a_vret, ag_31 hI, ag_35 hI, fx_0_1 hx, fx_0_2 hx, fx_31_4 hx, fx_5_4 hx, sh_0, sh_1, sh_3, sh_31, sh_35, sh_5, pu_rv, pu_as, Value.category, pu_bk, pu_kl, List.replicate, pu_wi_1, pu_wi_2, nl_add, nl_ladd, nl_aa, nl_mul, nl_rmul, nl_mm, pu_qe0, pu_qe1, e1]
end
