/-! seeking: the first of n from i on for which c holds, or -1 -/
noncomputable def pu_f1 (c : Nat → Prop) : Nat → Nat → Int32
  | 0, _ => -1
  | m + 1, i => @ite Int32 (c i) (Classical.propDecidable _) (nI i) (pu_f1 c m (i + 1))
theorem pu_f1_t {c : Nat → Prop} {m i : Nat} (h : c i) : pu_f1 c (m + 1) i = nI i := by
  unfold pu_f1
  rw [if_pos h]
theorem pu_f1_f {c : Nat → Prop} {m i : Nat} (h : ¬ c i) : pu_f1 c (m + 1) i = pu_f1 c m (i + 1) := by
  rw [pu_f1]
  rw [if_neg h]
theorem pu_f1_spec (c : Nat → Prop) : ∀ m i, (pu_f1 c m i = -1 ∧ ∀ j, i ≤ j → j < i + m → ¬ c j) ∨ ∃ j, i ≤ j ∧ j < i + m ∧ pu_f1 c m i = nI j ∧ c j ∧ ∀ l, i ≤ l → l < j → ¬ c l
  | 0, i => Or.inl ⟨rfl, fun j h1 h2 => by omega⟩
  | m + 1, i => by
    by_cases h : c i
    · exact Or.inr ⟨i, by omega, by omega, pu_f1_t h, h, fun l h1 h2 => by omega⟩
    · rw [pu_f1_f h]
      rcases pu_f1_spec c m (i + 1) with ⟨h1, h2⟩ | ⟨j, h1, h2, h3, h4, h5⟩
      · exact Or.inl ⟨h1, fun j a b => by
          by_cases e : j = i
          · rw [e]; exact h
          · exact h2 j (by omega) (by omega)⟩
      · exact Or.inr ⟨j, by omega, by omega, h3, h4, fun l a b => by
          by_cases e : l = i
          · rw [e]; exact h
          · exact h5 l (by omega) (by omega)⟩
section
variable {M : pu_M} {I : Nat → Nat → Int32} {L : Nat → Nat → Int64}
/-- span k of slot a holds on day y -/
def pu_sh1 (I : Nat → Nat → Int32) (y : Int32) (k : Nat) : Prop := pu_hd I (I 17 k).toNatClampNeg (I 18 k) y
theorem c_uholds (hx : pu_fx M) (hI : pu_ag M I) (hw : pu_WF I L) (y : Int32) (k : Nat) (hk : k < cU I) : pu_r 68 [some (.ref 6), some (.int (I 17 k)), some (.int (I 18 k)), some (.int y)] [] M = some (some (.int (pu_q (pu_sh1 I y k))), M) := by
  obtain ⟨o1, o2⟩ := pu_on (wx_uo hw k hk)
  have c1 := pu_cw ⟨(wx_uc hw k hk).1, (wx_uc hw k hk).2.1⟩
  have g := c_holds hx hI hw _ o2 (I 18 k) y c1
  rw [← o1] at g
  exact g
theorem r_uholds (hx : pu_fx M) (hr : pu_Rel I L (M.1 72)) (hw : pu_WF I L) (y : Int32) (k : Nat) (hk : k < cU I) : pu_r 239 [some (.ref 71), some (.int (I 17 k)), some (.int (I 18 k)), some (.int y)] [] M = some (some (.int (pu_q (pu_sh1 I y k))), M) := by
  obtain ⟨o1, o2⟩ := pu_on (wx_uo hw k hk)
  have c1 := pu_cw ⟨(wx_uc hw k hk).1, (wx_uc hw k hk).2.1⟩
  have g := r_holds hx hr hw _ o2 (I 18 k) y c1
  rw [← o1] at g
  exact g
theorem c_holding_l (hx : pu_fx M) (hI : pu_ag M I) (hw : pu_WF I L) (a y : Int32) : ∀ m i x, x = nI i → i + m = cU I → pu_r 393 [some (.ref 14), some (.int a), some (.int y), some (.ref 6), some (.int x)] [] M = some (some (.int (pu_f1 (fun k => I 15 k = a ∧ pu_sh1 I y k) m i)), M)
  | 0, i, x, hi, h => by
    subst hi
    have hb := wx_bU hw
    have hn := wx_cU hw
    have hc : nI (cU I) ≤ nI i := nI_le (by omega) (by omega)
    rw [qX4_holding_3]
    simp [bX4_holding_3, bX4_holding_54, bX4_holding_48, a_ai, a_ald, a_cv, a_gi, a_gr, a_icge, a_icne, a_ifeq, a_ild, a_inc, a_iret, a_push, ag_14 hI, ag_15 hI, ag_17 hI, ag_18 hI, fx_14_1 hx, fx_14_3 hx, fx_14_4 hx, sh_14, sh_15, sh_17, sh_18, sh_6, pu_rv, pu_as, Value.category, pu_bk, pu_kl, List.replicate, pu_wi_1, pu_wi_2, nl_add, nl_ladd, nl_aa, nl_mul, nl_rmul, nl_mm, pu_qe0, pu_qe1, hn, hc, pu_f1]
    all_goals try simp (maxSteps := 400000) (disch := omega) [nl_tle, nl_fle, nl_tlt, nl_flt, nl_teq, nl_feq, nl_sub, nl_ss, nl_lt, nl_llt, nl_ltt, nl_le, nl_lle, nl_lee, nl_eq, nl_leq, nl_ee, nl_div, nl_rem, nl_cl, nl_n1, nl_n2, nl_n3, nl_n4, nl_add, nl_ladd, nl_aa, nl_mul, nl_rmul, nl_mm, pu_wi_1, pu_wi_2, bX4_holding_3, bX4_holding_54, bX4_holding_48, a_ai, a_ald, a_cv, a_gi, a_gr, a_icge, a_icne, a_ifeq, a_ild, a_inc, a_iret, a_push, ag_14 hI, ag_15 hI, ag_17 hI, ag_18 hI, fx_14_1 hx, fx_14_3 hx, fx_14_4 hx, sh_14, sh_15, sh_17, sh_18, sh_6, pu_rv, pu_as, Value.category, pu_bk, pu_kl, pu_qe0, pu_qe1, hn, hc, pu_f1]
    all_goals try simp [bX4_holding_3, bX4_holding_54, bX4_holding_48, a_ai, a_ald, a_cv, a_gi, a_gr, a_icge, a_icne, a_ifeq, a_ild, a_inc, a_iret, a_push, ag_14 hI, ag_15 hI, ag_17 hI, ag_18 hI, fx_14_1 hx, fx_14_3 hx, fx_14_4 hx, sh_14, sh_15, sh_17, sh_18, sh_6, pu_rv, pu_as, Value.category, pu_bk, pu_kl, List.replicate, pu_wi_1, pu_wi_2, nl_add, nl_ladd, nl_aa, nl_mul, nl_rmul, nl_mm, pu_qe0, pu_qe1, hn, hc, pu_f1]
    all_goals try simp (maxSteps := 400000) (disch := omega) [nl_tle, nl_fle, nl_tlt, nl_flt, nl_teq, nl_feq, nl_sub, nl_ss, nl_lt, nl_llt, nl_ltt, nl_le, nl_lle, nl_lee, nl_eq, nl_leq, nl_ee, nl_div, nl_rem, nl_cl, nl_n1, nl_n2, nl_n3, nl_n4, nl_add, nl_ladd, nl_aa, nl_mul, nl_rmul, nl_mm, pu_wi_1, pu_wi_2, bX4_holding_3, bX4_holding_54, bX4_holding_48, a_ai, a_ald, a_cv, a_gi, a_gr, a_icge, a_icne, a_ifeq, a_ild, a_inc, a_iret, a_push, ag_14 hI, ag_15 hI, ag_17 hI, ag_18 hI, fx_14_1 hx, fx_14_3 hx, fx_14_4 hx, sh_14, sh_15, sh_17, sh_18, sh_6, pu_rv, pu_as, Value.category, pu_bk, pu_kl, pu_qe0, pu_qe1, hn, hc, pu_f1]
  | m + 1, i, x, hi, h => by
    subst hi
    have hb := wx_bU hw
    have hn := wx_cU hw
    have hc : ¬ nI (cU I) ≤ nI i := nI_ge (by omega) (by omega)
    have ih := c_holding_l hx hI hw a y m (i + 1) _ rfl (by omega)
    have g := c_uholds hx hI hw y i (by omega)
    by_cases c1 : I 15 i = a ∧ pu_sh1 I y i
    · rw [pu_f1_t c1]
      rw [pu_q1 c1.2] at g
      rw [qX4_holding_3]
      simp [bX4_holding_3, bX4_holding_54, bX4_holding_48, a_ai, a_ald, a_cv, a_gi, a_gr, a_icge, a_icne, a_ifeq, a_ild, a_inc, a_iret, a_push, ag_14 hI, ag_15 hI, ag_17 hI, ag_18 hI, fx_14_1 hx, fx_14_3 hx, fx_14_4 hx, sh_14, sh_15, sh_17, sh_18, sh_6, pu_rv, pu_as, Value.category, pu_bk, pu_kl, List.replicate, pu_wi_1, pu_wi_2, nl_add, nl_ladd, nl_aa, nl_mul, nl_rmul, nl_mm, pu_qe0, pu_qe1, hn, hc, g, c1.1, sh_6]
      all_goals try simp (maxSteps := 400000) (disch := omega) [nl_tle, nl_fle, nl_tlt, nl_flt, nl_teq, nl_feq, nl_sub, nl_ss, nl_lt, nl_llt, nl_ltt, nl_le, nl_lle, nl_lee, nl_eq, nl_leq, nl_ee, nl_div, nl_rem, nl_cl, nl_n1, nl_n2, nl_n3, nl_n4, nl_add, nl_ladd, nl_aa, nl_mul, nl_rmul, nl_mm, pu_wi_1, pu_wi_2, bX4_holding_3, bX4_holding_54, bX4_holding_48, a_ai, a_ald, a_cv, a_gi, a_gr, a_icge, a_icne, a_ifeq, a_ild, a_inc, a_iret, a_push, ag_14 hI, ag_15 hI, ag_17 hI, ag_18 hI, fx_14_1 hx, fx_14_3 hx, fx_14_4 hx, sh_14, sh_15, sh_17, sh_18, sh_6, pu_rv, pu_as, Value.category, pu_bk, pu_kl, pu_qe0, pu_qe1, hn, hc, g, c1.1, sh_6]
      all_goals try simp [bX4_holding_3, bX4_holding_54, bX4_holding_48, a_ai, a_ald, a_cv, a_gi, a_gr, a_icge, a_icne, a_ifeq, a_ild, a_inc, a_iret, a_push, ag_14 hI, ag_15 hI, ag_17 hI, ag_18 hI, fx_14_1 hx, fx_14_3 hx, fx_14_4 hx, sh_14, sh_15, sh_17, sh_18, sh_6, pu_rv, pu_as, Value.category, pu_bk, pu_kl, List.replicate, pu_wi_1, pu_wi_2, nl_add, nl_ladd, nl_aa, nl_mul, nl_rmul, nl_mm, pu_qe0, pu_qe1, hn, hc, g, c1.1, sh_6]
      all_goals try simp (maxSteps := 400000) (disch := omega) [nl_tle, nl_fle, nl_tlt, nl_flt, nl_teq, nl_feq, nl_sub, nl_ss, nl_lt, nl_llt, nl_ltt, nl_le, nl_lle, nl_lee, nl_eq, nl_leq, nl_ee, nl_div, nl_rem, nl_cl, nl_n1, nl_n2, nl_n3, nl_n4, nl_add, nl_ladd, nl_aa, nl_mul, nl_rmul, nl_mm, pu_wi_1, pu_wi_2, bX4_holding_3, bX4_holding_54, bX4_holding_48, a_ai, a_ald, a_cv, a_gi, a_gr, a_icge, a_icne, a_ifeq, a_ild, a_inc, a_iret, a_push, ag_14 hI, ag_15 hI, ag_17 hI, ag_18 hI, fx_14_1 hx, fx_14_3 hx, fx_14_4 hx, sh_14, sh_15, sh_17, sh_18, sh_6, pu_rv, pu_as, Value.category, pu_bk, pu_kl, pu_qe0, pu_qe1, hn, hc, g, c1.1, sh_6]
    · rw [pu_f1_f c1]
      by_cases c2 : I 15 i = a
      · rw [pu_q0 (fun q => c1 ⟨c2, q⟩)] at g
        rw [qX4_holding_3]
        simp [bX4_holding_3, bX4_holding_54, bX4_holding_48, a_ai, a_ald, a_cv, a_gi, a_gr, a_icge, a_icne, a_ifeq, a_ild, a_inc, a_iret, a_push, ag_14 hI, ag_15 hI, ag_17 hI, ag_18 hI, fx_14_1 hx, fx_14_3 hx, fx_14_4 hx, sh_14, sh_15, sh_17, sh_18, sh_6, pu_rv, pu_as, Value.category, pu_bk, pu_kl, List.replicate, pu_wi_1, pu_wi_2, nl_add, nl_ladd, nl_aa, nl_mul, nl_rmul, nl_mm, pu_qe0, pu_qe1, hn, hc, g, c2, ih, sh_6]
        all_goals try simp (maxSteps := 400000) (disch := omega) [nl_tle, nl_fle, nl_tlt, nl_flt, nl_teq, nl_feq, nl_sub, nl_ss, nl_lt, nl_llt, nl_ltt, nl_le, nl_lle, nl_lee, nl_eq, nl_leq, nl_ee, nl_div, nl_rem, nl_cl, nl_n1, nl_n2, nl_n3, nl_n4, nl_add, nl_ladd, nl_aa, nl_mul, nl_rmul, nl_mm, pu_wi_1, pu_wi_2, bX4_holding_3, bX4_holding_54, bX4_holding_48, a_ai, a_ald, a_cv, a_gi, a_gr, a_icge, a_icne, a_ifeq, a_ild, a_inc, a_iret, a_push, ag_14 hI, ag_15 hI, ag_17 hI, ag_18 hI, fx_14_1 hx, fx_14_3 hx, fx_14_4 hx, sh_14, sh_15, sh_17, sh_18, sh_6, pu_rv, pu_as, Value.category, pu_bk, pu_kl, pu_qe0, pu_qe1, hn, hc, g, c2, ih, sh_6]
        all_goals try simp [bX4_holding_3, bX4_holding_54, bX4_holding_48, a_ai, a_ald, a_cv, a_gi, a_gr, a_icge, a_icne, a_ifeq, a_ild, a_inc, a_iret, a_push, ag_14 hI, ag_15 hI, ag_17 hI, ag_18 hI, fx_14_1 hx, fx_14_3 hx, fx_14_4 hx, sh_14, sh_15, sh_17, sh_18, sh_6, pu_rv, pu_as, Value.category, pu_bk, pu_kl, List.replicate, pu_wi_1, pu_wi_2, nl_add, nl_ladd, nl_aa, nl_mul, nl_rmul, nl_mm, pu_qe0, pu_qe1, hn, hc, g, c2, ih, sh_6]
        all_goals try simp (maxSteps := 400000) (disch := omega) [nl_tle, nl_fle, nl_tlt, nl_flt, nl_teq, nl_feq, nl_sub, nl_ss, nl_lt, nl_llt, nl_ltt, nl_le, nl_lle, nl_lee, nl_eq, nl_leq, nl_ee, nl_div, nl_rem, nl_cl, nl_n1, nl_n2, nl_n3, nl_n4, nl_add, nl_ladd, nl_aa, nl_mul, nl_rmul, nl_mm, pu_wi_1, pu_wi_2, bX4_holding_3, bX4_holding_54, bX4_holding_48, a_ai, a_ald, a_cv, a_gi, a_gr, a_icge, a_icne, a_ifeq, a_ild, a_inc, a_iret, a_push, ag_14 hI, ag_15 hI, ag_17 hI, ag_18 hI, fx_14_1 hx, fx_14_3 hx, fx_14_4 hx, sh_14, sh_15, sh_17, sh_18, sh_6, pu_rv, pu_as, Value.category, pu_bk, pu_kl, pu_qe0, pu_qe1, hn, hc, g, c2, ih, sh_6]
      · rw [qX4_holding_3]
        simp [bX4_holding_3, bX4_holding_54, bX4_holding_48, a_ai, a_ald, a_cv, a_gi, a_gr, a_icge, a_icne, a_ifeq, a_ild, a_inc, a_iret, a_push, ag_14 hI, ag_15 hI, ag_17 hI, ag_18 hI, fx_14_1 hx, fx_14_3 hx, fx_14_4 hx, sh_14, sh_15, sh_17, sh_18, sh_6, pu_rv, pu_as, Value.category, pu_bk, pu_kl, List.replicate, pu_wi_1, pu_wi_2, nl_add, nl_ladd, nl_aa, nl_mul, nl_rmul, nl_mm, pu_qe0, pu_qe1, hn, hc, c2, ih]
        all_goals try simp (maxSteps := 400000) (disch := omega) [nl_tle, nl_fle, nl_tlt, nl_flt, nl_teq, nl_feq, nl_sub, nl_ss, nl_lt, nl_llt, nl_ltt, nl_le, nl_lle, nl_lee, nl_eq, nl_leq, nl_ee, nl_div, nl_rem, nl_cl, nl_n1, nl_n2, nl_n3, nl_n4, nl_add, nl_ladd, nl_aa, nl_mul, nl_rmul, nl_mm, pu_wi_1, pu_wi_2, bX4_holding_3, bX4_holding_54, bX4_holding_48, a_ai, a_ald, a_cv, a_gi, a_gr, a_icge, a_icne, a_ifeq, a_ild, a_inc, a_iret, a_push, ag_14 hI, ag_15 hI, ag_17 hI, ag_18 hI, fx_14_1 hx, fx_14_3 hx, fx_14_4 hx, sh_14, sh_15, sh_17, sh_18, sh_6, pu_rv, pu_as, Value.category, pu_bk, pu_kl, pu_qe0, pu_qe1, hn, hc, c2, ih]
        all_goals try simp [bX4_holding_3, bX4_holding_54, bX4_holding_48, a_ai, a_ald, a_cv, a_gi, a_gr, a_icge, a_icne, a_ifeq, a_ild, a_inc, a_iret, a_push, ag_14 hI, ag_15 hI, ag_17 hI, ag_18 hI, fx_14_1 hx, fx_14_3 hx, fx_14_4 hx, sh_14, sh_15, sh_17, sh_18, sh_6, pu_rv, pu_as, Value.category, pu_bk, pu_kl, List.replicate, pu_wi_1, pu_wi_2, nl_add, nl_ladd, nl_aa, nl_mul, nl_rmul, nl_mm, pu_qe0, pu_qe1, hn, hc, c2, ih]
        all_goals try simp (maxSteps := 400000) (disch := omega) [nl_tle, nl_fle, nl_tlt, nl_flt, nl_teq, nl_feq, nl_sub, nl_ss, nl_lt, nl_llt, nl_ltt, nl_le, nl_lle, nl_lee, nl_eq, nl_leq, nl_ee, nl_div, nl_rem, nl_cl, nl_n1, nl_n2, nl_n3, nl_n4, nl_add, nl_ladd, nl_aa, nl_mul, nl_rmul, nl_mm, pu_wi_1, pu_wi_2, bX4_holding_3, bX4_holding_54, bX4_holding_48, a_ai, a_ald, a_cv, a_gi, a_gr, a_icge, a_icne, a_ifeq, a_ild, a_inc, a_iret, a_push, ag_14 hI, ag_15 hI, ag_17 hI, ag_18 hI, fx_14_1 hx, fx_14_3 hx, fx_14_4 hx, sh_14, sh_15, sh_17, sh_18, sh_6, pu_rv, pu_as, Value.category, pu_bk, pu_kl, pu_qe0, pu_qe1, hn, hc, c2, ih]
theorem c_holding (hx : pu_fx M) (hI : pu_ag M I) (hw : pu_WF I L) (a y : Int32) : pu_r 147 [some (.ref 14), some (.int a), some (.int y), some (.ref 6)] [] M = some (some (.int (pu_f1 (fun k => I 15 k = a ∧ pu_sh1 I y k) (cU I) 0)), M) := by
  have e := c_holding_l hx hI hw a y (cU I) 0 0 rfl (by omega)
  rw [qX4_holding]
  simp [a_ent, bX4_holding_0, a_ist, a_push, pu_rv, pu_as, Value.category, pu_bk, pu_kl, List.replicate, pu_wi_1, pu_wi_2, nl_add, nl_ladd, nl_aa, nl_mul, nl_rmul, nl_mm, pu_qe0, pu_qe1, e]
  all_goals try simp (maxSteps := 400000) (disch := omega) [nl_tle, nl_fle, nl_tlt, nl_flt, nl_teq, nl_feq, nl_sub, nl_ss, nl_lt, nl_llt, nl_ltt, nl_le, nl_lle, nl_lee, nl_eq, nl_leq, nl_ee, nl_div, nl_rem, nl_cl, nl_n1, nl_n2, nl_n3, nl_n4, nl_add, nl_ladd, nl_aa, nl_mul, nl_rmul, nl_mm, pu_wi_1, pu_wi_2, bX4_holding_0, a_ist, a_push, pu_rv, pu_as, Value.category, pu_bk, pu_kl, pu_qe0, pu_qe1, e]
  all_goals try simp [bX4_holding_0, a_ist, a_push, pu_rv, pu_as, Value.category, pu_bk, pu_kl, List.replicate, pu_wi_1, pu_wi_2, nl_add, nl_ladd, nl_aa, nl_mul, nl_rmul, nl_mm, pu_qe0, pu_qe1, e]
  all_goals try simp (maxSteps := 400000) (disch := omega) [nl_tle, nl_fle, nl_tlt, nl_flt, nl_teq, nl_feq, nl_sub, nl_ss, nl_lt, nl_llt, nl_ltt, nl_le, nl_lle, nl_lee, nl_eq, nl_leq, nl_ee, nl_div, nl_rem, nl_cl, nl_n1, nl_n2, nl_n3, nl_n4, nl_add, nl_ladd, nl_aa, nl_mul, nl_rmul, nl_mm, pu_wi_1, pu_wi_2, bX4_holding_0, a_ist, a_push, pu_rv, pu_as, Value.category, pu_bk, pu_kl, pu_qe0, pu_qe1, e]
/-- a span's slot as door and place -/
theorem pu_slot (hw : pu_WF I L) {k d w : Nat} (hk : k < cU I) (hw2 : w < 2) (hd : d < 1000) : (I 15 k = nI (2 * d + w)) = ((I 15 k).toNatClampNeg / 2 = d ∧ (I 15 k).toNatClampNeg % 2 = w) := by
  have h1 := wx_us hw k hk
  have h2 := pu_on (x := I 15 k) (n := 2 * cD I) ⟨h1.1, by omega⟩
  have hb := wx_bD hw
  apply propext
  constructor
  · intro e
    rw [e, nI_clamp (by omega)]
    omega
  · intro e
    rw [h2.1]
    congr 1
    omega
theorem r_spanOn_l (hx : pu_fx M) (hr : pu_Rel I L (M.1 72)) (hw : pu_WF I L) (f w : Nat) (hf : f < cD I) (hw2 : w < 2) (d y : Int32) : ∀ m i x t, x = nI i → i + m = cU I → pu_r 506 [some (.ref 71), some (.int d), some (.int (nI w)), some (.int y), some (.int (nI f)), some (.int x), t] [] M = some (some (.int (pu_f1 (fun k => I 15 k = nI (2 * f + w) ∧ pu_sh1 I y k) m i)), M)
  | 0, i, x, t, hi, h => by
    subst hi
    have hb := wx_bU hw
    have hc : nI (cU I) ≤ nI i := nI_le (by omega) (by omega)
    rw [qX12_spanOn_27]
    simp [bX12_spanOn_27, bX12_spanOn_110, bX12_spanOn_104, bX12_spanOn_71, a_ai, a_ald, a_cv, a_gr, a_iadd, a_icge, a_icne, a_ifeq, a_ild, a_imul, a_inc, a_iret, a_ist, a_push, fx_71_0 hx, sh_71, sh_72, pu_rv, pu_as, Value.category, pu_bk, pu_kl, List.replicate, pu_wi_1, pu_wi_2, nl_add, nl_ladd, nl_aa, nl_mul, nl_rmul, nl_mm, pu_qe0, pu_qe1, rl_h6 hr, hc, pu_f1]
    all_goals try simp (maxSteps := 400000) (disch := omega) [nl_tle, nl_fle, nl_tlt, nl_flt, nl_teq, nl_feq, nl_sub, nl_ss, nl_lt, nl_llt, nl_ltt, nl_le, nl_lle, nl_lee, nl_eq, nl_leq, nl_ee, nl_div, nl_rem, nl_cl, nl_n1, nl_n2, nl_n3, nl_n4, nl_add, nl_ladd, nl_aa, nl_mul, nl_rmul, nl_mm, pu_wi_1, pu_wi_2, bX12_spanOn_27, bX12_spanOn_110, bX12_spanOn_104, bX12_spanOn_71, a_ai, a_ald, a_cv, a_gr, a_iadd, a_icge, a_icne, a_ifeq, a_ild, a_imul, a_inc, a_iret, a_ist, a_push, fx_71_0 hx, sh_71, sh_72, pu_rv, pu_as, Value.category, pu_bk, pu_kl, pu_qe0, pu_qe1, rl_h6 hr, hc, pu_f1]
    all_goals try simp [bX12_spanOn_27, bX12_spanOn_110, bX12_spanOn_104, bX12_spanOn_71, a_ai, a_ald, a_cv, a_gr, a_iadd, a_icge, a_icne, a_ifeq, a_ild, a_imul, a_inc, a_iret, a_ist, a_push, fx_71_0 hx, sh_71, sh_72, pu_rv, pu_as, Value.category, pu_bk, pu_kl, List.replicate, pu_wi_1, pu_wi_2, nl_add, nl_ladd, nl_aa, nl_mul, nl_rmul, nl_mm, pu_qe0, pu_qe1, rl_h6 hr, hc, pu_f1]
    all_goals try simp (maxSteps := 400000) (disch := omega) [nl_tle, nl_fle, nl_tlt, nl_flt, nl_teq, nl_feq, nl_sub, nl_ss, nl_lt, nl_llt, nl_ltt, nl_le, nl_lle, nl_lee, nl_eq, nl_leq, nl_ee, nl_div, nl_rem, nl_cl, nl_n1, nl_n2, nl_n3, nl_n4, nl_add, nl_ladd, nl_aa, nl_mul, nl_rmul, nl_mm, pu_wi_1, pu_wi_2, bX12_spanOn_27, bX12_spanOn_110, bX12_spanOn_104, bX12_spanOn_71, a_ai, a_ald, a_cv, a_gr, a_iadd, a_icge, a_icne, a_ifeq, a_ild, a_imul, a_inc, a_iret, a_ist, a_push, fx_71_0 hx, sh_71, sh_72, pu_rv, pu_as, Value.category, pu_bk, pu_kl, pu_qe0, pu_qe1, rl_h6 hr, hc, pu_f1]
  | m + 1, i, x, t, hi, h => by
    subst hi
    have hb := wx_bU hw
    have hD := wx_bD hw
    have hs := wx_us hw i (by omega)
    have hs2 := pu_on (x := I 15 i) (n := 2 * cD I) ⟨hs.1, by omega⟩
    have hc : ¬ nI (cU I) ≤ nI i := nI_ge (by omega) (by omega)
    have ih := fun t => r_spanOn_l hx hr hw f w hf hw2 d y m (i + 1) _ t rfl (by omega)
    have g := r_uholds hx hr hw y i (by omega)
    have es := pu_slot hw (k := i) (d := f) (w := w) (by omega) hw2 (by omega)
    by_cases c1 : I 15 i = nI (2 * f + w) ∧ pu_sh1 I y i
    · rw [pu_f1_t c1]
      rw [pu_q1 c1.2] at g
      have c3 := c1.1
      rw [es] at c3
      rw [qX12_spanOn_27]
      simp [bX12_spanOn_27, bX12_spanOn_110, bX12_spanOn_104, bX12_spanOn_71, a_ai, a_ald, a_cv, a_gr, a_iadd, a_icge, a_icne, a_ifeq, a_ild, a_imul, a_inc, a_iret, a_ist, a_push, fx_71_0 hx, sh_71, sh_72, pu_rv, pu_as, Value.category, pu_bk, pu_kl, List.replicate, pu_wi_1, pu_wi_2, nl_add, nl_ladd, nl_aa, nl_mul, nl_rmul, nl_mm, pu_qe0, pu_qe1, rl_h6 hr, hc, g, c3.1, c3.2, rl_u0 hr, rl_u1 hr, rl_u4 hr, rl_u5 hr]
      all_goals try simp (maxSteps := 400000) (disch := omega) [nl_tle, nl_fle, nl_tlt, nl_flt, nl_teq, nl_feq, nl_sub, nl_ss, nl_lt, nl_llt, nl_ltt, nl_le, nl_lle, nl_lee, nl_eq, nl_leq, nl_ee, nl_div, nl_rem, nl_cl, nl_n1, nl_n2, nl_n3, nl_n4, nl_add, nl_ladd, nl_aa, nl_mul, nl_rmul, nl_mm, pu_wi_1, pu_wi_2, bX12_spanOn_27, bX12_spanOn_110, bX12_spanOn_104, bX12_spanOn_71, a_ai, a_ald, a_cv, a_gr, a_iadd, a_icge, a_icne, a_ifeq, a_ild, a_imul, a_inc, a_iret, a_ist, a_push, fx_71_0 hx, sh_71, sh_72, pu_rv, pu_as, Value.category, pu_bk, pu_kl, pu_qe0, pu_qe1, rl_h6 hr, hc, g, c3.1, c3.2, rl_u0 hr, rl_u1 hr, rl_u4 hr, rl_u5 hr]
      all_goals try simp [bX12_spanOn_27, bX12_spanOn_110, bX12_spanOn_104, bX12_spanOn_71, a_ai, a_ald, a_cv, a_gr, a_iadd, a_icge, a_icne, a_ifeq, a_ild, a_imul, a_inc, a_iret, a_ist, a_push, fx_71_0 hx, sh_71, sh_72, pu_rv, pu_as, Value.category, pu_bk, pu_kl, List.replicate, pu_wi_1, pu_wi_2, nl_add, nl_ladd, nl_aa, nl_mul, nl_rmul, nl_mm, pu_qe0, pu_qe1, rl_h6 hr, hc, g, c3.1, c3.2, rl_u0 hr, rl_u1 hr, rl_u4 hr, rl_u5 hr]
      all_goals try simp (maxSteps := 400000) (disch := omega) [nl_tle, nl_fle, nl_tlt, nl_flt, nl_teq, nl_feq, nl_sub, nl_ss, nl_lt, nl_llt, nl_ltt, nl_le, nl_lle, nl_lee, nl_eq, nl_leq, nl_ee, nl_div, nl_rem, nl_cl, nl_n1, nl_n2, nl_n3, nl_n4, nl_add, nl_ladd, nl_aa, nl_mul, nl_rmul, nl_mm, pu_wi_1, pu_wi_2, bX12_spanOn_27, bX12_spanOn_110, bX12_spanOn_104, bX12_spanOn_71, a_ai, a_ald, a_cv, a_gr, a_iadd, a_icge, a_icne, a_ifeq, a_ild, a_imul, a_inc, a_iret, a_ist, a_push, fx_71_0 hx, sh_71, sh_72, pu_rv, pu_as, Value.category, pu_bk, pu_kl, pu_qe0, pu_qe1, rl_h6 hr, hc, g, c3.1, c3.2, rl_u0 hr, rl_u1 hr, rl_u4 hr, rl_u5 hr]
    · rw [pu_f1_f c1]
      by_cases c2 : (I 15 i).toNatClampNeg / 2 = f ∧ (I 15 i).toNatClampNeg % 2 = w
      · rw [pu_q0 (fun q => c1 ⟨by rw [es]; exact c2, q⟩)] at g
        rw [qX12_spanOn_27]
        simp [bX12_spanOn_27, bX12_spanOn_110, bX12_spanOn_104, bX12_spanOn_71, a_ai, a_ald, a_cv, a_gr, a_iadd, a_icge, a_icne, a_ifeq, a_ild, a_imul, a_inc, a_iret, a_ist, a_push, fx_71_0 hx, sh_71, sh_72, pu_rv, pu_as, Value.category, pu_bk, pu_kl, List.replicate, pu_wi_1, pu_wi_2, nl_add, nl_ladd, nl_aa, nl_mul, nl_rmul, nl_mm, pu_qe0, pu_qe1, rl_h6 hr, hc, g, c2.1, c2.2, rl_u0 hr, rl_u1 hr, rl_u4 hr, rl_u5 hr, ih]
        all_goals try simp (maxSteps := 400000) (disch := omega) [nl_tle, nl_fle, nl_tlt, nl_flt, nl_teq, nl_feq, nl_sub, nl_ss, nl_lt, nl_llt, nl_ltt, nl_le, nl_lle, nl_lee, nl_eq, nl_leq, nl_ee, nl_div, nl_rem, nl_cl, nl_n1, nl_n2, nl_n3, nl_n4, nl_add, nl_ladd, nl_aa, nl_mul, nl_rmul, nl_mm, pu_wi_1, pu_wi_2, bX12_spanOn_27, bX12_spanOn_110, bX12_spanOn_104, bX12_spanOn_71, a_ai, a_ald, a_cv, a_gr, a_iadd, a_icge, a_icne, a_ifeq, a_ild, a_imul, a_inc, a_iret, a_ist, a_push, fx_71_0 hx, sh_71, sh_72, pu_rv, pu_as, Value.category, pu_bk, pu_kl, pu_qe0, pu_qe1, rl_h6 hr, hc, g, c2.1, c2.2, rl_u0 hr, rl_u1 hr, rl_u4 hr, rl_u5 hr, ih]
        all_goals try simp [bX12_spanOn_27, bX12_spanOn_110, bX12_spanOn_104, bX12_spanOn_71, a_ai, a_ald, a_cv, a_gr, a_iadd, a_icge, a_icne, a_ifeq, a_ild, a_imul, a_inc, a_iret, a_ist, a_push, fx_71_0 hx, sh_71, sh_72, pu_rv, pu_as, Value.category, pu_bk, pu_kl, List.replicate, pu_wi_1, pu_wi_2, nl_add, nl_ladd, nl_aa, nl_mul, nl_rmul, nl_mm, pu_qe0, pu_qe1, rl_h6 hr, hc, g, c2.1, c2.2, rl_u0 hr, rl_u1 hr, rl_u4 hr, rl_u5 hr, ih]
        all_goals try simp (maxSteps := 400000) (disch := omega) [nl_tle, nl_fle, nl_tlt, nl_flt, nl_teq, nl_feq, nl_sub, nl_ss, nl_lt, nl_llt, nl_ltt, nl_le, nl_lle, nl_lee, nl_eq, nl_leq, nl_ee, nl_div, nl_rem, nl_cl, nl_n1, nl_n2, nl_n3, nl_n4, nl_add, nl_ladd, nl_aa, nl_mul, nl_rmul, nl_mm, pu_wi_1, pu_wi_2, bX12_spanOn_27, bX12_spanOn_110, bX12_spanOn_104, bX12_spanOn_71, a_ai, a_ald, a_cv, a_gr, a_iadd, a_icge, a_icne, a_ifeq, a_ild, a_imul, a_inc, a_iret, a_ist, a_push, fx_71_0 hx, sh_71, sh_72, pu_rv, pu_as, Value.category, pu_bk, pu_kl, pu_qe0, pu_qe1, rl_h6 hr, hc, g, c2.1, c2.2, rl_u0 hr, rl_u1 hr, rl_u4 hr, rl_u5 hr, ih]
      · by_cases c3 : (I 15 i).toNatClampNeg / 2 = f
        · have c4 : ¬ (I 15 i).toNatClampNeg % 2 = w := fun q => c2 ⟨c3, q⟩
          rw [qX12_spanOn_27]
          simp [bX12_spanOn_27, bX12_spanOn_110, bX12_spanOn_104, bX12_spanOn_71, a_ai, a_ald, a_cv, a_gr, a_iadd, a_icge, a_icne, a_ifeq, a_ild, a_imul, a_inc, a_iret, a_ist, a_push, fx_71_0 hx, sh_71, sh_72, pu_rv, pu_as, Value.category, pu_bk, pu_kl, List.replicate, pu_wi_1, pu_wi_2, nl_add, nl_ladd, nl_aa, nl_mul, nl_rmul, nl_mm, pu_qe0, pu_qe1, rl_h6 hr, hc, c3, c4, rl_u0 hr, rl_u1 hr, ih]
          all_goals try simp (maxSteps := 400000) (disch := omega) [nl_tle, nl_fle, nl_tlt, nl_flt, nl_teq, nl_feq, nl_sub, nl_ss, nl_lt, nl_llt, nl_ltt, nl_le, nl_lle, nl_lee, nl_eq, nl_leq, nl_ee, nl_div, nl_rem, nl_cl, nl_n1, nl_n2, nl_n3, nl_n4, nl_add, nl_ladd, nl_aa, nl_mul, nl_rmul, nl_mm, pu_wi_1, pu_wi_2, bX12_spanOn_27, bX12_spanOn_110, bX12_spanOn_104, bX12_spanOn_71, a_ai, a_ald, a_cv, a_gr, a_iadd, a_icge, a_icne, a_ifeq, a_ild, a_imul, a_inc, a_iret, a_ist, a_push, fx_71_0 hx, sh_71, sh_72, pu_rv, pu_as, Value.category, pu_bk, pu_kl, pu_qe0, pu_qe1, rl_h6 hr, hc, c3, c4, rl_u0 hr, rl_u1 hr, ih]
          all_goals try simp [bX12_spanOn_27, bX12_spanOn_110, bX12_spanOn_104, bX12_spanOn_71, a_ai, a_ald, a_cv, a_gr, a_iadd, a_icge, a_icne, a_ifeq, a_ild, a_imul, a_inc, a_iret, a_ist, a_push, fx_71_0 hx, sh_71, sh_72, pu_rv, pu_as, Value.category, pu_bk, pu_kl, List.replicate, pu_wi_1, pu_wi_2, nl_add, nl_ladd, nl_aa, nl_mul, nl_rmul, nl_mm, pu_qe0, pu_qe1, rl_h6 hr, hc, c3, c4, rl_u0 hr, rl_u1 hr, ih]
          all_goals try simp (maxSteps := 400000) (disch := omega) [nl_tle, nl_fle, nl_tlt, nl_flt, nl_teq, nl_feq, nl_sub, nl_ss, nl_lt, nl_llt, nl_ltt, nl_le, nl_lle, nl_lee, nl_eq, nl_leq, nl_ee, nl_div, nl_rem, nl_cl, nl_n1, nl_n2, nl_n3, nl_n4, nl_add, nl_ladd, nl_aa, nl_mul, nl_rmul, nl_mm, pu_wi_1, pu_wi_2, bX12_spanOn_27, bX12_spanOn_110, bX12_spanOn_104, bX12_spanOn_71, a_ai, a_ald, a_cv, a_gr, a_iadd, a_icge, a_icne, a_ifeq, a_ild, a_imul, a_inc, a_iret, a_ist, a_push, fx_71_0 hx, sh_71, sh_72, pu_rv, pu_as, Value.category, pu_bk, pu_kl, pu_qe0, pu_qe1, rl_h6 hr, hc, c3, c4, rl_u0 hr, rl_u1 hr, ih]
        · rw [qX12_spanOn_27]
          simp [bX12_spanOn_27, bX12_spanOn_110, bX12_spanOn_104, bX12_spanOn_71, a_ai, a_ald, a_cv, a_gr, a_iadd, a_icge, a_icne, a_ifeq, a_ild, a_imul, a_inc, a_iret, a_ist, a_push, fx_71_0 hx, sh_71, sh_72, pu_rv, pu_as, Value.category, pu_bk, pu_kl, List.replicate, pu_wi_1, pu_wi_2, nl_add, nl_ladd, nl_aa, nl_mul, nl_rmul, nl_mm, pu_qe0, pu_qe1, rl_h6 hr, hc, c3, rl_u0 hr, rl_u1 hr, ih]
          all_goals try simp (maxSteps := 400000) (disch := omega) [nl_tle, nl_fle, nl_tlt, nl_flt, nl_teq, nl_feq, nl_sub, nl_ss, nl_lt, nl_llt, nl_ltt, nl_le, nl_lle, nl_lee, nl_eq, nl_leq, nl_ee, nl_div, nl_rem, nl_cl, nl_n1, nl_n2, nl_n3, nl_n4, nl_add, nl_ladd, nl_aa, nl_mul, nl_rmul, nl_mm, pu_wi_1, pu_wi_2, bX12_spanOn_27, bX12_spanOn_110, bX12_spanOn_104, bX12_spanOn_71, a_ai, a_ald, a_cv, a_gr, a_iadd, a_icge, a_icne, a_ifeq, a_ild, a_imul, a_inc, a_iret, a_ist, a_push, fx_71_0 hx, sh_71, sh_72, pu_rv, pu_as, Value.category, pu_bk, pu_kl, pu_qe0, pu_qe1, rl_h6 hr, hc, c3, rl_u0 hr, rl_u1 hr, ih]
          all_goals try simp [bX12_spanOn_27, bX12_spanOn_110, bX12_spanOn_104, bX12_spanOn_71, a_ai, a_ald, a_cv, a_gr, a_iadd, a_icge, a_icne, a_ifeq, a_ild, a_imul, a_inc, a_iret, a_ist, a_push, fx_71_0 hx, sh_71, sh_72, pu_rv, pu_as, Value.category, pu_bk, pu_kl, List.replicate, pu_wi_1, pu_wi_2, nl_add, nl_ladd, nl_aa, nl_mul, nl_rmul, nl_mm, pu_qe0, pu_qe1, rl_h6 hr, hc, c3, rl_u0 hr, rl_u1 hr, ih]
          all_goals try simp (maxSteps := 400000) (disch := omega) [nl_tle, nl_fle, nl_tlt, nl_flt, nl_teq, nl_feq, nl_sub, nl_ss, nl_lt, nl_llt, nl_ltt, nl_le, nl_lle, nl_lee, nl_eq, nl_leq, nl_ee, nl_div, nl_rem, nl_cl, nl_n1, nl_n2, nl_n3, nl_n4, nl_add, nl_ladd, nl_aa, nl_mul, nl_rmul, nl_mm, pu_wi_1, pu_wi_2, bX12_spanOn_27, bX12_spanOn_110, bX12_spanOn_104, bX12_spanOn_71, a_ai, a_ald, a_cv, a_gr, a_iadd, a_icge, a_icne, a_ifeq, a_ild, a_imul, a_inc, a_iret, a_ist, a_push, fx_71_0 hx, sh_71, sh_72, pu_rv, pu_as, Value.category, pu_bk, pu_kl, pu_qe0, pu_qe1, rl_h6 hr, hc, c3, rl_u0 hr, rl_u1 hr, ih]
theorem r_spanOn (hx : pu_fx M) (hr : pu_Rel I L (M.1 72)) (hw : pu_WF I L) (d w : Nat) (hd : d < cD I) (hw2 : w < 2) (y : Int32) (hy : ¬ y < 0 ∧ ¬ 109574 < y) : pu_r 332 [some (.ref 71), some (.int (nI d)), some (.int (nI w)), some (.int y)] [] M = some (some (.int (pu_f1 (fun k => I 15 k = nI (2 * (I 34 d).toNatClampNeg + w) ∧ pu_sh1 I y k) (cU I) 0)), M) := by
  have f1 := wx_df hw d hd
  have f2 := pu_on (x := I 34 d) (n := d + 1) ⟨f1.1, by omega⟩
  have e := r_spanOn_l hx hr hw (I 34 d).toNatClampNeg w (by omega) hw2 (nI d) y (cU I) 0 0 none rfl (by omega)
  rw [← f2.1] at e
  have e1 := r_isDoor1 hx hr hw d hd
  have e2 := r_isDay y M
  rw [pu_q1 hy] at e2
  have e3 := r_front hx hr hw d hd
  rw [qX12_spanOn]
  simp [a_ent, bX12_spanOn_0, bX12_spanOn_15, bX12_spanOn_17, a_ald, a_cs, a_cv, a_ifeq, a_ifne, a_ild, a_iret, a_ist, a_push, sh_71, pu_rv, pu_as, Value.category, pu_bk, pu_kl, List.replicate, pu_wi_1, pu_wi_2, nl_add, nl_ladd, nl_aa, nl_mul, nl_rmul, nl_mm, pu_qe0, pu_qe1, e, e1, e2, e3]
  all_goals try simp (maxSteps := 400000) (disch := omega) [nl_tle, nl_fle, nl_tlt, nl_flt, nl_teq, nl_feq, nl_sub, nl_ss, nl_lt, nl_llt, nl_ltt, nl_le, nl_lle, nl_lee, nl_eq, nl_leq, nl_ee, nl_div, nl_rem, nl_cl, nl_n1, nl_n2, nl_n3, nl_n4, nl_add, nl_ladd, nl_aa, nl_mul, nl_rmul, nl_mm, pu_wi_1, pu_wi_2, bX12_spanOn_0, bX12_spanOn_15, bX12_spanOn_17, a_ald, a_cs, a_cv, a_ifeq, a_ifne, a_ild, a_iret, a_ist, a_push, sh_71, pu_rv, pu_as, Value.category, pu_bk, pu_kl, pu_qe0, pu_qe1, e, e1, e2, e3]
  all_goals try simp [bX12_spanOn_0, bX12_spanOn_15, bX12_spanOn_17, a_ald, a_cs, a_cv, a_ifeq, a_ifne, a_ild, a_iret, a_ist, a_push, sh_71, pu_rv, pu_as, Value.category, pu_bk, pu_kl, List.replicate, pu_wi_1, pu_wi_2, nl_add, nl_ladd, nl_aa, nl_mul, nl_rmul, nl_mm, pu_qe0, pu_qe1, e, e1, e2, e3]
  all_goals try simp (maxSteps := 400000) (disch := omega) [nl_tle, nl_fle, nl_tlt, nl_flt, nl_teq, nl_feq, nl_sub, nl_ss, nl_lt, nl_llt, nl_ltt, nl_le, nl_lle, nl_lee, nl_eq, nl_leq, nl_ee, nl_div, nl_rem, nl_cl, nl_n1, nl_n2, nl_n3, nl_n4, nl_add, nl_ladd, nl_aa, nl_mul, nl_rmul, nl_mm, pu_wi_1, pu_wi_2, bX12_spanOn_0, bX12_spanOn_15, bX12_spanOn_17, a_ald, a_cs, a_cv, a_ifeq, a_ifne, a_ild, a_iret, a_ist, a_push, sh_71, pu_rv, pu_as, Value.category, pu_bk, pu_kl, pu_qe0, pu_qe1, e, e1, e2, e3]
end
