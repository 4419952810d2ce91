/-! filling the view -/
def pu_vi (V : Nat → Nat) (b k : Nat) : Nat → Nat := fun j => if j < b then V j else if j = b then k else V (j - 1)
/-- span k is there now (y = -1), or on day y -/
def pu_tn (I : Nat → Nat → Int32) (y : Int32) (k : Nat) : Prop := if y = -1 then I 18 k = -1 else pu_sh1 I y k
/-- the view has just the spans below i for which c holds, by rank -/
def pu_VI (I : Nat → Nat → Int32) (o : Nat) (c : Nat → Prop) (i : Nat) (V : Nat → Nat) (n : Nat) : Prop := (∀ a, a < n → V a < i ∧ c (V a)) ∧ (∀ k, k < i → c k → ∃ a, a < n ∧ V a = k) ∧ (∀ a b, a < b → b < n → V a ≠ V b ∧ pu_rk I o (V a) ≤ pu_rk I o (V b))
theorem pu_VI_add {I : Nat → Nat → Int32} {o i n b : Nat} {c : Nat → Prop} {V : Nat → Nat} (h : pu_VI I o c i V n) (hc : c i) (hb : b ≤ n) (h1 : ∀ j, b ≤ j → j < n → pu_rk I o i < pu_rk I o (V j)) (h2 : b = 0 ∨ ¬ pu_rk I o i < pu_rk I o (V (b - 1))) : pu_VI I o c (i + 1) (pu_vi V b i) (n + 1) := by
  obtain ⟨g1, g2, g3⟩ := h
  refine ⟨fun a ha => ?_, fun k hk hck => ?_, fun a d had hd => ?_⟩
  · unfold pu_vi
    by_cases q : a < b
    · rw [if_pos q]
      have := g1 a (by omega)
      exact ⟨by omega, this.2⟩
    · rw [if_neg q]
      by_cases q2 : a = b
      · rw [if_pos q2]
        exact ⟨by omega, hc⟩
      · rw [if_neg q2]
        have := g1 (a - 1) (by omega)
        exact ⟨by omega, this.2⟩
  · by_cases e : k = i
    · refine ⟨b, by omega, ?_⟩
      unfold pu_vi
      rw [if_neg (by omega), if_pos rfl, e]
    · obtain ⟨a, a1, a2⟩ := g2 k (by omega) hck
      by_cases q : a < b
      · refine ⟨a, by omega, ?_⟩
        unfold pu_vi
        rw [if_pos q, a2]
      · refine ⟨a + 1, by omega, ?_⟩
        unfold pu_vi
        rw [if_neg (by omega), if_neg (by omega)]
        exact a2
  · have lo : ∀ j, j < b → pu_rk I o (V j) ≤ pu_rk I o i := fun j hj => by
      rcases h2 with h2 | h2
      · omega
      · have h3 := Int32.not_lt.mp h2
        by_cases z : j = b - 1
        · rw [z]; exact h3
        · exact Int32.le_trans (g3 j (b - 1) (by omega) (by omega)).2 h3
    unfold pu_vi
    by_cases q : d < b
    · rw [if_pos q, if_pos (by omega)]
      exact g3 a d had (by omega)
    · rw [if_neg q]
      by_cases q2 : d = b
      · rw [if_pos q2, if_pos (by omega)]
        exact ⟨by have := (g1 a (by omega)).1; omega, lo a (by omega)⟩
      · rw [if_neg q2]
        by_cases q3 : a < b
        · rw [if_pos q3]
          exact g3 a (d - 1) (by omega) (by omega)
        · rw [if_neg q3]
          by_cases q4 : a = b
          · rw [if_pos q4]
            exact ⟨by have := (g1 (d - 1) (by omega)).1; omega, Int32.le_of_lt (h1 (d - 1) (by omega) (by omega))⟩
          · rw [if_neg q4]
            exact g3 (a - 1) (d - 1) (by omega) (by omega)
section
variable {M : pu_M} {I : Nat → Nat → Int32} {L : Nat → Nat → Int64}
theorem c_isThen (hx : pu_fx M) (hI : pu_ag M I) (hw : pu_WF I L) (y : Int32) (k : Nat) (hk : k < cU I) : pu_r 69 [some (.ref 5), some (.int (nI k)), some (.int y)] [] M = some (some (.int (pu_q (pu_tn I y k))), M) := by
  have hb := wx_bU hw
  have g := c_uholds hx hI hw y k hk
  unfold pu_tn
  by_cases c : y = -1
  · rw [if_pos c]
    rw [qX9_isThen]
    simp [a_ent, bX9_isThen_0, bX9_isThen_28, bX9_isThen_46, bX9_isThen_24, a_ai, a_ald, a_cv, a_gr, a_icne, a_ild, a_ist, a_push, a_zret, ag_14 hI, ag_17 hI, ag_18 hI, ag_6 hI, fx_14_3 hx, fx_14_4 hx, fx_5_0 hx, fx_5_1 hx, sh_14, sh_17, sh_18, sh_5, sh_6, pu_rv, pu_as, Value.category, pu_bk, pu_kl, List.replicate, pu_wi_1, pu_wi_2, nl_add, nl_ladd, nl_aa, nl_mul, nl_rmul, nl_mm, pu_qe0, pu_qe1, c]
    all_goals try simp (maxSteps := 400000) (disch := omega) [nl_tle, nl_fle, nl_tlt, nl_flt, nl_teq, nl_feq, nl_sub, nl_ss, nl_lt, nl_llt, nl_ltt, nl_le, nl_lle, nl_lee, nl_eq, nl_leq, nl_ee, nl_div, nl_rem, nl_cl, nl_n1, nl_n2, nl_n3, nl_n4, nl_add, nl_ladd, nl_aa, nl_mul, nl_rmul, nl_mm, pu_wi_1, pu_wi_2, bX9_isThen_0, bX9_isThen_28, bX9_isThen_46, bX9_isThen_24, a_ai, a_ald, a_cv, a_gr, a_icne, a_ild, a_ist, a_push, a_zret, ag_14 hI, ag_17 hI, ag_18 hI, ag_6 hI, fx_14_3 hx, fx_14_4 hx, fx_5_0 hx, fx_5_1 hx, sh_14, sh_17, sh_18, sh_5, sh_6, pu_rv, pu_as, Value.category, pu_bk, pu_kl, pu_qe0, pu_qe1, c]
    all_goals try simp [bX9_isThen_0, bX9_isThen_28, bX9_isThen_46, bX9_isThen_24, a_ai, a_ald, a_cv, a_gr, a_icne, a_ild, a_ist, a_push, a_zret, ag_14 hI, ag_17 hI, ag_18 hI, ag_6 hI, fx_14_3 hx, fx_14_4 hx, fx_5_0 hx, fx_5_1 hx, sh_14, sh_17, sh_18, sh_5, sh_6, pu_rv, pu_as, Value.category, pu_bk, pu_kl, List.replicate, pu_wi_1, pu_wi_2, nl_add, nl_ladd, nl_aa, nl_mul, nl_rmul, nl_mm, pu_qe0, pu_qe1, c]
    all_goals try simp (maxSteps := 400000) (disch := omega) [nl_tle, nl_fle, nl_tlt, nl_flt, nl_teq, nl_feq, nl_sub, nl_ss, nl_lt, nl_llt, nl_ltt, nl_le, nl_lle, nl_lee, nl_eq, nl_leq, nl_ee, nl_div, nl_rem, nl_cl, nl_n1, nl_n2, nl_n3, nl_n4, nl_add, nl_ladd, nl_aa, nl_mul, nl_rmul, nl_mm, pu_wi_1, pu_wi_2, bX9_isThen_0, bX9_isThen_28, bX9_isThen_46, bX9_isThen_24, a_ai, a_ald, a_cv, a_gr, a_icne, a_ild, a_ist, a_push, a_zret, ag_14 hI, ag_17 hI, ag_18 hI, ag_6 hI, fx_14_3 hx, fx_14_4 hx, fx_5_0 hx, fx_5_1 hx, sh_14, sh_17, sh_18, sh_5, sh_6, pu_rv, pu_as, Value.category, pu_bk, pu_kl, pu_qe0, pu_qe1, c]
    grind [pu_q]
  · rw [if_neg c]
    by_cases c2 : pu_sh1 I y k
    · rw [pu_q1 c2]
      rw [pu_q1 c2] at g
      rw [qX9_isThen]
      simp [a_ent, bX9_isThen_0, bX9_isThen_28, bX9_isThen_46, bX9_isThen_24, a_ai, a_ald, a_cv, a_gr, a_icne, a_ild, a_ist, a_push, a_zret, ag_14 hI, ag_17 hI, ag_18 hI, ag_6 hI, fx_14_3 hx, fx_14_4 hx, fx_5_0 hx, fx_5_1 hx, sh_14, sh_17, sh_18, sh_5, sh_6, pu_rv, pu_as, Value.category, pu_bk, pu_kl, List.replicate, pu_wi_1, pu_wi_2, nl_add, nl_ladd, nl_aa, nl_mul, nl_rmul, nl_mm, pu_qe0, pu_qe1, c, g]
      all_goals try simp (maxSteps := 400000) (disch := omega) [nl_tle, nl_fle, nl_tlt, nl_flt, nl_teq, nl_feq, nl_sub, nl_ss, nl_lt, nl_llt, nl_ltt, nl_le, nl_lle, nl_lee, nl_eq, nl_leq, nl_ee, nl_div, nl_rem, nl_cl, nl_n1, nl_n2, nl_n3, nl_n4, nl_add, nl_ladd, nl_aa, nl_mul, nl_rmul, nl_mm, pu_wi_1, pu_wi_2, bX9_isThen_0, bX9_isThen_28, bX9_isThen_46, bX9_isThen_24, a_ai, a_ald, a_cv, a_gr, a_icne, a_ild, a_ist, a_push, a_zret, ag_14 hI, ag_17 hI, ag_18 hI, ag_6 hI, fx_14_3 hx, fx_14_4 hx, fx_5_0 hx, fx_5_1 hx, sh_14, sh_17, sh_18, sh_5, sh_6, pu_rv, pu_as, Value.category, pu_bk, pu_kl, pu_qe0, pu_qe1, c, g]
      all_goals try simp [bX9_isThen_0, bX9_isThen_28, bX9_isThen_46, bX9_isThen_24, a_ai, a_ald, a_cv, a_gr, a_icne, a_ild, a_ist, a_push, a_zret, ag_14 hI, ag_17 hI, ag_18 hI, ag_6 hI, fx_14_3 hx, fx_14_4 hx, fx_5_0 hx, fx_5_1 hx, sh_14, sh_17, sh_18, sh_5, sh_6, pu_rv, pu_as, Value.category, pu_bk, pu_kl, List.replicate, pu_wi_1, pu_wi_2, nl_add, nl_ladd, nl_aa, nl_mul, nl_rmul, nl_mm, pu_qe0, pu_qe1, c, g]
      all_goals try simp (maxSteps := 400000) (disch := omega) [nl_tle, nl_fle, nl_tlt, nl_flt, nl_teq, nl_feq, nl_sub, nl_ss, nl_lt, nl_llt, nl_ltt, nl_le, nl_lle, nl_lee, nl_eq, nl_leq, nl_ee, nl_div, nl_rem, nl_cl, nl_n1, nl_n2, nl_n3, nl_n4, nl_add, nl_ladd, nl_aa, nl_mul, nl_rmul, nl_mm, pu_wi_1, pu_wi_2, bX9_isThen_0, bX9_isThen_28, bX9_isThen_46, bX9_isThen_24, a_ai, a_ald, a_cv, a_gr, a_icne, a_ild, a_ist, a_push, a_zret, ag_14 hI, ag_17 hI, ag_18 hI, ag_6 hI, fx_14_3 hx, fx_14_4 hx, fx_5_0 hx, fx_5_1 hx, sh_14, sh_17, sh_18, sh_5, sh_6, pu_rv, pu_as, Value.category, pu_bk, pu_kl, pu_qe0, pu_qe1, c, g]
    · rw [pu_q0 c2]
      rw [pu_q0 c2] at g
      rw [qX9_isThen]
      simp [a_ent, bX9_isThen_0, bX9_isThen_28, bX9_isThen_46, bX9_isThen_24, a_ai, a_ald, a_cv, a_gr, a_icne, a_ild, a_ist, a_push, a_zret, ag_14 hI, ag_17 hI, ag_18 hI, ag_6 hI, fx_14_3 hx, fx_14_4 hx, fx_5_0 hx, fx_5_1 hx, sh_14, sh_17, sh_18, sh_5, sh_6, pu_rv, pu_as, Value.category, pu_bk, pu_kl, List.replicate, pu_wi_1, pu_wi_2, nl_add, nl_ladd, nl_aa, nl_mul, nl_rmul, nl_mm, pu_qe0, pu_qe1, c, g]
      all_goals try simp (maxSteps := 400000) (disch := omega) [nl_tle, nl_fle, nl_tlt, nl_flt, nl_teq, nl_feq, nl_sub, nl_ss, nl_lt, nl_llt, nl_ltt, nl_le, nl_lle, nl_lee, nl_eq, nl_leq, nl_ee, nl_div, nl_rem, nl_cl, nl_n1, nl_n2, nl_n3, nl_n4, nl_add, nl_ladd, nl_aa, nl_mul, nl_rmul, nl_mm, pu_wi_1, pu_wi_2, bX9_isThen_0, bX9_isThen_28, bX9_isThen_46, bX9_isThen_24, a_ai, a_ald, a_cv, a_gr, a_icne, a_ild, a_ist, a_push, a_zret, ag_14 hI, ag_17 hI, ag_18 hI, ag_6 hI, fx_14_3 hx, fx_14_4 hx, fx_5_0 hx, fx_5_1 hx, sh_14, sh_17, sh_18, sh_5, sh_6, pu_rv, pu_as, Value.category, pu_bk, pu_kl, pu_qe0, pu_qe1, c, g]
      all_goals try simp [bX9_isThen_0, bX9_isThen_28, bX9_isThen_46, bX9_isThen_24, a_ai, a_ald, a_cv, a_gr, a_icne, a_ild, a_ist, a_push, a_zret, ag_14 hI, ag_17 hI, ag_18 hI, ag_6 hI, fx_14_3 hx, fx_14_4 hx, fx_5_0 hx, fx_5_1 hx, sh_14, sh_17, sh_18, sh_5, sh_6, pu_rv, pu_as, Value.category, pu_bk, pu_kl, List.replicate, pu_wi_1, pu_wi_2, nl_add, nl_ladd, nl_aa, nl_mul, nl_rmul, nl_mm, pu_qe0, pu_qe1, c, g]
      all_goals try simp (maxSteps := 400000) (disch := omega) [nl_tle, nl_fle, nl_tlt, nl_flt, nl_teq, nl_feq, nl_sub, nl_ss, nl_lt, nl_llt, nl_ltt, nl_le, nl_lle, nl_lee, nl_eq, nl_leq, nl_ee, nl_div, nl_rem, nl_cl, nl_n1, nl_n2, nl_n3, nl_n4, nl_add, nl_ladd, nl_aa, nl_mul, nl_rmul, nl_mm, pu_wi_1, pu_wi_2, bX9_isThen_0, bX9_isThen_28, bX9_isThen_46, bX9_isThen_24, a_ai, a_ald, a_cv, a_gr, a_icne, a_ild, a_ist, a_push, a_zret, ag_14 hI, ag_17 hI, ag_18 hI, ag_6 hI, fx_14_3 hx, fx_14_4 hx, fx_5_0 hx, fx_5_1 hx, sh_14, sh_17, sh_18, sh_5, sh_6, pu_rv, pu_as, Value.category, pu_bk, pu_kl, pu_qe0, pu_qe1, c, g]
theorem c_add (hx : pu_fx M) (hI : pu_ag M I) (hw : pu_WF I L) (o n k : Nat) (V : Nat → Nat) (ho : o < 4) (hn : n < 100) (hk : k < cU I) (h2 : M.1 62 2 = nI o) (hv : pu_vp M I o V n) :
    ∃ b N, b ≤ n ∧ pu_vf M N ∧ pu_vp N I o (pu_vi V b k) (n + 1) ∧ (∀ j, b ≤ j → j < n → pu_rk I o k < pu_rk I o (V j)) ∧ (b = 0 ∨ ¬ pu_rk I o k < pu_rk I o (V (b - 1))) ∧ pu_r 72 [some (.ref 62), some (.ref 31), some (.int (I 15 k)), some (.int (I 16 k)), some (.int (nI k))] [] M = some (none, N) := by
  have hs := wx_us hw k hk
  have hs2 := pu_on (x := I 15 k) (n := 2 * cD I) ⟨hs.1, by omega⟩
  have hD := wx_bD hw
  obtain ⟨b, N1, b1, b2, b3, b4, b5, b6, b7, b8⟩ := c_add_l (I := I) o n k V hn (I 15 k) (I 16 k) n M (by omega) hx hI hv.2 (fun c j q1 q2 q3 q4 => by omega)
  have hx1 := pu_vf_x b2 hx
  have hI1 := pu_vf_g b2 hI
  have e0 : N1.1 62 0 = nI n := b3.trans hv.1
  have r1 := c_rankOf (M := M) o ho h2 (I 40 (pu_sl0 I k)) (I 41 (pu_sl0 I k))
  have sl : (I 15 k).toNatClampNeg = pu_sl0 I k := rfl
  have sl2 : pu_sl0 I k < 200 := by have := hs2.2; omega
  have sl3 : ¬ I 15 k < 0 := fun q => by
    have := Int32.lt_iff_toInt_lt.mp q
    have e : (0 : Int32).toInt = 0 := by decide
    omega
  have sl4 : ¬ 200 ≤ pu_sl0 I k := by omega
  refine ⟨b, pu_wi (pu_wi (pu_wi (pu_wi (pu_wi (pu_wi (pu_wi N1 63 b (nI k)) 64 b (I 15 k)) 65 b (I 16 k)) 66 b (I 40 (pu_sl0 I k))) 67 b (I 41 (pu_sl0 I k))) 68 b (pu_rk I o k)) 62 0 (nI (n + 1)), b1, ?_, ⟨?_, fun c j q1 q2 q3 => ?_⟩, b6, b7, ?_⟩
  · refine ⟨b2.1, fun c j q1 q2 => ?_⟩
    rw [← b2.2 c j q1 q2]
    simp only [pu_wi_1]
    grind
  · simp [pu_wi_1]
  · simp only [pu_wi_1]
    by_cases z : j = b
    · subst z
      have z1 : pu_vi V j k j = k := by simp [pu_vi]
      rw [z1]
      unfold pu_vc
      grind
    · have z2 : N1.1 c j = pu_vc I o c (pu_vi V b k j) := by
        unfold pu_vi
        by_cases z3 : j < b
        · rw [if_pos z3]
          exact b4 c j q1 q2 z3
        · rw [if_neg z3, if_neg z]
          exact b5 c j q1 q2 (by omega) (by omega)
      rw [← z2]
      grind
  · have i1 := nI_clamp (show b < 2 ^ 31 by omega)
    have i2 := nI_pos (show b < 2 ^ 31 by omega)
    have i3 : ¬ 100 ≤ b := by omega
    have n1 : nI n < 100 := nI_lt (b := 100) hn (by omega)
    have c34 : pu_r 370 [some (.ref 62), some (.ref 31), some (.int (I 15 k)), some (.int (I 16 k)), some (.int (nI k)), some (.int (pu_rkx o (I 40 (pu_sl0 I k)) (I 41 (pu_sl0 I k)))), some (.int (nI n))] [] M = some (none, pu_wi (pu_wi (pu_wi (pu_wi (pu_wi (pu_wi (pu_wi N1 63 b (nI k)) 64 b (I 15 k)) 65 b (I 16 k)) 66 b (I 40 (pu_sl0 I k))) 67 b (I 41 (pu_sl0 I k))) 68 b (pu_rk I o k)) 62 0 (nI (n + 1))) := by
      refine b8.trans ?_
      have hx := hx1
      have hI := hI1
      simp [bX9_add_65, bX9_add_104, a_ai, a_ald, a_dup, a_gi, a_gr, a_iadd, a_ild, a_pi, a_push, a_vret, a_wi, ag_40 hI, ag_41 hI, fx_31_10 hx, fx_31_9 hx, fx_62_3 hx, fx_62_4 hx, fx_62_5 hx, fx_62_6 hx, fx_62_7 hx, fx_62_8 hx, sh_31, sh_40, sh_41, sh_62, sh_63, sh_64, sh_65, sh_66, sh_67, sh_68, pu_rv, pu_as, Value.category, pu_bk, pu_kl, List.replicate, pu_wi_1, pu_wi_2, nl_add, nl_ladd, nl_aa, nl_mul, nl_rmul, nl_mm, pu_qe0, pu_qe1, i1, i2, i3, sl, sl3, sl4, e0]
      all_goals try simp (maxSteps := 400000) (disch := omega) [nl_tle, nl_fle, nl_tlt, nl_flt, nl_teq, nl_feq, nl_sub, nl_ss, nl_lt, nl_llt, nl_ltt, nl_le, nl_lle, nl_lee, nl_eq, nl_leq, nl_ee, nl_div, nl_rem, nl_cl, nl_n1, nl_n2, nl_n3, nl_n4, nl_add, nl_ladd, nl_aa, nl_mul, nl_rmul, nl_mm, pu_wi_1, pu_wi_2, bX9_add_65, bX9_add_104, a_ai, a_ald, a_dup, a_gi, a_gr, a_iadd, a_ild, a_pi, a_push, a_vret, a_wi, ag_40 hI, ag_41 hI, fx_31_10 hx, fx_31_9 hx, fx_62_3 hx, fx_62_4 hx, fx_62_5 hx, fx_62_6 hx, fx_62_7 hx, fx_62_8 hx, sh_31, sh_40, sh_41, sh_62, sh_63, sh_64, sh_65, sh_66, sh_67, sh_68, pu_rv, pu_as, Value.category, pu_bk, pu_kl, pu_qe0, pu_qe1, i1, i2, i3, sl, sl3, sl4, e0]
      all_goals try simp [bX9_add_65, bX9_add_104, a_ai, a_ald, a_dup, a_gi, a_gr, a_iadd, a_ild, a_pi, a_push, a_vret, a_wi, ag_40 hI, ag_41 hI, fx_31_10 hx, fx_31_9 hx, fx_62_3 hx, fx_62_4 hx, fx_62_5 hx, fx_62_6 hx, fx_62_7 hx, fx_62_8 hx, sh_31, sh_40, sh_41, sh_62, sh_63, sh_64, sh_65, sh_66, sh_67, sh_68, pu_rv, pu_as, Value.category, pu_bk, pu_kl, List.replicate, pu_wi_1, pu_wi_2, nl_add, nl_ladd, nl_aa, nl_mul, nl_rmul, nl_mm, pu_qe0, pu_qe1, i1, i2, i3, sl, sl3, sl4, e0]
      all_goals try simp (maxSteps := 400000) (disch := omega) [nl_tle, nl_fle, nl_tlt, nl_flt, nl_teq, nl_feq, nl_sub, nl_ss, nl_lt, nl_llt, nl_ltt, nl_le, nl_lle, nl_lee, nl_eq, nl_leq, nl_ee, nl_div, nl_rem, nl_cl, nl_n1, nl_n2, nl_n3, nl_n4, nl_add, nl_ladd, nl_aa, nl_mul, nl_rmul, nl_mm, pu_wi_1, pu_wi_2, bX9_add_65, bX9_add_104, a_ai, a_ald, a_dup, a_gi, a_gr, a_iadd, a_ild, a_pi, a_push, a_vret, a_wi, ag_40 hI, ag_41 hI, fx_31_10 hx, fx_31_9 hx, fx_62_3 hx, fx_62_4 hx, fx_62_5 hx, fx_62_6 hx, fx_62_7 hx, fx_62_8 hx, sh_31, sh_40, sh_41, sh_62, sh_63, sh_64, sh_65, sh_66, sh_67, sh_68, pu_rv, pu_as, Value.category, pu_bk, pu_kl, pu_qe0, pu_qe1, i1, i2, i3, sl, sl3, sl4, e0]
    rw [qX9_add]
    simp [a_ent, bX9_add_0, bX9_add_10, a_ai, a_ald, a_cv, a_gi, a_gr, a_iclt, a_ild, a_ist, a_push, a_vret, ag_40 hI, ag_41 hI, fx_31_10 hx, fx_31_9 hx, sh_31, sh_40, sh_41, sh_62, pu_rv, pu_as, Value.category, pu_bk, pu_kl, List.replicate, pu_wi_1, pu_wi_2, nl_add, nl_ladd, nl_aa, nl_mul, nl_rmul, nl_mm, pu_qe0, pu_qe1, hv.1, n1, sl, sl3, sl4, r1, c34]
    all_goals try simp (maxSteps := 400000) (disch := omega) [nl_tle, nl_fle, nl_tlt, nl_flt, nl_teq, nl_feq, nl_sub, nl_ss, nl_lt, nl_llt, nl_ltt, nl_le, nl_lle, nl_lee, nl_eq, nl_leq, nl_ee, nl_div, nl_rem, nl_cl, nl_n1, nl_n2, nl_n3, nl_n4, nl_add, nl_ladd, nl_aa, nl_mul, nl_rmul, nl_mm, pu_wi_1, pu_wi_2, bX9_add_0, bX9_add_10, a_ai, a_ald, a_cv, a_gi, a_gr, a_iclt, a_ild, a_ist, a_push, a_vret, ag_40 hI, ag_41 hI, fx_31_10 hx, fx_31_9 hx, sh_31, sh_40, sh_41, sh_62, pu_rv, pu_as, Value.category, pu_bk, pu_kl, pu_qe0, pu_qe1, hv.1, n1, sl, sl3, sl4, r1, c34]
    all_goals try simp [bX9_add_0, bX9_add_10, a_ai, a_ald, a_cv, a_gi, a_gr, a_iclt, a_ild, a_ist, a_push, a_vret, ag_40 hI, ag_41 hI, fx_31_10 hx, fx_31_9 hx, sh_31, sh_40, sh_41, sh_62, pu_rv, pu_as, Value.category, pu_bk, pu_kl, List.replicate, pu_wi_1, pu_wi_2, nl_add, nl_ladd, nl_aa, nl_mul, nl_rmul, nl_mm, pu_qe0, pu_qe1, hv.1, n1, sl, sl3, sl4, r1, c34]
    all_goals try simp (maxSteps := 400000) (disch := omega) [nl_tle, nl_fle, nl_tlt, nl_flt, nl_teq, nl_feq, nl_sub, nl_ss, nl_lt, nl_llt, nl_ltt, nl_le, nl_lle, nl_lee, nl_eq, nl_leq, nl_ee, nl_div, nl_rem, nl_cl, nl_n1, nl_n2, nl_n3, nl_n4, nl_add, nl_ladd, nl_aa, nl_mul, nl_rmul, nl_mm, pu_wi_1, pu_wi_2, bX9_add_0, bX9_add_10, a_ai, a_ald, a_cv, a_gi, a_gr, a_iclt, a_ild, a_ist, a_push, a_vret, ag_40 hI, ag_41 hI, fx_31_10 hx, fx_31_9 hx, sh_31, sh_40, sh_41, sh_62, pu_rv, pu_as, Value.category, pu_bk, pu_kl, pu_qe0, pu_qe1, hv.1, n1, sl, sl3, sl4, r1, c34]
/-- the spans of a street, now or on a day -/
def pu_cf (I : Nat → Nat → Int32) (st : Nat) (y : Int32) (k : Nat) : Prop := I 39 (pu_sl0 I k) = nI st ∧ pu_tn I y k
theorem c_fill_l (hw : pu_WF I L) (o st : Nat) (y : Int32) (ho : o < 4) (hinj : ∀ k l, k < cU I → l < cU I → pu_cf I st y k → pu_cf I st y l → k ≠ l → pu_sl0 I k / 2 ≠ pu_sl0 I l / 2) : ∀ (m i : Nat) (x : Int32) (V : Nat → Nat) (n : Nat) (M : pu_M), x = nI i → i + m = cU I → pu_fx M → pu_ag M I → M.1 62 2 = nI o → pu_vp M I o V n → pu_VI I o (pu_cf I st y) i V n → n ≤ 100 →
    ∃ V1 n1 N, n1 ≤ 100 ∧ pu_vf M N ∧ pu_vp N I o V1 n1 ∧ pu_VI I o (pu_cf I st y) (cU I) V1 n1 ∧ pu_r 371 [some (.ref 62), some (.ref 5), some (.int (nI st)), some (.int y), some (.int (nI o)), some (.ref 14), some (.int x)] [] M = some (none, N)
  | 0, i, x, V, n, M, hi, h, hx, hI, h2, hv, hV, hn => by
    subst hi
    have hb := wx_bU hw
    have hn0 := wx_cU hw
    have hc : nI (cU I) ≤ nI i := nI_le (by omega) (by omega)
    have e : i = cU I := by omega
    subst e
    refine ⟨V, n, M, hn, pu_vf_r M, hv, hV, ?_⟩
    rw [qX9_fill_32]
    simp [bX9_fill_32, bX9_fill_103, bX9_fill_97, bX9_fill_83, a_ai, a_ald, a_cs, a_cv, a_gi, a_gr, a_icge, a_icne, a_ifeq, a_ild, a_inc, a_vret, ag_14 hI, ag_15 hI, ag_16 hI, ag_31 hI, fx_14_1 hx, fx_14_2 hx, fx_5_4 hx, sh_14, sh_15, sh_16, sh_31, sh_5, sh_62, pu_rv, pu_as, Value.category, pu_bk, pu_kl, List.replicate, pu_wi_1, pu_wi_2, nl_add, nl_ladd, nl_aa, nl_mul, nl_rmul, nl_mm, pu_qe0, pu_qe1, hn0, hc, sh_14]
    all_goals try simp (maxSteps := 400000) (disch := omega) [nl_tle, nl_fle, nl_tlt, nl_flt, nl_teq, nl_feq, nl_sub, nl_ss, nl_lt, nl_llt, nl_ltt, nl_le, nl_lle, nl_lee, nl_eq, nl_leq, nl_ee, nl_div, nl_rem, nl_cl, nl_n1, nl_n2, nl_n3, nl_n4, nl_add, nl_ladd, nl_aa, nl_mul, nl_rmul, nl_mm, pu_wi_1, pu_wi_2, bX9_fill_32, bX9_fill_103, bX9_fill_97, bX9_fill_83, a_ai, a_ald, a_cs, a_cv, a_gi, a_gr, a_icge, a_icne, a_ifeq, a_ild, a_inc, a_vret, ag_14 hI, ag_15 hI, ag_16 hI, ag_31 hI, fx_14_1 hx, fx_14_2 hx, fx_5_4 hx, sh_14, sh_15, sh_16, sh_31, sh_5, sh_62, pu_rv, pu_as, Value.category, pu_bk, pu_kl, pu_qe0, pu_qe1, hn0, hc, sh_14]
    all_goals try simp [bX9_fill_32, bX9_fill_103, bX9_fill_97, bX9_fill_83, a_ai, a_ald, a_cs, a_cv, a_gi, a_gr, a_icge, a_icne, a_ifeq, a_ild, a_inc, a_vret, ag_14 hI, ag_15 hI, ag_16 hI, ag_31 hI, fx_14_1 hx, fx_14_2 hx, fx_5_4 hx, sh_14, sh_15, sh_16, sh_31, sh_5, sh_62, pu_rv, pu_as, Value.category, pu_bk, pu_kl, List.replicate, pu_wi_1, pu_wi_2, nl_add, nl_ladd, nl_aa, nl_mul, nl_rmul, nl_mm, pu_qe0, pu_qe1, hn0, hc, sh_14]
    all_goals try simp (maxSteps := 400000) (disch := omega) [nl_tle, nl_fle, nl_tlt, nl_flt, nl_teq, nl_feq, nl_sub, nl_ss, nl_lt, nl_llt, nl_ltt, nl_le, nl_lle, nl_lee, nl_eq, nl_leq, nl_ee, nl_div, nl_rem, nl_cl, nl_n1, nl_n2, nl_n3, nl_n4, nl_add, nl_ladd, nl_aa, nl_mul, nl_rmul, nl_mm, pu_wi_1, pu_wi_2, bX9_fill_32, bX9_fill_103, bX9_fill_97, bX9_fill_83, a_ai, a_ald, a_cs, a_cv, a_gi, a_gr, a_icge, a_icne, a_ifeq, a_ild, a_inc, a_vret, ag_14 hI, ag_15 hI, ag_16 hI, ag_31 hI, fx_14_1 hx, fx_14_2 hx, fx_5_4 hx, sh_14, sh_15, sh_16, sh_31, sh_5, sh_62, pu_rv, pu_as, Value.category, pu_bk, pu_kl, pu_qe0, pu_qe1, hn0, hc, sh_14]
  | m + 1, i, x, V, n, M, hi, h, hx, hI, h2, hv, hV, hn => by
    subst hi
    have hb := wx_bU hw
    have hn0 := wx_cU hw
    have hc : ¬ nI (cU I) ≤ nI i := nI_ge (by omega) (by omega)
    have hs := wx_us hw i (by omega)
    have hs2 := pu_on (x := I 15 i) (n := 2 * cD I) ⟨hs.1, by omega⟩
    have g1 := c_streetOf hx hI hw (pu_sl0 I i) hs2.2
    rw [show nI (pu_sl0 I i) = I 15 i from hs2.1.symm] at g1
    have g2 := c_isThen hx hI hw y i (by omega)
    by_cases c1 : I 39 (pu_sl0 I i) = nI st
    · by_cases c2 : pu_tn I y i
      · have hcf : pu_cf I st y i := ⟨c1, c2⟩
        have hn2 : n < 100 := by
          have hD := wx_bD hw
          have := pu_pig (cD I) (n + 1) (fun a => if a < n then pu_sl0 I (V a) / 2 else pu_sl0 I i / 2) (fun a ha => by
            show (if a < n then pu_sl0 I (V a) / 2 else pu_sl0 I i / 2) < cD I
            by_cases z : a < n
            · rw [if_pos z]
              have := wx_us hw (V a) (by have := (hV.1 a z).1; omega)
              have q := pu_on (x := I 15 (V a)) (n := 2 * cD I) ⟨this.1, by omega⟩
              have : pu_sl0 I (V a) < 2 * cD I := q.2
              omega
            · rw [if_neg z]
              have : pu_sl0 I i < 2 * cD I := hs2.2
              omega) (fun a b hab hbn => by
            show (if a < n then pu_sl0 I (V a) / 2 else pu_sl0 I i / 2) ≠ (if b < n then pu_sl0 I (V b) / 2 else pu_sl0 I i / 2)
            have ha := hV.1 a (by omega)
            rw [if_pos (by omega)]
            by_cases z : b < n
            · rw [if_pos z]
              have hb1 := hV.1 b z
              exact hinj _ _ (by omega) (by omega) ha.2 hb1.2 (hV.2.2 a b hab z).1
            · rw [if_neg z]
              exact hinj _ _ (by omega) (by omega) ha.2 hcf (by omega))
          omega
        obtain ⟨b, N, b1, b2, b3, b4, b5, b6⟩ := c_add hx hI hw o n i V ho hn2 (by omega) h2 hv
        have hV2 := pu_VI_add hV hcf b1 b4 b5
        obtain ⟨V1, n1, N1, d1, d2, d3, d4, d5⟩ := c_fill_l hw o st y ho hinj m (i + 1) _ (pu_vi V b i) (n + 1) N rfl (by omega) (pu_vf_x b2 hx) (pu_vf_g b2 hI) (by rw [b2.2 62 2 (by omega) (by omega)]; exact h2) b3 hV2 (by omega)
        refine ⟨V1, n1, N1, d1, pu_vf_t b2 d2, d3, d4, ?_⟩
        rw [pu_q1 c2] at g2
        rw [qX9_fill_32]
        simp [bX9_fill_32, bX9_fill_103, bX9_fill_97, bX9_fill_83, a_ai, a_ald, a_cs, a_cv, a_gi, a_gr, a_icge, a_icne, a_ifeq, a_ild, a_inc, a_vret, ag_14 hI, ag_15 hI, ag_16 hI, ag_31 hI, fx_14_1 hx, fx_14_2 hx, fx_5_4 hx, sh_14, sh_15, sh_16, sh_31, sh_5, sh_62, pu_rv, pu_as, Value.category, pu_bk, pu_kl, List.replicate, pu_wi_1, pu_wi_2, nl_add, nl_ladd, nl_aa, nl_mul, nl_rmul, nl_mm, pu_qe0, pu_qe1, hn0, hc, sh_14, g1, c1, g2, b6, d5]
        all_goals try simp (maxSteps := 400000) (disch := omega) [nl_tle, nl_fle, nl_tlt, nl_flt, nl_teq, nl_feq, nl_sub, nl_ss, nl_lt, nl_llt, nl_ltt, nl_le, nl_lle, nl_lee, nl_eq, nl_leq, nl_ee, nl_div, nl_rem, nl_cl, nl_n1, nl_n2, nl_n3, nl_n4, nl_add, nl_ladd, nl_aa, nl_mul, nl_rmul, nl_mm, pu_wi_1, pu_wi_2, bX9_fill_32, bX9_fill_103, bX9_fill_97, bX9_fill_83, a_ai, a_ald, a_cs, a_cv, a_gi, a_gr, a_icge, a_icne, a_ifeq, a_ild, a_inc, a_vret, ag_14 hI, ag_15 hI, ag_16 hI, ag_31 hI, fx_14_1 hx, fx_14_2 hx, fx_5_4 hx, sh_14, sh_15, sh_16, sh_31, sh_5, sh_62, pu_rv, pu_as, Value.category, pu_bk, pu_kl, pu_qe0, pu_qe1, hn0, hc, sh_14, g1, c1, g2, b6, d5]
        all_goals try simp [bX9_fill_32, bX9_fill_103, bX9_fill_97, bX9_fill_83, a_ai, a_ald, a_cs, a_cv, a_gi, a_gr, a_icge, a_icne, a_ifeq, a_ild, a_inc, a_vret, ag_14 hI, ag_15 hI, ag_16 hI, ag_31 hI, fx_14_1 hx, fx_14_2 hx, fx_5_4 hx, sh_14, sh_15, sh_16, sh_31, sh_5, sh_62, pu_rv, pu_as, Value.category, pu_bk, pu_kl, List.replicate, pu_wi_1, pu_wi_2, nl_add, nl_ladd, nl_aa, nl_mul, nl_rmul, nl_mm, pu_qe0, pu_qe1, hn0, hc, sh_14, g1, c1, g2, b6, d5]
        all_goals try simp (maxSteps := 400000) (disch := omega) [nl_tle, nl_fle, nl_tlt, nl_flt, nl_teq, nl_feq, nl_sub, nl_ss, nl_lt, nl_llt, nl_ltt, nl_le, nl_lle, nl_lee, nl_eq, nl_leq, nl_ee, nl_div, nl_rem, nl_cl, nl_n1, nl_n2, nl_n3, nl_n4, nl_add, nl_ladd, nl_aa, nl_mul, nl_rmul, nl_mm, pu_wi_1, pu_wi_2, bX9_fill_32, bX9_fill_103, bX9_fill_97, bX9_fill_83, a_ai, a_ald, a_cs, a_cv, a_gi, a_gr, a_icge, a_icne, a_ifeq, a_ild, a_inc, a_vret, ag_14 hI, ag_15 hI, ag_16 hI, ag_31 hI, fx_14_1 hx, fx_14_2 hx, fx_5_4 hx, sh_14, sh_15, sh_16, sh_31, sh_5, sh_62, pu_rv, pu_as, Value.category, pu_bk, pu_kl, pu_qe0, pu_qe1, hn0, hc, sh_14, g1, c1, g2, b6, d5]
      · have hV2 : pu_VI I o (pu_cf I st y) (i + 1) V n := ⟨fun a ha => ⟨by have := (hV.1 a ha).1; omega, (hV.1 a ha).2⟩, fun k hk hck => hV.2.1 k (by have : k ≠ i := fun e => c2 (by rw [← e]; exact hck.2); omega) hck, hV.2.2⟩
        obtain ⟨V1, n1, N1, d1, d2, d3, d4, d5⟩ := c_fill_l hw o st y ho hinj m (i + 1) _ V n M rfl (by omega) hx hI h2 hv hV2 hn
        refine ⟨V1, n1, N1, d1, d2, d3, d4, ?_⟩
        rw [pu_q0 c2] at g2
        rw [qX9_fill_32]
        simp [bX9_fill_32, bX9_fill_103, bX9_fill_97, bX9_fill_83, a_ai, a_ald, a_cs, a_cv, a_gi, a_gr, a_icge, a_icne, a_ifeq, a_ild, a_inc, a_vret, ag_14 hI, ag_15 hI, ag_16 hI, ag_31 hI, fx_14_1 hx, fx_14_2 hx, fx_5_4 hx, sh_14, sh_15, sh_16, sh_31, sh_5, sh_62, pu_rv, pu_as, Value.category, pu_bk, pu_kl, List.replicate, pu_wi_1, pu_wi_2, nl_add, nl_ladd, nl_aa, nl_mul, nl_rmul, nl_mm, pu_qe0, pu_qe1, hn0, hc, sh_14, g1, c1, g2, d5]
        all_goals try simp (maxSteps := 400000) (disch := omega) [nl_tle, nl_fle, nl_tlt, nl_flt, nl_teq, nl_feq, nl_sub, nl_ss, nl_lt, nl_llt, nl_ltt, nl_le, nl_lle, nl_lee, nl_eq, nl_leq, nl_ee, nl_div, nl_rem, nl_cl, nl_n1, nl_n2, nl_n3, nl_n4, nl_add, nl_ladd, nl_aa, nl_mul, nl_rmul, nl_mm, pu_wi_1, pu_wi_2, bX9_fill_32, bX9_fill_103, bX9_fill_97, bX9_fill_83, a_ai, a_ald, a_cs, a_cv, a_gi, a_gr, a_icge, a_icne, a_ifeq, a_ild, a_inc, a_vret, ag_14 hI, ag_15 hI, ag_16 hI, ag_31 hI, fx_14_1 hx, fx_14_2 hx, fx_5_4 hx, sh_14, sh_15, sh_16, sh_31, sh_5, sh_62, pu_rv, pu_as, Value.category, pu_bk, pu_kl, pu_qe0, pu_qe1, hn0, hc, sh_14, g1, c1, g2, d5]
        all_goals try simp [bX9_fill_32, bX9_fill_103, bX9_fill_97, bX9_fill_83, a_ai, a_ald, a_cs, a_cv, a_gi, a_gr, a_icge, a_icne, a_ifeq, a_ild, a_inc, a_vret, ag_14 hI, ag_15 hI, ag_16 hI, ag_31 hI, fx_14_1 hx, fx_14_2 hx, fx_5_4 hx, sh_14, sh_15, sh_16, sh_31, sh_5, sh_62, pu_rv, pu_as, Value.category, pu_bk, pu_kl, List.replicate, pu_wi_1, pu_wi_2, nl_add, nl_ladd, nl_aa, nl_mul, nl_rmul, nl_mm, pu_qe0, pu_qe1, hn0, hc, sh_14, g1, c1, g2, d5]
        all_goals try simp (maxSteps := 400000) (disch := omega) [nl_tle, nl_fle, nl_tlt, nl_flt, nl_teq, nl_feq, nl_sub, nl_ss, nl_lt, nl_llt, nl_ltt, nl_le, nl_lle, nl_lee, nl_eq, nl_leq, nl_ee, nl_div, nl_rem, nl_cl, nl_n1, nl_n2, nl_n3, nl_n4, nl_add, nl_ladd, nl_aa, nl_mul, nl_rmul, nl_mm, pu_wi_1, pu_wi_2, bX9_fill_32, bX9_fill_103, bX9_fill_97, bX9_fill_83, a_ai, a_ald, a_cs, a_cv, a_gi, a_gr, a_icge, a_icne, a_ifeq, a_ild, a_inc, a_vret, ag_14 hI, ag_15 hI, ag_16 hI, ag_31 hI, fx_14_1 hx, fx_14_2 hx, fx_5_4 hx, sh_14, sh_15, sh_16, sh_31, sh_5, sh_62, pu_rv, pu_as, Value.category, pu_bk, pu_kl, pu_qe0, pu_qe1, hn0, hc, sh_14, g1, c1, g2, d5]
    · have hV2 : pu_VI I o (pu_cf I st y) (i + 1) V n := ⟨fun a ha => ⟨by have := (hV.1 a ha).1; omega, (hV.1 a ha).2⟩, fun k hk hck => hV.2.1 k (by have : k ≠ i := fun e => c1 (by rw [← e]; exact hck.1); omega) hck, hV.2.2⟩
      obtain ⟨V1, n1, N1, d1, d2, d3, d4, d5⟩ := c_fill_l hw o st y ho hinj m (i + 1) _ V n M rfl (by omega) hx hI h2 hv hV2 hn
      refine ⟨V1, n1, N1, d1, d2, d3, d4, ?_⟩
      rw [qX9_fill_32]
      simp [bX9_fill_32, bX9_fill_103, bX9_fill_97, bX9_fill_83, a_ai, a_ald, a_cs, a_cv, a_gi, a_gr, a_icge, a_icne, a_ifeq, a_ild, a_inc, a_vret, ag_14 hI, ag_15 hI, ag_16 hI, ag_31 hI, fx_14_1 hx, fx_14_2 hx, fx_5_4 hx, sh_14, sh_15, sh_16, sh_31, sh_5, sh_62, pu_rv, pu_as, Value.category, pu_bk, pu_kl, List.replicate, pu_wi_1, pu_wi_2, nl_add, nl_ladd, nl_aa, nl_mul, nl_rmul, nl_mm, pu_qe0, pu_qe1, hn0, hc, sh_14, g1, c1, d5]
      all_goals try simp (maxSteps := 400000) (disch := omega) [nl_tle, nl_fle, nl_tlt, nl_flt, nl_teq, nl_feq, nl_sub, nl_ss, nl_lt, nl_llt, nl_ltt, nl_le, nl_lle, nl_lee, nl_eq, nl_leq, nl_ee, nl_div, nl_rem, nl_cl, nl_n1, nl_n2, nl_n3, nl_n4, nl_add, nl_ladd, nl_aa, nl_mul, nl_rmul, nl_mm, pu_wi_1, pu_wi_2, bX9_fill_32, bX9_fill_103, bX9_fill_97, bX9_fill_83, a_ai, a_ald, a_cs, a_cv, a_gi, a_gr, a_icge, a_icne, a_ifeq, a_ild, a_inc, a_vret, ag_14 hI, ag_15 hI, ag_16 hI, ag_31 hI, fx_14_1 hx, fx_14_2 hx, fx_5_4 hx, sh_14, sh_15, sh_16, sh_31, sh_5, sh_62, pu_rv, pu_as, Value.category, pu_bk, pu_kl, pu_qe0, pu_qe1, hn0, hc, sh_14, g1, c1, d5]
      all_goals try simp [bX9_fill_32, bX9_fill_103, bX9_fill_97, bX9_fill_83, a_ai, a_ald, a_cs, a_cv, a_gi, a_gr, a_icge, a_icne, a_ifeq, a_ild, a_inc, a_vret, ag_14 hI, ag_15 hI, ag_16 hI, ag_31 hI, fx_14_1 hx, fx_14_2 hx, fx_5_4 hx, sh_14, sh_15, sh_16, sh_31, sh_5, sh_62, pu_rv, pu_as, Value.category, pu_bk, pu_kl, List.replicate, pu_wi_1, pu_wi_2, nl_add, nl_ladd, nl_aa, nl_mul, nl_rmul, nl_mm, pu_qe0, pu_qe1, hn0, hc, sh_14, g1, c1, d5]
      all_goals try simp (maxSteps := 400000) (disch := omega) [nl_tle, nl_fle, nl_tlt, nl_flt, nl_teq, nl_feq, nl_sub, nl_ss, nl_lt, nl_llt, nl_ltt, nl_le, nl_lle, nl_lee, nl_eq, nl_leq, nl_ee, nl_div, nl_rem, nl_cl, nl_n1, nl_n2, nl_n3, nl_n4, nl_add, nl_ladd, nl_aa, nl_mul, nl_rmul, nl_mm, pu_wi_1, pu_wi_2, bX9_fill_32, bX9_fill_103, bX9_fill_97, bX9_fill_83, a_ai, a_ald, a_cs, a_cv, a_gi, a_gr, a_icge, a_icne, a_ifeq, a_ild, a_inc, a_vret, ag_14 hI, ag_15 hI, ag_16 hI, ag_31 hI, fx_14_1 hx, fx_14_2 hx, fx_5_4 hx, sh_14, sh_15, sh_16, sh_31, sh_5, sh_62, pu_rv, pu_as, Value.category, pu_bk, pu_kl, pu_qe0, pu_qe1, hn0, hc, sh_14, g1, c1, d5]
/-- cells 62 to 68 alone have changed -/
def pu_vg (M N : pu_M) : Prop := N.2 = M.2 ∧ ∀ c j, ¬ (62 ≤ c ∧ c ≤ 68) → N.1 c j = M.1 c j
theorem c_fill (hx : pu_fx M) (hI : pu_ag M I) (hw : pu_WF I L) (o st : Nat) (y : Int32) (ho : o < 4) (hst : st < cK I) (hinj : ∀ k l, k < cU I → l < cU I → pu_cf I st y k → pu_cf I st y l → k ≠ l → pu_sl0 I k / 2 ≠ pu_sl0 I l / 2) : ∃ V n N, n ≤ 100 ∧ pu_vg M N ∧ N.1 62 1 = I 27 st ∧ N.1 62 2 = nI o ∧ pu_vp N I o V n ∧ pu_VI I o (pu_cf I st y) (cU I) V n ∧ pu_r 73 [some (.ref 62), some (.ref 5), some (.int (nI st)), some (.int y), some (.int (nI o))] [] M = some (none, N) := by
  have hb := wx_bK hw
  have e1 := c_ruleOf (M := pu_wi M 62 0 0) (I := I) (L := L) hx (fun a j h1 h2 => by rw [pu_wi_1, if_neg (by omega)]; exact hI a j h1 h2) hw st hst
  obtain ⟨V, n, N, d1, d2, d3, d4, d5⟩ := c_fill_l hw o st y ho hinj (cU I) 0 0 (fun _ => 0) 0 (pu_wi (pu_wi (pu_wi M 62 0 0) 62 1 (I 27 st)) 62 2 (nI o)) rfl (by omega) hx (fun a j h1 h2 => by simp only [pu_wi_1]; rw [if_neg (by omega), if_neg (by omega), if_neg (by omega)]; exact hI a j h1 h2) (by simp [pu_wi_1]) ⟨by simp [pu_wi_1]; rfl, fun c j _ _ q => by omega⟩ ⟨fun a q => by omega, fun k q => by omega, fun a b _ q => by omega⟩ (by omega)
  refine ⟨V, n, N, d1, ⟨d2.1, fun c j q => ?_⟩, ?_, ?_, d3, d4, ?_⟩
  · rw [d2.2 c j (by omega) (by omega)]
    simp only [pu_wi_1]
    rw [if_neg (by omega), if_neg (by omega), if_neg (by omega)]
  · rw [d2.2 62 1 (by omega) (by omega)]
    simp [pu_wi_1]
  · rw [d2.2 62 2 (by omega) (by omega)]
    simp [pu_wi_1]
  · rw [qX9_fill]
    simp [a_ent, bX9_fill_0, a_ald, a_ast, a_cv, a_gr, a_ild, a_ist, a_pi, a_push, fx_5_1 hx, fx_5_3 hx, sh_14, sh_25, sh_5, sh_62, pu_rv, pu_as, Value.category, pu_bk, pu_kl, List.replicate, pu_wi_1, pu_wi_2, nl_add, nl_ladd, nl_aa, nl_mul, nl_rmul, nl_mm, pu_qe0, pu_qe1, e1, d5]
    all_goals try simp (maxSteps := 400000) (disch := omega) [nl_tle, nl_fle, nl_tlt, nl_flt, nl_teq, nl_feq, nl_sub, nl_ss, nl_lt, nl_llt, nl_ltt, nl_le, nl_lle, nl_lee, nl_eq, nl_leq, nl_ee, nl_div, nl_rem, nl_cl, nl_n1, nl_n2, nl_n3, nl_n4, nl_add, nl_ladd, nl_aa, nl_mul, nl_rmul, nl_mm, pu_wi_1, pu_wi_2, bX9_fill_0, a_ald, a_ast, a_cv, a_gr, a_ild, a_ist, a_pi, a_push, fx_5_1 hx, fx_5_3 hx, sh_14, sh_25, sh_5, sh_62, pu_rv, pu_as, Value.category, pu_bk, pu_kl, pu_qe0, pu_qe1, e1, d5]
    all_goals try simp [bX9_fill_0, a_ald, a_ast, a_cv, a_gr, a_ild, a_ist, a_pi, a_push, fx_5_1 hx, fx_5_3 hx, sh_14, sh_25, sh_5, sh_62, pu_rv, pu_as, Value.category, pu_bk, pu_kl, List.replicate, pu_wi_1, pu_wi_2, nl_add, nl_ladd, nl_aa, nl_mul, nl_rmul, nl_mm, pu_qe0, pu_qe1, e1, d5]
    all_goals try simp (maxSteps := 400000) (disch := omega) [nl_tle, nl_fle, nl_tlt, nl_flt, nl_teq, nl_feq, nl_sub, nl_ss, nl_lt, nl_llt, nl_ltt, nl_le, nl_lle, nl_lee, nl_eq, nl_leq, nl_ee, nl_div, nl_rem, nl_cl, nl_n1, nl_n2, nl_n3, nl_n4, nl_add, nl_ladd, nl_aa, nl_mul, nl_rmul, nl_mm, pu_wi_1, pu_wi_2, bX9_fill_0, a_ald, a_ast, a_cv, a_gr, a_ild, a_ist, a_pi, a_push, fx_5_1 hx, fx_5_3 hx, sh_14, sh_25, sh_5, sh_62, pu_rv, pu_as, Value.category, pu_bk, pu_kl, pu_qe0, pu_qe1, e1, d5]
end
