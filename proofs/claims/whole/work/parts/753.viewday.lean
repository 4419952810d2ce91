/-! a street's view on a day: bounds -/
def py_vd (M : pu_M) (I : Nat → Nat → Int32) (st : Nat) (y : Int32) (o : Nat) (V : Nat → Nat) (n : Nat) : Prop := n ≤ 100 ∧ M.1 62 1 = I 27 st ∧ M.1 62 2 = nI o ∧ pu_vp M I o V n ∧ pu_VI I o (pu_cf I st y) (cU I) V n ∧ o = (if I 27 st = 1 then 0 else 3) ∧ st < 2147483648
/-- a known number of the street on the day, in line with a side -/
def py_eo (I : Nat → Nat → Int32) (st : Nat) (y : Int32) (sd : Int) (k : Nat) : Prop := k < cU I ∧ I 39 (pu_sl0 I k) = nI st ∧ pu_tn I y k ∧ ((I 27 st).toInt = 1 ∨ (I 40 (pu_sl0 I k)).toInt = sd) ∧ 0 < (I 16 k).toInt
def py_lo (I : Nat → Nat → Int32) (st : Nat) (y : Int32) (sd h : Int) (K : Nat) (be : Int) (lo : Int32) : Prop := (be = -1 ∧ lo = 0 ∧ ∀ k, py_eo I st y sd k → k < K → ¬ pz_ak I st k < h) ∨ ∃ k, py_eo I st y sd k ∧ k < K ∧ pz_ak I st k < h ∧ pz_ak I st k = be ∧ I 16 k = lo ∧ ∀ l, py_eo I st y sd l → l < K → pz_ak I st l < h → pz_ak I st l ≤ be
def py_hi (I : Nat → Nat → Int32) (st : Nat) (y : Int32) (sd h : Int) (K : Nat) (be : Int) (lo : Int32) : Prop := (be = 1000000 ∧ lo = 160000 ∧ ∀ k, py_eo I st y sd k → k < K → ¬ h < pz_ak I st k) ∨ ∃ k, py_eo I st y sd k ∧ k < K ∧ h < pz_ak I st k ∧ pz_ak I st k = be ∧ I 16 k = lo ∧ ∀ l, py_eo I st y sd l → l < K → h < pz_ak I st l → be ≤ pz_ak I st l
section
variable {M : pu_M} {I : Nat → Nat → Int32} {L : Nat → Nat → Int64} {st o n : Nat} {y : Int32} {V : Nat → Nat}
theorem py_vd_m (h : py_vd M I st y o V n) {a : Nat} (ha : a < n) : V a < cU I ∧ I 39 (pu_sl0 I (V a)) = nI st ∧ pu_tn I y (V a) := by
  have := h.2.2.2.2.1.1 a ha
  exact ⟨this.1, this.2.1, this.2.2⟩
theorem py_vd_e (h : py_vd M I st y o V n) {k : Nat} (h1 : k < cU I) (h2 : I 39 (pu_sl0 I k) = nI st) (h3 : pu_tn I y k) : ∃ a, a < n ∧ V a = k := h.2.2.2.2.1.2.1 k h1 ⟨h2, h3⟩
theorem py_vd_c (h : py_vd M I st y o V n) {a : Nat} (ha : a < n) : M.1 64 a = I 15 (V a) ∧ M.1 65 a = I 16 (V a) ∧ M.1 66 a = I 40 (pu_sl0 I (V a)) ∧ M.1 67 a = I 41 (pu_sl0 I (V a)) ∧ M.1 68 a = pu_rk I o (V a) ∧ M.1 63 a = nI (V a) := by
  have g := h.2.2.2.1.2
  exact ⟨g 64 a (by omega) (by omega) ha, g 65 a (by omega) (by omega) ha, g 66 a (by omega) (by omega) ha, g 67 a (by omega) (by omega) ha, g 68 a (by omega) (by omega) ha, g 63 a (by omega) (by omega) ha⟩
theorem py_pl0 (hw : pu_WF I L) (hst : st < 2147483648) {k : Nat} (hk : k < cU I) (h39 : I 39 (pu_sl0 I k) = nI st) (h : pu_tn I y k) : 0 ≤ (I 40 (pu_sl0 I k)).toInt ∧ (I 40 (pu_sl0 I k)).toInt ≤ 1 ∧ 0 ≤ (I 41 (pu_sl0 I k)).toInt ∧ (I 41 (pu_sl0 I k)).toInt ≤ 9999 := by
  obtain ⟨q, q1, _, _, q4⟩ := pu_tn_oq hw st hst y
  exact pz_pl hw hk q1 (by rw [← q4 k hk h39]; exact h)
theorem py_rka (hw : pu_WF I L) (h : py_vd M I st y o V n) {a : Nat} (ha : a < n) : (pu_rk I o (V a)).toInt = pz_ak I st (V a) - (if (I 27 st).toInt = 1 then 0 else 80000 * (I 40 (pu_sl0 I (V a))).toInt) := by
  have m := py_vd_m h ha
  have p := py_pl0 hw h.2.2.2.2.2.2 m.1 m.2.1 m.2.2
  unfold pu_rk pz_ak
  rw [h.2.2.2.2.2.1]
  exact pz_rk_e p.1 p.2.1 p.2.2.1 p.2.2.2
theorem py_o0 (hw : pu_WF I L) (h : py_vd M I st y o V n) : (o = 0) = ((I 27 st).toInt = 1) := by
  rw [h.2.2.2.2.2.1, ← pz_r1 hw]
  by_cases c : I 27 st = 1
  · simp [c]
  · simp [c]
theorem c_inLineD (hx : pu_fx M) (hw : pu_WF I L) (h : py_vd M I st y o V n) {a : Nat} (ha : a < n) (sd : Int32) : pu_r 74 [some (.ref 62), some (.int (nI a)), some (.int sd)] [] M = some (some (.int (pu_q ((I 27 st).toInt = 1 ∨ (I 40 (pu_sl0 I (V a))).toInt = sd.toInt))), M) := by
  have c := py_vd_c h ha
  have hn := h.1
  have o1 := h.2.2.2.2.2.1
  have o2 := h.2.2.1
  have oz := py_o0 hw h
  have es : (I 40 (pu_sl0 I (V a)) = sd) = ((I 40 (pu_sl0 I (V a))).toInt = sd.toInt) := propext ⟨fun e => by rw [e], fun e => Int32.toInt_inj.mp e⟩
  rw [← oz, ← es]
  have o3 : (nI o = 0) = (o = 0) := propext (nI_eq (b := 0) (by rw [o1]; split <;> omega) (by omega))
  rw [qX9_isInLine]
  simp [a_ent, bX9_isInLine_0, bX9_isInLine_17, bX9_isInLine_22, bX9_isInLine_21, a_ai, a_ald, a_gi, a_gr, a_icne, a_ifeq, a_ild, a_push, a_zret, fx_62_6 hx, sh_62, sh_66, pu_rv, pu_as, Value.category, pu_bk, pu_kl, List.replicate, pu_wi_1, pu_wi_2, nl_add, nl_ladd, nl_aa, nl_mul, nl_rmul, nl_mm, pu_qe0, pu_qe1, c.2.2.1, o2, o3]
  all_goals try simp (maxSteps := 400000) (disch := omega) [nl_tle, nl_fle, nl_tlt, nl_flt, nl_teq, nl_feq, nl_sub, nl_ss, nl_lt, nl_llt, nl_ltt, nl_le, nl_lle, nl_lee, nl_eq, nl_leq, nl_ee, nl_div, nl_rem, nl_cl, nl_n1, nl_n2, nl_n3, nl_n4, nl_add, nl_ladd, nl_aa, nl_mul, nl_rmul, nl_mm, pu_wi_1, pu_wi_2, bX9_isInLine_0, bX9_isInLine_17, bX9_isInLine_22, bX9_isInLine_21, a_ai, a_ald, a_gi, a_gr, a_icne, a_ifeq, a_ild, a_push, a_zret, fx_62_6 hx, sh_62, sh_66, pu_rv, pu_as, Value.category, pu_bk, pu_kl, pu_qe0, pu_qe1, c.2.2.1, o2, o3]
  all_goals try simp [bX9_isInLine_0, bX9_isInLine_17, bX9_isInLine_22, bX9_isInLine_21, a_ai, a_ald, a_gi, a_gr, a_icne, a_ifeq, a_ild, a_push, a_zret, fx_62_6 hx, sh_62, sh_66, pu_rv, pu_as, Value.category, pu_bk, pu_kl, List.replicate, pu_wi_1, pu_wi_2, nl_add, nl_ladd, nl_aa, nl_mul, nl_rmul, nl_mm, pu_qe0, pu_qe1, c.2.2.1, o2, o3]
  all_goals try simp (maxSteps := 400000) (disch := omega) [nl_tle, nl_fle, nl_tlt, nl_flt, nl_teq, nl_feq, nl_sub, nl_ss, nl_lt, nl_llt, nl_ltt, nl_le, nl_lle, nl_lee, nl_eq, nl_leq, nl_ee, nl_div, nl_rem, nl_cl, nl_n1, nl_n2, nl_n3, nl_n4, nl_add, nl_ladd, nl_aa, nl_mul, nl_rmul, nl_mm, pu_wi_1, pu_wi_2, bX9_isInLine_0, bX9_isInLine_17, bX9_isInLine_22, bX9_isInLine_21, a_ai, a_ald, a_gi, a_gr, a_icne, a_ifeq, a_ild, a_push, a_zret, fx_62_6 hx, sh_62, sh_66, pu_rv, pu_as, Value.category, pu_bk, pu_kl, pu_qe0, pu_qe1, c.2.2.1, o2, o3]
  all_goals try simp [bX9_isInLine_0, bX9_isInLine_17, bX9_isInLine_22, bX9_isInLine_21, a_ai, a_ald, a_gi, a_gr, a_icne, a_ifeq, a_ild, a_push, a_zret, fx_62_6 hx, sh_62, sh_66, pu_rv, pu_as, Value.category, pu_bk, pu_kl, List.replicate, pu_wi_1, pu_wi_2, nl_add, nl_ladd, nl_aa, nl_mul, nl_rmul, nl_mm, pu_qe0, pu_qe1, c.2.2.1, o2, o3]
  all_goals try simp (maxSteps := 400000) (disch := omega) [nl_tle, nl_fle, nl_tlt, nl_flt, nl_teq, nl_feq, nl_sub, nl_ss, nl_lt, nl_llt, nl_ltt, nl_le, nl_lle, nl_lee, nl_eq, nl_leq, nl_ee, nl_div, nl_rem, nl_cl, nl_n1, nl_n2, nl_n3, nl_n4, nl_add, nl_ladd, nl_aa, nl_mul, nl_rmul, nl_mm, pu_wi_1, pu_wi_2, bX9_isInLine_0, bX9_isInLine_17, bX9_isInLine_22, bX9_isInLine_21, a_ai, a_ald, a_gi, a_gr, a_icne, a_ifeq, a_ild, a_push, a_zret, fx_62_6 hx, sh_62, sh_66, pu_rv, pu_as, Value.category, pu_bk, pu_kl, pu_qe0, pu_qe1, c.2.2.1, o2, o3]
  all_goals try simp [bX9_isInLine_0, bX9_isInLine_17, bX9_isInLine_22, bX9_isInLine_21, a_ai, a_ald, a_gi, a_gr, a_icne, a_ifeq, a_ild, a_push, a_zret, fx_62_6 hx, sh_62, sh_66, pu_rv, pu_as, Value.category, pu_bk, pu_kl, List.replicate, pu_wi_1, pu_wi_2, nl_add, nl_ladd, nl_aa, nl_mul, nl_rmul, nl_mm, pu_qe0, pu_qe1, c.2.2.1, o2, o3]
  grind [pu_q]
/-- the loop of lowAt -/
theorem c_lowD_l (hx : pu_fx M) (hw : pu_WF I L) (h : py_vd M I st y o V n) (sd rk : Int32) (hh : Int) (hrk : rk.toInt = hh - (if (I 27 st).toInt = 1 then 0 else 80000 * sd.toInt)) : ∀ (m i : Nat) (lo : Int32), i + m = n → ((lo = 0 ∧ ∀ a, a < i → py_eo I st y sd.toInt (V a) → ¬ pz_ak I st (V a) < hh) ∨ ∃ a, a < i ∧ py_eo I st y sd.toInt (V a) ∧ pz_ak I st (V a) < hh ∧ I 16 (V a) = lo ∧ ∀ b, b < i → py_eo I st y sd.toInt (V b) → pz_ak I st (V b) < hh → pz_ak I st (V b) ≤ pz_ak I st (V a)) →
    ∃ lo2, ((lo2 = 0 ∧ ∀ a, a < n → py_eo I st y sd.toInt (V a) → ¬ pz_ak I st (V a) < hh) ∨ ∃ a, a < n ∧ py_eo I st y sd.toInt (V a) ∧ pz_ak I st (V a) < hh ∧ I 16 (V a) = lo2 ∧ ∀ b, b < n → py_eo I st y sd.toInt (V b) → pz_ak I st (V b) < hh → pz_ak I st (V b) ≤ pz_ak I st (V a)) ∧ pu_r 372 [some (.ref 62), some (.int sd), some (.int rk), some (.int lo), some (.int (nI i))] [] M = some (some (.int lo2), M)
  | 0, i, lo, hi, g => by
    have hn := h.1
    have hc : nI n ≤ nI i := nI_le (by omega) (by omega)
    have e : i = n := by omega
    subst e
    refine ⟨lo, g, ?_⟩
    rw [qX9_lowAt_5]
    simp [bX9_lowAt_5, bX9_lowAt_59, bX9_lowAt_53, bX9_lowAt_52, a_ai, a_ald, a_cv, a_gi, a_gr, a_icge, a_ifeq, a_ild, a_inc, a_iret, a_ist, fx_62_5 hx, fx_62_8 hx, sh_62, sh_65, sh_68, pu_rv, pu_as, Value.category, pu_bk, pu_kl, List.replicate, pu_wi_1, pu_wi_2, nl_add, nl_ladd, nl_aa, nl_mul, nl_rmul, nl_mm, pu_qe0, pu_qe1, h.2.2.2.1.1, hc]
    all_goals try simp (maxSteps := 400000) (disch := omega) [nl_tle, nl_fle, nl_tlt, nl_flt, nl_teq, nl_feq, nl_sub, nl_ss, nl_lt, nl_llt, nl_ltt, nl_le, nl_lle, nl_lee, nl_eq, nl_leq, nl_ee, nl_div, nl_rem, nl_cl, nl_n1, nl_n2, nl_n3, nl_n4, nl_add, nl_ladd, nl_aa, nl_mul, nl_rmul, nl_mm, pu_wi_1, pu_wi_2, bX9_lowAt_5, bX9_lowAt_59, bX9_lowAt_53, bX9_lowAt_52, a_ai, a_ald, a_cv, a_gi, a_gr, a_icge, a_ifeq, a_ild, a_inc, a_iret, a_ist, fx_62_5 hx, fx_62_8 hx, sh_62, sh_65, sh_68, pu_rv, pu_as, Value.category, pu_bk, pu_kl, pu_qe0, pu_qe1, h.2.2.2.1.1, hc]
    all_goals try simp [bX9_lowAt_5, bX9_lowAt_59, bX9_lowAt_53, bX9_lowAt_52, a_ai, a_ald, a_cv, a_gi, a_gr, a_icge, a_ifeq, a_ild, a_inc, a_iret, a_ist, fx_62_5 hx, fx_62_8 hx, sh_62, sh_65, sh_68, pu_rv, pu_as, Value.category, pu_bk, pu_kl, List.replicate, pu_wi_1, pu_wi_2, nl_add, nl_ladd, nl_aa, nl_mul, nl_rmul, nl_mm, pu_qe0, pu_qe1, h.2.2.2.1.1, hc]
    all_goals try simp (maxSteps := 400000) (disch := omega) [nl_tle, nl_fle, nl_tlt, nl_flt, nl_teq, nl_feq, nl_sub, nl_ss, nl_lt, nl_llt, nl_ltt, nl_le, nl_lle, nl_lee, nl_eq, nl_leq, nl_ee, nl_div, nl_rem, nl_cl, nl_n1, nl_n2, nl_n3, nl_n4, nl_add, nl_ladd, nl_aa, nl_mul, nl_rmul, nl_mm, pu_wi_1, pu_wi_2, bX9_lowAt_5, bX9_lowAt_59, bX9_lowAt_53, bX9_lowAt_52, a_ai, a_ald, a_cv, a_gi, a_gr, a_icge, a_ifeq, a_ild, a_inc, a_iret, a_ist, fx_62_5 hx, fx_62_8 hx, sh_62, sh_65, sh_68, pu_rv, pu_as, Value.category, pu_bk, pu_kl, pu_qe0, pu_qe1, h.2.2.2.1.1, hc]
    all_goals try simp [bX9_lowAt_5, bX9_lowAt_59, bX9_lowAt_53, bX9_lowAt_52, a_ai, a_ald, a_cv, a_gi, a_gr, a_icge, a_ifeq, a_ild, a_inc, a_iret, a_ist, fx_62_5 hx, fx_62_8 hx, sh_62, sh_65, sh_68, pu_rv, pu_as, Value.category, pu_bk, pu_kl, List.replicate, pu_wi_1, pu_wi_2, nl_add, nl_ladd, nl_aa, nl_mul, nl_rmul, nl_mm, pu_qe0, pu_qe1, h.2.2.2.1.1, hc]
    all_goals try simp (maxSteps := 400000) (disch := omega) [nl_tle, nl_fle, nl_tlt, nl_flt, nl_teq, nl_feq, nl_sub, nl_ss, nl_lt, nl_llt, nl_ltt, nl_le, nl_lle, nl_lee, nl_eq, nl_leq, nl_ee, nl_div, nl_rem, nl_cl, nl_n1, nl_n2, nl_n3, nl_n4, nl_add, nl_ladd, nl_aa, nl_mul, nl_rmul, nl_mm, pu_wi_1, pu_wi_2, bX9_lowAt_5, bX9_lowAt_59, bX9_lowAt_53, bX9_lowAt_52, a_ai, a_ald, a_cv, a_gi, a_gr, a_icge, a_ifeq, a_ild, a_inc, a_iret, a_ist, fx_62_5 hx, fx_62_8 hx, sh_62, sh_65, sh_68, pu_rv, pu_as, Value.category, pu_bk, pu_kl, pu_qe0, pu_qe1, h.2.2.2.1.1, hc]
    all_goals try simp [bX9_lowAt_5, bX9_lowAt_59, bX9_lowAt_53, bX9_lowAt_52, a_ai, a_ald, a_cv, a_gi, a_gr, a_icge, a_ifeq, a_ild, a_inc, a_iret, a_ist, fx_62_5 hx, fx_62_8 hx, sh_62, sh_65, sh_68, pu_rv, pu_as, Value.category, pu_bk, pu_kl, List.replicate, pu_wi_1, pu_wi_2, nl_add, nl_ladd, nl_aa, nl_mul, nl_rmul, nl_mm, pu_qe0, pu_qe1, h.2.2.2.1.1, hc]
  | m + 1, i, lo, hi, g => by
    have hn := h.1
    have hc : ¬ nI n ≤ nI i := nI_ge (by omega) (by omega)
    have c := py_vd_c h (a := i) (by omega)
    have mm := py_vd_m h (a := i) (by omega)
    have ra := py_rka hw h (a := i) (by omega)
    have e1 := c_inLineD hx hw h (a := i) (by omega) sd
    have uw := wx_uw hw (V i) mm.1
    have t0 : (0 : Int32).toInt = 0 := by decide
    have skip : (py_eo I st y sd.toInt (V i) → ¬ pz_ak I st (V i) < hh) → ((lo = 0 ∧ ∀ a, a < i + 1 → py_eo I st y sd.toInt (V a) → ¬ pz_ak I st (V a) < hh) ∨ ∃ a, a < i + 1 ∧ py_eo I st y sd.toInt (V a) ∧ pz_ak I st (V a) < hh ∧ I 16 (V a) = lo ∧ ∀ b, b < i + 1 → py_eo I st y sd.toInt (V b) → pz_ak I st (V b) < hh → pz_ak I st (V b) ≤ pz_ak I st (V a)) := fun hs => by
      rcases g with ⟨g1, g2⟩ | ⟨a, a1, a2, a3, a4, a5⟩
      · refine Or.inl ⟨g1, fun b hb hb2 => ?_⟩
        by_cases z : b = i
        · rw [z] at hb2 ⊢
          exact hs hb2
        · exact g2 b (by omega) hb2
      · refine Or.inr ⟨a, by omega, a2, a3, a4, fun b hb hb2 hb3 => ?_⟩
        by_cases z : b = i
        · rw [z] at hb2 hb3
          exact absurd hb3 (hs hb2)
        · exact a5 b (by omega) hb2 hb3
    by_cases f1 : pu_rk I o (V i) < rk
    · have f2 : ¬ rk ≤ pu_rk I o (V i) := Int32.not_le.mpr f1
      have f3 := Int32.lt_iff_toInt_lt.mp f1
      by_cases f4 : I 16 (V i) = 0
      · obtain ⟨l2, l3, l4⟩ := c_lowD_l hx hw h sd rk hh hrk m (i + 1) lo (by omega) (skip (fun el => by have := el.2.2.2.2; rw [f4] at this; omega))
        refine ⟨l2, l3, ?_⟩
        rw [qX9_lowAt_5]
        simp [bX9_lowAt_5, bX9_lowAt_59, bX9_lowAt_53, bX9_lowAt_52, a_ai, a_ald, a_cv, a_gi, a_gr, a_icge, a_ifeq, a_ild, a_inc, a_iret, a_ist, fx_62_5 hx, fx_62_8 hx, sh_62, sh_65, sh_68, pu_rv, pu_as, Value.category, pu_bk, pu_kl, List.replicate, pu_wi_1, pu_wi_2, nl_add, nl_ladd, nl_aa, nl_mul, nl_rmul, nl_mm, pu_qe0, pu_qe1, h.2.2.2.1.1, hc, c.2.2.2.2.1, f2, c.2.1, f4, l4]
        all_goals try simp (maxSteps := 400000) (disch := omega) [nl_tle, nl_fle, nl_tlt, nl_flt, nl_teq, nl_feq, nl_sub, nl_ss, nl_lt, nl_llt, nl_ltt, nl_le, nl_lle, nl_lee, nl_eq, nl_leq, nl_ee, nl_div, nl_rem, nl_cl, nl_n1, nl_n2, nl_n3, nl_n4, nl_add, nl_ladd, nl_aa, nl_mul, nl_rmul, nl_mm, pu_wi_1, pu_wi_2, bX9_lowAt_5, bX9_lowAt_59, bX9_lowAt_53, bX9_lowAt_52, a_ai, a_ald, a_cv, a_gi, a_gr, a_icge, a_ifeq, a_ild, a_inc, a_iret, a_ist, fx_62_5 hx, fx_62_8 hx, sh_62, sh_65, sh_68, pu_rv, pu_as, Value.category, pu_bk, pu_kl, pu_qe0, pu_qe1, h.2.2.2.1.1, hc, c.2.2.2.2.1, f2, c.2.1, f4, l4]
        all_goals try simp [bX9_lowAt_5, bX9_lowAt_59, bX9_lowAt_53, bX9_lowAt_52, a_ai, a_ald, a_cv, a_gi, a_gr, a_icge, a_ifeq, a_ild, a_inc, a_iret, a_ist, fx_62_5 hx, fx_62_8 hx, sh_62, sh_65, sh_68, pu_rv, pu_as, Value.category, pu_bk, pu_kl, List.replicate, pu_wi_1, pu_wi_2, nl_add, nl_ladd, nl_aa, nl_mul, nl_rmul, nl_mm, pu_qe0, pu_qe1, h.2.2.2.1.1, hc, c.2.2.2.2.1, f2, c.2.1, f4, l4]
        all_goals try simp (maxSteps := 400000) (disch := omega) [nl_tle, nl_fle, nl_tlt, nl_flt, nl_teq, nl_feq, nl_sub, nl_ss, nl_lt, nl_llt, nl_ltt, nl_le, nl_lle, nl_lee, nl_eq, nl_leq, nl_ee, nl_div, nl_rem, nl_cl, nl_n1, nl_n2, nl_n3, nl_n4, nl_add, nl_ladd, nl_aa, nl_mul, nl_rmul, nl_mm, pu_wi_1, pu_wi_2, bX9_lowAt_5, bX9_lowAt_59, bX9_lowAt_53, bX9_lowAt_52, a_ai, a_ald, a_cv, a_gi, a_gr, a_icge, a_ifeq, a_ild, a_inc, a_iret, a_ist, fx_62_5 hx, fx_62_8 hx, sh_62, sh_65, sh_68, pu_rv, pu_as, Value.category, pu_bk, pu_kl, pu_qe0, pu_qe1, h.2.2.2.1.1, hc, c.2.2.2.2.1, f2, c.2.1, f4, l4]
        all_goals try simp [bX9_lowAt_5, bX9_lowAt_59, bX9_lowAt_53, bX9_lowAt_52, a_ai, a_ald, a_cv, a_gi, a_gr, a_icge, a_ifeq, a_ild, a_inc, a_iret, a_ist, fx_62_5 hx, fx_62_8 hx, sh_62, sh_65, sh_68, pu_rv, pu_as, Value.category, pu_bk, pu_kl, List.replicate, pu_wi_1, pu_wi_2, nl_add, nl_ladd, nl_aa, nl_mul, nl_rmul, nl_mm, pu_qe0, pu_qe1, h.2.2.2.1.1, hc, c.2.2.2.2.1, f2, c.2.1, f4, l4]
        all_goals try simp (maxSteps := 400000) (disch := omega) [nl_tle, nl_fle, nl_tlt, nl_flt, nl_teq, nl_feq, nl_sub, nl_ss, nl_lt, nl_llt, nl_ltt, nl_le, nl_lle, nl_lee, nl_eq, nl_leq, nl_ee, nl_div, nl_rem, nl_cl, nl_n1, nl_n2, nl_n3, nl_n4, nl_add, nl_ladd, nl_aa, nl_mul, nl_rmul, nl_mm, pu_wi_1, pu_wi_2, bX9_lowAt_5, bX9_lowAt_59, bX9_lowAt_53, bX9_lowAt_52, a_ai, a_ald, a_cv, a_gi, a_gr, a_icge, a_ifeq, a_ild, a_inc, a_iret, a_ist, fx_62_5 hx, fx_62_8 hx, sh_62, sh_65, sh_68, pu_rv, pu_as, Value.category, pu_bk, pu_kl, pu_qe0, pu_qe1, h.2.2.2.1.1, hc, c.2.2.2.2.1, f2, c.2.1, f4, l4]
        all_goals try simp [bX9_lowAt_5, bX9_lowAt_59, bX9_lowAt_53, bX9_lowAt_52, a_ai, a_ald, a_cv, a_gi, a_gr, a_icge, a_ifeq, a_ild, a_inc, a_iret, a_ist, fx_62_5 hx, fx_62_8 hx, sh_62, sh_65, sh_68, pu_rv, pu_as, Value.category, pu_bk, pu_kl, List.replicate, pu_wi_1, pu_wi_2, nl_add, nl_ladd, nl_aa, nl_mul, nl_rmul, nl_mm, pu_qe0, pu_qe1, h.2.2.2.1.1, hc, c.2.2.2.2.1, f2, c.2.1, f4, l4]
      · by_cases f5 : (I 27 st).toInt = 1 ∨ (I 40 (pu_sl0 I (V i))).toInt = sd.toInt
        · rw [pu_q1 f5] at e1
          have w0 : (I 16 (V i)).toInt ≠ 0 := fun z => f4 (Int32.toInt_inj.mp (by rw [z, t0]))
          have el : py_eo I st y sd.toInt (V i) := ⟨mm.1, mm.2.1, mm.2.2, f5, by omega⟩
          have lt : pz_ak I st (V i) < hh := by
            rcases f5 with f5 | f5
            · rw [if_pos f5] at ra hrk
              omega
            · rw [f5] at ra
              omega
          obtain ⟨l2, l3, l4⟩ := c_lowD_l hx hw h sd rk hh hrk m (i + 1) (I 16 (V i)) (by omega) (Or.inr ⟨i, by omega, el, lt, rfl, fun b hb hb2 hb3 => by
            by_cases z : b = i
            · rw [z]
              exact Int.le_refl _
            · have so := Int32.le_iff_toInt_le.mp (h.2.2.2.2.1.2.2 b i (by omega) (by omega)).2
              have rb := py_rka hw h (a := b) (by omega)
              rw [ra, rb] at so
              by_cases yy : (I 27 st).toInt = 1
              · rw [if_pos yy, if_pos yy] at so
                omega
              · rw [if_neg yy, if_neg yy] at so
                rcases f5 with q | q
                · exact absurd q yy
                · rcases hb2.2.2.2.1 with q2 | q2
                  · exact absurd q2 yy
                  · rw [q, q2] at so
                    omega⟩)
          refine ⟨l2, l3, ?_⟩
          rw [qX9_lowAt_5]
          simp [bX9_lowAt_5, bX9_lowAt_59, bX9_lowAt_53, bX9_lowAt_52, a_ai, a_ald, a_cv, a_gi, a_gr, a_icge, a_ifeq, a_ild, a_inc, a_iret, a_ist, fx_62_5 hx, fx_62_8 hx, sh_62, sh_65, sh_68, pu_rv, pu_as, Value.category, pu_bk, pu_kl, List.replicate, pu_wi_1, pu_wi_2, nl_add, nl_ladd, nl_aa, nl_mul, nl_rmul, nl_mm, pu_qe0, pu_qe1, h.2.2.2.1.1, hc, c.2.2.2.2.1, f2, c.2.1, f4, e1, l4]
          all_goals try simp (maxSteps := 400000) (disch := omega) [nl_tle, nl_fle, nl_tlt, nl_flt, nl_teq, nl_feq, nl_sub, nl_ss, nl_lt, nl_llt, nl_ltt, nl_le, nl_lle, nl_lee, nl_eq, nl_leq, nl_ee, nl_div, nl_rem, nl_cl, nl_n1, nl_n2, nl_n3, nl_n4, nl_add, nl_ladd, nl_aa, nl_mul, nl_rmul, nl_mm, pu_wi_1, pu_wi_2, bX9_lowAt_5, bX9_lowAt_59, bX9_lowAt_53, bX9_lowAt_52, a_ai, a_ald, a_cv, a_gi, a_gr, a_icge, a_ifeq, a_ild, a_inc, a_iret, a_ist, fx_62_5 hx, fx_62_8 hx, sh_62, sh_65, sh_68, pu_rv, pu_as, Value.category, pu_bk, pu_kl, pu_qe0, pu_qe1, h.2.2.2.1.1, hc, c.2.2.2.2.1, f2, c.2.1, f4, e1, l4]
          all_goals try simp [bX9_lowAt_5, bX9_lowAt_59, bX9_lowAt_53, bX9_lowAt_52, a_ai, a_ald, a_cv, a_gi, a_gr, a_icge, a_ifeq, a_ild, a_inc, a_iret, a_ist, fx_62_5 hx, fx_62_8 hx, sh_62, sh_65, sh_68, pu_rv, pu_as, Value.category, pu_bk, pu_kl, List.replicate, pu_wi_1, pu_wi_2, nl_add, nl_ladd, nl_aa, nl_mul, nl_rmul, nl_mm, pu_qe0, pu_qe1, h.2.2.2.1.1, hc, c.2.2.2.2.1, f2, c.2.1, f4, e1, l4]
          all_goals try simp (maxSteps := 400000) (disch := omega) [nl_tle, nl_fle, nl_tlt, nl_flt, nl_teq, nl_feq, nl_sub, nl_ss, nl_lt, nl_llt, nl_ltt, nl_le, nl_lle, nl_lee, nl_eq, nl_leq, nl_ee, nl_div, nl_rem, nl_cl, nl_n1, nl_n2, nl_n3, nl_n4, nl_add, nl_ladd, nl_aa, nl_mul, nl_rmul, nl_mm, pu_wi_1, pu_wi_2, bX9_lowAt_5, bX9_lowAt_59, bX9_lowAt_53, bX9_lowAt_52, a_ai, a_ald, a_cv, a_gi, a_gr, a_icge, a_ifeq, a_ild, a_inc, a_iret, a_ist, fx_62_5 hx, fx_62_8 hx, sh_62, sh_65, sh_68, pu_rv, pu_as, Value.category, pu_bk, pu_kl, pu_qe0, pu_qe1, h.2.2.2.1.1, hc, c.2.2.2.2.1, f2, c.2.1, f4, e1, l4]
          all_goals try simp [bX9_lowAt_5, bX9_lowAt_59, bX9_lowAt_53, bX9_lowAt_52, a_ai, a_ald, a_cv, a_gi, a_gr, a_icge, a_ifeq, a_ild, a_inc, a_iret, a_ist, fx_62_5 hx, fx_62_8 hx, sh_62, sh_65, sh_68, pu_rv, pu_as, Value.category, pu_bk, pu_kl, List.replicate, pu_wi_1, pu_wi_2, nl_add, nl_ladd, nl_aa, nl_mul, nl_rmul, nl_mm, pu_qe0, pu_qe1, h.2.2.2.1.1, hc, c.2.2.2.2.1, f2, c.2.1, f4, e1, l4]
          all_goals try simp (maxSteps := 400000) (disch := omega) [nl_tle, nl_fle, nl_tlt, nl_flt, nl_teq, nl_feq, nl_sub, nl_ss, nl_lt, nl_llt, nl_ltt, nl_le, nl_lle, nl_lee, nl_eq, nl_leq, nl_ee, nl_div, nl_rem, nl_cl, nl_n1, nl_n2, nl_n3, nl_n4, nl_add, nl_ladd, nl_aa, nl_mul, nl_rmul, nl_mm, pu_wi_1, pu_wi_2, bX9_lowAt_5, bX9_lowAt_59, bX9_lowAt_53, bX9_lowAt_52, a_ai, a_ald, a_cv, a_gi, a_gr, a_icge, a_ifeq, a_ild, a_inc, a_iret, a_ist, fx_62_5 hx, fx_62_8 hx, sh_62, sh_65, sh_68, pu_rv, pu_as, Value.category, pu_bk, pu_kl, pu_qe0, pu_qe1, h.2.2.2.1.1, hc, c.2.2.2.2.1, f2, c.2.1, f4, e1, l4]
          all_goals try simp [bX9_lowAt_5, bX9_lowAt_59, bX9_lowAt_53, bX9_lowAt_52, a_ai, a_ald, a_cv, a_gi, a_gr, a_icge, a_ifeq, a_ild, a_inc, a_iret, a_ist, fx_62_5 hx, fx_62_8 hx, sh_62, sh_65, sh_68, pu_rv, pu_as, Value.category, pu_bk, pu_kl, List.replicate, pu_wi_1, pu_wi_2, nl_add, nl_ladd, nl_aa, nl_mul, nl_rmul, nl_mm, pu_qe0, pu_qe1, h.2.2.2.1.1, hc, c.2.2.2.2.1, f2, c.2.1, f4, e1, l4]
        · rw [pu_q0 f5] at e1
          obtain ⟨l2, l3, l4⟩ := c_lowD_l hx hw h sd rk hh hrk m (i + 1) lo (by omega) (skip (fun el => absurd el.2.2.2.1 f5))
          refine ⟨l2, l3, ?_⟩
          rw [qX9_lowAt_5]
          simp [bX9_lowAt_5, bX9_lowAt_59, bX9_lowAt_53, bX9_lowAt_52, a_ai, a_ald, a_cv, a_gi, a_gr, a_icge, a_ifeq, a_ild, a_inc, a_iret, a_ist, fx_62_5 hx, fx_62_8 hx, sh_62, sh_65, sh_68, pu_rv, pu_as, Value.category, pu_bk, pu_kl, List.replicate, pu_wi_1, pu_wi_2, nl_add, nl_ladd, nl_aa, nl_mul, nl_rmul, nl_mm, pu_qe0, pu_qe1, h.2.2.2.1.1, hc, c.2.2.2.2.1, f2, c.2.1, f4, e1, l4]
          all_goals try simp (maxSteps := 400000) (disch := omega) [nl_tle, nl_fle, nl_tlt, nl_flt, nl_teq, nl_feq, nl_sub, nl_ss, nl_lt, nl_llt, nl_ltt, nl_le, nl_lle, nl_lee, nl_eq, nl_leq, nl_ee, nl_div, nl_rem, nl_cl, nl_n1, nl_n2, nl_n3, nl_n4, nl_add, nl_ladd, nl_aa, nl_mul, nl_rmul, nl_mm, pu_wi_1, pu_wi_2, bX9_lowAt_5, bX9_lowAt_59, bX9_lowAt_53, bX9_lowAt_52, a_ai, a_ald, a_cv, a_gi, a_gr, a_icge, a_ifeq, a_ild, a_inc, a_iret, a_ist, fx_62_5 hx, fx_62_8 hx, sh_62, sh_65, sh_68, pu_rv, pu_as, Value.category, pu_bk, pu_kl, pu_qe0, pu_qe1, h.2.2.2.1.1, hc, c.2.2.2.2.1, f2, c.2.1, f4, e1, l4]
          all_goals try simp [bX9_lowAt_5, bX9_lowAt_59, bX9_lowAt_53, bX9_lowAt_52, a_ai, a_ald, a_cv, a_gi, a_gr, a_icge, a_ifeq, a_ild, a_inc, a_iret, a_ist, fx_62_5 hx, fx_62_8 hx, sh_62, sh_65, sh_68, pu_rv, pu_as, Value.category, pu_bk, pu_kl, List.replicate, pu_wi_1, pu_wi_2, nl_add, nl_ladd, nl_aa, nl_mul, nl_rmul, nl_mm, pu_qe0, pu_qe1, h.2.2.2.1.1, hc, c.2.2.2.2.1, f2, c.2.1, f4, e1, l4]
          all_goals try simp (maxSteps := 400000) (disch := omega) [nl_tle, nl_fle, nl_tlt, nl_flt, nl_teq, nl_feq, nl_sub, nl_ss, nl_lt, nl_llt, nl_ltt, nl_le, nl_lle, nl_lee, nl_eq, nl_leq, nl_ee, nl_div, nl_rem, nl_cl, nl_n1, nl_n2, nl_n3, nl_n4, nl_add, nl_ladd, nl_aa, nl_mul, nl_rmul, nl_mm, pu_wi_1, pu_wi_2, bX9_lowAt_5, bX9_lowAt_59, bX9_lowAt_53, bX9_lowAt_52, a_ai, a_ald, a_cv, a_gi, a_gr, a_icge, a_ifeq, a_ild, a_inc, a_iret, a_ist, fx_62_5 hx, fx_62_8 hx, sh_62, sh_65, sh_68, pu_rv, pu_as, Value.category, pu_bk, pu_kl, pu_qe0, pu_qe1, h.2.2.2.1.1, hc, c.2.2.2.2.1, f2, c.2.1, f4, e1, l4]
          all_goals try simp [bX9_lowAt_5, bX9_lowAt_59, bX9_lowAt_53, bX9_lowAt_52, a_ai, a_ald, a_cv, a_gi, a_gr, a_icge, a_ifeq, a_ild, a_inc, a_iret, a_ist, fx_62_5 hx, fx_62_8 hx, sh_62, sh_65, sh_68, pu_rv, pu_as, Value.category, pu_bk, pu_kl, List.replicate, pu_wi_1, pu_wi_2, nl_add, nl_ladd, nl_aa, nl_mul, nl_rmul, nl_mm, pu_qe0, pu_qe1, h.2.2.2.1.1, hc, c.2.2.2.2.1, f2, c.2.1, f4, e1, l4]
          all_goals try simp (maxSteps := 400000) (disch := omega) [nl_tle, nl_fle, nl_tlt, nl_flt, nl_teq, nl_feq, nl_sub, nl_ss, nl_lt, nl_llt, nl_ltt, nl_le, nl_lle, nl_lee, nl_eq, nl_leq, nl_ee, nl_div, nl_rem, nl_cl, nl_n1, nl_n2, nl_n3, nl_n4, nl_add, nl_ladd, nl_aa, nl_mul, nl_rmul, nl_mm, pu_wi_1, pu_wi_2, bX9_lowAt_5, bX9_lowAt_59, bX9_lowAt_53, bX9_lowAt_52, a_ai, a_ald, a_cv, a_gi, a_gr, a_icge, a_ifeq, a_ild, a_inc, a_iret, a_ist, fx_62_5 hx, fx_62_8 hx, sh_62, sh_65, sh_68, pu_rv, pu_as, Value.category, pu_bk, pu_kl, pu_qe0, pu_qe1, h.2.2.2.1.1, hc, c.2.2.2.2.1, f2, c.2.1, f4, e1, l4]
          all_goals try simp [bX9_lowAt_5, bX9_lowAt_59, bX9_lowAt_53, bX9_lowAt_52, a_ai, a_ald, a_cv, a_gi, a_gr, a_icge, a_ifeq, a_ild, a_inc, a_iret, a_ist, fx_62_5 hx, fx_62_8 hx, sh_62, sh_65, sh_68, pu_rv, pu_as, Value.category, pu_bk, pu_kl, List.replicate, pu_wi_1, pu_wi_2, nl_add, nl_ladd, nl_aa, nl_mul, nl_rmul, nl_mm, pu_qe0, pu_qe1, h.2.2.2.1.1, hc, c.2.2.2.2.1, f2, c.2.1, f4, e1, l4]
    · have f2 : rk ≤ pu_rk I o (V i) := Int32.not_lt.mp f1
      have f3 := Int32.le_iff_toInt_le.mp f2
      obtain ⟨l2, l3, l4⟩ := c_lowD_l hx hw h sd rk hh hrk m (i + 1) lo (by omega) (skip (fun el => by
        rcases el.2.2.2.1 with f5 | f5
        · rw [if_pos f5] at ra hrk
          omega
        · rw [f5] at ra
          omega))
      refine ⟨l2, l3, ?_⟩
      rw [qX9_lowAt_5]
      simp [bX9_lowAt_5, bX9_lowAt_59, bX9_lowAt_53, bX9_lowAt_52, a_ai, a_ald, a_cv, a_gi, a_gr, a_icge, a_ifeq, a_ild, a_inc, a_iret, a_ist, fx_62_5 hx, fx_62_8 hx, sh_62, sh_65, sh_68, pu_rv, pu_as, Value.category, pu_bk, pu_kl, List.replicate, pu_wi_1, pu_wi_2, nl_add, nl_ladd, nl_aa, nl_mul, nl_rmul, nl_mm, pu_qe0, pu_qe1, h.2.2.2.1.1, hc, c.2.2.2.2.1, f1, f2, l4]
      all_goals try simp (maxSteps := 400000) (disch := omega) [nl_tle, nl_fle, nl_tlt, nl_flt, nl_teq, nl_feq, nl_sub, nl_ss, nl_lt, nl_llt, nl_ltt, nl_le, nl_lle, nl_lee, nl_eq, nl_leq, nl_ee, nl_div, nl_rem, nl_cl, nl_n1, nl_n2, nl_n3, nl_n4, nl_add, nl_ladd, nl_aa, nl_mul, nl_rmul, nl_mm, pu_wi_1, pu_wi_2, bX9_lowAt_5, bX9_lowAt_59, bX9_lowAt_53, bX9_lowAt_52, a_ai, a_ald, a_cv, a_gi, a_gr, a_icge, a_ifeq, a_ild, a_inc, a_iret, a_ist, fx_62_5 hx, fx_62_8 hx, sh_62, sh_65, sh_68, pu_rv, pu_as, Value.category, pu_bk, pu_kl, pu_qe0, pu_qe1, h.2.2.2.1.1, hc, c.2.2.2.2.1, f1, f2, l4]
      all_goals try simp [bX9_lowAt_5, bX9_lowAt_59, bX9_lowAt_53, bX9_lowAt_52, a_ai, a_ald, a_cv, a_gi, a_gr, a_icge, a_ifeq, a_ild, a_inc, a_iret, a_ist, fx_62_5 hx, fx_62_8 hx, sh_62, sh_65, sh_68, pu_rv, pu_as, Value.category, pu_bk, pu_kl, List.replicate, pu_wi_1, pu_wi_2, nl_add, nl_ladd, nl_aa, nl_mul, nl_rmul, nl_mm, pu_qe0, pu_qe1, h.2.2.2.1.1, hc, c.2.2.2.2.1, f1, f2, l4]
      all_goals try simp (maxSteps := 400000) (disch := omega) [nl_tle, nl_fle, nl_tlt, nl_flt, nl_teq, nl_feq, nl_sub, nl_ss, nl_lt, nl_llt, nl_ltt, nl_le, nl_lle, nl_lee, nl_eq, nl_leq, nl_ee, nl_div, nl_rem, nl_cl, nl_n1, nl_n2, nl_n3, nl_n4, nl_add, nl_ladd, nl_aa, nl_mul, nl_rmul, nl_mm, pu_wi_1, pu_wi_2, bX9_lowAt_5, bX9_lowAt_59, bX9_lowAt_53, bX9_lowAt_52, a_ai, a_ald, a_cv, a_gi, a_gr, a_icge, a_ifeq, a_ild, a_inc, a_iret, a_ist, fx_62_5 hx, fx_62_8 hx, sh_62, sh_65, sh_68, pu_rv, pu_as, Value.category, pu_bk, pu_kl, pu_qe0, pu_qe1, h.2.2.2.1.1, hc, c.2.2.2.2.1, f1, f2, l4]
      all_goals try simp [bX9_lowAt_5, bX9_lowAt_59, bX9_lowAt_53, bX9_lowAt_52, a_ai, a_ald, a_cv, a_gi, a_gr, a_icge, a_ifeq, a_ild, a_inc, a_iret, a_ist, fx_62_5 hx, fx_62_8 hx, sh_62, sh_65, sh_68, pu_rv, pu_as, Value.category, pu_bk, pu_kl, List.replicate, pu_wi_1, pu_wi_2, nl_add, nl_ladd, nl_aa, nl_mul, nl_rmul, nl_mm, pu_qe0, pu_qe1, h.2.2.2.1.1, hc, c.2.2.2.2.1, f1, f2, l4]
      all_goals try simp (maxSteps := 400000) (disch := omega) [nl_tle, nl_fle, nl_tlt, nl_flt, nl_teq, nl_feq, nl_sub, nl_ss, nl_lt, nl_llt, nl_ltt, nl_le, nl_lle, nl_lee, nl_eq, nl_leq, nl_ee, nl_div, nl_rem, nl_cl, nl_n1, nl_n2, nl_n3, nl_n4, nl_add, nl_ladd, nl_aa, nl_mul, nl_rmul, nl_mm, pu_wi_1, pu_wi_2, bX9_lowAt_5, bX9_lowAt_59, bX9_lowAt_53, bX9_lowAt_52, a_ai, a_ald, a_cv, a_gi, a_gr, a_icge, a_ifeq, a_ild, a_inc, a_iret, a_ist, fx_62_5 hx, fx_62_8 hx, sh_62, sh_65, sh_68, pu_rv, pu_as, Value.category, pu_bk, pu_kl, pu_qe0, pu_qe1, h.2.2.2.1.1, hc, c.2.2.2.2.1, f1, f2, l4]
      all_goals try simp [bX9_lowAt_5, bX9_lowAt_59, bX9_lowAt_53, bX9_lowAt_52, a_ai, a_ald, a_cv, a_gi, a_gr, a_icge, a_ifeq, a_ild, a_inc, a_iret, a_ist, fx_62_5 hx, fx_62_8 hx, sh_62, sh_65, sh_68, pu_rv, pu_as, Value.category, pu_bk, pu_kl, List.replicate, pu_wi_1, pu_wi_2, nl_add, nl_ladd, nl_aa, nl_mul, nl_rmul, nl_mm, pu_qe0, pu_qe1, h.2.2.2.1.1, hc, c.2.2.2.2.1, f1, f2, l4]
theorem c_lowD (hx : pu_fx M) (hw : pu_WF I L) (h : py_vd M I st y o V n) (sd rk : Int32) (hh : Int) (hrk : rk.toInt = hh - (if (I 27 st).toInt = 1 then 0 else 80000 * sd.toInt)) : ∃ be lo, py_lo I st y sd.toInt hh (cU I) be lo ∧ pu_r 75 [some (.ref 62), some (.int sd), some (.int rk)] [] M = some (some (.int lo), M) := by
  obtain ⟨lo, g, e⟩ := c_lowD_l hx hw h sd rk hh hrk n 0 0 (by omega) (Or.inl ⟨rfl, fun a q => by omega⟩)
  rw [nI_0] at e
  have e2 : pu_r 75 [some (.ref 62), some (.int sd), some (.int rk)] [] M = some (some (.int lo), M) := by
    rw [qX9_lowAt]
    simp [a_ent, bX9_lowAt_0, a_ist, a_push, pu_rv, pu_as, Value.category, pu_bk, pu_kl, List.replicate, pu_wi_1, pu_wi_2, nl_add, nl_ladd, nl_aa, nl_mul, nl_rmul, nl_mm, pu_qe0, pu_qe1, e]
    all_goals try simp (maxSteps := 400000) (disch := omega) [nl_tle, nl_fle, nl_tlt, nl_flt, nl_teq, nl_feq, nl_sub, nl_ss, nl_lt, nl_llt, nl_ltt, nl_le, nl_lle, nl_lee, nl_eq, nl_leq, nl_ee, nl_div, nl_rem, nl_cl, nl_n1, nl_n2, nl_n3, nl_n4, nl_add, nl_ladd, nl_aa, nl_mul, nl_rmul, nl_mm, pu_wi_1, pu_wi_2, bX9_lowAt_0, a_ist, a_push, pu_rv, pu_as, Value.category, pu_bk, pu_kl, pu_qe0, pu_qe1, e]
    all_goals try simp [bX9_lowAt_0, a_ist, a_push, pu_rv, pu_as, Value.category, pu_bk, pu_kl, List.replicate, pu_wi_1, pu_wi_2, nl_add, nl_ladd, nl_aa, nl_mul, nl_rmul, nl_mm, pu_qe0, pu_qe1, e]
    all_goals try simp (maxSteps := 400000) (disch := omega) [nl_tle, nl_fle, nl_tlt, nl_flt, nl_teq, nl_feq, nl_sub, nl_ss, nl_lt, nl_llt, nl_ltt, nl_le, nl_lle, nl_lee, nl_eq, nl_leq, nl_ee, nl_div, nl_rem, nl_cl, nl_n1, nl_n2, nl_n3, nl_n4, nl_add, nl_ladd, nl_aa, nl_mul, nl_rmul, nl_mm, pu_wi_1, pu_wi_2, bX9_lowAt_0, a_ist, a_push, pu_rv, pu_as, Value.category, pu_bk, pu_kl, pu_qe0, pu_qe1, e]
    all_goals try simp [bX9_lowAt_0, a_ist, a_push, pu_rv, pu_as, Value.category, pu_bk, pu_kl, List.replicate, pu_wi_1, pu_wi_2, nl_add, nl_ladd, nl_aa, nl_mul, nl_rmul, nl_mm, pu_qe0, pu_qe1, e]
    all_goals try simp (maxSteps := 400000) (disch := omega) [nl_tle, nl_fle, nl_tlt, nl_flt, nl_teq, nl_feq, nl_sub, nl_ss, nl_lt, nl_llt, nl_ltt, nl_le, nl_lle, nl_lee, nl_eq, nl_leq, nl_ee, nl_div, nl_rem, nl_cl, nl_n1, nl_n2, nl_n3, nl_n4, nl_add, nl_ladd, nl_aa, nl_mul, nl_rmul, nl_mm, pu_wi_1, pu_wi_2, bX9_lowAt_0, a_ist, a_push, pu_rv, pu_as, Value.category, pu_bk, pu_kl, pu_qe0, pu_qe1, e]
    all_goals try simp [bX9_lowAt_0, a_ist, a_push, pu_rv, pu_as, Value.category, pu_bk, pu_kl, List.replicate, pu_wi_1, pu_wi_2, nl_add, nl_ladd, nl_aa, nl_mul, nl_rmul, nl_mm, pu_qe0, pu_qe1, e]
  rcases g with ⟨g1, g2⟩ | ⟨a, a1, a2, a3, a4, a5⟩
  · refine ⟨-1, lo, Or.inl ⟨rfl, g1, fun k el _ => ?_⟩, e2⟩
    obtain ⟨a, a1, a2⟩ := py_vd_e h el.1 el.2.1 el.2.2.1
    rw [← a2] at el ⊢
    exact g2 a a1 el
  · refine ⟨pz_ak I st (V a), lo, Or.inr ⟨V a, a2, a2.1, a3, rfl, a4, fun k el _ h3 => ?_⟩, e2⟩
    obtain ⟨b, b1, b2⟩ := py_vd_e h el.1 el.2.1 el.2.2.1
    rw [← b2] at el h3 ⊢
    exact a5 b b1 el h3
/-- the loop of highAt -/
theorem c_highD_l (hx : pu_fx M) (hw : pu_WF I L) (h : py_vd M I st y o V n) (sd rk : Int32) (hh : Int) (hrk : rk.toInt = hh - (if (I 27 st).toInt = 1 then 0 else 80000 * sd.toInt)) : ∀ (m i : Nat), i + m = n → (∀ a, a < i → py_eo I st y sd.toInt (V a) → ¬ hh < pz_ak I st (V a)) →
    ∃ lo2, ((lo2 = 160000 ∧ ∀ a, a < n → py_eo I st y sd.toInt (V a) → ¬ hh < pz_ak I st (V a)) ∨ ∃ a, a < n ∧ py_eo I st y sd.toInt (V a) ∧ hh < pz_ak I st (V a) ∧ I 16 (V a) = lo2 ∧ ∀ b, b < n → py_eo I st y sd.toInt (V b) → hh < pz_ak I st (V b) → pz_ak I st (V a) ≤ pz_ak I st (V b)) ∧ pu_r 373 [some (.ref 62), some (.int sd), some (.int rk), some (.int (nI i))] [] M = some (some (.int lo2), M)
  | 0, i, hi, g => by
    have hn := h.1
    have hc : nI n ≤ nI i := nI_le (by omega) (by omega)
    have e : i = n := by omega
    subst e
    refine ⟨160000, Or.inl ⟨rfl, g⟩, ?_⟩
    rw [qX9_highAt_2]
    simp [bX9_highAt_2, bX9_highAt_51, bX9_highAt_45, bX9_highAt_44, a_ai, a_ald, a_cv, a_gi, a_gr, a_icge, a_icle, a_ifeq, a_ild, a_inc, a_iret, a_push, fx_62_5 hx, fx_62_8 hx, sh_62, sh_65, sh_68, pu_rv, pu_as, Value.category, pu_bk, pu_kl, List.replicate, pu_wi_1, pu_wi_2, nl_add, nl_ladd, nl_aa, nl_mul, nl_rmul, nl_mm, pu_qe0, pu_qe1, h.2.2.2.1.1, hc]
    all_goals try simp (maxSteps := 400000) (disch := omega) [nl_tle, nl_fle, nl_tlt, nl_flt, nl_teq, nl_feq, nl_sub, nl_ss, nl_lt, nl_llt, nl_ltt, nl_le, nl_lle, nl_lee, nl_eq, nl_leq, nl_ee, nl_div, nl_rem, nl_cl, nl_n1, nl_n2, nl_n3, nl_n4, nl_add, nl_ladd, nl_aa, nl_mul, nl_rmul, nl_mm, pu_wi_1, pu_wi_2, bX9_highAt_2, bX9_highAt_51, bX9_highAt_45, bX9_highAt_44, a_ai, a_ald, a_cv, a_gi, a_gr, a_icge, a_icle, a_ifeq, a_ild, a_inc, a_iret, a_push, fx_62_5 hx, fx_62_8 hx, sh_62, sh_65, sh_68, pu_rv, pu_as, Value.category, pu_bk, pu_kl, pu_qe0, pu_qe1, h.2.2.2.1.1, hc]
    all_goals try simp [bX9_highAt_2, bX9_highAt_51, bX9_highAt_45, bX9_highAt_44, a_ai, a_ald, a_cv, a_gi, a_gr, a_icge, a_icle, a_ifeq, a_ild, a_inc, a_iret, a_push, fx_62_5 hx, fx_62_8 hx, sh_62, sh_65, sh_68, pu_rv, pu_as, Value.category, pu_bk, pu_kl, List.replicate, pu_wi_1, pu_wi_2, nl_add, nl_ladd, nl_aa, nl_mul, nl_rmul, nl_mm, pu_qe0, pu_qe1, h.2.2.2.1.1, hc]
    all_goals try simp (maxSteps := 400000) (disch := omega) [nl_tle, nl_fle, nl_tlt, nl_flt, nl_teq, nl_feq, nl_sub, nl_ss, nl_lt, nl_llt, nl_ltt, nl_le, nl_lle, nl_lee, nl_eq, nl_leq, nl_ee, nl_div, nl_rem, nl_cl, nl_n1, nl_n2, nl_n3, nl_n4, nl_add, nl_ladd, nl_aa, nl_mul, nl_rmul, nl_mm, pu_wi_1, pu_wi_2, bX9_highAt_2, bX9_highAt_51, bX9_highAt_45, bX9_highAt_44, a_ai, a_ald, a_cv, a_gi, a_gr, a_icge, a_icle, a_ifeq, a_ild, a_inc, a_iret, a_push, fx_62_5 hx, fx_62_8 hx, sh_62, sh_65, sh_68, pu_rv, pu_as, Value.category, pu_bk, pu_kl, pu_qe0, pu_qe1, h.2.2.2.1.1, hc]
    all_goals try simp [bX9_highAt_2, bX9_highAt_51, bX9_highAt_45, bX9_highAt_44, a_ai, a_ald, a_cv, a_gi, a_gr, a_icge, a_icle, a_ifeq, a_ild, a_inc, a_iret, a_push, fx_62_5 hx, fx_62_8 hx, sh_62, sh_65, sh_68, pu_rv, pu_as, Value.category, pu_bk, pu_kl, List.replicate, pu_wi_1, pu_wi_2, nl_add, nl_ladd, nl_aa, nl_mul, nl_rmul, nl_mm, pu_qe0, pu_qe1, h.2.2.2.1.1, hc]
    all_goals try simp (maxSteps := 400000) (disch := omega) [nl_tle, nl_fle, nl_tlt, nl_flt, nl_teq, nl_feq, nl_sub, nl_ss, nl_lt, nl_llt, nl_ltt, nl_le, nl_lle, nl_lee, nl_eq, nl_leq, nl_ee, nl_div, nl_rem, nl_cl, nl_n1, nl_n2, nl_n3, nl_n4, nl_add, nl_ladd, nl_aa, nl_mul, nl_rmul, nl_mm, pu_wi_1, pu_wi_2, bX9_highAt_2, bX9_highAt_51, bX9_highAt_45, bX9_highAt_44, a_ai, a_ald, a_cv, a_gi, a_gr, a_icge, a_icle, a_ifeq, a_ild, a_inc, a_iret, a_push, fx_62_5 hx, fx_62_8 hx, sh_62, sh_65, sh_68, pu_rv, pu_as, Value.category, pu_bk, pu_kl, pu_qe0, pu_qe1, h.2.2.2.1.1, hc]
    all_goals try simp [bX9_highAt_2, bX9_highAt_51, bX9_highAt_45, bX9_highAt_44, a_ai, a_ald, a_cv, a_gi, a_gr, a_icge, a_icle, a_ifeq, a_ild, a_inc, a_iret, a_push, fx_62_5 hx, fx_62_8 hx, sh_62, sh_65, sh_68, pu_rv, pu_as, Value.category, pu_bk, pu_kl, List.replicate, pu_wi_1, pu_wi_2, nl_add, nl_ladd, nl_aa, nl_mul, nl_rmul, nl_mm, pu_qe0, pu_qe1, h.2.2.2.1.1, hc]
  | m + 1, i, hi, g => by
    have hn := h.1
    have hc : ¬ nI n ≤ nI i := nI_ge (by omega) (by omega)
    have c := py_vd_c h (a := i) (by omega)
    have mm := py_vd_m h (a := i) (by omega)
    have ra := py_rka hw h (a := i) (by omega)
    have e1 := c_inLineD hx hw h (a := i) (by omega) sd
    have uw := wx_uw hw (V i) mm.1
    have t0 : (0 : Int32).toInt = 0 := by decide
    have skip : (py_eo I st y sd.toInt (V i) → ¬ hh < pz_ak I st (V i)) → (∀ a, a < i + 1 → py_eo I st y sd.toInt (V a) → ¬ hh < pz_ak I st (V a)) := fun hs b hb hb2 => by
      by_cases z : b = i
      · rw [z] at hb2 ⊢
        exact hs hb2
      · exact g b (by omega) hb2
    by_cases f1 : rk < pu_rk I o (V i)
    · have f2 : ¬ pu_rk I o (V i) ≤ rk := Int32.not_le.mpr f1
      have f3 := Int32.lt_iff_toInt_lt.mp f1
      by_cases f4 : I 16 (V i) = 0
      · obtain ⟨l2, l3, l4⟩ := c_highD_l hx hw h sd rk hh hrk m (i + 1) (by omega) (skip (fun el => by have := el.2.2.2.2; rw [f4] at this; omega))
        refine ⟨l2, l3, ?_⟩
        rw [qX9_highAt_2]
        simp [bX9_highAt_2, bX9_highAt_51, bX9_highAt_45, bX9_highAt_44, a_ai, a_ald, a_cv, a_gi, a_gr, a_icge, a_icle, a_ifeq, a_ild, a_inc, a_iret, a_push, fx_62_5 hx, fx_62_8 hx, sh_62, sh_65, sh_68, pu_rv, pu_as, Value.category, pu_bk, pu_kl, List.replicate, pu_wi_1, pu_wi_2, nl_add, nl_ladd, nl_aa, nl_mul, nl_rmul, nl_mm, pu_qe0, pu_qe1, h.2.2.2.1.1, hc, c.2.2.2.2.1, f2, c.2.1, f4, l4]
        all_goals try simp (maxSteps := 400000) (disch := omega) [nl_tle, nl_fle, nl_tlt, nl_flt, nl_teq, nl_feq, nl_sub, nl_ss, nl_lt, nl_llt, nl_ltt, nl_le, nl_lle, nl_lee, nl_eq, nl_leq, nl_ee, nl_div, nl_rem, nl_cl, nl_n1, nl_n2, nl_n3, nl_n4, nl_add, nl_ladd, nl_aa, nl_mul, nl_rmul, nl_mm, pu_wi_1, pu_wi_2, bX9_highAt_2, bX9_highAt_51, bX9_highAt_45, bX9_highAt_44, a_ai, a_ald, a_cv, a_gi, a_gr, a_icge, a_icle, a_ifeq, a_ild, a_inc, a_iret, a_push, fx_62_5 hx, fx_62_8 hx, sh_62, sh_65, sh_68, pu_rv, pu_as, Value.category, pu_bk, pu_kl, pu_qe0, pu_qe1, h.2.2.2.1.1, hc, c.2.2.2.2.1, f2, c.2.1, f4, l4]
        all_goals try simp [bX9_highAt_2, bX9_highAt_51, bX9_highAt_45, bX9_highAt_44, a_ai, a_ald, a_cv, a_gi, a_gr, a_icge, a_icle, a_ifeq, a_ild, a_inc, a_iret, a_push, fx_62_5 hx, fx_62_8 hx, sh_62, sh_65, sh_68, pu_rv, pu_as, Value.category, pu_bk, pu_kl, List.replicate, pu_wi_1, pu_wi_2, nl_add, nl_ladd, nl_aa, nl_mul, nl_rmul, nl_mm, pu_qe0, pu_qe1, h.2.2.2.1.1, hc, c.2.2.2.2.1, f2, c.2.1, f4, l4]
        all_goals try simp (maxSteps := 400000) (disch := omega) [nl_tle, nl_fle, nl_tlt, nl_flt, nl_teq, nl_feq, nl_sub, nl_ss, nl_lt, nl_llt, nl_ltt, nl_le, nl_lle, nl_lee, nl_eq, nl_leq, nl_ee, nl_div, nl_rem, nl_cl, nl_n1, nl_n2, nl_n3, nl_n4, nl_add, nl_ladd, nl_aa, nl_mul, nl_rmul, nl_mm, pu_wi_1, pu_wi_2, bX9_highAt_2, bX9_highAt_51, bX9_highAt_45, bX9_highAt_44, a_ai, a_ald, a_cv, a_gi, a_gr, a_icge, a_icle, a_ifeq, a_ild, a_inc, a_iret, a_push, fx_62_5 hx, fx_62_8 hx, sh_62, sh_65, sh_68, pu_rv, pu_as, Value.category, pu_bk, pu_kl, pu_qe0, pu_qe1, h.2.2.2.1.1, hc, c.2.2.2.2.1, f2, c.2.1, f4, l4]
        all_goals try simp [bX9_highAt_2, bX9_highAt_51, bX9_highAt_45, bX9_highAt_44, a_ai, a_ald, a_cv, a_gi, a_gr, a_icge, a_icle, a_ifeq, a_ild, a_inc, a_iret, a_push, fx_62_5 hx, fx_62_8 hx, sh_62, sh_65, sh_68, pu_rv, pu_as, Value.category, pu_bk, pu_kl, List.replicate, pu_wi_1, pu_wi_2, nl_add, nl_ladd, nl_aa, nl_mul, nl_rmul, nl_mm, pu_qe0, pu_qe1, h.2.2.2.1.1, hc, c.2.2.2.2.1, f2, c.2.1, f4, l4]
        all_goals try simp (maxSteps := 400000) (disch := omega) [nl_tle, nl_fle, nl_tlt, nl_flt, nl_teq, nl_feq, nl_sub, nl_ss, nl_lt, nl_llt, nl_ltt, nl_le, nl_lle, nl_lee, nl_eq, nl_leq, nl_ee, nl_div, nl_rem, nl_cl, nl_n1, nl_n2, nl_n3, nl_n4, nl_add, nl_ladd, nl_aa, nl_mul, nl_rmul, nl_mm, pu_wi_1, pu_wi_2, bX9_highAt_2, bX9_highAt_51, bX9_highAt_45, bX9_highAt_44, a_ai, a_ald, a_cv, a_gi, a_gr, a_icge, a_icle, a_ifeq, a_ild, a_inc, a_iret, a_push, fx_62_5 hx, fx_62_8 hx, sh_62, sh_65, sh_68, pu_rv, pu_as, Value.category, pu_bk, pu_kl, pu_qe0, pu_qe1, h.2.2.2.1.1, hc, c.2.2.2.2.1, f2, c.2.1, f4, l4]
        all_goals try simp [bX9_highAt_2, bX9_highAt_51, bX9_highAt_45, bX9_highAt_44, a_ai, a_ald, a_cv, a_gi, a_gr, a_icge, a_icle, a_ifeq, a_ild, a_inc, a_iret, a_push, fx_62_5 hx, fx_62_8 hx, sh_62, sh_65, sh_68, pu_rv, pu_as, Value.category, pu_bk, pu_kl, List.replicate, pu_wi_1, pu_wi_2, nl_add, nl_ladd, nl_aa, nl_mul, nl_rmul, nl_mm, pu_qe0, pu_qe1, h.2.2.2.1.1, hc, c.2.2.2.2.1, f2, c.2.1, f4, l4]
      · by_cases f5 : (I 27 st).toInt = 1 ∨ (I 40 (pu_sl0 I (V i))).toInt = sd.toInt
        · rw [pu_q1 f5] at e1
          have w0 : (I 16 (V i)).toInt ≠ 0 := fun z => f4 (Int32.toInt_inj.mp (by rw [z, t0]))
          have el : py_eo I st y sd.toInt (V i) := ⟨mm.1, mm.2.1, mm.2.2, f5, by omega⟩
          have lt : hh < pz_ak I st (V i) := by
            rcases f5 with f5 | f5
            · rw [if_pos f5] at ra hrk
              omega
            · rw [f5] at ra
              omega
          refine ⟨I 16 (V i), Or.inr ⟨i, by omega, el, lt, rfl, fun b hb hb2 hb3 => ?_⟩, ?_⟩
          · by_cases z : b < i
            · exact absurd hb3 (g b z hb2)
            · by_cases z2 : b = i
              · rw [z2]
                exact Int.le_refl _
              · have so := Int32.le_iff_toInt_le.mp (h.2.2.2.2.1.2.2 i b (by omega) (by omega)).2
                have rb := py_rka hw h (a := b) (by omega)
                rw [ra, rb] at so
                by_cases yy : (I 27 st).toInt = 1
                · rw [if_pos yy, if_pos yy] at so
                  omega
                · rw [if_neg yy, if_neg yy] at so
                  rcases f5 with q | q
                  · exact absurd q yy
                  · rcases hb2.2.2.2.1 with q2 | q2
                    · exact absurd q2 yy
                    · rw [q, q2] at so
                      omega
          · rw [qX9_highAt_2]
            simp [bX9_highAt_2, bX9_highAt_51, bX9_highAt_45, bX9_highAt_44, a_ai, a_ald, a_cv, a_gi, a_gr, a_icge, a_icle, a_ifeq, a_ild, a_inc, a_iret, a_push, fx_62_5 hx, fx_62_8 hx, sh_62, sh_65, sh_68, pu_rv, pu_as, Value.category, pu_bk, pu_kl, List.replicate, pu_wi_1, pu_wi_2, nl_add, nl_ladd, nl_aa, nl_mul, nl_rmul, nl_mm, pu_qe0, pu_qe1, h.2.2.2.1.1, hc, c.2.2.2.2.1, f2, c.2.1, f4, e1]
            all_goals try simp (maxSteps := 400000) (disch := omega) [nl_tle, nl_fle, nl_tlt, nl_flt, nl_teq, nl_feq, nl_sub, nl_ss, nl_lt, nl_llt, nl_ltt, nl_le, nl_lle, nl_lee, nl_eq, nl_leq, nl_ee, nl_div, nl_rem, nl_cl, nl_n1, nl_n2, nl_n3, nl_n4, nl_add, nl_ladd, nl_aa, nl_mul, nl_rmul, nl_mm, pu_wi_1, pu_wi_2, bX9_highAt_2, bX9_highAt_51, bX9_highAt_45, bX9_highAt_44, a_ai, a_ald, a_cv, a_gi, a_gr, a_icge, a_icle, a_ifeq, a_ild, a_inc, a_iret, a_push, fx_62_5 hx, fx_62_8 hx, sh_62, sh_65, sh_68, pu_rv, pu_as, Value.category, pu_bk, pu_kl, pu_qe0, pu_qe1, h.2.2.2.1.1, hc, c.2.2.2.2.1, f2, c.2.1, f4, e1]
            all_goals try simp [bX9_highAt_2, bX9_highAt_51, bX9_highAt_45, bX9_highAt_44, a_ai, a_ald, a_cv, a_gi, a_gr, a_icge, a_icle, a_ifeq, a_ild, a_inc, a_iret, a_push, fx_62_5 hx, fx_62_8 hx, sh_62, sh_65, sh_68, pu_rv, pu_as, Value.category, pu_bk, pu_kl, List.replicate, pu_wi_1, pu_wi_2, nl_add, nl_ladd, nl_aa, nl_mul, nl_rmul, nl_mm, pu_qe0, pu_qe1, h.2.2.2.1.1, hc, c.2.2.2.2.1, f2, c.2.1, f4, e1]
            all_goals try simp (maxSteps := 400000) (disch := omega) [nl_tle, nl_fle, nl_tlt, nl_flt, nl_teq, nl_feq, nl_sub, nl_ss, nl_lt, nl_llt, nl_ltt, nl_le, nl_lle, nl_lee, nl_eq, nl_leq, nl_ee, nl_div, nl_rem, nl_cl, nl_n1, nl_n2, nl_n3, nl_n4, nl_add, nl_ladd, nl_aa, nl_mul, nl_rmul, nl_mm, pu_wi_1, pu_wi_2, bX9_highAt_2, bX9_highAt_51, bX9_highAt_45, bX9_highAt_44, a_ai, a_ald, a_cv, a_gi, a_gr, a_icge, a_icle, a_ifeq, a_ild, a_inc, a_iret, a_push, fx_62_5 hx, fx_62_8 hx, sh_62, sh_65, sh_68, pu_rv, pu_as, Value.category, pu_bk, pu_kl, pu_qe0, pu_qe1, h.2.2.2.1.1, hc, c.2.2.2.2.1, f2, c.2.1, f4, e1]
            all_goals try simp [bX9_highAt_2, bX9_highAt_51, bX9_highAt_45, bX9_highAt_44, a_ai, a_ald, a_cv, a_gi, a_gr, a_icge, a_icle, a_ifeq, a_ild, a_inc, a_iret, a_push, fx_62_5 hx, fx_62_8 hx, sh_62, sh_65, sh_68, pu_rv, pu_as, Value.category, pu_bk, pu_kl, List.replicate, pu_wi_1, pu_wi_2, nl_add, nl_ladd, nl_aa, nl_mul, nl_rmul, nl_mm, pu_qe0, pu_qe1, h.2.2.2.1.1, hc, c.2.2.2.2.1, f2, c.2.1, f4, e1]
            all_goals try simp (maxSteps := 400000) (disch := omega) [nl_tle, nl_fle, nl_tlt, nl_flt, nl_teq, nl_feq, nl_sub, nl_ss, nl_lt, nl_llt, nl_ltt, nl_le, nl_lle, nl_lee, nl_eq, nl_leq, nl_ee, nl_div, nl_rem, nl_cl, nl_n1, nl_n2, nl_n3, nl_n4, nl_add, nl_ladd, nl_aa, nl_mul, nl_rmul, nl_mm, pu_wi_1, pu_wi_2, bX9_highAt_2, bX9_highAt_51, bX9_highAt_45, bX9_highAt_44, a_ai, a_ald, a_cv, a_gi, a_gr, a_icge, a_icle, a_ifeq, a_ild, a_inc, a_iret, a_push, fx_62_5 hx, fx_62_8 hx, sh_62, sh_65, sh_68, pu_rv, pu_as, Value.category, pu_bk, pu_kl, pu_qe0, pu_qe1, h.2.2.2.1.1, hc, c.2.2.2.2.1, f2, c.2.1, f4, e1]
            all_goals try simp [bX9_highAt_2, bX9_highAt_51, bX9_highAt_45, bX9_highAt_44, a_ai, a_ald, a_cv, a_gi, a_gr, a_icge, a_icle, a_ifeq, a_ild, a_inc, a_iret, a_push, fx_62_5 hx, fx_62_8 hx, sh_62, sh_65, sh_68, pu_rv, pu_as, Value.category, pu_bk, pu_kl, List.replicate, pu_wi_1, pu_wi_2, nl_add, nl_ladd, nl_aa, nl_mul, nl_rmul, nl_mm, pu_qe0, pu_qe1, h.2.2.2.1.1, hc, c.2.2.2.2.1, f2, c.2.1, f4, e1]
        · rw [pu_q0 f5] at e1
          obtain ⟨l2, l3, l4⟩ := c_highD_l hx hw h sd rk hh hrk m (i + 1) (by omega) (skip (fun el => absurd el.2.2.2.1 f5))
          refine ⟨l2, l3, ?_⟩
          rw [qX9_highAt_2]
          simp [bX9_highAt_2, bX9_highAt_51, bX9_highAt_45, bX9_highAt_44, a_ai, a_ald, a_cv, a_gi, a_gr, a_icge, a_icle, a_ifeq, a_ild, a_inc, a_iret, a_push, fx_62_5 hx, fx_62_8 hx, sh_62, sh_65, sh_68, pu_rv, pu_as, Value.category, pu_bk, pu_kl, List.replicate, pu_wi_1, pu_wi_2, nl_add, nl_ladd, nl_aa, nl_mul, nl_rmul, nl_mm, pu_qe0, pu_qe1, h.2.2.2.1.1, hc, c.2.2.2.2.1, f2, c.2.1, f4, e1, l4]
          all_goals try simp (maxSteps := 400000) (disch := omega) [nl_tle, nl_fle, nl_tlt, nl_flt, nl_teq, nl_feq, nl_sub, nl_ss, nl_lt, nl_llt, nl_ltt, nl_le, nl_lle, nl_lee, nl_eq, nl_leq, nl_ee, nl_div, nl_rem, nl_cl, nl_n1, nl_n2, nl_n3, nl_n4, nl_add, nl_ladd, nl_aa, nl_mul, nl_rmul, nl_mm, pu_wi_1, pu_wi_2, bX9_highAt_2, bX9_highAt_51, bX9_highAt_45, bX9_highAt_44, a_ai, a_ald, a_cv, a_gi, a_gr, a_icge, a_icle, a_ifeq, a_ild, a_inc, a_iret, a_push, fx_62_5 hx, fx_62_8 hx, sh_62, sh_65, sh_68, pu_rv, pu_as, Value.category, pu_bk, pu_kl, pu_qe0, pu_qe1, h.2.2.2.1.1, hc, c.2.2.2.2.1, f2, c.2.1, f4, e1, l4]
          all_goals try simp [bX9_highAt_2, bX9_highAt_51, bX9_highAt_45, bX9_highAt_44, a_ai, a_ald, a_cv, a_gi, a_gr, a_icge, a_icle, a_ifeq, a_ild, a_inc, a_iret, a_push, fx_62_5 hx, fx_62_8 hx, sh_62, sh_65, sh_68, pu_rv, pu_as, Value.category, pu_bk, pu_kl, List.replicate, pu_wi_1, pu_wi_2, nl_add, nl_ladd, nl_aa, nl_mul, nl_rmul, nl_mm, pu_qe0, pu_qe1, h.2.2.2.1.1, hc, c.2.2.2.2.1, f2, c.2.1, f4, e1, l4]
          all_goals try simp (maxSteps := 400000) (disch := omega) [nl_tle, nl_fle, nl_tlt, nl_flt, nl_teq, nl_feq, nl_sub, nl_ss, nl_lt, nl_llt, nl_ltt, nl_le, nl_lle, nl_lee, nl_eq, nl_leq, nl_ee, nl_div, nl_rem, nl_cl, nl_n1, nl_n2, nl_n3, nl_n4, nl_add, nl_ladd, nl_aa, nl_mul, nl_rmul, nl_mm, pu_wi_1, pu_wi_2, bX9_highAt_2, bX9_highAt_51, bX9_highAt_45, bX9_highAt_44, a_ai, a_ald, a_cv, a_gi, a_gr, a_icge, a_icle, a_ifeq, a_ild, a_inc, a_iret, a_push, fx_62_5 hx, fx_62_8 hx, sh_62, sh_65, sh_68, pu_rv, pu_as, Value.category, pu_bk, pu_kl, pu_qe0, pu_qe1, h.2.2.2.1.1, hc, c.2.2.2.2.1, f2, c.2.1, f4, e1, l4]
          all_goals try simp [bX9_highAt_2, bX9_highAt_51, bX9_highAt_45, bX9_highAt_44, a_ai, a_ald, a_cv, a_gi, a_gr, a_icge, a_icle, a_ifeq, a_ild, a_inc, a_iret, a_push, fx_62_5 hx, fx_62_8 hx, sh_62, sh_65, sh_68, pu_rv, pu_as, Value.category, pu_bk, pu_kl, List.replicate, pu_wi_1, pu_wi_2, nl_add, nl_ladd, nl_aa, nl_mul, nl_rmul, nl_mm, pu_qe0, pu_qe1, h.2.2.2.1.1, hc, c.2.2.2.2.1, f2, c.2.1, f4, e1, l4]
          all_goals try simp (maxSteps := 400000) (disch := omega) [nl_tle, nl_fle, nl_tlt, nl_flt, nl_teq, nl_feq, nl_sub, nl_ss, nl_lt, nl_llt, nl_ltt, nl_le, nl_lle, nl_lee, nl_eq, nl_leq, nl_ee, nl_div, nl_rem, nl_cl, nl_n1, nl_n2, nl_n3, nl_n4, nl_add, nl_ladd, nl_aa, nl_mul, nl_rmul, nl_mm, pu_wi_1, pu_wi_2, bX9_highAt_2, bX9_highAt_51, bX9_highAt_45, bX9_highAt_44, a_ai, a_ald, a_cv, a_gi, a_gr, a_icge, a_icle, a_ifeq, a_ild, a_inc, a_iret, a_push, fx_62_5 hx, fx_62_8 hx, sh_62, sh_65, sh_68, pu_rv, pu_as, Value.category, pu_bk, pu_kl, pu_qe0, pu_qe1, h.2.2.2.1.1, hc, c.2.2.2.2.1, f2, c.2.1, f4, e1, l4]
          all_goals try simp [bX9_highAt_2, bX9_highAt_51, bX9_highAt_45, bX9_highAt_44, a_ai, a_ald, a_cv, a_gi, a_gr, a_icge, a_icle, a_ifeq, a_ild, a_inc, a_iret, a_push, fx_62_5 hx, fx_62_8 hx, sh_62, sh_65, sh_68, pu_rv, pu_as, Value.category, pu_bk, pu_kl, List.replicate, pu_wi_1, pu_wi_2, nl_add, nl_ladd, nl_aa, nl_mul, nl_rmul, nl_mm, pu_qe0, pu_qe1, h.2.2.2.1.1, hc, c.2.2.2.2.1, f2, c.2.1, f4, e1, l4]
    · have f2 : pu_rk I o (V i) ≤ rk := Int32.not_lt.mp f1
      have f3 := Int32.le_iff_toInt_le.mp f2
      obtain ⟨l2, l3, l4⟩ := c_highD_l hx hw h sd rk hh hrk m (i + 1) (by omega) (skip (fun el => by
        rcases el.2.2.2.1 with f5 | f5
        · rw [if_pos f5] at ra hrk
          omega
        · rw [f5] at ra
          omega))
      refine ⟨l2, l3, ?_⟩
      rw [qX9_highAt_2]
      simp [bX9_highAt_2, bX9_highAt_51, bX9_highAt_45, bX9_highAt_44, a_ai, a_ald, a_cv, a_gi, a_gr, a_icge, a_icle, a_ifeq, a_ild, a_inc, a_iret, a_push, fx_62_5 hx, fx_62_8 hx, sh_62, sh_65, sh_68, pu_rv, pu_as, Value.category, pu_bk, pu_kl, List.replicate, pu_wi_1, pu_wi_2, nl_add, nl_ladd, nl_aa, nl_mul, nl_rmul, nl_mm, pu_qe0, pu_qe1, h.2.2.2.1.1, hc, c.2.2.2.2.1, f1, f2, l4]
      all_goals try simp (maxSteps := 400000) (disch := omega) [nl_tle, nl_fle, nl_tlt, nl_flt, nl_teq, nl_feq, nl_sub, nl_ss, nl_lt, nl_llt, nl_ltt, nl_le, nl_lle, nl_lee, nl_eq, nl_leq, nl_ee, nl_div, nl_rem, nl_cl, nl_n1, nl_n2, nl_n3, nl_n4, nl_add, nl_ladd, nl_aa, nl_mul, nl_rmul, nl_mm, pu_wi_1, pu_wi_2, bX9_highAt_2, bX9_highAt_51, bX9_highAt_45, bX9_highAt_44, a_ai, a_ald, a_cv, a_gi, a_gr, a_icge, a_icle, a_ifeq, a_ild, a_inc, a_iret, a_push, fx_62_5 hx, fx_62_8 hx, sh_62, sh_65, sh_68, pu_rv, pu_as, Value.category, pu_bk, pu_kl, pu_qe0, pu_qe1, h.2.2.2.1.1, hc, c.2.2.2.2.1, f1, f2, l4]
      all_goals try simp [bX9_highAt_2, bX9_highAt_51, bX9_highAt_45, bX9_highAt_44, a_ai, a_ald, a_cv, a_gi, a_gr, a_icge, a_icle, a_ifeq, a_ild, a_inc, a_iret, a_push, fx_62_5 hx, fx_62_8 hx, sh_62, sh_65, sh_68, pu_rv, pu_as, Value.category, pu_bk, pu_kl, List.replicate, pu_wi_1, pu_wi_2, nl_add, nl_ladd, nl_aa, nl_mul, nl_rmul, nl_mm, pu_qe0, pu_qe1, h.2.2.2.1.1, hc, c.2.2.2.2.1, f1, f2, l4]
      all_goals try simp (maxSteps := 400000) (disch := omega) [nl_tle, nl_fle, nl_tlt, nl_flt, nl_teq, nl_feq, nl_sub, nl_ss, nl_lt, nl_llt, nl_ltt, nl_le, nl_lle, nl_lee, nl_eq, nl_leq, nl_ee, nl_div, nl_rem, nl_cl, nl_n1, nl_n2, nl_n3, nl_n4, nl_add, nl_ladd, nl_aa, nl_mul, nl_rmul, nl_mm, pu_wi_1, pu_wi_2, bX9_highAt_2, bX9_highAt_51, bX9_highAt_45, bX9_highAt_44, a_ai, a_ald, a_cv, a_gi, a_gr, a_icge, a_icle, a_ifeq, a_ild, a_inc, a_iret, a_push, fx_62_5 hx, fx_62_8 hx, sh_62, sh_65, sh_68, pu_rv, pu_as, Value.category, pu_bk, pu_kl, pu_qe0, pu_qe1, h.2.2.2.1.1, hc, c.2.2.2.2.1, f1, f2, l4]
      all_goals try simp [bX9_highAt_2, bX9_highAt_51, bX9_highAt_45, bX9_highAt_44, a_ai, a_ald, a_cv, a_gi, a_gr, a_icge, a_icle, a_ifeq, a_ild, a_inc, a_iret, a_push, fx_62_5 hx, fx_62_8 hx, sh_62, sh_65, sh_68, pu_rv, pu_as, Value.category, pu_bk, pu_kl, List.replicate, pu_wi_1, pu_wi_2, nl_add, nl_ladd, nl_aa, nl_mul, nl_rmul, nl_mm, pu_qe0, pu_qe1, h.2.2.2.1.1, hc, c.2.2.2.2.1, f1, f2, l4]
      all_goals try simp (maxSteps := 400000) (disch := omega) [nl_tle, nl_fle, nl_tlt, nl_flt, nl_teq, nl_feq, nl_sub, nl_ss, nl_lt, nl_llt, nl_ltt, nl_le, nl_lle, nl_lee, nl_eq, nl_leq, nl_ee, nl_div, nl_rem, nl_cl, nl_n1, nl_n2, nl_n3, nl_n4, nl_add, nl_ladd, nl_aa, nl_mul, nl_rmul, nl_mm, pu_wi_1, pu_wi_2, bX9_highAt_2, bX9_highAt_51, bX9_highAt_45, bX9_highAt_44, a_ai, a_ald, a_cv, a_gi, a_gr, a_icge, a_icle, a_ifeq, a_ild, a_inc, a_iret, a_push, fx_62_5 hx, fx_62_8 hx, sh_62, sh_65, sh_68, pu_rv, pu_as, Value.category, pu_bk, pu_kl, pu_qe0, pu_qe1, h.2.2.2.1.1, hc, c.2.2.2.2.1, f1, f2, l4]
      all_goals try simp [bX9_highAt_2, bX9_highAt_51, bX9_highAt_45, bX9_highAt_44, a_ai, a_ald, a_cv, a_gi, a_gr, a_icge, a_icle, a_ifeq, a_ild, a_inc, a_iret, a_push, fx_62_5 hx, fx_62_8 hx, sh_62, sh_65, sh_68, pu_rv, pu_as, Value.category, pu_bk, pu_kl, List.replicate, pu_wi_1, pu_wi_2, nl_add, nl_ladd, nl_aa, nl_mul, nl_rmul, nl_mm, pu_qe0, pu_qe1, h.2.2.2.1.1, hc, c.2.2.2.2.1, f1, f2, l4]
theorem c_highD (hx : pu_fx M) (hw : pu_WF I L) (h : py_vd M I st y o V n) (sd rk : Int32) (hh : Int) (hrk : rk.toInt = hh - (if (I 27 st).toInt = 1 then 0 else 80000 * sd.toInt)) : ∃ be lo, py_hi I st y sd.toInt hh (cU I) be lo ∧ pu_r 76 [some (.ref 62), some (.int sd), some (.int rk)] [] M = some (some (.int lo), M) := by
  obtain ⟨lo, g, e⟩ := c_highD_l hx hw h sd rk hh hrk n 0 (by omega) (fun a q => by omega)
  rw [nI_0] at e
  have e2 : pu_r 76 [some (.ref 62), some (.int sd), some (.int rk)] [] M = some (some (.int lo), M) := by
    rw [qX9_highAt]
    simp [a_ent, bX9_highAt_0, a_ist, a_push, pu_rv, pu_as, Value.category, pu_bk, pu_kl, List.replicate, pu_wi_1, pu_wi_2, nl_add, nl_ladd, nl_aa, nl_mul, nl_rmul, nl_mm, pu_qe0, pu_qe1, e]
    all_goals try simp (maxSteps := 400000) (disch := omega) [nl_tle, nl_fle, nl_tlt, nl_flt, nl_teq, nl_feq, nl_sub, nl_ss, nl_lt, nl_llt, nl_ltt, nl_le, nl_lle, nl_lee, nl_eq, nl_leq, nl_ee, nl_div, nl_rem, nl_cl, nl_n1, nl_n2, nl_n3, nl_n4, nl_add, nl_ladd, nl_aa, nl_mul, nl_rmul, nl_mm, pu_wi_1, pu_wi_2, bX9_highAt_0, a_ist, a_push, pu_rv, pu_as, Value.category, pu_bk, pu_kl, pu_qe0, pu_qe1, e]
    all_goals try simp [bX9_highAt_0, a_ist, a_push, pu_rv, pu_as, Value.category, pu_bk, pu_kl, List.replicate, pu_wi_1, pu_wi_2, nl_add, nl_ladd, nl_aa, nl_mul, nl_rmul, nl_mm, pu_qe0, pu_qe1, e]
    all_goals try simp (maxSteps := 400000) (disch := omega) [nl_tle, nl_fle, nl_tlt, nl_flt, nl_teq, nl_feq, nl_sub, nl_ss, nl_lt, nl_llt, nl_ltt, nl_le, nl_lle, nl_lee, nl_eq, nl_leq, nl_ee, nl_div, nl_rem, nl_cl, nl_n1, nl_n2, nl_n3, nl_n4, nl_add, nl_ladd, nl_aa, nl_mul, nl_rmul, nl_mm, pu_wi_1, pu_wi_2, bX9_highAt_0, a_ist, a_push, pu_rv, pu_as, Value.category, pu_bk, pu_kl, pu_qe0, pu_qe1, e]
    all_goals try simp [bX9_highAt_0, a_ist, a_push, pu_rv, pu_as, Value.category, pu_bk, pu_kl, List.replicate, pu_wi_1, pu_wi_2, nl_add, nl_ladd, nl_aa, nl_mul, nl_rmul, nl_mm, pu_qe0, pu_qe1, e]
    all_goals try simp (maxSteps := 400000) (disch := omega) [nl_tle, nl_fle, nl_tlt, nl_flt, nl_teq, nl_feq, nl_sub, nl_ss, nl_lt, nl_llt, nl_ltt, nl_le, nl_lle, nl_lee, nl_eq, nl_leq, nl_ee, nl_div, nl_rem, nl_cl, nl_n1, nl_n2, nl_n3, nl_n4, nl_add, nl_ladd, nl_aa, nl_mul, nl_rmul, nl_mm, pu_wi_1, pu_wi_2, bX9_highAt_0, a_ist, a_push, pu_rv, pu_as, Value.category, pu_bk, pu_kl, pu_qe0, pu_qe1, e]
    all_goals try simp [bX9_highAt_0, a_ist, a_push, pu_rv, pu_as, Value.category, pu_bk, pu_kl, List.replicate, pu_wi_1, pu_wi_2, nl_add, nl_ladd, nl_aa, nl_mul, nl_rmul, nl_mm, pu_qe0, pu_qe1, e]
  rcases g with ⟨g1, g2⟩ | ⟨a, a1, a2, a3, a4, a5⟩
  · refine ⟨1000000, lo, Or.inl ⟨rfl, g1, fun k el _ => ?_⟩, e2⟩
    obtain ⟨a, a1, a2⟩ := py_vd_e h el.1 el.2.1 el.2.2.1
    rw [← a2] at el ⊢
    exact g2 a a1 el
  · refine ⟨pz_ak I st (V a), lo, Or.inr ⟨V a, a2, a2.1, a3, rfl, a4, fun k el _ h3 => ?_⟩, e2⟩
    obtain ⟨b, b1, b2⟩ := py_vd_e h el.1 el.2.1 el.2.2.1
    rw [← b2] at el h3 ⊢
    exact a5 b b1 el h3
/-- two numbers of a street on a day at one place are one -/
theorem py_injA (hw : pu_WF I L) (hst : st < 2147483648) {k l : Nat} (h1 : k < cU I) (h2 : I 39 (pu_sl0 I k) = nI st) (h3 : pu_tn I y k) (g1 : l < cU I) (g2 : I 39 (pu_sl0 I l) = nI st) (g3 : pu_tn I y l) (e1 : (I 40 (pu_sl0 I k)).toInt = (I 40 (pu_sl0 I l)).toInt) (e2 : (I 41 (pu_sl0 I k)).toInt = (I 41 (pu_sl0 I l)).toInt) : k = l := by
  obtain ⟨q, q1, _, _, q4⟩ := pu_tn_oq hw st hst y
  exact wx_u3 hw q k l q1 h1 g1 (by rw [← q4 k h1 h2]; exact h3) (by rw [← q4 l g1 g2]; exact g3) (h2.trans g2.symm) (Int32.toInt_inj.mp e1) (Int32.toInt_inj.mp e2)
theorem py_injB (hw : pu_WF I L) (hst : st < 2147483648) {sd : Int} {k l : Nat} (h1 : k < cU I) (h2 : I 39 (pu_sl0 I k) = nI st) (h3 : pu_tn I y k) (h4 : (I 27 st).toInt = 1 ∨ (I 40 (pu_sl0 I k)).toInt = sd) (g1 : l < cU I) (g2 : I 39 (pu_sl0 I l) = nI st) (g3 : pu_tn I y l) (g4 : (I 27 st).toInt = 1 ∨ (I 40 (pu_sl0 I l)).toInt = sd) (he : pz_ak I st k = pz_ak I st l) : k = l := by
  have p1 := py_pl0 hw hst h1 h2 h3
  have p2 := py_pl0 hw hst g1 g2 g3
  have es : (I 40 (pu_sl0 I k)).toInt = (I 40 (pu_sl0 I l)).toInt ∧ (I 41 (pu_sl0 I k)).toInt = (I 41 (pu_sl0 I l)).toInt := by
    unfold pz_ak pz_al at he
    grind
  exact py_injA hw hst h1 h2 h3 g1 g2 g3 es.1 es.2
theorem py_injD (hw : pu_WF I L) (hst : st < 2147483648) {sd : Int} {k l : Nat} (h1 : py_eo I st y sd k) (h2 : py_eo I st y sd l) (he : pz_ak I st k = pz_ak I st l) : k = l :=
  py_injB hw hst h1.1 h1.2.1 h1.2.2.1 h1.2.2.2.1 h2.1 h2.2.1 h2.2.2.1 h2.2.2.2.1 he
theorem py_lo_un (hw : pu_WF I L) (hst : st < 2147483648) {sd h b1 b2 : Int} {l1 l2 : Int32} (g1 : py_lo I st y sd h (cU I) b1 l1) (g2 : py_lo I st y sd h (cU I) b2 l2) : b1 = b2 ∧ l1 = l2 := by
  rcases g1 with ⟨a1, a2, a3⟩ | ⟨k, k1, k2, k3, k4, k5, k6⟩
  · rcases g2 with ⟨c1, c2, _⟩ | ⟨l, d1, d2, d3, d4, d5, d6⟩
    · exact ⟨by rw [a1, c1], by rw [a2, c2]⟩
    · exact absurd d3 (a3 l d1 d2)
  · rcases g2 with ⟨_, c2, c3⟩ | ⟨l, d1, d2, d3, d4, d5, d6⟩
    · exact absurd k3 (c3 k k1 k2)
    · have x := k6 l d1 d2 d3
      have yz := d6 k k1 k2 k3
      have := py_injD hw hst k1 d1 (by omega)
      exact ⟨by omega, by rw [← k5, ← d5, this]⟩
theorem py_hi_un (hw : pu_WF I L) (hst : st < 2147483648) {sd h b1 b2 : Int} {l1 l2 : Int32} (g1 : py_hi I st y sd h (cU I) b1 l1) (g2 : py_hi I st y sd h (cU I) b2 l2) : b1 = b2 ∧ l1 = l2 := by
  rcases g1 with ⟨a1, a2, a3⟩ | ⟨k, k1, k2, k3, k4, k5, k6⟩
  · rcases g2 with ⟨c1, c2, _⟩ | ⟨l, d1, d2, d3, d4, d5, d6⟩
    · exact ⟨by rw [a1, c1], by rw [a2, c2]⟩
    · exact absurd d3 (a3 l d1 d2)
  · rcases g2 with ⟨_, c2, c3⟩ | ⟨l, d1, d2, d3, d4, d5, d6⟩
    · exact absurd k3 (c3 k k1 k2)
    · have x := k6 l d1 d2 d3
      have yz := d6 k k1 k2 k3
      have := py_injD hw hst k1 d1 (by omega)
      exact ⟨by omega, by rw [← k5, ← d5, this]⟩
end
