/-! a fitting number, on the class's side -/
/-- the view of street st, now: memory, order, spans -/
def pz_vw (M : pu_M) (I : Nat → Nat → Int32) (st o : Nat) (V : Nat → Nat) (n : Nat) : Prop := n ≤ 100 ∧ M.1 62 1 = I 27 st ∧ M.1 62 2 = nI o ∧ pu_vp M I o V n ∧ pu_VI I o (pu_cf I st (-1)) (cU I) V n ∧ o = (if I 27 st = 1 then 0 else 3)
section
variable {M : pu_M} {I : Nat → Nat → Int32} {L : Nat → Nat → Int64} {st o n : Nat} {V : Nat → Nat}
theorem pz_vw_m (h : pz_vw M I st o V n) {a : Nat} (ha : a < n) : V a < cU I ∧ I 39 (pu_sl0 I (V a)) = nI st ∧ I 18 (V a) = -1 := by
  have := h.2.2.2.2.1.1 a ha
  have z := this.2.2
  unfold pu_tn at z
  rw [if_pos rfl] at z
  exact ⟨this.1, this.2.1, z⟩
theorem pz_vw_e (h : pz_vw M I st o V n) {k : Nat} (h1 : k < cU I) (h2 : I 39 (pu_sl0 I k) = nI st) (h3 : I 18 k = -1) : ∃ a, a < n ∧ V a = k :=
  h.2.2.2.2.1.2.1 k h1 ⟨h2, by unfold pu_tn; rw [if_pos rfl]; exact h3⟩
theorem pz_vw_c (h : pz_vw M I st o V n) {a : Nat} (ha : a < n) : M.1 64 a = I 15 (V a) ∧ M.1 65 a = I 16 (V a) ∧ M.1 66 a = I 40 (pu_sl0 I (V a)) ∧ M.1 67 a = I 41 (pu_sl0 I (V a)) ∧ M.1 68 a = pu_rk I o (V a) ∧ M.1 63 a = nI (V a) := by
  have v := h.2.2.2.1.2
  exact ⟨v 64 a (by omega) (by omega) ha, v 65 a (by omega) (by omega) ha, v 66 a (by omega) (by omega) ha, v 67 a (by omega) (by omega) ha, v 68 a (by omega) (by omega) ha, v 63 a (by omega) (by omega) ha⟩
theorem pz_r1 (hw : pu_WF I L) : (I 27 st = 1) = ((I 27 st).toInt = 1) := propext ⟨fun e => by rw [e]; decide, fun e => Int32.toInt_inj.mp (by rw [e]; decide)⟩
/-- rank and place along the street -/
theorem pz_rk_e {r s p : Int32} (h1 : 0 ≤ s.toInt) (h2 : s.toInt ≤ 1) (h3 : 0 ≤ p.toInt) (h4 : p.toInt ≤ 9999) : (pu_rkx (if r = 1 then 0 else 3) s p).toInt = pz_al r.toInt s.toInt p.toInt - (if r.toInt = 1 then 0 else 80000 * s.toInt) := by
  have er : (r = 1) = (r.toInt = 1) := propext ⟨fun e => by rw [e]; decide, fun e => Int32.toInt_inj.mp (by rw [e]; decide)⟩
  have es : (s = 0) = (s.toInt = 0) := propext ⟨fun e => by rw [e]; decide, fun e => Int32.toInt_inj.mp (by rw [e]; decide)⟩
  have a1 := pu_nnT h1
  have a3 := pu_nnT h3
  unfold pu_rkx pz_al
  by_cases c : r = 1
  · have c' : r.toInt = 1 := by rw [← er]; exact c
    simp only [c, c', if_true]
    by_cases c2 : s = 0
    · have c2' : s.toInt = 0 := by rw [← es]; exact c2
      simp only [c2, if_true]
      rw [show (0 : Int32).toInt = 0 by decide]
      simp
    · have c2' : ¬ s.toInt = 0 := by rw [← es]; exact c2
      simp only [c2, c2', if_false]
      rw [pz_sub (a := 20000) (b := p) (by decide) (by decide) h3 (by omega)]
      rw [show (20000 : Int32).toInt = 20000 by decide]
      simp
  · have c' : ¬ r.toInt = 1 := by rw [← er]; exact c
    simp only [c, c', if_false]
    show (s * 20000 + p).toInt = 100000 * s.toInt + p.toInt - 80000 * s.toInt
    rw [pu_nn0 h1, pu_nn0 h3, show (20000 : Int32) = nI 20000 from rfl, pk_mul, nI_add, nI_toInt (by omega), nI_toInt (by omega), nI_toInt (by omega)]
    omega
theorem pz_rka (hw : pu_WF I L) (h : pz_vw M I st o V n) {a : Nat} (ha : a < n) : (pu_rk I o (V a)).toInt = pz_ak I st (V a) - (if (I 27 st).toInt = 1 then 0 else 80000 * (I 40 (pu_sl0 I (V a))).toInt) := by
  have m := pz_vw_m h ha
  have p := pz_pl0 hw m.1 m.2.2
  unfold pu_rk pz_ak
  rw [h.2.2.2.2.2]
  exact pz_rk_e p.1 p.2.1 p.2.2.1 p.2.2.2
theorem pz_o0 (hw : pu_WF I L) (h : pz_vw M I st o V n) : (o = 0) = ((I 27 st).toInt = 1) := by
  rw [h.2.2.2.2.2, ← pz_r1 hw]
  by_cases c : I 27 st = 1
  · simp [c]
  · simp [c]
theorem c_isInLine (hx : pu_fx M) (hw : pu_WF I L) (h : pz_vw M I st o V n) {a : Nat} (ha : a < n) (sd : Int32) : pu_r 74 [some (.ref 62), some (.int (nI a)), some (.int sd)] [] M = some (some (.int (pu_q ((I 27 st).toInt = 1 ∨ (I 40 (pu_sl0 I (V a))).toInt = sd.toInt))), M) := by
  have c := pz_vw_c h ha
  have hn := h.1
  have o1 := h.2.2.2.2.2
  have o2 := h.2.2.1
  have oz := pz_o0 hw h
  have es : (I 40 (pu_sl0 I (V a)) = sd) = ((I 40 (pu_sl0 I (V a))).toInt = sd.toInt) := propext ⟨fun e => by rw [e], fun e => Int32.toInt_inj.mp e⟩
  rw [← oz, ← es]
  have o3 : (nI o = 0) = (o = 0) := propext (nI_eq (b := 0) (by rw [o1]; split <;> omega) (by omega))
  rw [qX9_isInLine]
  simp [a_ent, bX9_isInLine_0, bX9_isInLine_17, bX9_isInLine_22, bX9_isInLine_21, a_ai, a_ald, a_gi, a_gr, a_icne, a_ifeq, a_ild, a_push, a_zret, fx_62_6 hx, sh_62, sh_66, pu_rv, pu_as, Value.category, pu_bk, pu_kl, List.replicate, pu_wi_1, pu_wi_2, nl_add, nl_ladd, nl_aa, nl_mul, nl_rmul, nl_mm, pu_qe0, pu_qe1, c.2.2.1, o2, o3]
  all_goals try simp (maxSteps := 400000) (disch := omega) [nl_tle, nl_fle, nl_tlt, nl_flt, nl_teq, nl_feq, nl_sub, nl_ss, nl_lt, nl_llt, nl_ltt, nl_le, nl_lle, nl_lee, nl_eq, nl_leq, nl_ee, nl_div, nl_rem, nl_cl, nl_n1, nl_n2, nl_n3, nl_n4, nl_add, nl_ladd, nl_aa, nl_mul, nl_rmul, nl_mm, pu_wi_1, pu_wi_2, bX9_isInLine_0, bX9_isInLine_17, bX9_isInLine_22, bX9_isInLine_21, a_ai, a_ald, a_gi, a_gr, a_icne, a_ifeq, a_ild, a_push, a_zret, fx_62_6 hx, sh_62, sh_66, pu_rv, pu_as, Value.category, pu_bk, pu_kl, pu_qe0, pu_qe1, c.2.2.1, o2, o3]
  all_goals try simp [bX9_isInLine_0, bX9_isInLine_17, bX9_isInLine_22, bX9_isInLine_21, a_ai, a_ald, a_gi, a_gr, a_icne, a_ifeq, a_ild, a_push, a_zret, fx_62_6 hx, sh_62, sh_66, pu_rv, pu_as, Value.category, pu_bk, pu_kl, List.replicate, pu_wi_1, pu_wi_2, nl_add, nl_ladd, nl_aa, nl_mul, nl_rmul, nl_mm, pu_qe0, pu_qe1, c.2.2.1, o2, o3]
  all_goals try simp (maxSteps := 400000) (disch := omega) [nl_tle, nl_fle, nl_tlt, nl_flt, nl_teq, nl_feq, nl_sub, nl_ss, nl_lt, nl_llt, nl_ltt, nl_le, nl_lle, nl_lee, nl_eq, nl_leq, nl_ee, nl_div, nl_rem, nl_cl, nl_n1, nl_n2, nl_n3, nl_n4, nl_add, nl_ladd, nl_aa, nl_mul, nl_rmul, nl_mm, pu_wi_1, pu_wi_2, bX9_isInLine_0, bX9_isInLine_17, bX9_isInLine_22, bX9_isInLine_21, a_ai, a_ald, a_gi, a_gr, a_icne, a_ifeq, a_ild, a_push, a_zret, fx_62_6 hx, sh_62, sh_66, pu_rv, pu_as, Value.category, pu_bk, pu_kl, pu_qe0, pu_qe1, c.2.2.1, o2, o3]
  grind [pu_q]
/-- the loop of lowAt -/
theorem c_lowAt_l (hx : pu_fx M) (hw : pu_WF I L) (h : pz_vw M I st o V n) (sd rk : Int32) (hh : Int) (hrk : rk.toInt = hh - (if (I 27 st).toInt = 1 then 0 else 80000 * sd.toInt)) : ∀ (m i : Nat) (lo : Int32), i + m = n → ((lo = 0 ∧ ∀ a, a < i → pz_el I st sd.toInt (V a) → ¬ pz_ak I st (V a) < hh) ∨ ∃ a, a < i ∧ pz_el I st sd.toInt (V a) ∧ pz_ak I st (V a) < hh ∧ I 16 (V a) = lo ∧ ∀ b, b < i → pz_el I st sd.toInt (V b) → pz_ak I st (V b) < hh → pz_ak I st (V b) ≤ pz_ak I st (V a)) →
    ∃ lo2, ((lo2 = 0 ∧ ∀ a, a < n → pz_el I st sd.toInt (V a) → ¬ pz_ak I st (V a) < hh) ∨ ∃ a, a < n ∧ pz_el I st sd.toInt (V a) ∧ pz_ak I st (V a) < hh ∧ I 16 (V a) = lo2 ∧ ∀ b, b < n → pz_el I st sd.toInt (V b) → pz_ak I st (V b) < hh → pz_ak I st (V b) ≤ pz_ak I st (V a)) ∧ pu_r 372 [some (.ref 62), some (.int sd), some (.int rk), some (.int lo), some (.int (nI i))] [] M = some (some (.int lo2), M)
  | 0, i, lo, hi, g => by
    have hn := h.1
    have hc : nI n ≤ nI i := nI_le (by omega) (by omega)
    have e : i = n := by omega
    subst e
    refine ⟨lo, g, ?_⟩
    rw [qX9_lowAt_5]
    simp [bX9_lowAt_5, bX9_lowAt_59, bX9_lowAt_53, bX9_lowAt_52, a_ai, a_ald, a_cv, a_gi, a_gr, a_icge, a_ifeq, a_ild, a_inc, a_iret, a_ist, fx_62_5 hx, fx_62_8 hx, sh_62, sh_65, sh_68, pu_rv, pu_as, Value.category, pu_bk, pu_kl, List.replicate, pu_wi_1, pu_wi_2, nl_add, nl_ladd, nl_aa, nl_mul, nl_rmul, nl_mm, pu_qe0, pu_qe1, h.2.2.2.1.1, hc]
    all_goals try simp (maxSteps := 400000) (disch := omega) [nl_tle, nl_fle, nl_tlt, nl_flt, nl_teq, nl_feq, nl_sub, nl_ss, nl_lt, nl_llt, nl_ltt, nl_le, nl_lle, nl_lee, nl_eq, nl_leq, nl_ee, nl_div, nl_rem, nl_cl, nl_n1, nl_n2, nl_n3, nl_n4, nl_add, nl_ladd, nl_aa, nl_mul, nl_rmul, nl_mm, pu_wi_1, pu_wi_2, bX9_lowAt_5, bX9_lowAt_59, bX9_lowAt_53, bX9_lowAt_52, a_ai, a_ald, a_cv, a_gi, a_gr, a_icge, a_ifeq, a_ild, a_inc, a_iret, a_ist, fx_62_5 hx, fx_62_8 hx, sh_62, sh_65, sh_68, pu_rv, pu_as, Value.category, pu_bk, pu_kl, pu_qe0, pu_qe1, h.2.2.2.1.1, hc]
    all_goals try simp [bX9_lowAt_5, bX9_lowAt_59, bX9_lowAt_53, bX9_lowAt_52, a_ai, a_ald, a_cv, a_gi, a_gr, a_icge, a_ifeq, a_ild, a_inc, a_iret, a_ist, fx_62_5 hx, fx_62_8 hx, sh_62, sh_65, sh_68, pu_rv, pu_as, Value.category, pu_bk, pu_kl, List.replicate, pu_wi_1, pu_wi_2, nl_add, nl_ladd, nl_aa, nl_mul, nl_rmul, nl_mm, pu_qe0, pu_qe1, h.2.2.2.1.1, hc]
    all_goals try simp (maxSteps := 400000) (disch := omega) [nl_tle, nl_fle, nl_tlt, nl_flt, nl_teq, nl_feq, nl_sub, nl_ss, nl_lt, nl_llt, nl_ltt, nl_le, nl_lle, nl_lee, nl_eq, nl_leq, nl_ee, nl_div, nl_rem, nl_cl, nl_n1, nl_n2, nl_n3, nl_n4, nl_add, nl_ladd, nl_aa, nl_mul, nl_rmul, nl_mm, pu_wi_1, pu_wi_2, bX9_lowAt_5, bX9_lowAt_59, bX9_lowAt_53, bX9_lowAt_52, a_ai, a_ald, a_cv, a_gi, a_gr, a_icge, a_ifeq, a_ild, a_inc, a_iret, a_ist, fx_62_5 hx, fx_62_8 hx, sh_62, sh_65, sh_68, pu_rv, pu_as, Value.category, pu_bk, pu_kl, pu_qe0, pu_qe1, h.2.2.2.1.1, hc]
  | m + 1, i, lo, hi, g => by
    have hn := h.1
    have hc : ¬ nI n ≤ nI i := nI_ge (by omega) (by omega)
    have c := pz_vw_c h (a := i) (by omega)
    have mm := pz_vw_m h (a := i) (by omega)
    have ra := pz_rka hw h (a := i) (by omega)
    have e1 := c_isInLine hx hw h (a := i) (by omega) sd
    have uw := wx_uw hw (V i) mm.1
    have t0 : (0 : Int32).toInt = 0 := by decide
    have skip : (pz_el I st sd.toInt (V i) → ¬ pz_ak I st (V i) < hh) → ((lo = 0 ∧ ∀ a, a < i + 1 → pz_el I st sd.toInt (V a) → ¬ pz_ak I st (V a) < hh) ∨ ∃ a, a < i + 1 ∧ pz_el I st sd.toInt (V a) ∧ pz_ak I st (V a) < hh ∧ I 16 (V a) = lo ∧ ∀ b, b < i + 1 → pz_el I st sd.toInt (V b) → pz_ak I st (V b) < hh → pz_ak I st (V b) ≤ pz_ak I st (V a)) := fun hs => by
      rcases g with ⟨g1, g2⟩ | ⟨a, a1, a2, a3, a4, a5⟩
      · refine Or.inl ⟨g1, fun b hb hb2 => ?_⟩
        by_cases z : b = i
        · rw [z] at hb2 ⊢
          exact hs hb2
        · exact g2 b (by omega) hb2
      · refine Or.inr ⟨a, by omega, a2, a3, a4, fun b hb hb2 hb3 => ?_⟩
        by_cases z : b = i
        · rw [z] at hb2 hb3
          exact absurd hb3 (hs hb2)
        · exact a5 b (by omega) hb2 hb3
    by_cases f1 : pu_rk I o (V i) < rk
    · have f2 : ¬ rk ≤ pu_rk I o (V i) := Int32.not_le.mpr f1
      have f3 := Int32.lt_iff_toInt_lt.mp f1
      by_cases f4 : I 16 (V i) = 0
      · obtain ⟨l2, l3, l4⟩ := c_lowAt_l hx hw h sd rk hh hrk m (i + 1) lo (by omega) (skip (fun el => by have := el.2.2.2.2; rw [f4] at this; omega))
        refine ⟨l2, l3, ?_⟩
        rw [qX9_lowAt_5]
        simp [bX9_lowAt_5, bX9_lowAt_59, bX9_lowAt_53, bX9_lowAt_52, a_ai, a_ald, a_cv, a_gi, a_gr, a_icge, a_ifeq, a_ild, a_inc, a_iret, a_ist, fx_62_5 hx, fx_62_8 hx, sh_62, sh_65, sh_68, pu_rv, pu_as, Value.category, pu_bk, pu_kl, List.replicate, pu_wi_1, pu_wi_2, nl_add, nl_ladd, nl_aa, nl_mul, nl_rmul, nl_mm, pu_qe0, pu_qe1, h.2.2.2.1.1, hc, c.2.2.2.2.1, f2, c.2.1, f4, l4]
        all_goals try simp (maxSteps := 400000) (disch := omega) [nl_tle, nl_fle, nl_tlt, nl_flt, nl_teq, nl_feq, nl_sub, nl_ss, nl_lt, nl_llt, nl_ltt, nl_le, nl_lle, nl_lee, nl_eq, nl_leq, nl_ee, nl_div, nl_rem, nl_cl, nl_n1, nl_n2, nl_n3, nl_n4, nl_add, nl_ladd, nl_aa, nl_mul, nl_rmul, nl_mm, pu_wi_1, pu_wi_2, bX9_lowAt_5, bX9_lowAt_59, bX9_lowAt_53, bX9_lowAt_52, a_ai, a_ald, a_cv, a_gi, a_gr, a_icge, a_ifeq, a_ild, a_inc, a_iret, a_ist, fx_62_5 hx, fx_62_8 hx, sh_62, sh_65, sh_68, pu_rv, pu_as, Value.category, pu_bk, pu_kl, pu_qe0, pu_qe1, h.2.2.2.1.1, hc, c.2.2.2.2.1, f2, c.2.1, f4, l4]
        all_goals try simp [bX9_lowAt_5, bX9_lowAt_59, bX9_lowAt_53, bX9_lowAt_52, a_ai, a_ald, a_cv, a_gi, a_gr, a_icge, a_ifeq, a_ild, a_inc, a_iret, a_ist, fx_62_5 hx, fx_62_8 hx, sh_62, sh_65, sh_68, pu_rv, pu_as, Value.category, pu_bk, pu_kl, List.replicate, pu_wi_1, pu_wi_2, nl_add, nl_ladd, nl_aa, nl_mul, nl_rmul, nl_mm, pu_qe0, pu_qe1, h.2.2.2.1.1, hc, c.2.2.2.2.1, f2, c.2.1, f4, l4]
        all_goals try simp (maxSteps := 400000) (disch := omega) [nl_tle, nl_fle, nl_tlt, nl_flt, nl_teq, nl_feq, nl_sub, nl_ss, nl_lt, nl_llt, nl_ltt, nl_le, nl_lle, nl_lee, nl_eq, nl_leq, nl_ee, nl_div, nl_rem, nl_cl, nl_n1, nl_n2, nl_n3, nl_n4, nl_add, nl_ladd, nl_aa, nl_mul, nl_rmul, nl_mm, pu_wi_1, pu_wi_2, bX9_lowAt_5, bX9_lowAt_59, bX9_lowAt_53, bX9_lowAt_52, a_ai, a_ald, a_cv, a_gi, a_gr, a_icge, a_ifeq, a_ild, a_inc, a_iret, a_ist, fx_62_5 hx, fx_62_8 hx, sh_62, sh_65, sh_68, pu_rv, pu_as, Value.category, pu_bk, pu_kl, pu_qe0, pu_qe1, h.2.2.2.1.1, hc, c.2.2.2.2.1, f2, c.2.1, f4, l4]
      · by_cases f5 : (I 27 st).toInt = 1 ∨ (I 40 (pu_sl0 I (V i))).toInt = sd.toInt
        · rw [pu_q1 f5] at e1
          have w0 : (I 16 (V i)).toInt ≠ 0 := fun z => f4 (Int32.toInt_inj.mp (by rw [z, t0]))
          have el : pz_el I st sd.toInt (V i) := ⟨mm.1, mm.2.1, mm.2.2, f5, by omega⟩
          have lt : pz_ak I st (V i) < hh := by
            rcases f5 with f5 | f5
            · rw [if_pos f5] at ra hrk
              omega
            · rw [f5] at ra
              omega
          obtain ⟨l2, l3, l4⟩ := c_lowAt_l hx hw h sd rk hh hrk m (i + 1) (I 16 (V i)) (by omega) (Or.inr ⟨i, by omega, el, lt, rfl, fun b hb hb2 hb3 => by
            by_cases z : b = i
            · rw [z]
              exact Int.le_refl _
            · have so := Int32.le_iff_toInt_le.mp (h.2.2.2.2.1.2.2 b i (by omega) (by omega)).2
              have rb := pz_rka hw h (a := b) (by omega)
              rw [ra, rb] at so
              by_cases y : (I 27 st).toInt = 1
              · rw [if_pos y, if_pos y] at so
                omega
              · rw [if_neg y, if_neg y] at so
                rcases f5 with q | q
                · exact absurd q y
                · rcases hb2.2.2.2.1 with q2 | q2
                  · exact absurd q2 y
                  · rw [q, q2] at so
                    omega⟩)
          refine ⟨l2, l3, ?_⟩
          rw [qX9_lowAt_5]
          simp [bX9_lowAt_5, bX9_lowAt_59, bX9_lowAt_53, bX9_lowAt_52, a_ai, a_ald, a_cv, a_gi, a_gr, a_icge, a_ifeq, a_ild, a_inc, a_iret, a_ist, fx_62_5 hx, fx_62_8 hx, sh_62, sh_65, sh_68, pu_rv, pu_as, Value.category, pu_bk, pu_kl, List.replicate, pu_wi_1, pu_wi_2, nl_add, nl_ladd, nl_aa, nl_mul, nl_rmul, nl_mm, pu_qe0, pu_qe1, h.2.2.2.1.1, hc, c.2.2.2.2.1, f2, c.2.1, f4, e1, l4]
          all_goals try simp (maxSteps := 400000) (disch := omega) [nl_tle, nl_fle, nl_tlt, nl_flt, nl_teq, nl_feq, nl_sub, nl_ss, nl_lt, nl_llt, nl_ltt, nl_le, nl_lle, nl_lee, nl_eq, nl_leq, nl_ee, nl_div, nl_rem, nl_cl, nl_n1, nl_n2, nl_n3, nl_n4, nl_add, nl_ladd, nl_aa, nl_mul, nl_rmul, nl_mm, pu_wi_1, pu_wi_2, bX9_lowAt_5, bX9_lowAt_59, bX9_lowAt_53, bX9_lowAt_52, a_ai, a_ald, a_cv, a_gi, a_gr, a_icge, a_ifeq, a_ild, a_inc, a_iret, a_ist, fx_62_5 hx, fx_62_8 hx, sh_62, sh_65, sh_68, pu_rv, pu_as, Value.category, pu_bk, pu_kl, pu_qe0, pu_qe1, h.2.2.2.1.1, hc, c.2.2.2.2.1, f2, c.2.1, f4, e1, l4]
          all_goals try simp [bX9_lowAt_5, bX9_lowAt_59, bX9_lowAt_53, bX9_lowAt_52, a_ai, a_ald, a_cv, a_gi, a_gr, a_icge, a_ifeq, a_ild, a_inc, a_iret, a_ist, fx_62_5 hx, fx_62_8 hx, sh_62, sh_65, sh_68, pu_rv, pu_as, Value.category, pu_bk, pu_kl, List.replicate, pu_wi_1, pu_wi_2, nl_add, nl_ladd, nl_aa, nl_mul, nl_rmul, nl_mm, pu_qe0, pu_qe1, h.2.2.2.1.1, hc, c.2.2.2.2.1, f2, c.2.1, f4, e1, l4]
          all_goals try simp (maxSteps := 400000) (disch := omega) [nl_tle, nl_fle, nl_tlt, nl_flt, nl_teq, nl_feq, nl_sub, nl_ss, nl_lt, nl_llt, nl_ltt, nl_le, nl_lle, nl_lee, nl_eq, nl_leq, nl_ee, nl_div, nl_rem, nl_cl, nl_n1, nl_n2, nl_n3, nl_n4, nl_add, nl_ladd, nl_aa, nl_mul, nl_rmul, nl_mm, pu_wi_1, pu_wi_2, bX9_lowAt_5, bX9_lowAt_59, bX9_lowAt_53, bX9_lowAt_52, a_ai, a_ald, a_cv, a_gi, a_gr, a_icge, a_ifeq, a_ild, a_inc, a_iret, a_ist, fx_62_5 hx, fx_62_8 hx, sh_62, sh_65, sh_68, pu_rv, pu_as, Value.category, pu_bk, pu_kl, pu_qe0, pu_qe1, h.2.2.2.1.1, hc, c.2.2.2.2.1, f2, c.2.1, f4, e1, l4]
        · rw [pu_q0 f5] at e1
          obtain ⟨l2, l3, l4⟩ := c_lowAt_l hx hw h sd rk hh hrk m (i + 1) lo (by omega) (skip (fun el => absurd el.2.2.2.1 f5))
          refine ⟨l2, l3, ?_⟩
          rw [qX9_lowAt_5]
          simp [bX9_lowAt_5, bX9_lowAt_59, bX9_lowAt_53, bX9_lowAt_52, a_ai, a_ald, a_cv, a_gi, a_gr, a_icge, a_ifeq, a_ild, a_inc, a_iret, a_ist, fx_62_5 hx, fx_62_8 hx, sh_62, sh_65, sh_68, pu_rv, pu_as, Value.category, pu_bk, pu_kl, List.replicate, pu_wi_1, pu_wi_2, nl_add, nl_ladd, nl_aa, nl_mul, nl_rmul, nl_mm, pu_qe0, pu_qe1, h.2.2.2.1.1, hc, c.2.2.2.2.1, f2, c.2.1, f4, e1, l4]
          all_goals try simp (maxSteps := 400000) (disch := omega) [nl_tle, nl_fle, nl_tlt, nl_flt, nl_teq, nl_feq, nl_sub, nl_ss, nl_lt, nl_llt, nl_ltt, nl_le, nl_lle, nl_lee, nl_eq, nl_leq, nl_ee, nl_div, nl_rem, nl_cl, nl_n1, nl_n2, nl_n3, nl_n4, nl_add, nl_ladd, nl_aa, nl_mul, nl_rmul, nl_mm, pu_wi_1, pu_wi_2, bX9_lowAt_5, bX9_lowAt_59, bX9_lowAt_53, bX9_lowAt_52, a_ai, a_ald, a_cv, a_gi, a_gr, a_icge, a_ifeq, a_ild, a_inc, a_iret, a_ist, fx_62_5 hx, fx_62_8 hx, sh_62, sh_65, sh_68, pu_rv, pu_as, Value.category, pu_bk, pu_kl, pu_qe0, pu_qe1, h.2.2.2.1.1, hc, c.2.2.2.2.1, f2, c.2.1, f4, e1, l4]
          all_goals try simp [bX9_lowAt_5, bX9_lowAt_59, bX9_lowAt_53, bX9_lowAt_52, a_ai, a_ald, a_cv, a_gi, a_gr, a_icge, a_ifeq, a_ild, a_inc, a_iret, a_ist, fx_62_5 hx, fx_62_8 hx, sh_62, sh_65, sh_68, pu_rv, pu_as, Value.category, pu_bk, pu_kl, List.replicate, pu_wi_1, pu_wi_2, nl_add, nl_ladd, nl_aa, nl_mul, nl_rmul, nl_mm, pu_qe0, pu_qe1, h.2.2.2.1.1, hc, c.2.2.2.2.1, f2, c.2.1, f4, e1, l4]
          all_goals try simp (maxSteps := 400000) (disch := omega) [nl_tle, nl_fle, nl_tlt, nl_flt, nl_teq, nl_feq, nl_sub, nl_ss, nl_lt, nl_llt, nl_ltt, nl_le, nl_lle, nl_lee, nl_eq, nl_leq, nl_ee, nl_div, nl_rem, nl_cl, nl_n1, nl_n2, nl_n3, nl_n4, nl_add, nl_ladd, nl_aa, nl_mul, nl_rmul, nl_mm, pu_wi_1, pu_wi_2, bX9_lowAt_5, bX9_lowAt_59, bX9_lowAt_53, bX9_lowAt_52, a_ai, a_ald, a_cv, a_gi, a_gr, a_icge, a_ifeq, a_ild, a_inc, a_iret, a_ist, fx_62_5 hx, fx_62_8 hx, sh_62, sh_65, sh_68, pu_rv, pu_as, Value.category, pu_bk, pu_kl, pu_qe0, pu_qe1, h.2.2.2.1.1, hc, c.2.2.2.2.1, f2, c.2.1, f4, e1, l4]
    · have f2 : rk ≤ pu_rk I o (V i) := Int32.not_lt.mp f1
      have f3 := Int32.le_iff_toInt_le.mp f2
      obtain ⟨l2, l3, l4⟩ := c_lowAt_l hx hw h sd rk hh hrk m (i + 1) lo (by omega) (skip (fun el => by
        rcases el.2.2.2.1 with f5 | f5
        · rw [if_pos f5] at ra hrk
          omega
        · rw [f5] at ra
          omega))
      refine ⟨l2, l3, ?_⟩
      rw [qX9_lowAt_5]
      simp [bX9_lowAt_5, bX9_lowAt_59, bX9_lowAt_53, bX9_lowAt_52, a_ai, a_ald, a_cv, a_gi, a_gr, a_icge, a_ifeq, a_ild, a_inc, a_iret, a_ist, fx_62_5 hx, fx_62_8 hx, sh_62, sh_65, sh_68, pu_rv, pu_as, Value.category, pu_bk, pu_kl, List.replicate, pu_wi_1, pu_wi_2, nl_add, nl_ladd, nl_aa, nl_mul, nl_rmul, nl_mm, pu_qe0, pu_qe1, h.2.2.2.1.1, hc, c.2.2.2.2.1, f1, f2, l4]
      all_goals try simp (maxSteps := 400000) (disch := omega) [nl_tle, nl_fle, nl_tlt, nl_flt, nl_teq, nl_feq, nl_sub, nl_ss, nl_lt, nl_llt, nl_ltt, nl_le, nl_lle, nl_lee, nl_eq, nl_leq, nl_ee, nl_div, nl_rem, nl_cl, nl_n1, nl_n2, nl_n3, nl_n4, nl_add, nl_ladd, nl_aa, nl_mul, nl_rmul, nl_mm, pu_wi_1, pu_wi_2, bX9_lowAt_5, bX9_lowAt_59, bX9_lowAt_53, bX9_lowAt_52, a_ai, a_ald, a_cv, a_gi, a_gr, a_icge, a_ifeq, a_ild, a_inc, a_iret, a_ist, fx_62_5 hx, fx_62_8 hx, sh_62, sh_65, sh_68, pu_rv, pu_as, Value.category, pu_bk, pu_kl, pu_qe0, pu_qe1, h.2.2.2.1.1, hc, c.2.2.2.2.1, f1, f2, l4]
      all_goals try simp [bX9_lowAt_5, bX9_lowAt_59, bX9_lowAt_53, bX9_lowAt_52, a_ai, a_ald, a_cv, a_gi, a_gr, a_icge, a_ifeq, a_ild, a_inc, a_iret, a_ist, fx_62_5 hx, fx_62_8 hx, sh_62, sh_65, sh_68, pu_rv, pu_as, Value.category, pu_bk, pu_kl, List.replicate, pu_wi_1, pu_wi_2, nl_add, nl_ladd, nl_aa, nl_mul, nl_rmul, nl_mm, pu_qe0, pu_qe1, h.2.2.2.1.1, hc, c.2.2.2.2.1, f1, f2, l4]
      all_goals try simp (maxSteps := 400000) (disch := omega) [nl_tle, nl_fle, nl_tlt, nl_flt, nl_teq, nl_feq, nl_sub, nl_ss, nl_lt, nl_llt, nl_ltt, nl_le, nl_lle, nl_lee, nl_eq, nl_leq, nl_ee, nl_div, nl_rem, nl_cl, nl_n1, nl_n2, nl_n3, nl_n4, nl_add, nl_ladd, nl_aa, nl_mul, nl_rmul, nl_mm, pu_wi_1, pu_wi_2, bX9_lowAt_5, bX9_lowAt_59, bX9_lowAt_53, bX9_lowAt_52, a_ai, a_ald, a_cv, a_gi, a_gr, a_icge, a_ifeq, a_ild, a_inc, a_iret, a_ist, fx_62_5 hx, fx_62_8 hx, sh_62, sh_65, sh_68, pu_rv, pu_as, Value.category, pu_bk, pu_kl, pu_qe0, pu_qe1, h.2.2.2.1.1, hc, c.2.2.2.2.1, f1, f2, l4]
theorem c_lowAt (hx : pu_fx M) (hw : pu_WF I L) (h : pz_vw M I st o V n) (sd rk : Int32) (hh : Int) (hrk : rk.toInt = hh - (if (I 27 st).toInt = 1 then 0 else 80000 * sd.toInt)) : ∃ be lo, pz_lo I st sd.toInt hh (2 * cD I) be lo ∧ pu_r 75 [some (.ref 62), some (.int sd), some (.int rk)] [] M = some (some (.int lo), M) := by
  obtain ⟨lo, g, e⟩ := c_lowAt_l hx hw h sd rk hh hrk n 0 0 (by omega) (Or.inl ⟨rfl, fun a q => by omega⟩)
  rw [nI_0] at e
  have e2 : pu_r 75 [some (.ref 62), some (.int sd), some (.int rk)] [] M = some (some (.int lo), M) := by
    rw [qX9_lowAt]
    simp [a_ent, bX9_lowAt_0, a_ist, a_push, pu_rv, pu_as, Value.category, pu_bk, pu_kl, List.replicate, pu_wi_1, pu_wi_2, nl_add, nl_ladd, nl_aa, nl_mul, nl_rmul, nl_mm, pu_qe0, pu_qe1, e]
    all_goals try simp (maxSteps := 400000) (disch := omega) [nl_tle, nl_fle, nl_tlt, nl_flt, nl_teq, nl_feq, nl_sub, nl_ss, nl_lt, nl_llt, nl_ltt, nl_le, nl_lle, nl_lee, nl_eq, nl_leq, nl_ee, nl_div, nl_rem, nl_cl, nl_n1, nl_n2, nl_n3, nl_n4, nl_add, nl_ladd, nl_aa, nl_mul, nl_rmul, nl_mm, pu_wi_1, pu_wi_2, bX9_lowAt_0, a_ist, a_push, pu_rv, pu_as, Value.category, pu_bk, pu_kl, pu_qe0, pu_qe1, e]
    all_goals try simp [bX9_lowAt_0, a_ist, a_push, pu_rv, pu_as, Value.category, pu_bk, pu_kl, List.replicate, pu_wi_1, pu_wi_2, nl_add, nl_ladd, nl_aa, nl_mul, nl_rmul, nl_mm, pu_qe0, pu_qe1, e]
    all_goals try simp (maxSteps := 400000) (disch := omega) [nl_tle, nl_fle, nl_tlt, nl_flt, nl_teq, nl_feq, nl_sub, nl_ss, nl_lt, nl_llt, nl_ltt, nl_le, nl_lle, nl_lee, nl_eq, nl_leq, nl_ee, nl_div, nl_rem, nl_cl, nl_n1, nl_n2, nl_n3, nl_n4, nl_add, nl_ladd, nl_aa, nl_mul, nl_rmul, nl_mm, pu_wi_1, pu_wi_2, bX9_lowAt_0, a_ist, a_push, pu_rv, pu_as, Value.category, pu_bk, pu_kl, pu_qe0, pu_qe1, e]
  rcases g with ⟨g1, g2⟩ | ⟨a, a1, a2, a3, a4, a5⟩
  · refine ⟨-1, lo, Or.inl ⟨rfl, g1, fun k el _ => ?_⟩, e2⟩
    obtain ⟨a, a1, a2⟩ := pz_vw_e h el.1 el.2.1 el.2.2.1
    rw [← a2] at el ⊢
    exact g2 a a1 el
  · refine ⟨pz_ak I st (V a), lo, Or.inr ⟨V a, a2, (pu_sl_lt hw a2.1).1, a3, rfl, a4, fun k el _ h3 => ?_⟩, e2⟩
    obtain ⟨b, b1, b2⟩ := pz_vw_e h el.1 el.2.1 el.2.2.1
    rw [← b2] at el h3 ⊢
    exact a5 b b1 el h3
/-- the loop of highAt -/
theorem c_highAt_l (hx : pu_fx M) (hw : pu_WF I L) (h : pz_vw M I st o V n) (sd rk : Int32) (hh : Int) (hrk : rk.toInt = hh - (if (I 27 st).toInt = 1 then 0 else 80000 * sd.toInt)) : ∀ (m i : Nat), i + m = n → (∀ a, a < i → pz_el I st sd.toInt (V a) → ¬ hh < pz_ak I st (V a)) →
    ∃ lo2, ((lo2 = 160000 ∧ ∀ a, a < n → pz_el I st sd.toInt (V a) → ¬ hh < pz_ak I st (V a)) ∨ ∃ a, a < n ∧ pz_el I st sd.toInt (V a) ∧ hh < pz_ak I st (V a) ∧ I 16 (V a) = lo2 ∧ ∀ b, b < n → pz_el I st sd.toInt (V b) → hh < pz_ak I st (V b) → pz_ak I st (V a) ≤ pz_ak I st (V b)) ∧ pu_r 373 [some (.ref 62), some (.int sd), some (.int rk), some (.int (nI i))] [] M = some (some (.int lo2), M)
  | 0, i, hi, g => by
    have hn := h.1
    have hc : nI n ≤ nI i := nI_le (by omega) (by omega)
    have e : i = n := by omega
    subst e
    refine ⟨160000, Or.inl ⟨rfl, g⟩, ?_⟩
    rw [qX9_highAt_2]
    simp [bX9_highAt_2, bX9_highAt_51, bX9_highAt_45, bX9_highAt_44, a_ai, a_ald, a_cv, a_gi, a_gr, a_icge, a_icle, a_ifeq, a_ild, a_inc, a_iret, a_push, fx_62_5 hx, fx_62_8 hx, sh_62, sh_65, sh_68, pu_rv, pu_as, Value.category, pu_bk, pu_kl, List.replicate, pu_wi_1, pu_wi_2, nl_add, nl_ladd, nl_aa, nl_mul, nl_rmul, nl_mm, pu_qe0, pu_qe1, h.2.2.2.1.1, hc]
    all_goals try simp (maxSteps := 400000) (disch := omega) [nl_tle, nl_fle, nl_tlt, nl_flt, nl_teq, nl_feq, nl_sub, nl_ss, nl_lt, nl_llt, nl_ltt, nl_le, nl_lle, nl_lee, nl_eq, nl_leq, nl_ee, nl_div, nl_rem, nl_cl, nl_n1, nl_n2, nl_n3, nl_n4, nl_add, nl_ladd, nl_aa, nl_mul, nl_rmul, nl_mm, pu_wi_1, pu_wi_2, bX9_highAt_2, bX9_highAt_51, bX9_highAt_45, bX9_highAt_44, a_ai, a_ald, a_cv, a_gi, a_gr, a_icge, a_icle, a_ifeq, a_ild, a_inc, a_iret, a_push, fx_62_5 hx, fx_62_8 hx, sh_62, sh_65, sh_68, pu_rv, pu_as, Value.category, pu_bk, pu_kl, pu_qe0, pu_qe1, h.2.2.2.1.1, hc]
    all_goals try simp [bX9_highAt_2, bX9_highAt_51, bX9_highAt_45, bX9_highAt_44, a_ai, a_ald, a_cv, a_gi, a_gr, a_icge, a_icle, a_ifeq, a_ild, a_inc, a_iret, a_push, fx_62_5 hx, fx_62_8 hx, sh_62, sh_65, sh_68, pu_rv, pu_as, Value.category, pu_bk, pu_kl, List.replicate, pu_wi_1, pu_wi_2, nl_add, nl_ladd, nl_aa, nl_mul, nl_rmul, nl_mm, pu_qe0, pu_qe1, h.2.2.2.1.1, hc]
    all_goals try simp (maxSteps := 400000) (disch := omega) [nl_tle, nl_fle, nl_tlt, nl_flt, nl_teq, nl_feq, nl_sub, nl_ss, nl_lt, nl_llt, nl_ltt, nl_le, nl_lle, nl_lee, nl_eq, nl_leq, nl_ee, nl_div, nl_rem, nl_cl, nl_n1, nl_n2, nl_n3, nl_n4, nl_add, nl_ladd, nl_aa, nl_mul, nl_rmul, nl_mm, pu_wi_1, pu_wi_2, bX9_highAt_2, bX9_highAt_51, bX9_highAt_45, bX9_highAt_44, a_ai, a_ald, a_cv, a_gi, a_gr, a_icge, a_icle, a_ifeq, a_ild, a_inc, a_iret, a_push, fx_62_5 hx, fx_62_8 hx, sh_62, sh_65, sh_68, pu_rv, pu_as, Value.category, pu_bk, pu_kl, pu_qe0, pu_qe1, h.2.2.2.1.1, hc]
  | m + 1, i, hi, g => by
    have hn := h.1
    have hc : ¬ nI n ≤ nI i := nI_ge (by omega) (by omega)
    have c := pz_vw_c h (a := i) (by omega)
    have mm := pz_vw_m h (a := i) (by omega)
    have ra := pz_rka hw h (a := i) (by omega)
    have e1 := c_isInLine hx hw h (a := i) (by omega) sd
    have uw := wx_uw hw (V i) mm.1
    have t0 : (0 : Int32).toInt = 0 := by decide
    have skip : (pz_el I st sd.toInt (V i) → ¬ hh < pz_ak I st (V i)) → (∀ a, a < i + 1 → pz_el I st sd.toInt (V a) → ¬ hh < pz_ak I st (V a)) := fun hs b hb hb2 => by
      by_cases z : b = i
      · rw [z] at hb2 ⊢
        exact hs hb2
      · exact g b (by omega) hb2
    by_cases f1 : rk < pu_rk I o (V i)
    · have f2 : ¬ pu_rk I o (V i) ≤ rk := Int32.not_le.mpr f1
      have f3 := Int32.lt_iff_toInt_lt.mp f1
      by_cases f4 : I 16 (V i) = 0
      · obtain ⟨l2, l3, l4⟩ := c_highAt_l hx hw h sd rk hh hrk m (i + 1) (by omega) (skip (fun el => by have := el.2.2.2.2; rw [f4] at this; omega))
        refine ⟨l2, l3, ?_⟩
        rw [qX9_highAt_2]
        simp [bX9_highAt_2, bX9_highAt_51, bX9_highAt_45, bX9_highAt_44, a_ai, a_ald, a_cv, a_gi, a_gr, a_icge, a_icle, a_ifeq, a_ild, a_inc, a_iret, a_push, fx_62_5 hx, fx_62_8 hx, sh_62, sh_65, sh_68, pu_rv, pu_as, Value.category, pu_bk, pu_kl, List.replicate, pu_wi_1, pu_wi_2, nl_add, nl_ladd, nl_aa, nl_mul, nl_rmul, nl_mm, pu_qe0, pu_qe1, h.2.2.2.1.1, hc, c.2.2.2.2.1, f2, c.2.1, f4, l4]
        all_goals try simp (maxSteps := 400000) (disch := omega) [nl_tle, nl_fle, nl_tlt, nl_flt, nl_teq, nl_feq, nl_sub, nl_ss, nl_lt, nl_llt, nl_ltt, nl_le, nl_lle, nl_lee, nl_eq, nl_leq, nl_ee, nl_div, nl_rem, nl_cl, nl_n1, nl_n2, nl_n3, nl_n4, nl_add, nl_ladd, nl_aa, nl_mul, nl_rmul, nl_mm, pu_wi_1, pu_wi_2, bX9_highAt_2, bX9_highAt_51, bX9_highAt_45, bX9_highAt_44, a_ai, a_ald, a_cv, a_gi, a_gr, a_icge, a_icle, a_ifeq, a_ild, a_inc, a_iret, a_push, fx_62_5 hx, fx_62_8 hx, sh_62, sh_65, sh_68, pu_rv, pu_as, Value.category, pu_bk, pu_kl, pu_qe0, pu_qe1, h.2.2.2.1.1, hc, c.2.2.2.2.1, f2, c.2.1, f4, l4]
        all_goals try simp [bX9_highAt_2, bX9_highAt_51, bX9_highAt_45, bX9_highAt_44, a_ai, a_ald, a_cv, a_gi, a_gr, a_icge, a_icle, a_ifeq, a_ild, a_inc, a_iret, a_push, fx_62_5 hx, fx_62_8 hx, sh_62, sh_65, sh_68, pu_rv, pu_as, Value.category, pu_bk, pu_kl, List.replicate, pu_wi_1, pu_wi_2, nl_add, nl_ladd, nl_aa, nl_mul, nl_rmul, nl_mm, pu_qe0, pu_qe1, h.2.2.2.1.1, hc, c.2.2.2.2.1, f2, c.2.1, f4, l4]
        all_goals try simp (maxSteps := 400000) (disch := omega) [nl_tle, nl_fle, nl_tlt, nl_flt, nl_teq, nl_feq, nl_sub, nl_ss, nl_lt, nl_llt, nl_ltt, nl_le, nl_lle, nl_lee, nl_eq, nl_leq, nl_ee, nl_div, nl_rem, nl_cl, nl_n1, nl_n2, nl_n3, nl_n4, nl_add, nl_ladd, nl_aa, nl_mul, nl_rmul, nl_mm, pu_wi_1, pu_wi_2, bX9_highAt_2, bX9_highAt_51, bX9_highAt_45, bX9_highAt_44, a_ai, a_ald, a_cv, a_gi, a_gr, a_icge, a_icle, a_ifeq, a_ild, a_inc, a_iret, a_push, fx_62_5 hx, fx_62_8 hx, sh_62, sh_65, sh_68, pu_rv, pu_as, Value.category, pu_bk, pu_kl, pu_qe0, pu_qe1, h.2.2.2.1.1, hc, c.2.2.2.2.1, f2, c.2.1, f4, l4]
      · by_cases f5 : (I 27 st).toInt = 1 ∨ (I 40 (pu_sl0 I (V i))).toInt = sd.toInt
        · rw [pu_q1 f5] at e1
          have w0 : (I 16 (V i)).toInt ≠ 0 := fun z => f4 (Int32.toInt_inj.mp (by rw [z, t0]))
          have el : pz_el I st sd.toInt (V i) := ⟨mm.1, mm.2.1, mm.2.2, f5, by omega⟩
          have lt : hh < pz_ak I st (V i) := by
            rcases f5 with f5 | f5
            · rw [if_pos f5] at ra hrk
              omega
            · rw [f5] at ra
              omega
          refine ⟨I 16 (V i), Or.inr ⟨i, by omega, el, lt, rfl, fun b hb hb2 hb3 => ?_⟩, ?_⟩
          · by_cases z : b < i
            · exact absurd hb3 (g b z hb2)
            · by_cases z2 : b = i
              · rw [z2]
                exact Int.le_refl _
              · have so := Int32.le_iff_toInt_le.mp (h.2.2.2.2.1.2.2 i b (by omega) (by omega)).2
                have rb := pz_rka hw h (a := b) (by omega)
                rw [ra, rb] at so
                by_cases y : (I 27 st).toInt = 1
                · rw [if_pos y, if_pos y] at so
                  omega
                · rw [if_neg y, if_neg y] at so
                  rcases f5 with q | q
                  · exact absurd q y
                  · rcases hb2.2.2.2.1 with q2 | q2
                    · exact absurd q2 y
                    · rw [q, q2] at so
                      omega
          · rw [qX9_highAt_2]
            simp [bX9_highAt_2, bX9_highAt_51, bX9_highAt_45, bX9_highAt_44, a_ai, a_ald, a_cv, a_gi, a_gr, a_icge, a_icle, a_ifeq, a_ild, a_inc, a_iret, a_push, fx_62_5 hx, fx_62_8 hx, sh_62, sh_65, sh_68, pu_rv, pu_as, Value.category, pu_bk, pu_kl, List.replicate, pu_wi_1, pu_wi_2, nl_add, nl_ladd, nl_aa, nl_mul, nl_rmul, nl_mm, pu_qe0, pu_qe1, h.2.2.2.1.1, hc, c.2.2.2.2.1, f2, c.2.1, f4, e1]
            all_goals try simp (maxSteps := 400000) (disch := omega) [nl_tle, nl_fle, nl_tlt, nl_flt, nl_teq, nl_feq, nl_sub, nl_ss, nl_lt, nl_llt, nl_ltt, nl_le, nl_lle, nl_lee, nl_eq, nl_leq, nl_ee, nl_div, nl_rem, nl_cl, nl_n1, nl_n2, nl_n3, nl_n4, nl_add, nl_ladd, nl_aa, nl_mul, nl_rmul, nl_mm, pu_wi_1, pu_wi_2, bX9_highAt_2, bX9_highAt_51, bX9_highAt_45, bX9_highAt_44, a_ai, a_ald, a_cv, a_gi, a_gr, a_icge, a_icle, a_ifeq, a_ild, a_inc, a_iret, a_push, fx_62_5 hx, fx_62_8 hx, sh_62, sh_65, sh_68, pu_rv, pu_as, Value.category, pu_bk, pu_kl, pu_qe0, pu_qe1, h.2.2.2.1.1, hc, c.2.2.2.2.1, f2, c.2.1, f4, e1]
            all_goals try simp [bX9_highAt_2, bX9_highAt_51, bX9_highAt_45, bX9_highAt_44, a_ai, a_ald, a_cv, a_gi, a_gr, a_icge, a_icle, a_ifeq, a_ild, a_inc, a_iret, a_push, fx_62_5 hx, fx_62_8 hx, sh_62, sh_65, sh_68, pu_rv, pu_as, Value.category, pu_bk, pu_kl, List.replicate, pu_wi_1, pu_wi_2, nl_add, nl_ladd, nl_aa, nl_mul, nl_rmul, nl_mm, pu_qe0, pu_qe1, h.2.2.2.1.1, hc, c.2.2.2.2.1, f2, c.2.1, f4, e1]
            all_goals try simp (maxSteps := 400000) (disch := omega) [nl_tle, nl_fle, nl_tlt, nl_flt, nl_teq, nl_feq, nl_sub, nl_ss, nl_lt, nl_llt, nl_ltt, nl_le, nl_lle, nl_lee, nl_eq, nl_leq, nl_ee, nl_div, nl_rem, nl_cl, nl_n1, nl_n2, nl_n3, nl_n4, nl_add, nl_ladd, nl_aa, nl_mul, nl_rmul, nl_mm, pu_wi_1, pu_wi_2, bX9_highAt_2, bX9_highAt_51, bX9_highAt_45, bX9_highAt_44, a_ai, a_ald, a_cv, a_gi, a_gr, a_icge, a_icle, a_ifeq, a_ild, a_inc, a_iret, a_push, fx_62_5 hx, fx_62_8 hx, sh_62, sh_65, sh_68, pu_rv, pu_as, Value.category, pu_bk, pu_kl, pu_qe0, pu_qe1, h.2.2.2.1.1, hc, c.2.2.2.2.1, f2, c.2.1, f4, e1]
        · rw [pu_q0 f5] at e1
          obtain ⟨l2, l3, l4⟩ := c_highAt_l hx hw h sd rk hh hrk m (i + 1) (by omega) (skip (fun el => absurd el.2.2.2.1 f5))
          refine ⟨l2, l3, ?_⟩
          rw [qX9_highAt_2]
          simp [bX9_highAt_2, bX9_highAt_51, bX9_highAt_45, bX9_highAt_44, a_ai, a_ald, a_cv, a_gi, a_gr, a_icge, a_icle, a_ifeq, a_ild, a_inc, a_iret, a_push, fx_62_5 hx, fx_62_8 hx, sh_62, sh_65, sh_68, pu_rv, pu_as, Value.category, pu_bk, pu_kl, List.replicate, pu_wi_1, pu_wi_2, nl_add, nl_ladd, nl_aa, nl_mul, nl_rmul, nl_mm, pu_qe0, pu_qe1, h.2.2.2.1.1, hc, c.2.2.2.2.1, f2, c.2.1, f4, e1, l4]
          all_goals try simp (maxSteps := 400000) (disch := omega) [nl_tle, nl_fle, nl_tlt, nl_flt, nl_teq, nl_feq, nl_sub, nl_ss, nl_lt, nl_llt, nl_ltt, nl_le, nl_lle, nl_lee, nl_eq, nl_leq, nl_ee, nl_div, nl_rem, nl_cl, nl_n1, nl_n2, nl_n3, nl_n4, nl_add, nl_ladd, nl_aa, nl_mul, nl_rmul, nl_mm, pu_wi_1, pu_wi_2, bX9_highAt_2, bX9_highAt_51, bX9_highAt_45, bX9_highAt_44, a_ai, a_ald, a_cv, a_gi, a_gr, a_icge, a_icle, a_ifeq, a_ild, a_inc, a_iret, a_push, fx_62_5 hx, fx_62_8 hx, sh_62, sh_65, sh_68, pu_rv, pu_as, Value.category, pu_bk, pu_kl, pu_qe0, pu_qe1, h.2.2.2.1.1, hc, c.2.2.2.2.1, f2, c.2.1, f4, e1, l4]
          all_goals try simp [bX9_highAt_2, bX9_highAt_51, bX9_highAt_45, bX9_highAt_44, a_ai, a_ald, a_cv, a_gi, a_gr, a_icge, a_icle, a_ifeq, a_ild, a_inc, a_iret, a_push, fx_62_5 hx, fx_62_8 hx, sh_62, sh_65, sh_68, pu_rv, pu_as, Value.category, pu_bk, pu_kl, List.replicate, pu_wi_1, pu_wi_2, nl_add, nl_ladd, nl_aa, nl_mul, nl_rmul, nl_mm, pu_qe0, pu_qe1, h.2.2.2.1.1, hc, c.2.2.2.2.1, f2, c.2.1, f4, e1, l4]
          all_goals try simp (maxSteps := 400000) (disch := omega) [nl_tle, nl_fle, nl_tlt, nl_flt, nl_teq, nl_feq, nl_sub, nl_ss, nl_lt, nl_llt, nl_ltt, nl_le, nl_lle, nl_lee, nl_eq, nl_leq, nl_ee, nl_div, nl_rem, nl_cl, nl_n1, nl_n2, nl_n3, nl_n4, nl_add, nl_ladd, nl_aa, nl_mul, nl_rmul, nl_mm, pu_wi_1, pu_wi_2, bX9_highAt_2, bX9_highAt_51, bX9_highAt_45, bX9_highAt_44, a_ai, a_ald, a_cv, a_gi, a_gr, a_icge, a_icle, a_ifeq, a_ild, a_inc, a_iret, a_push, fx_62_5 hx, fx_62_8 hx, sh_62, sh_65, sh_68, pu_rv, pu_as, Value.category, pu_bk, pu_kl, pu_qe0, pu_qe1, h.2.2.2.1.1, hc, c.2.2.2.2.1, f2, c.2.1, f4, e1, l4]
    · have f2 : pu_rk I o (V i) ≤ rk := Int32.not_lt.mp f1
      have f3 := Int32.le_iff_toInt_le.mp f2
      obtain ⟨l2, l3, l4⟩ := c_highAt_l hx hw h sd rk hh hrk m (i + 1) (by omega) (skip (fun el => by
        rcases el.2.2.2.1 with f5 | f5
        · rw [if_pos f5] at ra hrk
          omega
        · rw [f5] at ra
          omega))
      refine ⟨l2, l3, ?_⟩
      rw [qX9_highAt_2]
      simp [bX9_highAt_2, bX9_highAt_51, bX9_highAt_45, bX9_highAt_44, a_ai, a_ald, a_cv, a_gi, a_gr, a_icge, a_icle, a_ifeq, a_ild, a_inc, a_iret, a_push, fx_62_5 hx, fx_62_8 hx, sh_62, sh_65, sh_68, pu_rv, pu_as, Value.category, pu_bk, pu_kl, List.replicate, pu_wi_1, pu_wi_2, nl_add, nl_ladd, nl_aa, nl_mul, nl_rmul, nl_mm, pu_qe0, pu_qe1, h.2.2.2.1.1, hc, c.2.2.2.2.1, f1, f2, l4]
      all_goals try simp (maxSteps := 400000) (disch := omega) [nl_tle, nl_fle, nl_tlt, nl_flt, nl_teq, nl_feq, nl_sub, nl_ss, nl_lt, nl_llt, nl_ltt, nl_le, nl_lle, nl_lee, nl_eq, nl_leq, nl_ee, nl_div, nl_rem, nl_cl, nl_n1, nl_n2, nl_n3, nl_n4, nl_add, nl_ladd, nl_aa, nl_mul, nl_rmul, nl_mm, pu_wi_1, pu_wi_2, bX9_highAt_2, bX9_highAt_51, bX9_highAt_45, bX9_highAt_44, a_ai, a_ald, a_cv, a_gi, a_gr, a_icge, a_icle, a_ifeq, a_ild, a_inc, a_iret, a_push, fx_62_5 hx, fx_62_8 hx, sh_62, sh_65, sh_68, pu_rv, pu_as, Value.category, pu_bk, pu_kl, pu_qe0, pu_qe1, h.2.2.2.1.1, hc, c.2.2.2.2.1, f1, f2, l4]
      all_goals try simp [bX9_highAt_2, bX9_highAt_51, bX9_highAt_45, bX9_highAt_44, a_ai, a_ald, a_cv, a_gi, a_gr, a_icge, a_icle, a_ifeq, a_ild, a_inc, a_iret, a_push, fx_62_5 hx, fx_62_8 hx, sh_62, sh_65, sh_68, pu_rv, pu_as, Value.category, pu_bk, pu_kl, List.replicate, pu_wi_1, pu_wi_2, nl_add, nl_ladd, nl_aa, nl_mul, nl_rmul, nl_mm, pu_qe0, pu_qe1, h.2.2.2.1.1, hc, c.2.2.2.2.1, f1, f2, l4]
      all_goals try simp (maxSteps := 400000) (disch := omega) [nl_tle, nl_fle, nl_tlt, nl_flt, nl_teq, nl_feq, nl_sub, nl_ss, nl_lt, nl_llt, nl_ltt, nl_le, nl_lle, nl_lee, nl_eq, nl_leq, nl_ee, nl_div, nl_rem, nl_cl, nl_n1, nl_n2, nl_n3, nl_n4, nl_add, nl_ladd, nl_aa, nl_mul, nl_rmul, nl_mm, pu_wi_1, pu_wi_2, bX9_highAt_2, bX9_highAt_51, bX9_highAt_45, bX9_highAt_44, a_ai, a_ald, a_cv, a_gi, a_gr, a_icge, a_icle, a_ifeq, a_ild, a_inc, a_iret, a_push, fx_62_5 hx, fx_62_8 hx, sh_62, sh_65, sh_68, pu_rv, pu_as, Value.category, pu_bk, pu_kl, pu_qe0, pu_qe1, h.2.2.2.1.1, hc, c.2.2.2.2.1, f1, f2, l4]
theorem c_highAt (hx : pu_fx M) (hw : pu_WF I L) (h : pz_vw M I st o V n) (sd rk : Int32) (hh : Int) (hrk : rk.toInt = hh - (if (I 27 st).toInt = 1 then 0 else 80000 * sd.toInt)) : ∃ be lo, pz_hi I st sd.toInt hh (2 * cD I) be lo ∧ pu_r 76 [some (.ref 62), some (.int sd), some (.int rk)] [] M = some (some (.int lo), M) := by
  obtain ⟨lo, g, e⟩ := c_highAt_l hx hw h sd rk hh hrk n 0 (by omega) (fun a q => by omega)
  rw [nI_0] at e
  have e2 : pu_r 76 [some (.ref 62), some (.int sd), some (.int rk)] [] M = some (some (.int lo), M) := by
    rw [qX9_highAt]
    simp [a_ent, bX9_highAt_0, a_ist, a_push, pu_rv, pu_as, Value.category, pu_bk, pu_kl, List.replicate, pu_wi_1, pu_wi_2, nl_add, nl_ladd, nl_aa, nl_mul, nl_rmul, nl_mm, pu_qe0, pu_qe1, e]
    all_goals try simp (maxSteps := 400000) (disch := omega) [nl_tle, nl_fle, nl_tlt, nl_flt, nl_teq, nl_feq, nl_sub, nl_ss, nl_lt, nl_llt, nl_ltt, nl_le, nl_lle, nl_lee, nl_eq, nl_leq, nl_ee, nl_div, nl_rem, nl_cl, nl_n1, nl_n2, nl_n3, nl_n4, nl_add, nl_ladd, nl_aa, nl_mul, nl_rmul, nl_mm, pu_wi_1, pu_wi_2, bX9_highAt_0, a_ist, a_push, pu_rv, pu_as, Value.category, pu_bk, pu_kl, pu_qe0, pu_qe1, e]
    all_goals try simp [bX9_highAt_0, a_ist, a_push, pu_rv, pu_as, Value.category, pu_bk, pu_kl, List.replicate, pu_wi_1, pu_wi_2, nl_add, nl_ladd, nl_aa, nl_mul, nl_rmul, nl_mm, pu_qe0, pu_qe1, e]
    all_goals try simp (maxSteps := 400000) (disch := omega) [nl_tle, nl_fle, nl_tlt, nl_flt, nl_teq, nl_feq, nl_sub, nl_ss, nl_lt, nl_llt, nl_ltt, nl_le, nl_lle, nl_lee, nl_eq, nl_leq, nl_ee, nl_div, nl_rem, nl_cl, nl_n1, nl_n2, nl_n3, nl_n4, nl_add, nl_ladd, nl_aa, nl_mul, nl_rmul, nl_mm, pu_wi_1, pu_wi_2, bX9_highAt_0, a_ist, a_push, pu_rv, pu_as, Value.category, pu_bk, pu_kl, pu_qe0, pu_qe1, e]
  rcases g with ⟨g1, g2⟩ | ⟨a, a1, a2, a3, a4, a5⟩
  · refine ⟨1000000, lo, Or.inl ⟨rfl, g1, fun k el _ => ?_⟩, e2⟩
    obtain ⟨a, a1, a2⟩ := pz_vw_e h el.1 el.2.1 el.2.2.1
    rw [← a2] at el ⊢
    exact g2 a a1 el
  · refine ⟨pz_ak I st (V a), lo, Or.inr ⟨V a, a2, (pu_sl_lt hw a2.1).1, a3, rfl, a4, fun k el _ h3 => ?_⟩, e2⟩
    obtain ⟨b, b1, b2⟩ := pz_vw_e h el.1 el.2.1 el.2.2.1
    rw [← b2] at el h3 ⊢
    exact a5 b b1 el h3
/-- the bounds are told by what they are -/
theorem pz_inj (hw : pu_WF I L) {sd : Int} {k l : Nat} (h1 : pz_el I st sd k) (h2 : pz_el I st sd l) (he : pz_ak I st k = pz_ak I st l) : k = l := by
  have p1 := pz_pl0 hw h1.1 h1.2.2.1
  have p2 := pz_pl0 hw h2.1 h2.2.2.1
  have es : (I 40 (pu_sl0 I k)).toInt = (I 40 (pu_sl0 I l)).toInt ∧ (I 41 (pu_sl0 I k)).toInt = (I 41 (pu_sl0 I l)).toInt := by
    unfold pz_ak pz_al at he
    have a1 := h1.2.2.2.1
    have a2 := h2.2.2.2.1
    grind
  exact wx_u3 hw (cP I) k l (Nat.le_refl _) h1.1 h2.1 (by rw [pu_uoq hw h1.1]; exact h1.2.2.1) (by rw [pu_uoq hw h2.1]; exact h2.2.2.1) (h1.2.1.trans h2.2.1.symm) (Int32.toInt_inj.mp es.1) (Int32.toInt_inj.mp es.2)
theorem pz_lo_un (hw : pu_WF I L) {sd h b1 b2 : Int} {l1 l2 : Int32} (g1 : pz_lo I st sd h (2 * cD I) b1 l1) (g2 : pz_lo I st sd h (2 * cD I) b2 l2) : l1 = l2 := by
  rcases g1 with ⟨_, a2, a3⟩ | ⟨k, k1, k2, k3, k4, k5, k6⟩
  · rcases g2 with ⟨_, c2, _⟩ | ⟨l, d1, d2, d3, d4, d5, d6⟩
    · rw [a2, c2]
    · exact absurd d3 (a3 l d1 d2)
  · rcases g2 with ⟨_, c2, c3⟩ | ⟨l, d1, d2, d3, d4, d5, d6⟩
    · exact absurd k3 (c3 k k1 k2)
    · have x := k6 l d1 d2 d3
      have y := d6 k k1 k2 k3
      have := pz_inj hw k1 d1 (by omega)
      rw [← k5, ← d5, this]
theorem pz_hi_un (hw : pu_WF I L) {sd h b1 b2 : Int} {l1 l2 : Int32} (g1 : pz_hi I st sd h (2 * cD I) b1 l1) (g2 : pz_hi I st sd h (2 * cD I) b2 l2) : l1 = l2 := by
  rcases g1 with ⟨_, a2, a3⟩ | ⟨k, k1, k2, k3, k4, k5, k6⟩
  · rcases g2 with ⟨_, c2, _⟩ | ⟨l, d1, d2, d3, d4, d5, d6⟩
    · rw [a2, c2]
    · exact absurd d3 (a3 l d1 d2)
  · rcases g2 with ⟨_, c2, c3⟩ | ⟨l, d1, d2, d3, d4, d5, d6⟩
    · exact absurd k3 (c3 k k1 k2)
    · have x := k6 l d1 d2 d3
      have y := d6 k k1 k2 k3
      have := pz_inj hw k1 d1 (by omega)
      rw [← k5, ← d5, this]
end
