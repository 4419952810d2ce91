/-! twice, both sides -/
/-- the open names of streets j of town a and o of town b are one -/
def py_oth (I : Nat → Nat → Int32) (L : Nat → Nat → Int64) (a b j o : Nat) : Prop := ∃ k l, pu_no I j k ∧ I 21 k = nI a ∧ pu_no I o l ∧ I 21 l = nI b ∧ py_lk (L 24) (L 24) (3 * l) (3 * k)
/-- the pairs of the first j streets of town a -/
def py_PT (I : Nat → Nat → Int32) (L : Nat → Nat → Int64) (a b : Nat) (E G : Nat → Int32) : Nat → Nat → Prop
  | 0, c => c = 0
  | j + 1, c => ∃ c0, py_PT I L a b E G j c0 ∧ (((∀ o, o < cK I → ¬ py_oth I L a b j o) ∧ c = c0) ∨ ∃ o W n, o < cK I ∧ py_oth I L a b j o ∧ py_SL (py_k16 I) (py_pa I j o) W n ∧ c = c0 + n ∧ ∀ t, t < n → E (c0 + t) = py_d1x I (W t) ∧ G (c0 + t) = py_d2x I o (W t))
section
variable {I : Nat → Nat → Int32} {L : Nat → Nat → Int64} {a b : Nat}
theorem py_PT_c {E G E' G' : Nat → Int32} : ∀ j c, (∀ t, t < c → E' t = E t ∧ G' t = G t) → py_PT I L a b E G j c → py_PT I L a b E' G' j c
  | 0, c, _, h => h
  | j + 1, c, e, ⟨c0, h, g⟩ => by
    rcases g with ⟨g1, g2⟩ | ⟨o, W, n, o1, g1, g2, g3, g4⟩
    · exact ⟨c0, py_PT_c j c0 (fun t ht => e t (by omega)) h, Or.inl ⟨g1, g2⟩⟩
    · exact ⟨c0, py_PT_c j c0 (fun t ht => e t (by omega)) h, Or.inr ⟨o, W, n, o1, g1, g2, g3, fun t ht => by rw [(e (c0 + t) (by omega)).1, (e (c0 + t) (by omega)).2]; exact g4 t ht⟩⟩
theorem py_oth_u (hw : pu_WF I L) {j o o' : Nat} (h1 : o < cK I) (h2 : o' < cK I) (h : py_oth I L a b j o) (g : py_oth I L a b j o') : o = o' := by
  have bK := wx_bK hw
  obtain ⟨k, l, k1, k2, l1, l2, l3⟩ := h
  obtain ⟨k', l', k1', k2', l1', l2', l3'⟩ := g
  have ek := pu_no_un hw k1 k1'
  rw [← ek] at l3'
  have el := wx_n2 hw (cP I) l l' (Nat.le_refl _) l1.1 l1'.1 (by rw [pu_opq hw l1.1]; exact l1.2.2) (by rw [pu_opq hw l1'.1]; exact l1'.2.2) (l2.trans l2'.symm) (fun w hw2 => by rw [l3 w hw2, l3' w hw2])
  have e1 := l1.2.1
  have e2 := l1'.2.1
  rw [← el, e1] at e2
  exact (nI_eq (by omega) (by omega)).mp e2
theorem py_PT_un (hw : pu_WF I L) {E G E' G' : Nat → Int32} : ∀ j c c', py_PT I L a b E G j c → py_PT I L a b E' G' j c' → c = c' ∧ ∀ t, t < c → E t = E' t ∧ G t = G' t
  | 0, c, c', h, g => by
    have h' : c = 0 := h
    have g' : c' = 0 := g
    exact ⟨by omega, fun t ht => by omega⟩
  | j + 1, c, c', ⟨c0, h, h2⟩, ⟨d0, g, g2⟩ => by
    obtain ⟨e1, e2⟩ := py_PT_un hw j c0 d0 h g
    rcases h2 with ⟨x1, x2⟩ | ⟨o, W, n, o1, x1, x2, x3, x4⟩
    · rcases g2 with ⟨y1, y2⟩ | ⟨o', W', n', o1', y1, _⟩
      · exact ⟨by omega, fun t ht => e2 t (by omega)⟩
      · exact absurd y1 (x1 o' o1')
    · rcases g2 with ⟨y1, y2⟩ | ⟨o', W', n', o1', y1, y2, y3, y4⟩
      · exact absurd x1 (y1 o o1)
      · have oe := py_oth_u hw o1 o1' x1 y1
        rw [← oe] at y2 y4
        obtain ⟨u1, u2⟩ := py_SL_un x2 y2
        refine ⟨by omega, fun t ht => ?_⟩
        by_cases z : t < c0
        · exact e2 t z
        · have q1 := x4 (t - c0) (by omega)
          have q2 := y4 (t - c0) (by omega)
          rw [show c0 + (t - c0) = t by omega] at q1
          rw [show d0 + (t - c0) = t by omega] at q2
          rw [q1.1, q1.2, q2.1, q2.2, u2 (t - c0) (by omega)]
          exact ⟨rfl, rfl⟩
theorem py_HBz (hw : pu_WF I L) {st c0 : Nat} (hst : st < cK I) (Z : Nat → Nat) (hZ : ∀ t, t < c0 → ∃ i, i < cK I ∧ i ≠ st ∧ py_kI I i (Z t)) (hi : ∀ s t, s < t → t < c0 → Z s ≠ Z t) : ∀ (W : Nat → Nat) (n : Nat), (∀ t, t < n → py_kI I st (W t)) → (∀ s t, s < t → t < n → W s ≠ W t) → c0 + n ≤ 200 := by
  intro W n h1 h2
  have bK := wx_bK hw
  have bD := wx_bD hw
  have OS : ∀ i j u v, py_kI I i u → py_kI I j v → pu_sl0 I u = pu_sl0 I v → u = v := fun i j u v hu hv e => pz_os_un hw ⟨hu.1, rfl, hu.2.1⟩ ⟨hv.1, e.symm, hv.2.1⟩
  refine pu_pig 200 (c0 + n) (fun t => pu_sl0 I (if t < c0 then Z t else W (t - c0))) (fun t ht => ?_) (fun s t hst2 ht e => ?_)
  · show pu_sl0 I (if t < c0 then Z t else W (t - c0)) < 200
    by_cases z : t < c0
    · rw [if_pos z]
      obtain ⟨i, _, _, k⟩ := hZ t z
      have := (pu_sl_lt hw k.1).1
      omega
    · rw [if_neg z]
      have := (pu_sl_lt hw (h1 (t - c0) (by omega)).1).1
      omega
  · have e' : pu_sl0 I (if s < c0 then Z s else W (s - c0)) = pu_sl0 I (if t < c0 then Z t else W (t - c0)) := e
    by_cases z : t < c0
    · rw [if_pos z, if_pos (by omega)] at e'
      obtain ⟨i, _, _, k⟩ := hZ t z
      obtain ⟨i', _, _, k'⟩ := hZ s (by omega)
      exact hi s t hst2 z (OS _ _ _ _ k' k e')
    · rw [if_neg z] at e'
      have kt := h1 (t - c0) (by omega)
      by_cases z2 : s < c0
      · rw [if_pos z2] at e'
        obtain ⟨i', i1, i2, k'⟩ := hZ s z2
        have q := OS _ _ _ _ k' kt e'
        have k1 := k'.2.2.2
        rw [q, kt.2.2.2] at k1
        exact i2 ((nI_eq (by omega) (by omega)).mp k1).symm
      · rw [if_neg z2] at e'
        exact h2 (s - c0) (t - c0) (by omega) (by omega) (OS _ _ _ _ (h1 _ (by omega)) kt e')
theorem py_PT_z (hw : pu_WF I L) {E G : Nat → Int32} : ∀ j c, j ≤ cK I → py_PT I L a b E G j c → ∃ Z : Nat → Nat, (∀ t, t < c → ∃ i, i < j ∧ py_kI I i (Z t)) ∧ ∀ s t, s < t → t < c → Z s ≠ Z t
  | 0, c, _, h => by
    have h' : c = 0 := h
    exact ⟨fun _ => 0, fun t ht => by omega, fun s t _ ht => by omega⟩
  | j + 1, c, hj, ⟨c0, h, g⟩ => by
    have bK := wx_bK hw
    obtain ⟨Z, z1, z2⟩ := py_PT_z hw j c0 (by omega) h
    rcases g with ⟨_, g2⟩ | ⟨o, W, n, o1, g1, g2, g3, _⟩
    · refine ⟨Z, fun t ht => ?_, fun s t hst ht => z2 s t hst (by omega)⟩
      obtain ⟨i, i1, i2⟩ := z1 t (by omega)
      exact ⟨i, by omega, i2⟩
    · refine ⟨fun t => if t < c0 then Z t else W (t - c0), fun t ht => ?_, fun s t hst ht => ?_⟩
      · show ∃ i, i < j + 1 ∧ py_kI I i (if t < c0 then Z t else W (t - c0))
        by_cases q : t < c0
        · rw [if_pos q]
          obtain ⟨i, i1, i2⟩ := z1 t q
          exact ⟨i, by omega, i2⟩
        · rw [if_neg q]
          exact ⟨j, by omega, (g2.1 (t - c0) (by omega)).1⟩
      · show (if s < c0 then Z s else W (s - c0)) ≠ (if t < c0 then Z t else W (t - c0))
        by_cases q : t < c0
        · rw [if_pos q, if_pos (by omega)]
          exact z2 s t hst q
        · rw [if_neg q]
          have kt := (g2.1 (t - c0) (by omega)).1
          by_cases q2 : s < c0
          · rw [if_pos q2]
            intro e
            obtain ⟨i, i1, i2⟩ := z1 s q2
            have k1 := i2.2.2.2
            rw [e, kt.2.2.2] at k1
            have := (nI_eq (by omega) (by omega)).mp k1
            omega
          · rw [if_neg q2]
            intro e
            have := py_SL_i g2 (by omega) (by omega) e
            omega
theorem py_HBp (hw : pu_WF I L) {E G : Nat → Int32} {j c : Nat} (hj : j < cK I) (h : py_PT I L a b E G j c) : ∀ (W : Nat → Nat) (n : Nat), (∀ t, t < n → py_kI I j (W t)) → (∀ s t, s < t → t < n → W s ≠ W t) → c + n ≤ 200 := by
  obtain ⟨Z, z1, z2⟩ := py_PT_z hw j c (by omega) h
  exact py_HBz hw hj Z (fun t ht => by
    obtain ⟨i, i1, i2⟩ := z1 t ht
    exact ⟨i, by omega, by omega, i2⟩) z2
end
section
variable {M : pu_M} {I : Nat → Nat → Int32} {L : Nat → Nat → Int64} {a b : Nat}
/-- the class finds the street of the same name -/
theorem c_nv_l (hx : pu_fx M) (hI : pu_ag M I) (hL : pu_al M L) (hw : pu_WF I L) (st t : Int32) (k l : Nat) (hk : k < cN I) (hl : l < cN I) (h : py_nl I L t k l) (hu : ∀ i, i < cN I → py_nl I L t k i → i = l) : ∀ m i (u : Option Value), i + m = l → pu_r 387 [some (.ref 19), some (.int st), some (.int t), some (.int (nI k)), some (.int (nI i)), u] [] M = some (some (.int (I 20 l)), M)
  | 0, i, u, e0 => by
    have hb := wx_bN hw
    have hn := wx_cN hw
    have ei : i = l := by omega
    have hc : ¬ nI (cN I) ≤ nI l := nI_ge (by omega) (by omega)
    have kn : ¬ nI k = -1 := fun q => by rw [nl_n1 _ (by omega)] at q; exact q
    have e := c_areLike (M := M) 24 24 1248 1248 (3 * l) (3 * k) sh_24 sh_24 (by omega) (by omega) (by omega) (by omega)
    rw [show M.2.1 24 = L 24 from funext (al_24 hL), pu_q1 h.2] at e
    have c1 := h.1.1
    have c2 := h.1.2
    rw [ei]
    rw [qX3_streetNamedLike_9]
    simp [bX3_streetNamedLike_9, bX3_streetNamedLike_92, bX3_streetNamedLike_49, bX3_streetNamedLike_50, bX3_streetNamedLike_86, a_ai, a_ald, a_cs, a_gi, a_gr, a_iceq, a_icge, a_icne, a_ifeq, a_ild, a_imul, a_inc, a_iret, a_ist, a_push, ag_19 hI, ag_20 hI, ag_21 hI, ag_23 hI, al_24 hL, fx_19_1 hx, fx_19_2 hx, fx_19_4 hx, fx_19_5 hx, sh_19, sh_20, sh_21, sh_23, sh_24, pu_rv, pu_as, Value.category, pu_bk, pu_kl, List.replicate, pu_wi_1, pu_wi_2, nl_add, nl_ladd, nl_aa, nl_mul, nl_rmul, nl_mm, pu_qe0, pu_qe1, hn, hc, kn, c1, c2, e]
    all_goals try simp (maxSteps := 400000) (disch := omega) [nl_tle, nl_fle, nl_tlt, nl_flt, nl_teq, nl_feq, nl_sub, nl_ss, nl_lt, nl_llt, nl_ltt, nl_le, nl_lle, nl_lee, nl_eq, nl_leq, nl_ee, nl_div, nl_rem, nl_cl, nl_n1, nl_n2, nl_n3, nl_n4, nl_add, nl_ladd, nl_aa, nl_mul, nl_rmul, nl_mm, pu_wi_1, pu_wi_2, bX3_streetNamedLike_9, bX3_streetNamedLike_92, bX3_streetNamedLike_49, bX3_streetNamedLike_50, bX3_streetNamedLike_86, a_ai, a_ald, a_cs, a_gi, a_gr, a_iceq, a_icge, a_icne, a_ifeq, a_ild, a_imul, a_inc, a_iret, a_ist, a_push, ag_19 hI, ag_20 hI, ag_21 hI, ag_23 hI, al_24 hL, fx_19_1 hx, fx_19_2 hx, fx_19_4 hx, fx_19_5 hx, sh_19, sh_20, sh_21, sh_23, sh_24, pu_rv, pu_as, Value.category, pu_bk, pu_kl, pu_qe0, pu_qe1, hn, hc, kn, c1, c2, e]
    all_goals try simp [bX3_streetNamedLike_9, bX3_streetNamedLike_92, bX3_streetNamedLike_49, bX3_streetNamedLike_50, bX3_streetNamedLike_86, a_ai, a_ald, a_cs, a_gi, a_gr, a_iceq, a_icge, a_icne, a_ifeq, a_ild, a_imul, a_inc, a_iret, a_ist, a_push, ag_19 hI, ag_20 hI, ag_21 hI, ag_23 hI, al_24 hL, fx_19_1 hx, fx_19_2 hx, fx_19_4 hx, fx_19_5 hx, sh_19, sh_20, sh_21, sh_23, sh_24, pu_rv, pu_as, Value.category, pu_bk, pu_kl, List.replicate, pu_wi_1, pu_wi_2, nl_add, nl_ladd, nl_aa, nl_mul, nl_rmul, nl_mm, pu_qe0, pu_qe1, hn, hc, kn, c1, c2, e]
    all_goals try simp (maxSteps := 400000) (disch := omega) [nl_tle, nl_fle, nl_tlt, nl_flt, nl_teq, nl_feq, nl_sub, nl_ss, nl_lt, nl_llt, nl_ltt, nl_le, nl_lle, nl_lee, nl_eq, nl_leq, nl_ee, nl_div, nl_rem, nl_cl, nl_n1, nl_n2, nl_n3, nl_n4, nl_add, nl_ladd, nl_aa, nl_mul, nl_rmul, nl_mm, pu_wi_1, pu_wi_2, bX3_streetNamedLike_9, bX3_streetNamedLike_92, bX3_streetNamedLike_49, bX3_streetNamedLike_50, bX3_streetNamedLike_86, a_ai, a_ald, a_cs, a_gi, a_gr, a_iceq, a_icge, a_icne, a_ifeq, a_ild, a_imul, a_inc, a_iret, a_ist, a_push, ag_19 hI, ag_20 hI, ag_21 hI, ag_23 hI, al_24 hL, fx_19_1 hx, fx_19_2 hx, fx_19_4 hx, fx_19_5 hx, sh_19, sh_20, sh_21, sh_23, sh_24, pu_rv, pu_as, Value.category, pu_bk, pu_kl, pu_qe0, pu_qe1, hn, hc, kn, c1, c2, e]
    all_goals try simp [bX3_streetNamedLike_9, bX3_streetNamedLike_92, bX3_streetNamedLike_49, bX3_streetNamedLike_50, bX3_streetNamedLike_86, a_ai, a_ald, a_cs, a_gi, a_gr, a_iceq, a_icge, a_icne, a_ifeq, a_ild, a_imul, a_inc, a_iret, a_ist, a_push, ag_19 hI, ag_20 hI, ag_21 hI, ag_23 hI, al_24 hL, fx_19_1 hx, fx_19_2 hx, fx_19_4 hx, fx_19_5 hx, sh_19, sh_20, sh_21, sh_23, sh_24, pu_rv, pu_as, Value.category, pu_bk, pu_kl, List.replicate, pu_wi_1, pu_wi_2, nl_add, nl_ladd, nl_aa, nl_mul, nl_rmul, nl_mm, pu_qe0, pu_qe1, hn, hc, kn, c1, c2, e]
    all_goals try simp (maxSteps := 400000) (disch := omega) [nl_tle, nl_fle, nl_tlt, nl_flt, nl_teq, nl_feq, nl_sub, nl_ss, nl_lt, nl_llt, nl_ltt, nl_le, nl_lle, nl_lee, nl_eq, nl_leq, nl_ee, nl_div, nl_rem, nl_cl, nl_n1, nl_n2, nl_n3, nl_n4, nl_add, nl_ladd, nl_aa, nl_mul, nl_rmul, nl_mm, pu_wi_1, pu_wi_2, bX3_streetNamedLike_9, bX3_streetNamedLike_92, bX3_streetNamedLike_49, bX3_streetNamedLike_50, bX3_streetNamedLike_86, a_ai, a_ald, a_cs, a_gi, a_gr, a_iceq, a_icge, a_icne, a_ifeq, a_ild, a_imul, a_inc, a_iret, a_ist, a_push, ag_19 hI, ag_20 hI, ag_21 hI, ag_23 hI, al_24 hL, fx_19_1 hx, fx_19_2 hx, fx_19_4 hx, fx_19_5 hx, sh_19, sh_20, sh_21, sh_23, sh_24, pu_rv, pu_as, Value.category, pu_bk, pu_kl, pu_qe0, pu_qe1, hn, hc, kn, c1, c2, e]
    all_goals try simp [bX3_streetNamedLike_9, bX3_streetNamedLike_92, bX3_streetNamedLike_49, bX3_streetNamedLike_50, bX3_streetNamedLike_86, a_ai, a_ald, a_cs, a_gi, a_gr, a_iceq, a_icge, a_icne, a_ifeq, a_ild, a_imul, a_inc, a_iret, a_ist, a_push, ag_19 hI, ag_20 hI, ag_21 hI, ag_23 hI, al_24 hL, fx_19_1 hx, fx_19_2 hx, fx_19_4 hx, fx_19_5 hx, sh_19, sh_20, sh_21, sh_23, sh_24, pu_rv, pu_as, Value.category, pu_bk, pu_kl, List.replicate, pu_wi_1, pu_wi_2, nl_add, nl_ladd, nl_aa, nl_mul, nl_rmul, nl_mm, pu_qe0, pu_qe1, hn, hc, kn, c1, c2, e]
  | m + 1, i, u, e0 => by
    have hb := wx_bN hw
    have hn := wx_cN hw
    have hi : i < cN I := by omega
    have hc : ¬ nI (cN I) ≤ nI i := nI_ge (by omega) (by omega)
    have kn : ¬ nI k = -1 := fun q => by rw [nl_n1 _ (by omega)] at q; exact q
    have e := c_areLike (M := M) 24 24 1248 1248 (3 * i) (3 * k) sh_24 sh_24 (by omega) (by omega) (by omega) (by omega)
    rw [show M.2.1 24 = L 24 from funext (al_24 hL)] at e
    have no : ¬ py_nl I L t k i := fun z => by have := hu i hi z; omega
    by_cases c1 : I 23 i = -1
    · by_cases c2 : I 21 i = t
      · have c3 : ¬ py_lk (L 24) (L 24) (3 * i) (3 * k) := fun z => no ⟨⟨c1, c2⟩, z⟩
        rw [pu_q0 c3] at e
        have ih := c_nv_l hx hI hL hw st t k l hk hl h hu m (i + 1) (some (.int 1)) (by omega)
        rw [qX3_streetNamedLike_9]
        simp [bX3_streetNamedLike_9, bX3_streetNamedLike_92, bX3_streetNamedLike_49, bX3_streetNamedLike_50, bX3_streetNamedLike_86, a_ai, a_ald, a_cs, a_gi, a_gr, a_iceq, a_icge, a_icne, a_ifeq, a_ild, a_imul, a_inc, a_iret, a_ist, a_push, ag_19 hI, ag_20 hI, ag_21 hI, ag_23 hI, al_24 hL, fx_19_1 hx, fx_19_2 hx, fx_19_4 hx, fx_19_5 hx, sh_19, sh_20, sh_21, sh_23, sh_24, pu_rv, pu_as, Value.category, pu_bk, pu_kl, List.replicate, pu_wi_1, pu_wi_2, nl_add, nl_ladd, nl_aa, nl_mul, nl_rmul, nl_mm, pu_qe0, pu_qe1, hn, hc, kn, c1, c2, e, ih]
        all_goals try simp (maxSteps := 400000) (disch := omega) [nl_tle, nl_fle, nl_tlt, nl_flt, nl_teq, nl_feq, nl_sub, nl_ss, nl_lt, nl_llt, nl_ltt, nl_le, nl_lle, nl_lee, nl_eq, nl_leq, nl_ee, nl_div, nl_rem, nl_cl, nl_n1, nl_n2, nl_n3, nl_n4, nl_add, nl_ladd, nl_aa, nl_mul, nl_rmul, nl_mm, pu_wi_1, pu_wi_2, bX3_streetNamedLike_9, bX3_streetNamedLike_92, bX3_streetNamedLike_49, bX3_streetNamedLike_50, bX3_streetNamedLike_86, a_ai, a_ald, a_cs, a_gi, a_gr, a_iceq, a_icge, a_icne, a_ifeq, a_ild, a_imul, a_inc, a_iret, a_ist, a_push, ag_19 hI, ag_20 hI, ag_21 hI, ag_23 hI, al_24 hL, fx_19_1 hx, fx_19_2 hx, fx_19_4 hx, fx_19_5 hx, sh_19, sh_20, sh_21, sh_23, sh_24, pu_rv, pu_as, Value.category, pu_bk, pu_kl, pu_qe0, pu_qe1, hn, hc, kn, c1, c2, e, ih]
        all_goals try simp [bX3_streetNamedLike_9, bX3_streetNamedLike_92, bX3_streetNamedLike_49, bX3_streetNamedLike_50, bX3_streetNamedLike_86, a_ai, a_ald, a_cs, a_gi, a_gr, a_iceq, a_icge, a_icne, a_ifeq, a_ild, a_imul, a_inc, a_iret, a_ist, a_push, ag_19 hI, ag_20 hI, ag_21 hI, ag_23 hI, al_24 hL, fx_19_1 hx, fx_19_2 hx, fx_19_4 hx, fx_19_5 hx, sh_19, sh_20, sh_21, sh_23, sh_24, pu_rv, pu_as, Value.category, pu_bk, pu_kl, List.replicate, pu_wi_1, pu_wi_2, nl_add, nl_ladd, nl_aa, nl_mul, nl_rmul, nl_mm, pu_qe0, pu_qe1, hn, hc, kn, c1, c2, e, ih]
        all_goals try simp (maxSteps := 400000) (disch := omega) [nl_tle, nl_fle, nl_tlt, nl_flt, nl_teq, nl_feq, nl_sub, nl_ss, nl_lt, nl_llt, nl_ltt, nl_le, nl_lle, nl_lee, nl_eq, nl_leq, nl_ee, nl_div, nl_rem, nl_cl, nl_n1, nl_n2, nl_n3, nl_n4, nl_add, nl_ladd, nl_aa, nl_mul, nl_rmul, nl_mm, pu_wi_1, pu_wi_2, bX3_streetNamedLike_9, bX3_streetNamedLike_92, bX3_streetNamedLike_49, bX3_streetNamedLike_50, bX3_streetNamedLike_86, a_ai, a_ald, a_cs, a_gi, a_gr, a_iceq, a_icge, a_icne, a_ifeq, a_ild, a_imul, a_inc, a_iret, a_ist, a_push, ag_19 hI, ag_20 hI, ag_21 hI, ag_23 hI, al_24 hL, fx_19_1 hx, fx_19_2 hx, fx_19_4 hx, fx_19_5 hx, sh_19, sh_20, sh_21, sh_23, sh_24, pu_rv, pu_as, Value.category, pu_bk, pu_kl, pu_qe0, pu_qe1, hn, hc, kn, c1, c2, e, ih]
        all_goals try simp [bX3_streetNamedLike_9, bX3_streetNamedLike_92, bX3_streetNamedLike_49, bX3_streetNamedLike_50, bX3_streetNamedLike_86, a_ai, a_ald, a_cs, a_gi, a_gr, a_iceq, a_icge, a_icne, a_ifeq, a_ild, a_imul, a_inc, a_iret, a_ist, a_push, ag_19 hI, ag_20 hI, ag_21 hI, ag_23 hI, al_24 hL, fx_19_1 hx, fx_19_2 hx, fx_19_4 hx, fx_19_5 hx, sh_19, sh_20, sh_21, sh_23, sh_24, pu_rv, pu_as, Value.category, pu_bk, pu_kl, List.replicate, pu_wi_1, pu_wi_2, nl_add, nl_ladd, nl_aa, nl_mul, nl_rmul, nl_mm, pu_qe0, pu_qe1, hn, hc, kn, c1, c2, e, ih]
        all_goals try simp (maxSteps := 400000) (disch := omega) [nl_tle, nl_fle, nl_tlt, nl_flt, nl_teq, nl_feq, nl_sub, nl_ss, nl_lt, nl_llt, nl_ltt, nl_le, nl_lle, nl_lee, nl_eq, nl_leq, nl_ee, nl_div, nl_rem, nl_cl, nl_n1, nl_n2, nl_n3, nl_n4, nl_add, nl_ladd, nl_aa, nl_mul, nl_rmul, nl_mm, pu_wi_1, pu_wi_2, bX3_streetNamedLike_9, bX3_streetNamedLike_92, bX3_streetNamedLike_49, bX3_streetNamedLike_50, bX3_streetNamedLike_86, a_ai, a_ald, a_cs, a_gi, a_gr, a_iceq, a_icge, a_icne, a_ifeq, a_ild, a_imul, a_inc, a_iret, a_ist, a_push, ag_19 hI, ag_20 hI, ag_21 hI, ag_23 hI, al_24 hL, fx_19_1 hx, fx_19_2 hx, fx_19_4 hx, fx_19_5 hx, sh_19, sh_20, sh_21, sh_23, sh_24, pu_rv, pu_as, Value.category, pu_bk, pu_kl, pu_qe0, pu_qe1, hn, hc, kn, c1, c2, e, ih]
        all_goals try simp [bX3_streetNamedLike_9, bX3_streetNamedLike_92, bX3_streetNamedLike_49, bX3_streetNamedLike_50, bX3_streetNamedLike_86, a_ai, a_ald, a_cs, a_gi, a_gr, a_iceq, a_icge, a_icne, a_ifeq, a_ild, a_imul, a_inc, a_iret, a_ist, a_push, ag_19 hI, ag_20 hI, ag_21 hI, ag_23 hI, al_24 hL, fx_19_1 hx, fx_19_2 hx, fx_19_4 hx, fx_19_5 hx, sh_19, sh_20, sh_21, sh_23, sh_24, pu_rv, pu_as, Value.category, pu_bk, pu_kl, List.replicate, pu_wi_1, pu_wi_2, nl_add, nl_ladd, nl_aa, nl_mul, nl_rmul, nl_mm, pu_qe0, pu_qe1, hn, hc, kn, c1, c2, e, ih]
      · have ih := c_nv_l hx hI hL hw st t k l hk hl h hu m (i + 1) (some (.int 0)) (by omega)
        rw [qX3_streetNamedLike_9]
        simp [bX3_streetNamedLike_9, bX3_streetNamedLike_92, bX3_streetNamedLike_49, bX3_streetNamedLike_50, bX3_streetNamedLike_86, a_ai, a_ald, a_cs, a_gi, a_gr, a_iceq, a_icge, a_icne, a_ifeq, a_ild, a_imul, a_inc, a_iret, a_ist, a_push, ag_19 hI, ag_20 hI, ag_21 hI, ag_23 hI, al_24 hL, fx_19_1 hx, fx_19_2 hx, fx_19_4 hx, fx_19_5 hx, sh_19, sh_20, sh_21, sh_23, sh_24, pu_rv, pu_as, Value.category, pu_bk, pu_kl, List.replicate, pu_wi_1, pu_wi_2, nl_add, nl_ladd, nl_aa, nl_mul, nl_rmul, nl_mm, pu_qe0, pu_qe1, hn, hc, kn, c1, c2, ih]
        all_goals try simp (maxSteps := 400000) (disch := omega) [nl_tle, nl_fle, nl_tlt, nl_flt, nl_teq, nl_feq, nl_sub, nl_ss, nl_lt, nl_llt, nl_ltt, nl_le, nl_lle, nl_lee, nl_eq, nl_leq, nl_ee, nl_div, nl_rem, nl_cl, nl_n1, nl_n2, nl_n3, nl_n4, nl_add, nl_ladd, nl_aa, nl_mul, nl_rmul, nl_mm, pu_wi_1, pu_wi_2, bX3_streetNamedLike_9, bX3_streetNamedLike_92, bX3_streetNamedLike_49, bX3_streetNamedLike_50, bX3_streetNamedLike_86, a_ai, a_ald, a_cs, a_gi, a_gr, a_iceq, a_icge, a_icne, a_ifeq, a_ild, a_imul, a_inc, a_iret, a_ist, a_push, ag_19 hI, ag_20 hI, ag_21 hI, ag_23 hI, al_24 hL, fx_19_1 hx, fx_19_2 hx, fx_19_4 hx, fx_19_5 hx, sh_19, sh_20, sh_21, sh_23, sh_24, pu_rv, pu_as, Value.category, pu_bk, pu_kl, pu_qe0, pu_qe1, hn, hc, kn, c1, c2, ih]
        all_goals try simp [bX3_streetNamedLike_9, bX3_streetNamedLike_92, bX3_streetNamedLike_49, bX3_streetNamedLike_50, bX3_streetNamedLike_86, a_ai, a_ald, a_cs, a_gi, a_gr, a_iceq, a_icge, a_icne, a_ifeq, a_ild, a_imul, a_inc, a_iret, a_ist, a_push, ag_19 hI, ag_20 hI, ag_21 hI, ag_23 hI, al_24 hL, fx_19_1 hx, fx_19_2 hx, fx_19_4 hx, fx_19_5 hx, sh_19, sh_20, sh_21, sh_23, sh_24, pu_rv, pu_as, Value.category, pu_bk, pu_kl, List.replicate, pu_wi_1, pu_wi_2, nl_add, nl_ladd, nl_aa, nl_mul, nl_rmul, nl_mm, pu_qe0, pu_qe1, hn, hc, kn, c1, c2, ih]
        all_goals try simp (maxSteps := 400000) (disch := omega) [nl_tle, nl_fle, nl_tlt, nl_flt, nl_teq, nl_feq, nl_sub, nl_ss, nl_lt, nl_llt, nl_ltt, nl_le, nl_lle, nl_lee, nl_eq, nl_leq, nl_ee, nl_div, nl_rem, nl_cl, nl_n1, nl_n2, nl_n3, nl_n4, nl_add, nl_ladd, nl_aa, nl_mul, nl_rmul, nl_mm, pu_wi_1, pu_wi_2, bX3_streetNamedLike_9, bX3_streetNamedLike_92, bX3_streetNamedLike_49, bX3_streetNamedLike_50, bX3_streetNamedLike_86, a_ai, a_ald, a_cs, a_gi, a_gr, a_iceq, a_icge, a_icne, a_ifeq, a_ild, a_imul, a_inc, a_iret, a_ist, a_push, ag_19 hI, ag_20 hI, ag_21 hI, ag_23 hI, al_24 hL, fx_19_1 hx, fx_19_2 hx, fx_19_4 hx, fx_19_5 hx, sh_19, sh_20, sh_21, sh_23, sh_24, pu_rv, pu_as, Value.category, pu_bk, pu_kl, pu_qe0, pu_qe1, hn, hc, kn, c1, c2, ih]
        all_goals try simp [bX3_streetNamedLike_9, bX3_streetNamedLike_92, bX3_streetNamedLike_49, bX3_streetNamedLike_50, bX3_streetNamedLike_86, a_ai, a_ald, a_cs, a_gi, a_gr, a_iceq, a_icge, a_icne, a_ifeq, a_ild, a_imul, a_inc, a_iret, a_ist, a_push, ag_19 hI, ag_20 hI, ag_21 hI, ag_23 hI, al_24 hL, fx_19_1 hx, fx_19_2 hx, fx_19_4 hx, fx_19_5 hx, sh_19, sh_20, sh_21, sh_23, sh_24, pu_rv, pu_as, Value.category, pu_bk, pu_kl, List.replicate, pu_wi_1, pu_wi_2, nl_add, nl_ladd, nl_aa, nl_mul, nl_rmul, nl_mm, pu_qe0, pu_qe1, hn, hc, kn, c1, c2, ih]
        all_goals try simp (maxSteps := 400000) (disch := omega) [nl_tle, nl_fle, nl_tlt, nl_flt, nl_teq, nl_feq, nl_sub, nl_ss, nl_lt, nl_llt, nl_ltt, nl_le, nl_lle, nl_lee, nl_eq, nl_leq, nl_ee, nl_div, nl_rem, nl_cl, nl_n1, nl_n2, nl_n3, nl_n4, nl_add, nl_ladd, nl_aa, nl_mul, nl_rmul, nl_mm, pu_wi_1, pu_wi_2, bX3_streetNamedLike_9, bX3_streetNamedLike_92, bX3_streetNamedLike_49, bX3_streetNamedLike_50, bX3_streetNamedLike_86, a_ai, a_ald, a_cs, a_gi, a_gr, a_iceq, a_icge, a_icne, a_ifeq, a_ild, a_imul, a_inc, a_iret, a_ist, a_push, ag_19 hI, ag_20 hI, ag_21 hI, ag_23 hI, al_24 hL, fx_19_1 hx, fx_19_2 hx, fx_19_4 hx, fx_19_5 hx, sh_19, sh_20, sh_21, sh_23, sh_24, pu_rv, pu_as, Value.category, pu_bk, pu_kl, pu_qe0, pu_qe1, hn, hc, kn, c1, c2, ih]
        all_goals try simp [bX3_streetNamedLike_9, bX3_streetNamedLike_92, bX3_streetNamedLike_49, bX3_streetNamedLike_50, bX3_streetNamedLike_86, a_ai, a_ald, a_cs, a_gi, a_gr, a_iceq, a_icge, a_icne, a_ifeq, a_ild, a_imul, a_inc, a_iret, a_ist, a_push, ag_19 hI, ag_20 hI, ag_21 hI, ag_23 hI, al_24 hL, fx_19_1 hx, fx_19_2 hx, fx_19_4 hx, fx_19_5 hx, sh_19, sh_20, sh_21, sh_23, sh_24, pu_rv, pu_as, Value.category, pu_bk, pu_kl, List.replicate, pu_wi_1, pu_wi_2, nl_add, nl_ladd, nl_aa, nl_mul, nl_rmul, nl_mm, pu_qe0, pu_qe1, hn, hc, kn, c1, c2, ih]
    · have ih := c_nv_l hx hI hL hw st t k l hk hl h hu m (i + 1) (some (.int 0)) (by omega)
      rw [qX3_streetNamedLike_9]
      simp [bX3_streetNamedLike_9, bX3_streetNamedLike_92, bX3_streetNamedLike_49, bX3_streetNamedLike_50, bX3_streetNamedLike_86, a_ai, a_ald, a_cs, a_gi, a_gr, a_iceq, a_icge, a_icne, a_ifeq, a_ild, a_imul, a_inc, a_iret, a_ist, a_push, ag_19 hI, ag_20 hI, ag_21 hI, ag_23 hI, al_24 hL, fx_19_1 hx, fx_19_2 hx, fx_19_4 hx, fx_19_5 hx, sh_19, sh_20, sh_21, sh_23, sh_24, pu_rv, pu_as, Value.category, pu_bk, pu_kl, List.replicate, pu_wi_1, pu_wi_2, nl_add, nl_ladd, nl_aa, nl_mul, nl_rmul, nl_mm, pu_qe0, pu_qe1, hn, hc, kn, c1, ih]
      all_goals try simp (maxSteps := 400000) (disch := omega) [nl_tle, nl_fle, nl_tlt, nl_flt, nl_teq, nl_feq, nl_sub, nl_ss, nl_lt, nl_llt, nl_ltt, nl_le, nl_lle, nl_lee, nl_eq, nl_leq, nl_ee, nl_div, nl_rem, nl_cl, nl_n1, nl_n2, nl_n3, nl_n4, nl_add, nl_ladd, nl_aa, nl_mul, nl_rmul, nl_mm, pu_wi_1, pu_wi_2, bX3_streetNamedLike_9, bX3_streetNamedLike_92, bX3_streetNamedLike_49, bX3_streetNamedLike_50, bX3_streetNamedLike_86, a_ai, a_ald, a_cs, a_gi, a_gr, a_iceq, a_icge, a_icne, a_ifeq, a_ild, a_imul, a_inc, a_iret, a_ist, a_push, ag_19 hI, ag_20 hI, ag_21 hI, ag_23 hI, al_24 hL, fx_19_1 hx, fx_19_2 hx, fx_19_4 hx, fx_19_5 hx, sh_19, sh_20, sh_21, sh_23, sh_24, pu_rv, pu_as, Value.category, pu_bk, pu_kl, pu_qe0, pu_qe1, hn, hc, kn, c1, ih]
      all_goals try simp [bX3_streetNamedLike_9, bX3_streetNamedLike_92, bX3_streetNamedLike_49, bX3_streetNamedLike_50, bX3_streetNamedLike_86, a_ai, a_ald, a_cs, a_gi, a_gr, a_iceq, a_icge, a_icne, a_ifeq, a_ild, a_imul, a_inc, a_iret, a_ist, a_push, ag_19 hI, ag_20 hI, ag_21 hI, ag_23 hI, al_24 hL, fx_19_1 hx, fx_19_2 hx, fx_19_4 hx, fx_19_5 hx, sh_19, sh_20, sh_21, sh_23, sh_24, pu_rv, pu_as, Value.category, pu_bk, pu_kl, List.replicate, pu_wi_1, pu_wi_2, nl_add, nl_ladd, nl_aa, nl_mul, nl_rmul, nl_mm, pu_qe0, pu_qe1, hn, hc, kn, c1, ih]
      all_goals try simp (maxSteps := 400000) (disch := omega) [nl_tle, nl_fle, nl_tlt, nl_flt, nl_teq, nl_feq, nl_sub, nl_ss, nl_lt, nl_llt, nl_ltt, nl_le, nl_lle, nl_lee, nl_eq, nl_leq, nl_ee, nl_div, nl_rem, nl_cl, nl_n1, nl_n2, nl_n3, nl_n4, nl_add, nl_ladd, nl_aa, nl_mul, nl_rmul, nl_mm, pu_wi_1, pu_wi_2, bX3_streetNamedLike_9, bX3_streetNamedLike_92, bX3_streetNamedLike_49, bX3_streetNamedLike_50, bX3_streetNamedLike_86, a_ai, a_ald, a_cs, a_gi, a_gr, a_iceq, a_icge, a_icne, a_ifeq, a_ild, a_imul, a_inc, a_iret, a_ist, a_push, ag_19 hI, ag_20 hI, ag_21 hI, ag_23 hI, al_24 hL, fx_19_1 hx, fx_19_2 hx, fx_19_4 hx, fx_19_5 hx, sh_19, sh_20, sh_21, sh_23, sh_24, pu_rv, pu_as, Value.category, pu_bk, pu_kl, pu_qe0, pu_qe1, hn, hc, kn, c1, ih]
      all_goals try simp [bX3_streetNamedLike_9, bX3_streetNamedLike_92, bX3_streetNamedLike_49, bX3_streetNamedLike_50, bX3_streetNamedLike_86, a_ai, a_ald, a_cs, a_gi, a_gr, a_iceq, a_icge, a_icne, a_ifeq, a_ild, a_imul, a_inc, a_iret, a_ist, a_push, ag_19 hI, ag_20 hI, ag_21 hI, ag_23 hI, al_24 hL, fx_19_1 hx, fx_19_2 hx, fx_19_4 hx, fx_19_5 hx, sh_19, sh_20, sh_21, sh_23, sh_24, pu_rv, pu_as, Value.category, pu_bk, pu_kl, List.replicate, pu_wi_1, pu_wi_2, nl_add, nl_ladd, nl_aa, nl_mul, nl_rmul, nl_mm, pu_qe0, pu_qe1, hn, hc, kn, c1, ih]
      all_goals try simp (maxSteps := 400000) (disch := omega) [nl_tle, nl_fle, nl_tlt, nl_flt, nl_teq, nl_feq, nl_sub, nl_ss, nl_lt, nl_llt, nl_ltt, nl_le, nl_lle, nl_lee, nl_eq, nl_leq, nl_ee, nl_div, nl_rem, nl_cl, nl_n1, nl_n2, nl_n3, nl_n4, nl_add, nl_ladd, nl_aa, nl_mul, nl_rmul, nl_mm, pu_wi_1, pu_wi_2, bX3_streetNamedLike_9, bX3_streetNamedLike_92, bX3_streetNamedLike_49, bX3_streetNamedLike_50, bX3_streetNamedLike_86, a_ai, a_ald, a_cs, a_gi, a_gr, a_iceq, a_icge, a_icne, a_ifeq, a_ild, a_imul, a_inc, a_iret, a_ist, a_push, ag_19 hI, ag_20 hI, ag_21 hI, ag_23 hI, al_24 hL, fx_19_1 hx, fx_19_2 hx, fx_19_4 hx, fx_19_5 hx, sh_19, sh_20, sh_21, sh_23, sh_24, pu_rv, pu_as, Value.category, pu_bk, pu_kl, pu_qe0, pu_qe1, hn, hc, kn, c1, ih]
      all_goals try simp [bX3_streetNamedLike_9, bX3_streetNamedLike_92, bX3_streetNamedLike_49, bX3_streetNamedLike_50, bX3_streetNamedLike_86, a_ai, a_ald, a_cs, a_gi, a_gr, a_iceq, a_icge, a_icne, a_ifeq, a_ild, a_imul, a_inc, a_iret, a_ist, a_push, ag_19 hI, ag_20 hI, ag_21 hI, ag_23 hI, al_24 hL, fx_19_1 hx, fx_19_2 hx, fx_19_4 hx, fx_19_5 hx, sh_19, sh_20, sh_21, sh_23, sh_24, pu_rv, pu_as, Value.category, pu_bk, pu_kl, List.replicate, pu_wi_1, pu_wi_2, nl_add, nl_ladd, nl_aa, nl_mul, nl_rmul, nl_mm, pu_qe0, pu_qe1, hn, hc, kn, c1, ih]
theorem c_nv (hx : pu_fx M) (hI : pu_ag M I) (hL : pu_al M L) (hw : pu_WF I L) {j k o : Nat} (hk : pu_no I j k) (hka : I 21 k = nI a) (h : py_oth I L a b j o) : pu_r 117 [some (.ref 19), some (.int (nI j)), some (.int (nI b))] [] M = some (some (.int (nI o)), M) := by
  obtain ⟨k', l, k1, k2, l1, l2, l3⟩ := h
  have ek := pu_no_un hw hk k1
  rw [← ek] at l3
  have e := c_openOf hx hI hw (nI j)
  rw [pu_f1_no hw hk] at e
  have r1 := c_nv_l hx hI hL hw (nI j) (nI b) k l hk.1 l1.1 ⟨⟨l1.2.2, l2⟩, l3⟩ (fun i hi z => wx_n2 hw (cP I) i l (Nat.le_refl _) hi l1.1 (by rw [pu_opq hw hi]; exact z.1.1) (by rw [pu_opq hw l1.1]; exact l1.2.2) (z.1.2.trans l2.symm) (fun w hw2 => by rw [z.2 w hw2, l3 w hw2])) l 0 none (by omega)
  rw [nI_0, l1.2.1] at r1
  rw [qX3_streetNamedLike]
  simp [a_ent, bX3_streetNamedLike_0, a_ald, a_cv, a_ild, a_ist, a_push, sh_19, pu_rv, pu_as, Value.category, pu_bk, pu_kl, List.replicate, pu_wi_1, pu_wi_2, nl_add, nl_ladd, nl_aa, nl_mul, nl_rmul, nl_mm, pu_qe0, pu_qe1, e, r1]
  all_goals try simp (maxSteps := 400000) (disch := omega) [nl_tle, nl_fle, nl_tlt, nl_flt, nl_teq, nl_feq, nl_sub, nl_ss, nl_lt, nl_llt, nl_ltt, nl_le, nl_lle, nl_lee, nl_eq, nl_leq, nl_ee, nl_div, nl_rem, nl_cl, nl_n1, nl_n2, nl_n3, nl_n4, nl_add, nl_ladd, nl_aa, nl_mul, nl_rmul, nl_mm, pu_wi_1, pu_wi_2, bX3_streetNamedLike_0, a_ald, a_cv, a_ild, a_ist, a_push, sh_19, pu_rv, pu_as, Value.category, pu_bk, pu_kl, pu_qe0, pu_qe1, e, r1]
  all_goals try simp [bX3_streetNamedLike_0, a_ald, a_cv, a_ild, a_ist, a_push, sh_19, pu_rv, pu_as, Value.category, pu_bk, pu_kl, List.replicate, pu_wi_1, pu_wi_2, nl_add, nl_ladd, nl_aa, nl_mul, nl_rmul, nl_mm, pu_qe0, pu_qe1, e, r1]
  all_goals try simp (maxSteps := 400000) (disch := omega) [nl_tle, nl_fle, nl_tlt, nl_flt, nl_teq, nl_feq, nl_sub, nl_ss, nl_lt, nl_llt, nl_ltt, nl_le, nl_lle, nl_lee, nl_eq, nl_leq, nl_ee, nl_div, nl_rem, nl_cl, nl_n1, nl_n2, nl_n3, nl_n4, nl_add, nl_ladd, nl_aa, nl_mul, nl_rmul, nl_mm, pu_wi_1, pu_wi_2, bX3_streetNamedLike_0, a_ald, a_cv, a_ild, a_ist, a_push, sh_19, pu_rv, pu_as, Value.category, pu_bk, pu_kl, pu_qe0, pu_qe1, e, r1]
  all_goals try simp [bX3_streetNamedLike_0, a_ald, a_cv, a_ild, a_ist, a_push, sh_19, pu_rv, pu_as, Value.category, pu_bk, pu_kl, List.replicate, pu_wi_1, pu_wi_2, nl_add, nl_ladd, nl_aa, nl_mul, nl_rmul, nl_mm, pu_qe0, pu_qe1, e, r1]
  all_goals try simp (maxSteps := 400000) (disch := omega) [nl_tle, nl_fle, nl_tlt, nl_flt, nl_teq, nl_feq, nl_sub, nl_ss, nl_lt, nl_llt, nl_ltt, nl_le, nl_lle, nl_lee, nl_eq, nl_leq, nl_ee, nl_div, nl_rem, nl_cl, nl_n1, nl_n2, nl_n3, nl_n4, nl_add, nl_ladd, nl_aa, nl_mul, nl_rmul, nl_mm, pu_wi_1, pu_wi_2, bX3_streetNamedLike_0, a_ald, a_cv, a_ild, a_ist, a_push, sh_19, pu_rv, pu_as, Value.category, pu_bk, pu_kl, pu_qe0, pu_qe1, e, r1]
  all_goals try simp [bX3_streetNamedLike_0, a_ald, a_cv, a_ild, a_ist, a_push, sh_19, pu_rv, pu_as, Value.category, pu_bk, pu_kl, List.replicate, pu_wi_1, pu_wi_2, nl_add, nl_ladd, nl_aa, nl_mul, nl_rmul, nl_mm, pu_qe0, pu_qe1, e, r1]
theorem py_dk_oth {K : Nat → Nat → Int32} {j o : Nat} : py_oth (pu_dk I K) L a b j o = py_oth I L a b j o := rfl
theorem c_pt_l (hw : pu_WF I L) (hI : pu_ag M I) (hL : pu_al M L) (hxM : pu_fx M) : ∀ (m j : Nat) (N : pu_M) (c : Nat) (t4 : Option Value), j + m = cK I → c ≤ 200 → py_pq M N → N.1 45 3 = nI c → py_PT I L a b (N.1 49) (N.1 50) j c → ∃ N1 c1, c1 ≤ 200 ∧ py_pq M N1 ∧ N1.1 45 3 = nI c1 ∧ py_PT I L a b (N1.1 49) (N1.1 50) (cK I) c1 ∧ pu_r 414 [some (.ref 0), some (.int (nI a)), some (.int (nI b)), some (.int (nI j)), t4] [] N = some (none, N1)
  | 0, j, N, c, t4, h, hc, pq, h3, pt => by
    have hx : pu_fx N := pz_fx_of hxM pq.1
    obtain ⟨wd, agJ⟩ := py_wdp hw hI pq hc h3
    have bK := wx_bK hw
    have hn : pu_dk I N.1 25 1 = nI (cK I) := (wx_cK hw :)
    have e : j = cK I := by omega
    have hcc : nI (cK I) ≤ nI (cK I) := nI_le (by omega) (by omega)
    refine ⟨N, c, hc, pq, h3, by rw [← e]; exact pt, ?_⟩
    rw [e]
    have hI := agJ
    generalize nI (cK I) = ck at *
    rw [qX11_pairTowns_2]
    simp [bX11_pairTowns_2, bX11_pairTowns_64, bX11_pairTowns_58, bX11_pairTowns_52, a_ald, a_cv, a_gi, a_gr, a_iceq, a_icge, a_icne, a_ild, a_inc, a_ist, a_push, a_vret, ag_19 hI, ag_25 hI, fx_0_2 hx, fx_5_2 hx, fx_5_3 hx, sh_0, sh_19, sh_25, sh_5, pu_rv, pu_as, Value.category, pu_bk, pu_kl, List.replicate, pu_wi_1, pu_wi_2, nl_add, nl_ladd, nl_aa, nl_mul, nl_rmul, nl_mm, pu_qe0, pu_qe1, hn, hcc]
    all_goals try simp (maxSteps := 400000) (disch := omega) [nl_tle, nl_fle, nl_tlt, nl_flt, nl_teq, nl_feq, nl_sub, nl_ss, nl_lt, nl_llt, nl_ltt, nl_le, nl_lle, nl_lee, nl_eq, nl_leq, nl_ee, nl_div, nl_rem, nl_cl, nl_n1, nl_n2, nl_n3, nl_n4, nl_add, nl_ladd, nl_aa, nl_mul, nl_rmul, nl_mm, pu_wi_1, pu_wi_2, bX11_pairTowns_2, bX11_pairTowns_64, bX11_pairTowns_58, bX11_pairTowns_52, a_ald, a_cv, a_gi, a_gr, a_iceq, a_icge, a_icne, a_ild, a_inc, a_ist, a_push, a_vret, ag_19 hI, ag_25 hI, fx_0_2 hx, fx_5_2 hx, fx_5_3 hx, sh_0, sh_19, sh_25, sh_5, pu_rv, pu_as, Value.category, pu_bk, pu_kl, pu_qe0, pu_qe1, hn, hcc]
    all_goals try simp [bX11_pairTowns_2, bX11_pairTowns_64, bX11_pairTowns_58, bX11_pairTowns_52, a_ald, a_cv, a_gi, a_gr, a_iceq, a_icge, a_icne, a_ild, a_inc, a_ist, a_push, a_vret, ag_19 hI, ag_25 hI, fx_0_2 hx, fx_5_2 hx, fx_5_3 hx, sh_0, sh_19, sh_25, sh_5, pu_rv, pu_as, Value.category, pu_bk, pu_kl, List.replicate, pu_wi_1, pu_wi_2, nl_add, nl_ladd, nl_aa, nl_mul, nl_rmul, nl_mm, pu_qe0, pu_qe1, hn, hcc]
    all_goals try simp (maxSteps := 400000) (disch := omega) [nl_tle, nl_fle, nl_tlt, nl_flt, nl_teq, nl_feq, nl_sub, nl_ss, nl_lt, nl_llt, nl_ltt, nl_le, nl_lle, nl_lee, nl_eq, nl_leq, nl_ee, nl_div, nl_rem, nl_cl, nl_n1, nl_n2, nl_n3, nl_n4, nl_add, nl_ladd, nl_aa, nl_mul, nl_rmul, nl_mm, pu_wi_1, pu_wi_2, bX11_pairTowns_2, bX11_pairTowns_64, bX11_pairTowns_58, bX11_pairTowns_52, a_ald, a_cv, a_gi, a_gr, a_iceq, a_icge, a_icne, a_ild, a_inc, a_ist, a_push, a_vret, ag_19 hI, ag_25 hI, fx_0_2 hx, fx_5_2 hx, fx_5_3 hx, sh_0, sh_19, sh_25, sh_5, pu_rv, pu_as, Value.category, pu_bk, pu_kl, pu_qe0, pu_qe1, hn, hcc]
    all_goals try simp [bX11_pairTowns_2, bX11_pairTowns_64, bX11_pairTowns_58, bX11_pairTowns_52, a_ald, a_cv, a_gi, a_gr, a_iceq, a_icge, a_icne, a_ild, a_inc, a_ist, a_push, a_vret, ag_19 hI, ag_25 hI, fx_0_2 hx, fx_5_2 hx, fx_5_3 hx, sh_0, sh_19, sh_25, sh_5, pu_rv, pu_as, Value.category, pu_bk, pu_kl, List.replicate, pu_wi_1, pu_wi_2, nl_add, nl_ladd, nl_aa, nl_mul, nl_rmul, nl_mm, pu_qe0, pu_qe1, hn, hcc]
    all_goals try simp (maxSteps := 400000) (disch := omega) [nl_tle, nl_fle, nl_tlt, nl_flt, nl_teq, nl_feq, nl_sub, nl_ss, nl_lt, nl_llt, nl_ltt, nl_le, nl_lle, nl_lee, nl_eq, nl_leq, nl_ee, nl_div, nl_rem, nl_cl, nl_n1, nl_n2, nl_n3, nl_n4, nl_add, nl_ladd, nl_aa, nl_mul, nl_rmul, nl_mm, pu_wi_1, pu_wi_2, bX11_pairTowns_2, bX11_pairTowns_64, bX11_pairTowns_58, bX11_pairTowns_52, a_ald, a_cv, a_gi, a_gr, a_iceq, a_icge, a_icne, a_ild, a_inc, a_ist, a_push, a_vret, ag_19 hI, ag_25 hI, fx_0_2 hx, fx_5_2 hx, fx_5_3 hx, sh_0, sh_19, sh_25, sh_5, pu_rv, pu_as, Value.category, pu_bk, pu_kl, pu_qe0, pu_qe1, hn, hcc]
    all_goals try simp [bX11_pairTowns_2, bX11_pairTowns_64, bX11_pairTowns_58, bX11_pairTowns_52, a_ald, a_cv, a_gi, a_gr, a_iceq, a_icge, a_icne, a_ild, a_inc, a_ist, a_push, a_vret, ag_19 hI, ag_25 hI, fx_0_2 hx, fx_5_2 hx, fx_5_3 hx, sh_0, sh_19, sh_25, sh_5, pu_rv, pu_as, Value.category, pu_bk, pu_kl, List.replicate, pu_wi_1, pu_wi_2, nl_add, nl_ladd, nl_aa, nl_mul, nl_rmul, nl_mm, pu_qe0, pu_qe1, hn, hcc]
  | m + 1, j, N, c, t4, h, hc, pq, h3, pt => by
    have hx : pu_fx N := pz_fx_of hxM pq.1
    obtain ⟨wd, agJ⟩ := py_wdp hw hI pq hc h3
    have WJ := WF_desk hw wd
    have bK := wx_bK hw
    have hn : pu_dk I N.1 25 1 = nI (cK I) := (wx_cK hw :)
    have hj : j < cK I := by omega
    have hcc : ¬ nI (cK I) ≤ nI j := nI_ge (by omega) (by omega)
    have hLN : pu_al N L := fun x y q1 q2 => by rw [pq.1]; exact hL x y q1 q2
    obtain ⟨k, hk⟩ := pu_no_ex hw hj
    have e1 : pu_r 62 [some (.ref 19), some (.int (nI j))] [] N = some (some (.int (I 21 k)), N) := c_townOf hx agJ WJ (show pu_no (pu_dk I N.1) j k from hk)
    have SKIP : (∀ o, o < cK I → ¬ py_oth I L a b j o) → py_PT I L a b (N.1 49) (N.1 50) (j + 1) c := fun no => ⟨c, pt, Or.inl ⟨no, rfl⟩⟩
    by_cases c1 : I 21 k = nI a
    rotate_left
    · obtain ⟨N1, c1', x⟩ := c_pt_l hw hI hL hxM m (j + 1) N c t4 (by omega) hc pq h3 (SKIP (fun o _ z => by
        obtain ⟨k', l, k1, k2, _⟩ := z
        rw [pu_no_un hw hk k1] at c1
        exact c1 k2))
      refine ⟨N1, c1', x.1, x.2.1, x.2.2.1, x.2.2.2.1, ?_⟩
      rw [← x.2.2.2.2]
      have hI := agJ
      generalize nI (cK I) = ck at *
      generalize I 21 k = v21 at *
      rw [qX11_pairTowns_2]
      simp [bX11_pairTowns_2, bX11_pairTowns_64, bX11_pairTowns_58, bX11_pairTowns_52, a_ald, a_cv, a_gi, a_gr, a_iceq, a_icge, a_icne, a_ild, a_inc, a_ist, a_push, a_vret, ag_19 hI, ag_25 hI, fx_0_2 hx, fx_5_2 hx, fx_5_3 hx, sh_0, sh_19, sh_25, sh_5, pu_rv, pu_as, Value.category, pu_bk, pu_kl, List.replicate, pu_wi_1, pu_wi_2, nl_add, nl_ladd, nl_aa, nl_mul, nl_rmul, nl_mm, pu_qe0, pu_qe1, hn, hcc, e1, c1]
      all_goals try simp (maxSteps := 400000) (disch := omega) [nl_tle, nl_fle, nl_tlt, nl_flt, nl_teq, nl_feq, nl_sub, nl_ss, nl_lt, nl_llt, nl_ltt, nl_le, nl_lle, nl_lee, nl_eq, nl_leq, nl_ee, nl_div, nl_rem, nl_cl, nl_n1, nl_n2, nl_n3, nl_n4, nl_add, nl_ladd, nl_aa, nl_mul, nl_rmul, nl_mm, pu_wi_1, pu_wi_2, bX11_pairTowns_2, bX11_pairTowns_64, bX11_pairTowns_58, bX11_pairTowns_52, a_ald, a_cv, a_gi, a_gr, a_iceq, a_icge, a_icne, a_ild, a_inc, a_ist, a_push, a_vret, ag_19 hI, ag_25 hI, fx_0_2 hx, fx_5_2 hx, fx_5_3 hx, sh_0, sh_19, sh_25, sh_5, pu_rv, pu_as, Value.category, pu_bk, pu_kl, pu_qe0, pu_qe1, hn, hcc, e1, c1]
      all_goals try simp [bX11_pairTowns_2, bX11_pairTowns_64, bX11_pairTowns_58, bX11_pairTowns_52, a_ald, a_cv, a_gi, a_gr, a_iceq, a_icge, a_icne, a_ild, a_inc, a_ist, a_push, a_vret, ag_19 hI, ag_25 hI, fx_0_2 hx, fx_5_2 hx, fx_5_3 hx, sh_0, sh_19, sh_25, sh_5, pu_rv, pu_as, Value.category, pu_bk, pu_kl, List.replicate, pu_wi_1, pu_wi_2, nl_add, nl_ladd, nl_aa, nl_mul, nl_rmul, nl_mm, pu_qe0, pu_qe1, hn, hcc, e1, c1]
      all_goals try simp (maxSteps := 400000) (disch := omega) [nl_tle, nl_fle, nl_tlt, nl_flt, nl_teq, nl_feq, nl_sub, nl_ss, nl_lt, nl_llt, nl_ltt, nl_le, nl_lle, nl_lee, nl_eq, nl_leq, nl_ee, nl_div, nl_rem, nl_cl, nl_n1, nl_n2, nl_n3, nl_n4, nl_add, nl_ladd, nl_aa, nl_mul, nl_rmul, nl_mm, pu_wi_1, pu_wi_2, bX11_pairTowns_2, bX11_pairTowns_64, bX11_pairTowns_58, bX11_pairTowns_52, a_ald, a_cv, a_gi, a_gr, a_iceq, a_icge, a_icne, a_ild, a_inc, a_ist, a_push, a_vret, ag_19 hI, ag_25 hI, fx_0_2 hx, fx_5_2 hx, fx_5_3 hx, sh_0, sh_19, sh_25, sh_5, pu_rv, pu_as, Value.category, pu_bk, pu_kl, pu_qe0, pu_qe1, hn, hcc, e1, c1]
      all_goals try simp [bX11_pairTowns_2, bX11_pairTowns_64, bX11_pairTowns_58, bX11_pairTowns_52, a_ald, a_cv, a_gi, a_gr, a_iceq, a_icge, a_icne, a_ild, a_inc, a_ist, a_push, a_vret, ag_19 hI, ag_25 hI, fx_0_2 hx, fx_5_2 hx, fx_5_3 hx, sh_0, sh_19, sh_25, sh_5, pu_rv, pu_as, Value.category, pu_bk, pu_kl, List.replicate, pu_wi_1, pu_wi_2, nl_add, nl_ladd, nl_aa, nl_mul, nl_rmul, nl_mm, pu_qe0, pu_qe1, hn, hcc, e1, c1]
      all_goals try simp (maxSteps := 400000) (disch := omega) [nl_tle, nl_fle, nl_tlt, nl_flt, nl_teq, nl_feq, nl_sub, nl_ss, nl_lt, nl_llt, nl_ltt, nl_le, nl_lle, nl_lee, nl_eq, nl_leq, nl_ee, nl_div, nl_rem, nl_cl, nl_n1, nl_n2, nl_n3, nl_n4, nl_add, nl_ladd, nl_aa, nl_mul, nl_rmul, nl_mm, pu_wi_1, pu_wi_2, bX11_pairTowns_2, bX11_pairTowns_64, bX11_pairTowns_58, bX11_pairTowns_52, a_ald, a_cv, a_gi, a_gr, a_iceq, a_icge, a_icne, a_ild, a_inc, a_ist, a_push, a_vret, ag_19 hI, ag_25 hI, fx_0_2 hx, fx_5_2 hx, fx_5_3 hx, sh_0, sh_19, sh_25, sh_5, pu_rv, pu_as, Value.category, pu_bk, pu_kl, pu_qe0, pu_qe1, hn, hcc, e1, c1]
      all_goals try simp [bX11_pairTowns_2, bX11_pairTowns_64, bX11_pairTowns_58, bX11_pairTowns_52, a_ald, a_cv, a_gi, a_gr, a_iceq, a_icge, a_icne, a_ild, a_inc, a_ist, a_push, a_vret, ag_19 hI, ag_25 hI, fx_0_2 hx, fx_5_2 hx, fx_5_3 hx, sh_0, sh_19, sh_25, sh_5, pu_rv, pu_as, Value.category, pu_bk, pu_kl, List.replicate, pu_wi_1, pu_wi_2, nl_add, nl_ladd, nl_aa, nl_mul, nl_rmul, nl_mm, pu_qe0, pu_qe1, hn, hcc, e1, c1]
    rw [c1] at e1
    by_cases c2 : ∃ o, o < cK I ∧ py_oth I L a b j o
    rotate_left
    · obtain ⟨r, r1, r2⟩ := c_namedLike hx agJ hLN WJ (show pu_no (pu_dk I N.1) j k from hk) (nI b)
      have rn : r = -1 := Classical.byContradiction (fun z => by
        obtain ⟨l, l1, l2⟩ := r2.mp z
        have st := pu_on (x := I 20 l) (n := cK I) ⟨(wx_ns hw l l1).1, (wx_ns hw l l1).2⟩
        exact c2 ⟨(I 20 l).toNatClampNeg, st.2, k, l, hk, c1, ⟨l1, st.1, l2.1.1⟩, l2.1.2, l2.2⟩)
      rw [rn] at r1
      obtain ⟨N1, c1', x⟩ := c_pt_l hw hI hL hxM m (j + 1) N c (some (.int (-1))) (by omega) hc pq h3 (SKIP (fun o o1 z => c2 ⟨o, o1, z⟩))
      refine ⟨N1, c1', x.1, x.2.1, x.2.2.1, x.2.2.2.1, ?_⟩
      rw [← x.2.2.2.2]
      have hI := agJ
      generalize nI (cK I) = ck at *
      rw [qX11_pairTowns_2]
      simp [bX11_pairTowns_2, bX11_pairTowns_64, bX11_pairTowns_58, bX11_pairTowns_52, a_ald, a_cv, a_gi, a_gr, a_iceq, a_icge, a_icne, a_ild, a_inc, a_ist, a_push, a_vret, ag_19 hI, ag_25 hI, fx_0_2 hx, fx_5_2 hx, fx_5_3 hx, sh_0, sh_19, sh_25, sh_5, pu_rv, pu_as, Value.category, pu_bk, pu_kl, List.replicate, pu_wi_1, pu_wi_2, nl_add, nl_ladd, nl_aa, nl_mul, nl_rmul, nl_mm, pu_qe0, pu_qe1, hn, hcc, e1, r1]
      all_goals try simp (maxSteps := 400000) (disch := omega) [nl_tle, nl_fle, nl_tlt, nl_flt, nl_teq, nl_feq, nl_sub, nl_ss, nl_lt, nl_llt, nl_ltt, nl_le, nl_lle, nl_lee, nl_eq, nl_leq, nl_ee, nl_div, nl_rem, nl_cl, nl_n1, nl_n2, nl_n3, nl_n4, nl_add, nl_ladd, nl_aa, nl_mul, nl_rmul, nl_mm, pu_wi_1, pu_wi_2, bX11_pairTowns_2, bX11_pairTowns_64, bX11_pairTowns_58, bX11_pairTowns_52, a_ald, a_cv, a_gi, a_gr, a_iceq, a_icge, a_icne, a_ild, a_inc, a_ist, a_push, a_vret, ag_19 hI, ag_25 hI, fx_0_2 hx, fx_5_2 hx, fx_5_3 hx, sh_0, sh_19, sh_25, sh_5, pu_rv, pu_as, Value.category, pu_bk, pu_kl, pu_qe0, pu_qe1, hn, hcc, e1, r1]
      all_goals try simp [bX11_pairTowns_2, bX11_pairTowns_64, bX11_pairTowns_58, bX11_pairTowns_52, a_ald, a_cv, a_gi, a_gr, a_iceq, a_icge, a_icne, a_ild, a_inc, a_ist, a_push, a_vret, ag_19 hI, ag_25 hI, fx_0_2 hx, fx_5_2 hx, fx_5_3 hx, sh_0, sh_19, sh_25, sh_5, pu_rv, pu_as, Value.category, pu_bk, pu_kl, List.replicate, pu_wi_1, pu_wi_2, nl_add, nl_ladd, nl_aa, nl_mul, nl_rmul, nl_mm, pu_qe0, pu_qe1, hn, hcc, e1, r1]
      all_goals try simp (maxSteps := 400000) (disch := omega) [nl_tle, nl_fle, nl_tlt, nl_flt, nl_teq, nl_feq, nl_sub, nl_ss, nl_lt, nl_llt, nl_ltt, nl_le, nl_lle, nl_lee, nl_eq, nl_leq, nl_ee, nl_div, nl_rem, nl_cl, nl_n1, nl_n2, nl_n3, nl_n4, nl_add, nl_ladd, nl_aa, nl_mul, nl_rmul, nl_mm, pu_wi_1, pu_wi_2, bX11_pairTowns_2, bX11_pairTowns_64, bX11_pairTowns_58, bX11_pairTowns_52, a_ald, a_cv, a_gi, a_gr, a_iceq, a_icge, a_icne, a_ild, a_inc, a_ist, a_push, a_vret, ag_19 hI, ag_25 hI, fx_0_2 hx, fx_5_2 hx, fx_5_3 hx, sh_0, sh_19, sh_25, sh_5, pu_rv, pu_as, Value.category, pu_bk, pu_kl, pu_qe0, pu_qe1, hn, hcc, e1, r1]
      all_goals try simp [bX11_pairTowns_2, bX11_pairTowns_64, bX11_pairTowns_58, bX11_pairTowns_52, a_ald, a_cv, a_gi, a_gr, a_iceq, a_icge, a_icne, a_ild, a_inc, a_ist, a_push, a_vret, ag_19 hI, ag_25 hI, fx_0_2 hx, fx_5_2 hx, fx_5_3 hx, sh_0, sh_19, sh_25, sh_5, pu_rv, pu_as, Value.category, pu_bk, pu_kl, List.replicate, pu_wi_1, pu_wi_2, nl_add, nl_ladd, nl_aa, nl_mul, nl_rmul, nl_mm, pu_qe0, pu_qe1, hn, hcc, e1, r1]
      all_goals try simp (maxSteps := 400000) (disch := omega) [nl_tle, nl_fle, nl_tlt, nl_flt, nl_teq, nl_feq, nl_sub, nl_ss, nl_lt, nl_llt, nl_ltt, nl_le, nl_lle, nl_lee, nl_eq, nl_leq, nl_ee, nl_div, nl_rem, nl_cl, nl_n1, nl_n2, nl_n3, nl_n4, nl_add, nl_ladd, nl_aa, nl_mul, nl_rmul, nl_mm, pu_wi_1, pu_wi_2, bX11_pairTowns_2, bX11_pairTowns_64, bX11_pairTowns_58, bX11_pairTowns_52, a_ald, a_cv, a_gi, a_gr, a_iceq, a_icge, a_icne, a_ild, a_inc, a_ist, a_push, a_vret, ag_19 hI, ag_25 hI, fx_0_2 hx, fx_5_2 hx, fx_5_3 hx, sh_0, sh_19, sh_25, sh_5, pu_rv, pu_as, Value.category, pu_bk, pu_kl, pu_qe0, pu_qe1, hn, hcc, e1, r1]
      all_goals try simp [bX11_pairTowns_2, bX11_pairTowns_64, bX11_pairTowns_58, bX11_pairTowns_52, a_ald, a_cv, a_gi, a_gr, a_iceq, a_icge, a_icne, a_ild, a_inc, a_ist, a_push, a_vret, ag_19 hI, ag_25 hI, fx_0_2 hx, fx_5_2 hx, fx_5_3 hx, sh_0, sh_19, sh_25, sh_5, pu_rv, pu_as, Value.category, pu_bk, pu_kl, List.replicate, pu_wi_1, pu_wi_2, nl_add, nl_ladd, nl_aa, nl_mul, nl_rmul, nl_mm, pu_qe0, pu_qe1, hn, hcc, e1, r1]
    obtain ⟨o, o1, o2⟩ := c2
    have r1 : pu_r 117 [some (.ref 19), some (.int (nI j)), some (.int (nI b))] [] N = some (some (.int (nI o)), N) := c_nv hx agJ hLN WJ (show pu_no (pu_dk I N.1) j k from hk) (show pu_dk I N.1 21 k = nI a from c1) (show py_oth (pu_dk I N.1) L a b j o from o2)
    have on : ¬ nI o = -1 := fun z => by rw [nl_n1 _ (by omega)] at z; exact z
    obtain ⟨P, W, n, p1, p2, p3, p4, p5, p6, p7⟩ := c_pairStreets hw hI hxM (a := j) (b := o) (py_HBp hw hj pt) N pq h3
    obtain ⟨N1, c1', x⟩ := c_pt_l hw hI hL hxM m (j + 1) P (c + n) (some (.int (nI o))) (by omega) p1 p2 p3 ⟨c, py_PT_c j c p4 pt, Or.inr ⟨o, W, n, o1, o2, p6, rfl, p5⟩⟩
    refine ⟨N1, c1', x.1, x.2.1, x.2.2.1, x.2.2.2.1, ?_⟩
    rw [← x.2.2.2.2]
    have hI := agJ
    generalize nI (cK I) = ck at *
    rw [qX11_pairTowns_2]
    simp [bX11_pairTowns_2, bX11_pairTowns_64, bX11_pairTowns_58, bX11_pairTowns_52, a_ald, a_cv, a_gi, a_gr, a_iceq, a_icge, a_icne, a_ild, a_inc, a_ist, a_push, a_vret, ag_19 hI, ag_25 hI, fx_0_2 hx, fx_5_2 hx, fx_5_3 hx, sh_0, sh_19, sh_25, sh_5, pu_rv, pu_as, Value.category, pu_bk, pu_kl, List.replicate, pu_wi_1, pu_wi_2, nl_add, nl_ladd, nl_aa, nl_mul, nl_rmul, nl_mm, pu_qe0, pu_qe1, hn, hcc, e1, r1, on, p7]
    all_goals try simp (maxSteps := 400000) (disch := omega) [nl_tle, nl_fle, nl_tlt, nl_flt, nl_teq, nl_feq, nl_sub, nl_ss, nl_lt, nl_llt, nl_ltt, nl_le, nl_lle, nl_lee, nl_eq, nl_leq, nl_ee, nl_div, nl_rem, nl_cl, nl_n1, nl_n2, nl_n3, nl_n4, nl_add, nl_ladd, nl_aa, nl_mul, nl_rmul, nl_mm, pu_wi_1, pu_wi_2, bX11_pairTowns_2, bX11_pairTowns_64, bX11_pairTowns_58, bX11_pairTowns_52, a_ald, a_cv, a_gi, a_gr, a_iceq, a_icge, a_icne, a_ild, a_inc, a_ist, a_push, a_vret, ag_19 hI, ag_25 hI, fx_0_2 hx, fx_5_2 hx, fx_5_3 hx, sh_0, sh_19, sh_25, sh_5, pu_rv, pu_as, Value.category, pu_bk, pu_kl, pu_qe0, pu_qe1, hn, hcc, e1, r1, on, p7]
    all_goals try simp [bX11_pairTowns_2, bX11_pairTowns_64, bX11_pairTowns_58, bX11_pairTowns_52, a_ald, a_cv, a_gi, a_gr, a_iceq, a_icge, a_icne, a_ild, a_inc, a_ist, a_push, a_vret, ag_19 hI, ag_25 hI, fx_0_2 hx, fx_5_2 hx, fx_5_3 hx, sh_0, sh_19, sh_25, sh_5, pu_rv, pu_as, Value.category, pu_bk, pu_kl, List.replicate, pu_wi_1, pu_wi_2, nl_add, nl_ladd, nl_aa, nl_mul, nl_rmul, nl_mm, pu_qe0, pu_qe1, hn, hcc, e1, r1, on, p7]
    all_goals try simp (maxSteps := 400000) (disch := omega) [nl_tle, nl_fle, nl_tlt, nl_flt, nl_teq, nl_feq, nl_sub, nl_ss, nl_lt, nl_llt, nl_ltt, nl_le, nl_lle, nl_lee, nl_eq, nl_leq, nl_ee, nl_div, nl_rem, nl_cl, nl_n1, nl_n2, nl_n3, nl_n4, nl_add, nl_ladd, nl_aa, nl_mul, nl_rmul, nl_mm, pu_wi_1, pu_wi_2, bX11_pairTowns_2, bX11_pairTowns_64, bX11_pairTowns_58, bX11_pairTowns_52, a_ald, a_cv, a_gi, a_gr, a_iceq, a_icge, a_icne, a_ild, a_inc, a_ist, a_push, a_vret, ag_19 hI, ag_25 hI, fx_0_2 hx, fx_5_2 hx, fx_5_3 hx, sh_0, sh_19, sh_25, sh_5, pu_rv, pu_as, Value.category, pu_bk, pu_kl, pu_qe0, pu_qe1, hn, hcc, e1, r1, on, p7]
    all_goals try simp [bX11_pairTowns_2, bX11_pairTowns_64, bX11_pairTowns_58, bX11_pairTowns_52, a_ald, a_cv, a_gi, a_gr, a_iceq, a_icge, a_icne, a_ild, a_inc, a_ist, a_push, a_vret, ag_19 hI, ag_25 hI, fx_0_2 hx, fx_5_2 hx, fx_5_3 hx, sh_0, sh_19, sh_25, sh_5, pu_rv, pu_as, Value.category, pu_bk, pu_kl, List.replicate, pu_wi_1, pu_wi_2, nl_add, nl_ladd, nl_aa, nl_mul, nl_rmul, nl_mm, pu_qe0, pu_qe1, hn, hcc, e1, r1, on, p7]
    all_goals try simp (maxSteps := 400000) (disch := omega) [nl_tle, nl_fle, nl_tlt, nl_flt, nl_teq, nl_feq, nl_sub, nl_ss, nl_lt, nl_llt, nl_ltt, nl_le, nl_lle, nl_lee, nl_eq, nl_leq, nl_ee, nl_div, nl_rem, nl_cl, nl_n1, nl_n2, nl_n3, nl_n4, nl_add, nl_ladd, nl_aa, nl_mul, nl_rmul, nl_mm, pu_wi_1, pu_wi_2, bX11_pairTowns_2, bX11_pairTowns_64, bX11_pairTowns_58, bX11_pairTowns_52, a_ald, a_cv, a_gi, a_gr, a_iceq, a_icge, a_icne, a_ild, a_inc, a_ist, a_push, a_vret, ag_19 hI, ag_25 hI, fx_0_2 hx, fx_5_2 hx, fx_5_3 hx, sh_0, sh_19, sh_25, sh_5, pu_rv, pu_as, Value.category, pu_bk, pu_kl, pu_qe0, pu_qe1, hn, hcc, e1, r1, on, p7]
    all_goals try simp [bX11_pairTowns_2, bX11_pairTowns_64, bX11_pairTowns_58, bX11_pairTowns_52, a_ald, a_cv, a_gi, a_gr, a_iceq, a_icge, a_icne, a_ild, a_inc, a_ist, a_push, a_vret, ag_19 hI, ag_25 hI, fx_0_2 hx, fx_5_2 hx, fx_5_3 hx, sh_0, sh_19, sh_25, sh_5, pu_rv, pu_as, Value.category, pu_bk, pu_kl, List.replicate, pu_wi_1, pu_wi_2, nl_add, nl_ladd, nl_aa, nl_mul, nl_rmul, nl_mm, pu_qe0, pu_qe1, hn, hcc, e1, r1, on, p7]
end
section
variable {I : Nat → Nat → Int32} {L : Nat → Nat → Int64} {s0 : Nat → Int32} {a b : Nat}
theorem r_tw_i (h : pu_St I L s0) {c j k : Nat} (kd : Int32) (hcl : c ≤ 200) (hj : j < cK I) (hk : k < cK I) (N N1 : pu_M) (hN : py_rpr s0 N c) (e1 : ¬ py_oth I L a b j k → N1 = N) (e2 : py_oth I L a b j k → pu_r 339 [some (.ref 71), some (.int (nI j)), some (.int (nI k))] [] N = some (none, N1)) : pu_r 518 [some (.ref 71), some (.int kd), some (.int (nI a)), some (.int (nI b)), some (.int (nI j)), some (.int (nI k))] [] N = pu_r 518 [some (.ref 71), some (.int kd), some (.int (nI a)), some (.int (nI b)), some (.int (nI j)), some (.int (nI (k + 1)))] [] N1 := by
  have hw := h.1
  have bK := wx_bK hw
  have bN := wx_bN hw
  obtain ⟨hx, fr, h14⟩ := id hN
  have SJ := St_JP h (c := c) (s' := N.1 72) hcl fr h14
  have h3 : N.1 72 3 = nI (cK I) := by rw [fr 3 (by omega) (by omega)]; exact rl_h3 h.2
  have hc : ¬ nI (cK I) ≤ nI k := nI_ge (by omega) (by omega)
  obtain ⟨kj, hkj⟩ := pu_no_ex hw hj
  obtain ⟨kk, hkk⟩ := pu_no_ex hw hk
  have t1 : pu_r 254 [some (.ref 71), some (.int (nI j))] [] N = some (some (.int (I 21 kj)), N) := r_townOf hx SJ.2 SJ.1 (show pu_no (py_JP I (N.1 72) c) j kj from hkj)
  have t2 : pu_r 254 [some (.ref 71), some (.int (nI k))] [] N = some (some (.int (I 21 kk)), N) := r_townOf hx SJ.2 SJ.1 (show pu_no (py_JP I (N.1 72) c) k kk from hkk)
  have ONE : py_oth I L a b j k ↔ (I 21 kj = nI a ∧ I 21 kk = nI b ∧ py_lk (L 24) (L 24) (3 * kj) (3 * kk)) := by
    constructor
    · rintro ⟨u, l, u1, u2, l1, l2, l3⟩
      rw [pu_no_un hw hkj u1, pu_no_un hw hkk l1]
      exact ⟨u2, l2, fun w hw2 => (l3 w hw2).symm⟩
    · rintro ⟨z1, z2, z3⟩
      exact ⟨kj, kk, hkj, z1, hkk, z2, fun w hw2 => (z3 w hw2).symm⟩
  generalize hR : pu_r 518 [some (.ref 71), some (.int kd), some (.int (nI a)), some (.int (nI b)), some (.int (nI j)), some (.int (nI (k + 1)))] [] N1 = R
  by_cases c1 : I 21 kj = nI a
  rotate_left
  · rw [e1 (fun z => c1 (ONE.mp z).1)] at hR
    generalize I 21 kj = v21 at *
    rw [qX12_twice_104]
    simp [bX12_twice_104, bX12_twice_194, bX12_twice_188, bX12_twice_150, a_ai, a_ald, a_cv, a_gr, a_iadd, a_icge, a_icne, a_ifeq, a_ild, a_imul, a_inc, a_push, fx_71_0 hx, sh_71, sh_72, pu_rv, pu_as, Value.category, pu_bk, pu_kl, List.replicate, pu_wi_1, pu_wi_2, nl_add, nl_ladd, nl_aa, nl_mul, nl_rmul, nl_mm, pu_qe0, pu_qe1, h3, hc, t1, c1, hR]
    all_goals try simp (maxSteps := 400000) (disch := omega) [nl_tle, nl_fle, nl_tlt, nl_flt, nl_teq, nl_feq, nl_sub, nl_ss, nl_lt, nl_llt, nl_ltt, nl_le, nl_lle, nl_lee, nl_eq, nl_leq, nl_ee, nl_div, nl_rem, nl_cl, nl_n1, nl_n2, nl_n3, nl_n4, nl_add, nl_ladd, nl_aa, nl_mul, nl_rmul, nl_mm, pu_wi_1, pu_wi_2, bX12_twice_104, bX12_twice_194, bX12_twice_188, bX12_twice_150, a_ai, a_ald, a_cv, a_gr, a_iadd, a_icge, a_icne, a_ifeq, a_ild, a_imul, a_inc, a_push, fx_71_0 hx, sh_71, sh_72, pu_rv, pu_as, Value.category, pu_bk, pu_kl, pu_qe0, pu_qe1, h3, hc, t1, c1, hR]
    all_goals try simp [bX12_twice_104, bX12_twice_194, bX12_twice_188, bX12_twice_150, a_ai, a_ald, a_cv, a_gr, a_iadd, a_icge, a_icne, a_ifeq, a_ild, a_imul, a_inc, a_push, fx_71_0 hx, sh_71, sh_72, pu_rv, pu_as, Value.category, pu_bk, pu_kl, List.replicate, pu_wi_1, pu_wi_2, nl_add, nl_ladd, nl_aa, nl_mul, nl_rmul, nl_mm, pu_qe0, pu_qe1, h3, hc, t1, c1, hR]
    all_goals try simp (maxSteps := 400000) (disch := omega) [nl_tle, nl_fle, nl_tlt, nl_flt, nl_teq, nl_feq, nl_sub, nl_ss, nl_lt, nl_llt, nl_ltt, nl_le, nl_lle, nl_lee, nl_eq, nl_leq, nl_ee, nl_div, nl_rem, nl_cl, nl_n1, nl_n2, nl_n3, nl_n4, nl_add, nl_ladd, nl_aa, nl_mul, nl_rmul, nl_mm, pu_wi_1, pu_wi_2, bX12_twice_104, bX12_twice_194, bX12_twice_188, bX12_twice_150, a_ai, a_ald, a_cv, a_gr, a_iadd, a_icge, a_icne, a_ifeq, a_ild, a_imul, a_inc, a_push, fx_71_0 hx, sh_71, sh_72, pu_rv, pu_as, Value.category, pu_bk, pu_kl, pu_qe0, pu_qe1, h3, hc, t1, c1, hR]
    all_goals try simp [bX12_twice_104, bX12_twice_194, bX12_twice_188, bX12_twice_150, a_ai, a_ald, a_cv, a_gr, a_iadd, a_icge, a_icne, a_ifeq, a_ild, a_imul, a_inc, a_push, fx_71_0 hx, sh_71, sh_72, pu_rv, pu_as, Value.category, pu_bk, pu_kl, List.replicate, pu_wi_1, pu_wi_2, nl_add, nl_ladd, nl_aa, nl_mul, nl_rmul, nl_mm, pu_qe0, pu_qe1, h3, hc, t1, c1, hR]
    all_goals try simp (maxSteps := 400000) (disch := omega) [nl_tle, nl_fle, nl_tlt, nl_flt, nl_teq, nl_feq, nl_sub, nl_ss, nl_lt, nl_llt, nl_ltt, nl_le, nl_lle, nl_lee, nl_eq, nl_leq, nl_ee, nl_div, nl_rem, nl_cl, nl_n1, nl_n2, nl_n3, nl_n4, nl_add, nl_ladd, nl_aa, nl_mul, nl_rmul, nl_mm, pu_wi_1, pu_wi_2, bX12_twice_104, bX12_twice_194, bX12_twice_188, bX12_twice_150, a_ai, a_ald, a_cv, a_gr, a_iadd, a_icge, a_icne, a_ifeq, a_ild, a_imul, a_inc, a_push, fx_71_0 hx, sh_71, sh_72, pu_rv, pu_as, Value.category, pu_bk, pu_kl, pu_qe0, pu_qe1, h3, hc, t1, c1, hR]
    all_goals try simp [bX12_twice_104, bX12_twice_194, bX12_twice_188, bX12_twice_150, a_ai, a_ald, a_cv, a_gr, a_iadd, a_icge, a_icne, a_ifeq, a_ild, a_imul, a_inc, a_push, fx_71_0 hx, sh_71, sh_72, pu_rv, pu_as, Value.category, pu_bk, pu_kl, List.replicate, pu_wi_1, pu_wi_2, nl_add, nl_ladd, nl_aa, nl_mul, nl_rmul, nl_mm, pu_qe0, pu_qe1, h3, hc, t1, c1, hR]
  rw [c1] at t1
  by_cases c2 : I 21 kk = nI b
  rotate_left
  · rw [e1 (fun z => c2 (ONE.mp z).2.1)] at hR
    generalize I 21 kk = v21 at *
    rw [qX12_twice_104]
    simp [bX12_twice_104, bX12_twice_194, bX12_twice_188, bX12_twice_150, a_ai, a_ald, a_cv, a_gr, a_iadd, a_icge, a_icne, a_ifeq, a_ild, a_imul, a_inc, a_push, fx_71_0 hx, sh_71, sh_72, pu_rv, pu_as, Value.category, pu_bk, pu_kl, List.replicate, pu_wi_1, pu_wi_2, nl_add, nl_ladd, nl_aa, nl_mul, nl_rmul, nl_mm, pu_qe0, pu_qe1, h3, hc, t1, t2, c2, hR]
    all_goals try simp (maxSteps := 400000) (disch := omega) [nl_tle, nl_fle, nl_tlt, nl_flt, nl_teq, nl_feq, nl_sub, nl_ss, nl_lt, nl_llt, nl_ltt, nl_le, nl_lle, nl_lee, nl_eq, nl_leq, nl_ee, nl_div, nl_rem, nl_cl, nl_n1, nl_n2, nl_n3, nl_n4, nl_add, nl_ladd, nl_aa, nl_mul, nl_rmul, nl_mm, pu_wi_1, pu_wi_2, bX12_twice_104, bX12_twice_194, bX12_twice_188, bX12_twice_150, a_ai, a_ald, a_cv, a_gr, a_iadd, a_icge, a_icne, a_ifeq, a_ild, a_imul, a_inc, a_push, fx_71_0 hx, sh_71, sh_72, pu_rv, pu_as, Value.category, pu_bk, pu_kl, pu_qe0, pu_qe1, h3, hc, t1, t2, c2, hR]
    all_goals try simp [bX12_twice_104, bX12_twice_194, bX12_twice_188, bX12_twice_150, a_ai, a_ald, a_cv, a_gr, a_iadd, a_icge, a_icne, a_ifeq, a_ild, a_imul, a_inc, a_push, fx_71_0 hx, sh_71, sh_72, pu_rv, pu_as, Value.category, pu_bk, pu_kl, List.replicate, pu_wi_1, pu_wi_2, nl_add, nl_ladd, nl_aa, nl_mul, nl_rmul, nl_mm, pu_qe0, pu_qe1, h3, hc, t1, t2, c2, hR]
    all_goals try simp (maxSteps := 400000) (disch := omega) [nl_tle, nl_fle, nl_tlt, nl_flt, nl_teq, nl_feq, nl_sub, nl_ss, nl_lt, nl_llt, nl_ltt, nl_le, nl_lle, nl_lee, nl_eq, nl_leq, nl_ee, nl_div, nl_rem, nl_cl, nl_n1, nl_n2, nl_n3, nl_n4, nl_add, nl_ladd, nl_aa, nl_mul, nl_rmul, nl_mm, pu_wi_1, pu_wi_2, bX12_twice_104, bX12_twice_194, bX12_twice_188, bX12_twice_150, a_ai, a_ald, a_cv, a_gr, a_iadd, a_icge, a_icne, a_ifeq, a_ild, a_imul, a_inc, a_push, fx_71_0 hx, sh_71, sh_72, pu_rv, pu_as, Value.category, pu_bk, pu_kl, pu_qe0, pu_qe1, h3, hc, t1, t2, c2, hR]
    all_goals try simp [bX12_twice_104, bX12_twice_194, bX12_twice_188, bX12_twice_150, a_ai, a_ald, a_cv, a_gr, a_iadd, a_icge, a_icne, a_ifeq, a_ild, a_imul, a_inc, a_push, fx_71_0 hx, sh_71, sh_72, pu_rv, pu_as, Value.category, pu_bk, pu_kl, List.replicate, pu_wi_1, pu_wi_2, nl_add, nl_ladd, nl_aa, nl_mul, nl_rmul, nl_mm, pu_qe0, pu_qe1, h3, hc, t1, t2, c2, hR]
    all_goals try simp (maxSteps := 400000) (disch := omega) [nl_tle, nl_fle, nl_tlt, nl_flt, nl_teq, nl_feq, nl_sub, nl_ss, nl_lt, nl_llt, nl_ltt, nl_le, nl_lle, nl_lee, nl_eq, nl_leq, nl_ee, nl_div, nl_rem, nl_cl, nl_n1, nl_n2, nl_n3, nl_n4, nl_add, nl_ladd, nl_aa, nl_mul, nl_rmul, nl_mm, pu_wi_1, pu_wi_2, bX12_twice_104, bX12_twice_194, bX12_twice_188, bX12_twice_150, a_ai, a_ald, a_cv, a_gr, a_iadd, a_icge, a_icne, a_ifeq, a_ild, a_imul, a_inc, a_push, fx_71_0 hx, sh_71, sh_72, pu_rv, pu_as, Value.category, pu_bk, pu_kl, pu_qe0, pu_qe1, h3, hc, t1, t2, c2, hR]
    all_goals try simp [bX12_twice_104, bX12_twice_194, bX12_twice_188, bX12_twice_150, a_ai, a_ald, a_cv, a_gr, a_iadd, a_icge, a_icne, a_ifeq, a_ild, a_imul, a_inc, a_push, fx_71_0 hx, sh_71, sh_72, pu_rv, pu_as, Value.category, pu_bk, pu_kl, List.replicate, pu_wi_1, pu_wi_2, nl_add, nl_ladd, nl_aa, nl_mul, nl_rmul, nl_mm, pu_qe0, pu_qe1, h3, hc, t1, t2, c2, hR]
  rw [c2] at t2
  obtain ⟨jl, ml, b1, b2, b3, b4, b5⟩ := py_onm SJ.2 SJ.1 hx (show pu_no (py_JP I (N.1 72) c) j kj from hkj)
  obtain ⟨jk, mk, d1, d2, d3, d4, d5⟩ := py_onm SJ.2 SJ.1 hx (show pu_no (py_JP I (N.1 72) c) k kk from hkk)
  have b1' : jl < cN I := b1
  have d1' : jk < cN I := d1
  have l1 : jl < 416 := by omega
  have l2 : jk < 416 := by omega
  have e3 := r_areAlike hx ml mk b2 d2
  rw [propext (py_row3 (f := L 24) (g := L 24) (x := 3 * kj) (y := 3 * kk) b5 d5)] at e3
  by_cases c3 : py_lk (L 24) (L 24) (3 * kj) (3 * kk)
  · rw [pu_q1 c3] at e3
    have e4 := e2 (ONE.mpr ⟨c1, c2, c3⟩)
    rw [qX12_twice_104]
    simp [bX12_twice_104, bX12_twice_194, bX12_twice_188, bX12_twice_150, a_ai, a_ald, a_cv, a_gr, a_iadd, a_icge, a_icne, a_ifeq, a_ild, a_imul, a_inc, a_push, fx_71_0 hx, sh_71, sh_72, pu_rv, pu_as, Value.category, pu_bk, pu_kl, List.replicate, pu_wi_1, pu_wi_2, nl_add, nl_ladd, nl_aa, nl_mul, nl_rmul, nl_mm, pu_qe0, pu_qe1, h3, hc, t1, t2, b3, d3, b4, d4, l1, l2, e3, e4, hR]
    all_goals try simp (maxSteps := 400000) (disch := omega) [nl_tle, nl_fle, nl_tlt, nl_flt, nl_teq, nl_feq, nl_sub, nl_ss, nl_lt, nl_llt, nl_ltt, nl_le, nl_lle, nl_lee, nl_eq, nl_leq, nl_ee, nl_div, nl_rem, nl_cl, nl_n1, nl_n2, nl_n3, nl_n4, nl_add, nl_ladd, nl_aa, nl_mul, nl_rmul, nl_mm, pu_wi_1, pu_wi_2, bX12_twice_104, bX12_twice_194, bX12_twice_188, bX12_twice_150, a_ai, a_ald, a_cv, a_gr, a_iadd, a_icge, a_icne, a_ifeq, a_ild, a_imul, a_inc, a_push, fx_71_0 hx, sh_71, sh_72, pu_rv, pu_as, Value.category, pu_bk, pu_kl, pu_qe0, pu_qe1, h3, hc, t1, t2, b3, d3, b4, d4, l1, l2, e3, e4, hR]
    all_goals try simp [bX12_twice_104, bX12_twice_194, bX12_twice_188, bX12_twice_150, a_ai, a_ald, a_cv, a_gr, a_iadd, a_icge, a_icne, a_ifeq, a_ild, a_imul, a_inc, a_push, fx_71_0 hx, sh_71, sh_72, pu_rv, pu_as, Value.category, pu_bk, pu_kl, List.replicate, pu_wi_1, pu_wi_2, nl_add, nl_ladd, nl_aa, nl_mul, nl_rmul, nl_mm, pu_qe0, pu_qe1, h3, hc, t1, t2, b3, d3, b4, d4, l1, l2, e3, e4, hR]
    all_goals try simp (maxSteps := 400000) (disch := omega) [nl_tle, nl_fle, nl_tlt, nl_flt, nl_teq, nl_feq, nl_sub, nl_ss, nl_lt, nl_llt, nl_ltt, nl_le, nl_lle, nl_lee, nl_eq, nl_leq, nl_ee, nl_div, nl_rem, nl_cl, nl_n1, nl_n2, nl_n3, nl_n4, nl_add, nl_ladd, nl_aa, nl_mul, nl_rmul, nl_mm, pu_wi_1, pu_wi_2, bX12_twice_104, bX12_twice_194, bX12_twice_188, bX12_twice_150, a_ai, a_ald, a_cv, a_gr, a_iadd, a_icge, a_icne, a_ifeq, a_ild, a_imul, a_inc, a_push, fx_71_0 hx, sh_71, sh_72, pu_rv, pu_as, Value.category, pu_bk, pu_kl, pu_qe0, pu_qe1, h3, hc, t1, t2, b3, d3, b4, d4, l1, l2, e3, e4, hR]
    all_goals try simp [bX12_twice_104, bX12_twice_194, bX12_twice_188, bX12_twice_150, a_ai, a_ald, a_cv, a_gr, a_iadd, a_icge, a_icne, a_ifeq, a_ild, a_imul, a_inc, a_push, fx_71_0 hx, sh_71, sh_72, pu_rv, pu_as, Value.category, pu_bk, pu_kl, List.replicate, pu_wi_1, pu_wi_2, nl_add, nl_ladd, nl_aa, nl_mul, nl_rmul, nl_mm, pu_qe0, pu_qe1, h3, hc, t1, t2, b3, d3, b4, d4, l1, l2, e3, e4, hR]
    all_goals try simp (maxSteps := 400000) (disch := omega) [nl_tle, nl_fle, nl_tlt, nl_flt, nl_teq, nl_feq, nl_sub, nl_ss, nl_lt, nl_llt, nl_ltt, nl_le, nl_lle, nl_lee, nl_eq, nl_leq, nl_ee, nl_div, nl_rem, nl_cl, nl_n1, nl_n2, nl_n3, nl_n4, nl_add, nl_ladd, nl_aa, nl_mul, nl_rmul, nl_mm, pu_wi_1, pu_wi_2, bX12_twice_104, bX12_twice_194, bX12_twice_188, bX12_twice_150, a_ai, a_ald, a_cv, a_gr, a_iadd, a_icge, a_icne, a_ifeq, a_ild, a_imul, a_inc, a_push, fx_71_0 hx, sh_71, sh_72, pu_rv, pu_as, Value.category, pu_bk, pu_kl, pu_qe0, pu_qe1, h3, hc, t1, t2, b3, d3, b4, d4, l1, l2, e3, e4, hR]
    all_goals try simp [bX12_twice_104, bX12_twice_194, bX12_twice_188, bX12_twice_150, a_ai, a_ald, a_cv, a_gr, a_iadd, a_icge, a_icne, a_ifeq, a_ild, a_imul, a_inc, a_push, fx_71_0 hx, sh_71, sh_72, pu_rv, pu_as, Value.category, pu_bk, pu_kl, List.replicate, pu_wi_1, pu_wi_2, nl_add, nl_ladd, nl_aa, nl_mul, nl_rmul, nl_mm, pu_qe0, pu_qe1, h3, hc, t1, t2, b3, d3, b4, d4, l1, l2, e3, e4, hR]
  · rw [pu_q0 c3] at e3
    rw [e1 (fun z => c3 (ONE.mp z).2.2)] at hR
    rw [qX12_twice_104]
    simp [bX12_twice_104, bX12_twice_194, bX12_twice_188, bX12_twice_150, a_ai, a_ald, a_cv, a_gr, a_iadd, a_icge, a_icne, a_ifeq, a_ild, a_imul, a_inc, a_push, fx_71_0 hx, sh_71, sh_72, pu_rv, pu_as, Value.category, pu_bk, pu_kl, List.replicate, pu_wi_1, pu_wi_2, nl_add, nl_ladd, nl_aa, nl_mul, nl_rmul, nl_mm, pu_qe0, pu_qe1, h3, hc, t1, t2, b3, d3, b4, d4, l1, l2, e3, hR]
    all_goals try simp (maxSteps := 400000) (disch := omega) [nl_tle, nl_fle, nl_tlt, nl_flt, nl_teq, nl_feq, nl_sub, nl_ss, nl_lt, nl_llt, nl_ltt, nl_le, nl_lle, nl_lee, nl_eq, nl_leq, nl_ee, nl_div, nl_rem, nl_cl, nl_n1, nl_n2, nl_n3, nl_n4, nl_add, nl_ladd, nl_aa, nl_mul, nl_rmul, nl_mm, pu_wi_1, pu_wi_2, bX12_twice_104, bX12_twice_194, bX12_twice_188, bX12_twice_150, a_ai, a_ald, a_cv, a_gr, a_iadd, a_icge, a_icne, a_ifeq, a_ild, a_imul, a_inc, a_push, fx_71_0 hx, sh_71, sh_72, pu_rv, pu_as, Value.category, pu_bk, pu_kl, pu_qe0, pu_qe1, h3, hc, t1, t2, b3, d3, b4, d4, l1, l2, e3, hR]
    all_goals try simp [bX12_twice_104, bX12_twice_194, bX12_twice_188, bX12_twice_150, a_ai, a_ald, a_cv, a_gr, a_iadd, a_icge, a_icne, a_ifeq, a_ild, a_imul, a_inc, a_push, fx_71_0 hx, sh_71, sh_72, pu_rv, pu_as, Value.category, pu_bk, pu_kl, List.replicate, pu_wi_1, pu_wi_2, nl_add, nl_ladd, nl_aa, nl_mul, nl_rmul, nl_mm, pu_qe0, pu_qe1, h3, hc, t1, t2, b3, d3, b4, d4, l1, l2, e3, hR]
    all_goals try simp (maxSteps := 400000) (disch := omega) [nl_tle, nl_fle, nl_tlt, nl_flt, nl_teq, nl_feq, nl_sub, nl_ss, nl_lt, nl_llt, nl_ltt, nl_le, nl_lle, nl_lee, nl_eq, nl_leq, nl_ee, nl_div, nl_rem, nl_cl, nl_n1, nl_n2, nl_n3, nl_n4, nl_add, nl_ladd, nl_aa, nl_mul, nl_rmul, nl_mm, pu_wi_1, pu_wi_2, bX12_twice_104, bX12_twice_194, bX12_twice_188, bX12_twice_150, a_ai, a_ald, a_cv, a_gr, a_iadd, a_icge, a_icne, a_ifeq, a_ild, a_imul, a_inc, a_push, fx_71_0 hx, sh_71, sh_72, pu_rv, pu_as, Value.category, pu_bk, pu_kl, pu_qe0, pu_qe1, h3, hc, t1, t2, b3, d3, b4, d4, l1, l2, e3, hR]
    all_goals try simp [bX12_twice_104, bX12_twice_194, bX12_twice_188, bX12_twice_150, a_ai, a_ald, a_cv, a_gr, a_iadd, a_icge, a_icne, a_ifeq, a_ild, a_imul, a_inc, a_push, fx_71_0 hx, sh_71, sh_72, pu_rv, pu_as, Value.category, pu_bk, pu_kl, List.replicate, pu_wi_1, pu_wi_2, nl_add, nl_ladd, nl_aa, nl_mul, nl_rmul, nl_mm, pu_qe0, pu_qe1, h3, hc, t1, t2, b3, d3, b4, d4, l1, l2, e3, hR]
    all_goals try simp (maxSteps := 400000) (disch := omega) [nl_tle, nl_fle, nl_tlt, nl_flt, nl_teq, nl_feq, nl_sub, nl_ss, nl_lt, nl_llt, nl_ltt, nl_le, nl_lle, nl_lee, nl_eq, nl_leq, nl_ee, nl_div, nl_rem, nl_cl, nl_n1, nl_n2, nl_n3, nl_n4, nl_add, nl_ladd, nl_aa, nl_mul, nl_rmul, nl_mm, pu_wi_1, pu_wi_2, bX12_twice_104, bX12_twice_194, bX12_twice_188, bX12_twice_150, a_ai, a_ald, a_cv, a_gr, a_iadd, a_icge, a_icne, a_ifeq, a_ild, a_imul, a_inc, a_push, fx_71_0 hx, sh_71, sh_72, pu_rv, pu_as, Value.category, pu_bk, pu_kl, pu_qe0, pu_qe1, h3, hc, t1, t2, b3, d3, b4, d4, l1, l2, e3, hR]
    all_goals try simp [bX12_twice_104, bX12_twice_194, bX12_twice_188, bX12_twice_150, a_ai, a_ald, a_cv, a_gr, a_iadd, a_icge, a_icne, a_ifeq, a_ild, a_imul, a_inc, a_push, fx_71_0 hx, sh_71, sh_72, pu_rv, pu_as, Value.category, pu_bk, pu_kl, List.replicate, pu_wi_1, pu_wi_2, nl_add, nl_ladd, nl_aa, nl_mul, nl_rmul, nl_mm, pu_qe0, pu_qe1, h3, hc, t1, t2, b3, d3, b4, d4, l1, l2, e3, hR]
theorem r_tw_e (h : pu_St I L s0) {c j : Nat} (kd : Int32) (hcl : c ≤ 200) (N : pu_M) (hN : py_rpr s0 N c) : pu_r 518 [some (.ref 71), some (.int kd), some (.int (nI a)), some (.int (nI b)), some (.int (nI j)), some (.int (nI (cK I)))] [] N = pu_r 517 [some (.ref 71), some (.int kd), some (.int (nI a)), some (.int (nI b)), some (.int (nI (j + 1))), some (.int (nI (cK I)))] [] N := by
  have hw := h.1
  have bK := wx_bK hw
  obtain ⟨hx, fr, h14⟩ := id hN
  have h3 : N.1 72 3 = nI (cK I) := by rw [fr 3 (by omega) (by omega)]; exact rl_h3 h.2
  have hc : nI (cK I) ≤ nI (cK I) := nI_le (by omega) (by omega)
  generalize hR : pu_r 517 [some (.ref 71), some (.int kd), some (.int (nI a)), some (.int (nI b)), some (.int (nI (j + 1))), some (.int (nI (cK I)))] [] N = R
  rw [qX12_twice_104]
  simp [bX12_twice_104, bX12_twice_194, bX12_twice_188, bX12_twice_150, a_ai, a_ald, a_cv, a_gr, a_iadd, a_icge, a_icne, a_ifeq, a_ild, a_imul, a_inc, a_push, fx_71_0 hx, sh_71, sh_72, pu_rv, pu_as, Value.category, pu_bk, pu_kl, List.replicate, pu_wi_1, pu_wi_2, nl_add, nl_ladd, nl_aa, nl_mul, nl_rmul, nl_mm, pu_qe0, pu_qe1, h3, hc, hR]
  all_goals try simp (maxSteps := 400000) (disch := omega) [nl_tle, nl_fle, nl_tlt, nl_flt, nl_teq, nl_feq, nl_sub, nl_ss, nl_lt, nl_llt, nl_ltt, nl_le, nl_lle, nl_lee, nl_eq, nl_leq, nl_ee, nl_div, nl_rem, nl_cl, nl_n1, nl_n2, nl_n3, nl_n4, nl_add, nl_ladd, nl_aa, nl_mul, nl_rmul, nl_mm, pu_wi_1, pu_wi_2, bX12_twice_104, bX12_twice_194, bX12_twice_188, bX12_twice_150, a_ai, a_ald, a_cv, a_gr, a_iadd, a_icge, a_icne, a_ifeq, a_ild, a_imul, a_inc, a_push, fx_71_0 hx, sh_71, sh_72, pu_rv, pu_as, Value.category, pu_bk, pu_kl, pu_qe0, pu_qe1, h3, hc, hR]
  all_goals try simp [bX12_twice_104, bX12_twice_194, bX12_twice_188, bX12_twice_150, a_ai, a_ald, a_cv, a_gr, a_iadd, a_icge, a_icne, a_ifeq, a_ild, a_imul, a_inc, a_push, fx_71_0 hx, sh_71, sh_72, pu_rv, pu_as, Value.category, pu_bk, pu_kl, List.replicate, pu_wi_1, pu_wi_2, nl_add, nl_ladd, nl_aa, nl_mul, nl_rmul, nl_mm, pu_qe0, pu_qe1, h3, hc, hR]
  all_goals try simp (maxSteps := 400000) (disch := omega) [nl_tle, nl_fle, nl_tlt, nl_flt, nl_teq, nl_feq, nl_sub, nl_ss, nl_lt, nl_llt, nl_ltt, nl_le, nl_lle, nl_lee, nl_eq, nl_leq, nl_ee, nl_div, nl_rem, nl_cl, nl_n1, nl_n2, nl_n3, nl_n4, nl_add, nl_ladd, nl_aa, nl_mul, nl_rmul, nl_mm, pu_wi_1, pu_wi_2, bX12_twice_104, bX12_twice_194, bX12_twice_188, bX12_twice_150, a_ai, a_ald, a_cv, a_gr, a_iadd, a_icge, a_icne, a_ifeq, a_ild, a_imul, a_inc, a_push, fx_71_0 hx, sh_71, sh_72, pu_rv, pu_as, Value.category, pu_bk, pu_kl, pu_qe0, pu_qe1, h3, hc, hR]
  all_goals try simp [bX12_twice_104, bX12_twice_194, bX12_twice_188, bX12_twice_150, a_ai, a_ald, a_cv, a_gr, a_iadd, a_icge, a_icne, a_ifeq, a_ild, a_imul, a_inc, a_push, fx_71_0 hx, sh_71, sh_72, pu_rv, pu_as, Value.category, pu_bk, pu_kl, List.replicate, pu_wi_1, pu_wi_2, nl_add, nl_ladd, nl_aa, nl_mul, nl_rmul, nl_mm, pu_qe0, pu_qe1, h3, hc, hR]
  all_goals try simp (maxSteps := 400000) (disch := omega) [nl_tle, nl_fle, nl_tlt, nl_flt, nl_teq, nl_feq, nl_sub, nl_ss, nl_lt, nl_llt, nl_ltt, nl_le, nl_lle, nl_lee, nl_eq, nl_leq, nl_ee, nl_div, nl_rem, nl_cl, nl_n1, nl_n2, nl_n3, nl_n4, nl_add, nl_ladd, nl_aa, nl_mul, nl_rmul, nl_mm, pu_wi_1, pu_wi_2, bX12_twice_104, bX12_twice_194, bX12_twice_188, bX12_twice_150, a_ai, a_ald, a_cv, a_gr, a_iadd, a_icge, a_icne, a_ifeq, a_ild, a_imul, a_inc, a_push, fx_71_0 hx, sh_71, sh_72, pu_rv, pu_as, Value.category, pu_bk, pu_kl, pu_qe0, pu_qe1, h3, hc, hR]
  all_goals try simp [bX12_twice_104, bX12_twice_194, bX12_twice_188, bX12_twice_150, a_ai, a_ald, a_cv, a_gr, a_iadd, a_icge, a_icne, a_ifeq, a_ild, a_imul, a_inc, a_push, fx_71_0 hx, sh_71, sh_72, pu_rv, pu_as, Value.category, pu_bk, pu_kl, List.replicate, pu_wi_1, pu_wi_2, nl_add, nl_ladd, nl_aa, nl_mul, nl_rmul, nl_mm, pu_qe0, pu_qe1, h3, hc, hR]
theorem r_tw0 (h : pu_St I L s0) {c j : Nat} (kd : Int32) (hcl : c ≤ 200) (hj : j < cK I) (N : pu_M) (hN : py_rpr s0 N c) : ∀ m k, k + m = cK I → (∀ o, k ≤ o → o < cK I → ¬ py_oth I L a b j o) → pu_r 518 [some (.ref 71), some (.int kd), some (.int (nI a)), some (.int (nI b)), some (.int (nI j)), some (.int (nI k))] [] N = pu_r 517 [some (.ref 71), some (.int kd), some (.int (nI a)), some (.int (nI b)), some (.int (nI (j + 1))), some (.int (nI (cK I)))] [] N
  | 0, k, e, no => by
    rw [show k = cK I by omega]
    exact r_tw_e h kd hcl N hN
  | m + 1, k, e, no => by
    rw [r_tw_i h kd hcl hj (by omega) N N hN (fun _ => rfl) (fun z => absurd z (no k (Nat.le_refl _) (by omega)))]
    exact r_tw0 h kd hcl hj N hN m (k + 1) (by omega) (fun o o1 o2 => no o (by omega) o2)
theorem r_tw1 (h : pu_St I L s0) {c c' j o : Nat} (kd : Int32) (hcl : c ≤ 200) (hcl' : c' ≤ 200) (hj : j < cK I) (ho : o < cK I) (hjo : py_oth I L a b j o) (N N1 : pu_M) (hN : py_rpr s0 N c) (hN1 : py_rpr s0 N1 c') (e2 : pu_r 339 [some (.ref 71), some (.int (nI j)), some (.int (nI o))] [] N = some (none, N1)) : ∀ m k, k + m = o → pu_r 518 [some (.ref 71), some (.int kd), some (.int (nI a)), some (.int (nI b)), some (.int (nI j)), some (.int (nI k))] [] N = pu_r 517 [some (.ref 71), some (.int kd), some (.int (nI a)), some (.int (nI b)), some (.int (nI (j + 1))), some (.int (nI (cK I)))] [] N1
  | 0, k, e => by
    have ek : k = o := by omega
    rw [ek, r_tw_i h kd hcl hj ho N N1 hN (fun z => absurd hjo z) (fun _ => e2)]
    exact r_tw0 h kd hcl' hj N1 hN1 (cK I - (o + 1)) (o + 1) (by omega) (fun u u1 u2 z => by
      have := py_oth_u h.1 ho u2 hjo z
      omega)
  | m + 1, k, e => by
    rw [r_tw_i h kd hcl hj (by omega) N N hN (fun _ => rfl) (fun z => by
      have := py_oth_u h.1 ho (show k < cK I by omega) hjo z
      omega)]
    exact r_tw1 h kd hcl hcl' hj ho hjo N N1 hN hN1 e2 m (k + 1) (by omega)
theorem r_tw_l (h : pu_St I L s0) (kd : Int32) : ∀ (m j : Nat) (N : pu_M) (c : Nat) (t5 : Option Value), j + m = cK I → c ≤ 200 → py_rpr s0 N c → py_PT I L a b (fun t => N.1 72 (60008 + 2 * t)) (fun t => N.1 72 (60008 + 2 * t + 1)) j c → ∃ N1 c1, c1 ≤ 200 ∧ py_rpr s0 N1 c1 ∧ N1.2 = N.2 ∧ (∀ x j, x ≠ 72 → N1.1 x j = N.1 x j) ∧ py_PT I L a b (fun t => N1.1 72 (60008 + 2 * t)) (fun t => N1.1 72 (60008 + 2 * t + 1)) (cK I) c1 ∧ pu_r 517 [some (.ref 71), some (.int kd), some (.int (nI a)), some (.int (nI b)), some (.int (nI j)), t5] [] N = some (some (.int (nI c1)), N1)
  | 0, j, N, c, t5, e, hcl, hN, pt => by
    have hw := h.1
    have bK := wx_bK hw
    obtain ⟨hx, fr, h14⟩ := id hN
    have h3 : N.1 72 3 = nI (cK I) := by rw [fr 3 (by omega) (by omega)]; exact rl_h3 h.2
    have hc : nI (cK I) ≤ nI (cK I) := nI_le (by omega) (by omega)
    refine ⟨N, c, hcl, hN, rfl, fun _ _ _ => rfl, by rw [show cK I = j by omega]; exact pt, ?_⟩
    rw [show j = cK I by omega]
    rw [qX12_twice_90]
    simp [bX12_twice_90, bX12_twice_200, a_ai, a_ald, a_gr, a_icge, a_ild, a_iret, a_ist, a_push, fx_71_0 hx, sh_71, sh_72, pu_rv, pu_as, Value.category, pu_bk, pu_kl, List.replicate, pu_wi_1, pu_wi_2, nl_add, nl_ladd, nl_aa, nl_mul, nl_rmul, nl_mm, pu_qe0, pu_qe1, h3, hc, h14]
    all_goals try simp (maxSteps := 400000) (disch := omega) [nl_tle, nl_fle, nl_tlt, nl_flt, nl_teq, nl_feq, nl_sub, nl_ss, nl_lt, nl_llt, nl_ltt, nl_le, nl_lle, nl_lee, nl_eq, nl_leq, nl_ee, nl_div, nl_rem, nl_cl, nl_n1, nl_n2, nl_n3, nl_n4, nl_add, nl_ladd, nl_aa, nl_mul, nl_rmul, nl_mm, pu_wi_1, pu_wi_2, bX12_twice_90, bX12_twice_200, a_ai, a_ald, a_gr, a_icge, a_ild, a_iret, a_ist, a_push, fx_71_0 hx, sh_71, sh_72, pu_rv, pu_as, Value.category, pu_bk, pu_kl, pu_qe0, pu_qe1, h3, hc, h14]
    all_goals try simp [bX12_twice_90, bX12_twice_200, a_ai, a_ald, a_gr, a_icge, a_ild, a_iret, a_ist, a_push, fx_71_0 hx, sh_71, sh_72, pu_rv, pu_as, Value.category, pu_bk, pu_kl, List.replicate, pu_wi_1, pu_wi_2, nl_add, nl_ladd, nl_aa, nl_mul, nl_rmul, nl_mm, pu_qe0, pu_qe1, h3, hc, h14]
    all_goals try simp (maxSteps := 400000) (disch := omega) [nl_tle, nl_fle, nl_tlt, nl_flt, nl_teq, nl_feq, nl_sub, nl_ss, nl_lt, nl_llt, nl_ltt, nl_le, nl_lle, nl_lee, nl_eq, nl_leq, nl_ee, nl_div, nl_rem, nl_cl, nl_n1, nl_n2, nl_n3, nl_n4, nl_add, nl_ladd, nl_aa, nl_mul, nl_rmul, nl_mm, pu_wi_1, pu_wi_2, bX12_twice_90, bX12_twice_200, a_ai, a_ald, a_gr, a_icge, a_ild, a_iret, a_ist, a_push, fx_71_0 hx, sh_71, sh_72, pu_rv, pu_as, Value.category, pu_bk, pu_kl, pu_qe0, pu_qe1, h3, hc, h14]
    all_goals try simp [bX12_twice_90, bX12_twice_200, a_ai, a_ald, a_gr, a_icge, a_ild, a_iret, a_ist, a_push, fx_71_0 hx, sh_71, sh_72, pu_rv, pu_as, Value.category, pu_bk, pu_kl, List.replicate, pu_wi_1, pu_wi_2, nl_add, nl_ladd, nl_aa, nl_mul, nl_rmul, nl_mm, pu_qe0, pu_qe1, h3, hc, h14]
    all_goals try simp (maxSteps := 400000) (disch := omega) [nl_tle, nl_fle, nl_tlt, nl_flt, nl_teq, nl_feq, nl_sub, nl_ss, nl_lt, nl_llt, nl_ltt, nl_le, nl_lle, nl_lee, nl_eq, nl_leq, nl_ee, nl_div, nl_rem, nl_cl, nl_n1, nl_n2, nl_n3, nl_n4, nl_add, nl_ladd, nl_aa, nl_mul, nl_rmul, nl_mm, pu_wi_1, pu_wi_2, bX12_twice_90, bX12_twice_200, a_ai, a_ald, a_gr, a_icge, a_ild, a_iret, a_ist, a_push, fx_71_0 hx, sh_71, sh_72, pu_rv, pu_as, Value.category, pu_bk, pu_kl, pu_qe0, pu_qe1, h3, hc, h14]
    all_goals try simp [bX12_twice_90, bX12_twice_200, a_ai, a_ald, a_gr, a_icge, a_ild, a_iret, a_ist, a_push, fx_71_0 hx, sh_71, sh_72, pu_rv, pu_as, Value.category, pu_bk, pu_kl, List.replicate, pu_wi_1, pu_wi_2, nl_add, nl_ladd, nl_aa, nl_mul, nl_rmul, nl_mm, pu_qe0, pu_qe1, h3, hc, h14]
  | m + 1, j, N, c, t5, e, hcl, hN, pt => by
    have hw := h.1
    have bK := wx_bK hw
    have hj : j < cK I := by omega
    obtain ⟨hx, fr, h14⟩ := id hN
    have h3 : N.1 72 3 = nI (cK I) := by rw [fr 3 (by omega) (by omega)]; exact rl_h3 h.2
    have hc : ¬ nI (cK I) ≤ nI j := nI_ge (by omega) (by omega)
    have ST : ∀ R, pu_r 518 [some (.ref 71), some (.int kd), some (.int (nI a)), some (.int (nI b)), some (.int (nI j)), some (.int (nI 0))] [] N = R → pu_r 517 [some (.ref 71), some (.int kd), some (.int (nI a)), some (.int (nI b)), some (.int (nI j)), t5] [] N = R := fun R hR => by
      rw [nI_0] at hR
      rw [qX12_twice_90]
      simp [bX12_twice_90, bX12_twice_200, a_ai, a_ald, a_gr, a_icge, a_ild, a_iret, a_ist, a_push, fx_71_0 hx, sh_71, sh_72, pu_rv, pu_as, Value.category, pu_bk, pu_kl, List.replicate, pu_wi_1, pu_wi_2, nl_add, nl_ladd, nl_aa, nl_mul, nl_rmul, nl_mm, pu_qe0, pu_qe1, h3, hc, hR]
      all_goals try simp (maxSteps := 400000) (disch := omega) [nl_tle, nl_fle, nl_tlt, nl_flt, nl_teq, nl_feq, nl_sub, nl_ss, nl_lt, nl_llt, nl_ltt, nl_le, nl_lle, nl_lee, nl_eq, nl_leq, nl_ee, nl_div, nl_rem, nl_cl, nl_n1, nl_n2, nl_n3, nl_n4, nl_add, nl_ladd, nl_aa, nl_mul, nl_rmul, nl_mm, pu_wi_1, pu_wi_2, bX12_twice_90, bX12_twice_200, a_ai, a_ald, a_gr, a_icge, a_ild, a_iret, a_ist, a_push, fx_71_0 hx, sh_71, sh_72, pu_rv, pu_as, Value.category, pu_bk, pu_kl, pu_qe0, pu_qe1, h3, hc, hR]
      all_goals try simp [bX12_twice_90, bX12_twice_200, a_ai, a_ald, a_gr, a_icge, a_ild, a_iret, a_ist, a_push, fx_71_0 hx, sh_71, sh_72, pu_rv, pu_as, Value.category, pu_bk, pu_kl, List.replicate, pu_wi_1, pu_wi_2, nl_add, nl_ladd, nl_aa, nl_mul, nl_rmul, nl_mm, pu_qe0, pu_qe1, h3, hc, hR]
      all_goals try simp (maxSteps := 400000) (disch := omega) [nl_tle, nl_fle, nl_tlt, nl_flt, nl_teq, nl_feq, nl_sub, nl_ss, nl_lt, nl_llt, nl_ltt, nl_le, nl_lle, nl_lee, nl_eq, nl_leq, nl_ee, nl_div, nl_rem, nl_cl, nl_n1, nl_n2, nl_n3, nl_n4, nl_add, nl_ladd, nl_aa, nl_mul, nl_rmul, nl_mm, pu_wi_1, pu_wi_2, bX12_twice_90, bX12_twice_200, a_ai, a_ald, a_gr, a_icge, a_ild, a_iret, a_ist, a_push, fx_71_0 hx, sh_71, sh_72, pu_rv, pu_as, Value.category, pu_bk, pu_kl, pu_qe0, pu_qe1, h3, hc, hR]
      all_goals try simp [bX12_twice_90, bX12_twice_200, a_ai, a_ald, a_gr, a_icge, a_ild, a_iret, a_ist, a_push, fx_71_0 hx, sh_71, sh_72, pu_rv, pu_as, Value.category, pu_bk, pu_kl, List.replicate, pu_wi_1, pu_wi_2, nl_add, nl_ladd, nl_aa, nl_mul, nl_rmul, nl_mm, pu_qe0, pu_qe1, h3, hc, hR]
      all_goals try simp (maxSteps := 400000) (disch := omega) [nl_tle, nl_fle, nl_tlt, nl_flt, nl_teq, nl_feq, nl_sub, nl_ss, nl_lt, nl_llt, nl_ltt, nl_le, nl_lle, nl_lee, nl_eq, nl_leq, nl_ee, nl_div, nl_rem, nl_cl, nl_n1, nl_n2, nl_n3, nl_n4, nl_add, nl_ladd, nl_aa, nl_mul, nl_rmul, nl_mm, pu_wi_1, pu_wi_2, bX12_twice_90, bX12_twice_200, a_ai, a_ald, a_gr, a_icge, a_ild, a_iret, a_ist, a_push, fx_71_0 hx, sh_71, sh_72, pu_rv, pu_as, Value.category, pu_bk, pu_kl, pu_qe0, pu_qe1, h3, hc, hR]
      all_goals try simp [bX12_twice_90, bX12_twice_200, a_ai, a_ald, a_gr, a_icge, a_ild, a_iret, a_ist, a_push, fx_71_0 hx, sh_71, sh_72, pu_rv, pu_as, Value.category, pu_bk, pu_kl, List.replicate, pu_wi_1, pu_wi_2, nl_add, nl_ladd, nl_aa, nl_mul, nl_rmul, nl_mm, pu_qe0, pu_qe1, h3, hc, hR]
    by_cases c2 : ∃ o, o < cK I ∧ py_oth I L a b j o
    rotate_left
    · rw [ST _ (r_tw0 h kd hcl hj N hN (cK I) 0 (by omega) (fun o _ o1 z => c2 ⟨o, o1, z⟩))]
      exact r_tw_l h kd m (j + 1) N c (some (.int (nI (cK I)))) (by omega) hcl hN ⟨c, pt, Or.inl ⟨fun o o1 z => c2 ⟨o, o1, z⟩, rfl⟩⟩
    · obtain ⟨o, o1, o2⟩ := c2
      obtain ⟨P, W, n, p1, p2, p3, p4, p5, p6, p7, p8⟩ := r_pairs h (a := j) (b := o) (py_HBp hw hj pt) N hN
      rw [ST _ (r_tw1 h kd hcl p1 hj o1 o2 N P hN p2 p8 o 0 (by omega))]
      obtain ⟨N1, c1, x1, x2, x3, x4, x5, x6⟩ := r_tw_l h kd m (j + 1) P (c + n) (some (.int (nI (cK I)))) (by omega) p1 p2 ⟨c, py_PT_c j c p5 pt, Or.inr ⟨o, W, n, o1, o2, p7, rfl, p6⟩⟩
      exact ⟨N1, c1, x1, x2, by rw [x3, p3], fun x i z => by rw [x4 x i z, p4 x i z], x5, x6⟩
end
