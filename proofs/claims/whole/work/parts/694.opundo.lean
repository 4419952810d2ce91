/-! undo -/
theorem py_clsN {x : Int32} {n : Nat} (hn : n < 2147483648) (h : x.toInt = n) : x = nI n := Int32.toInt_inj.mp (by rw [nl_n0 hn]; exact h)
theorem c_setRule {M : pu_M} {I : Nat → Nat → Int32} {L : Nat → Nat → Int64} (hx : pu_fx M) (hI : pu_ag M I) (hw : pu_WF I L) {k : Nat} (hk : k < cK I) (v : Int32) : pu_r 112 [some (.ref 25), some (.int (nI k)), some (.int v)] [] M = some (none, pu_wi M 27 k v) := by
  have e := c_isStreet hx hI hw (nI k)
  have bK := wx_bK hw
  rw [pu_q1 ⟨nI_pos (by omega), nI_lt hk (by omega)⟩] at e
  rw [qX10_setRule]
  simp [a_ent, bX10_setRule_0, bX10_setRule_15, a_ald, a_cv, a_gr, a_ifeq, a_ild, a_vret, a_wi, ag_27 hI, fx_25_3 hx, sh_25, sh_27, pu_rv, pu_as, Value.category, pu_bk, pu_kl, List.replicate, pu_wi_1, pu_wi_2, nl_add, nl_ladd, nl_aa, nl_mul, nl_rmul, nl_mm, pu_qe0, pu_qe1, e]
  all_goals try simp (maxSteps := 400000) (disch := omega) [nl_tle, nl_fle, nl_tlt, nl_flt, nl_teq, nl_feq, nl_sub, nl_ss, nl_lt, nl_llt, nl_ltt, nl_le, nl_lle, nl_lee, nl_eq, nl_leq, nl_ee, nl_div, nl_rem, nl_cl, nl_n1, nl_n2, nl_n3, nl_n4, nl_add, nl_ladd, nl_aa, nl_mul, nl_rmul, nl_mm, pu_wi_1, pu_wi_2, bX10_setRule_0, bX10_setRule_15, a_ald, a_cv, a_gr, a_ifeq, a_ild, a_vret, a_wi, ag_27 hI, fx_25_3 hx, sh_25, sh_27, pu_rv, pu_as, Value.category, pu_bk, pu_kl, pu_qe0, pu_qe1, e]
  all_goals try simp [bX10_setRule_0, bX10_setRule_15, a_ald, a_cv, a_gr, a_ifeq, a_ild, a_vret, a_wi, ag_27 hI, fx_25_3 hx, sh_25, sh_27, pu_rv, pu_as, Value.category, pu_bk, pu_kl, List.replicate, pu_wi_1, pu_wi_2, nl_add, nl_ladd, nl_aa, nl_mul, nl_rmul, nl_mm, pu_qe0, pu_qe1, e]
  all_goals try simp (maxSteps := 400000) (disch := omega) [nl_tle, nl_fle, nl_tlt, nl_flt, nl_teq, nl_feq, nl_sub, nl_ss, nl_lt, nl_llt, nl_ltt, nl_le, nl_lle, nl_lee, nl_eq, nl_leq, nl_ee, nl_div, nl_rem, nl_cl, nl_n1, nl_n2, nl_n3, nl_n4, nl_add, nl_ladd, nl_aa, nl_mul, nl_rmul, nl_mm, pu_wi_1, pu_wi_2, bX10_setRule_0, bX10_setRule_15, a_ald, a_cv, a_gr, a_ifeq, a_ild, a_vret, a_wi, ag_27 hI, fx_25_3 hx, sh_25, sh_27, pu_rv, pu_as, Value.category, pu_bk, pu_kl, pu_qe0, pu_qe1, e]
theorem py_kd {I J : Nat → Nat → Int32} {L : Nat → Nat → Int64} (hw : pu_WF I L) {P : Nat} (hP : cP I = P + 1) (b : py_ub I J P) (u : py_uc I J P) : ∀ k, k < cU J → pu_sl0 I k / 2 < cD J ∧ ∀ x, 39 ≤ x → x ≤ 41 → J x (pu_sl0 I k) = I x (pu_sl0 I k) := fun k hk => by
  obtain ⟨bU, bN, bK, bD⟩ := b
  obtain ⟨u18, u23, u37, u38, u39⟩ := u
  have P2 := wx_bP hw
  have tP := nl_n0 (a := P) (by omega)
  have a := (bU k).mp hk
  have o := pu_on (wx_uo hw k a.1)
  have t := pu_nnT (wx_uo hw k a.1).1
  have cc := wx_uc hw k a.1
  have y := wx_u4 hw ((I 17 k).toNatClampNeg + 1) k (by omega) a.1 ⟨by omega, by
    rcases cc.2.2 with z | z
    · exact Or.inl z
    · exact Or.inr (by omega)⟩
  have s1 := (pu_sl_lt hw a.1).1
  have d1 : pu_sl0 I k / 2 < cD J := (bD _).mpr ⟨by omega, by have := y.1.1; omega⟩
  refine ⟨d1, fun x h1 h2 => ?_⟩
  rcases Nat.mod_two_eq_zero_or_one (pu_sl0 I k) with z | z
  · rw [show pu_sl0 I k = 2 * (pu_sl0 I k / 2) by omega]
    exact u39 x _ h1 h2 d1
  · rcases u38 _ d1 with w | w
    · have := (y.2.2 z).2
      rw [w.1] at this
      omega
    · rw [show pu_sl0 I k = 2 * (pu_sl0 I k / 2) + 1 by omega]
      exact w.2.2 x h1 h2
/-- the relation behind an undo -/
theorem Rel_undo {I J : Nat → Nat → Int32} {L : Nat → Nat → Int64} {s s' : Nat → Int32} (hw : pu_WF I L) (hr : pu_Rel I L s) {P : Nat} (hP : cP I = P + 1) (b : py_ub I J P) (u : py_uc I J P) (F : ∀ x j, ¬ (x = 6 ∧ j = 2) → ¬ (x = 14 ∧ j = 0) → ¬ (x = 19 ∧ j = 0) → ¬ (x = 25 ∧ j = 1) → ¬ (x = 31 ∧ j = 0) → x ≠ 18 → x ≠ 23 → x ≠ 27 → x ≠ 37 → x ≠ 38 → ¬ (39 ≤ x ∧ x ≤ 41) → J x j = I x j) (cPJ : cP J = P)
    (h3 : s' 3 = nI (cK J) ∧ s' 4 = nI (cD J) ∧ s' 5 = nI P ∧ s' 6 = nI (cU J) ∧ s' 7 = nI (cN J))
    (hu : ∀ k, k < cU J → (s (10752 + 6 * k + 5) = nI P ∧ s' (10752 + 6 * k + 5) = -1) ∨ (s (10752 + 6 * k + 5) ≠ nI P ∧ s' (10752 + 6 * k + 5) = s (10752 + 6 * k + 5)))
    (hn : ∀ k, k < cN J → (s (7552 + 5 * k + 4) = nI P ∧ s' (7552 + 5 * k + 4) = -1) ∨ (s (7552 + 5 * k + 4) ≠ nI P ∧ s' (7552 + 5 * k + 4) = s (7552 + 5 * k + 4)))
    (hd : ∀ d, d < cD J → ∃ q, (∀ j, 9552 + 12 * d ≤ j → j < 9552 + 12 * d + 12 → q j = s' j) ∧ py_um s q (nI P) d)
    (ht : ∀ k, k < cT I → (s (7520 + k) = nI P ∧ s' (7520 + k) = -1) ∨ (s (7520 + k) ≠ nI P ∧ s' (7520 + k) = s (7520 + k)))
    (hk : ∀ k, k < cK J → s' (7528 + k) = J 27 k)
    (G : ∀ j, ¬ (3 ≤ j ∧ j ≤ 7) → ¬ (∃ k, k < cU J ∧ j = 10752 + 6 * k + 5) → ¬ (∃ k, k < cN J ∧ j = 7552 + 5 * k + 4) → ¬ (9552 ≤ j ∧ j < 10752) → ¬ (7520 ≤ j ∧ j < 7552) → s' j = s j) : pu_Rel J L s' := by
  have kdd := py_kd hw hP b u
  obtain ⟨bU, bN, bK, bD⟩ := b
  obtain ⟨u18, u23, u37, u38, u39⟩ := u
  have P2 := wx_bP hw
  have B1 := wx_bU hw
  have B2 := wx_bN hw
  have B3 := wx_bK hw
  have B4 := wx_bD hw
  have B5 := wx_bT hw
  have B6 := wx_bF hw
  have tP := nl_n0 (a := P) (by omega)
  have nP : ¬ nI P = -1 := fun q => by rw [nl_n1 _ (by omega)] at q; exact q
  have X : ∀ x j, (7 ≤ x ∧ x ≤ 13) ∨ (15 ≤ x ∧ x ≤ 17) ∨ (20 ≤ x ∧ x ≤ 22) ∨ x = 24 ∨ (28 ≤ x ∧ x ≤ 30) ∨ (32 ≤ x ∧ x ≤ 36) ∨ 42 ≤ x → J x j = I x j := fun x j r => F x j (by omega) (by omega) (by omega) (by omega) (by omega) (by omega) (by omega) (by omega) (by omega) (by omega) (by omega)
  have cTJ : cT J = cT I := by
    unfold cT
    rw [F 25 0 (by omega) (by omega) (by omega) (by omega) (by omega) (by omega) (by omega) (by omega) (by omega) (by omega) (by omega)]
  have cFJ : cF J = cF I := by
    unfold cF
    rw [X 42 0 (by omega)]
  have lU : cU J ≤ cU I := by
    apply Classical.byContradiction
    intro z
    have := (bU (cU I)).mp (by omega)
    omega
  have lN : cN J ≤ cN I := by
    apply Classical.byContradiction
    intro z
    have := (bN (cN I)).mp (by omega)
    omega
  have lK : cK J ≤ cK I := by
    apply Classical.byContradiction
    intro z
    have := (bK (cK I)).mp (by omega)
    omega
  have lD : cD J ≤ cD I := by
    apply Classical.byContradiction
    intro z
    have := (bD (cD I)).mp (by omega)
    omega
  have GG : ∀ j, j < 3 ∨ (8 ≤ j ∧ j < 7520) ∨ 28752 ≤ j → s' j = s j := fun j hj => G j (by omega) (fun ⟨k, k1, k2⟩ => by omega) (fun ⟨k, k1, k2⟩ => by omega) (by omega) (by omega)
  obtain ⟨rE, e1, e2, e3, e4, e5, e6⟩ := re_same (I := I) (J := J) (s := s') (fun x j h1 h2 => X x j (by omega))
  refine ⟨⟨?_, ?_, ?_, h3.1, h3.2.1, by rw [cPJ]; exact h3.2.2.1, h3.2.2.2.1, h3.2.2.2.2, ?_, ?_, ?_, ?_, ?_, ?_, ?_, ?_, ?_⟩, ?_, ?_, ?_, ?_, ?_, ?_, ?_, rE (rf_e (rg_e hr) ⟨wx_bS hw, wx_bE hw, wx_bQ hw, wx_bW hw, wx_bO hw, wx_bR hw⟩ (fun j a b => GG j (by omega)))⟩
  · rw [GG 0 (by omega), F 6 0 (by omega) (by omega) (by omega) (by omega) (by omega) (by omega) (by omega) (by omega) (by omega) (by omega) (by omega)]; exact rl_h0 hr
  · rw [GG 1 (by omega), F 6 1 (by omega) (by omega) (by omega) (by omega) (by omega) (by omega) (by omega) (by omega) (by omega) (by omega) (by omega)]; exact rl_h1 hr
  · rw [GG 2 (by omega), cTJ]; exact rl_h2 hr
  · rw [GG 8 (by omega), cFJ]; exact rl_h8 hr
  · rw [GG 9 (by omega), e1]; exact rl_h9 hr
  · rw [GG 10 (by omega), e2]; exact rl_h10 hr
  · rw [GG 11 (by omega), e3]; exact rl_h11 hr
  · rw [GG 12 (by omega), e4]; exact rl_h12 hr
  · rw [GG 13 (by omega), e5]; exact rl_h13 hr
  · rw [GG 14 (by omega), e6]; exact rl_h14 hr
  · rw [GG 15 (by omega), X 45 0 (by omega)]; exact rl_h15 hr
  · rw [GG 16 (by omega), X 45 1 (by omega)]; exact rl_h16 hr
  · unfold rl_p
    rw [cPJ]
    refine ⟨fun k hk => ?_, fun k hk => ?_, fun k hk => ?_, fun k hk => ?_, fun k hk => ?_, fun k hk => ?_, fun k hk => ?_⟩
    · rw [GG _ (by omega), X 8 k (by omega)]; exact rl_p0 hr k (by omega)
    · rw [GG _ (by omega), X 7 k (by omega)]; exact rl_p1 hr k (by omega)
    · rw [GG _ (by omega), X 9 k (by omega)]; exact rl_p2 hr k (by omega)
    · rw [GG _ (by omega), X 10 k (by omega)]; exact rl_p3 hr k (by omega)
    · rw [GG _ (by omega), X 11 k (by omega)]; exact rl_p4 hr k (by omega)
    · rw [GG _ (by omega), X 12 k (by omega)]; exact rl_p5 hr k (by omega)
    · rw [GG _ (by omega), X 13 k (by omega)]; exact rl_p6 hr k (by omega)
  · have Gu : ∀ k i, k < cU J → i < 5 → s' (10752 + 6 * k + i) = s (10752 + 6 * k + i) := fun k i hk hi => G _ (by omega) (fun ⟨l, k1, k2⟩ => by omega) (fun ⟨l, k1, k2⟩ => by omega) (by omega) (by omega)
    refine ⟨fun k hk => ?_, fun k hk => ?_, fun k hk => ?_, fun k hk => ?_, fun k hk => ?_, fun k hk => ?_⟩
    · rw [X 15 k (by omega), show 10752 + 6 * k = 10752 + 6 * k + 0 from rfl, Gu k 0 hk (by omega)]; exact rl_u0 hr k (by omega)
    · rw [X 15 k (by omega), Gu k 1 hk (by omega)]; exact rl_u1 hr k (by omega)
    · rw [X 15 k (by omega), Gu k 2 hk (by omega)]; exact (rl_u2 hr k (by omega)).trans ((kdd k hk).2 39 (by omega) (by omega)).symm
    · rw [X 16 k (by omega), Gu k 3 hk (by omega)]; exact rl_u3 hr k (by omega)
    · rw [X 17 k (by omega), Gu k 4 hk (by omega)]; exact rl_u4 hr k (by omega)
    · have a := rl_u5 hr k (by omega)
      rcases hu k hk with v | v
      · rcases u18 k hk with w | w
        · rw [v.2, w.2]
        · exact absurd (a.symm.trans v.1) w.1
      · rcases u18 k hk with w | w
        · exact absurd (a.trans w.1) v.1
        · rw [v.2, w.2]; exact a
  · have on : ∀ j k, j < cN I → k < cN I → pz_nr I L s j k → (j < cN J ↔ k < cN J) := fun j k hj hk q => by
      have a := rl_n3 hr j hj
      rw [q.2.2.1] at a
      constructor
      · intro z
        exact (bN k).mpr ⟨hk, by rw [a]; exact ((bN j).mp z).2⟩
      · intro z
        exact (bN j).mpr ⟨hj, by rw [← a]; exact ((bN k).mp z).2⟩
    have Gn : ∀ k i, k < cN J → i < 4 → s' (7552 + 5 * k + i) = s (7552 + 5 * k + i) := fun k i hk hi => G _ (by omega) (fun ⟨l, k1, k2⟩ => by omega) (fun ⟨l, k1, k2⟩ => by omega) (by omega) (by omega)
    have R : ∀ j k, j < cN J → k < cN J → pz_nr I L s j k → pz_nr J L s' j k := fun j k hj hk q => by
      obtain ⟨a1, a2, a3, a4, m, m1, m2, m3, m4, m5⟩ := q
      unfold pz_nr
      rw [X 20 k (by omega), X 21 k (by omega), X 22 k (by omega)]
      refine ⟨(Gn j 0 hj (by omega)).trans a1, (Gn j 1 hj (by omega)).trans a2, (Gn j 3 hj (by omega)).trans a3, ?_, m, m1, m2, m3, (Gn j 2 hj (by omega)).trans m4, fun w hw2 => pu_Wd_fr (m5 w hw2) (fun i hi => GG _ (by omega))⟩
      rcases hn j hj with v | v
      · rcases u23 k hk with w | w
        · rw [v.2, w.2]
        · exact absurd (a4.symm.trans v.1) w.1
      · rcases u23 k hk with w | w
        · exact absurd (a4.trans w.1) v.1
        · rw [v.2, w.2]; exact a4
    refine ⟨fun k hk => ?_, fun j hj => ?_, fun k hk => ?_, fun j l hj hl a c => ?_⟩
    · obtain ⟨j, j1, j2⟩ := rl_na hr k (by omega)
      have jj := (on j k j1 (by omega) j2).mpr hk
      exact ⟨j, jj, R j k jj hk j2⟩
    · obtain ⟨k, k1, k2⟩ := rl_nb hr j (by omega)
      have kk := (on j k (by omega) k1 k2).mp hj
      exact ⟨k, kk, R j k hj kk k2⟩
    · rw [X 22 k (by omega), Gn k 3 hk (by omega)]; exact rl_n3 hr k (by omega)
    · rw [show 7552 + 5 * j = 7552 + 5 * j + 0 from rfl, show 7552 + 5 * l = 7552 + 5 * l + 0 from rfl, Gn j 0 hj (by omega), Gn l 0 hl (by omega)] at a
      rw [Gn j 3 hj (by omega), Gn l 3 hl (by omega)] at c
      exact rl_ni hr j l (by omega) (by omega) a c
  · unfold rl_t
    rw [cPJ, cTJ]
    refine ⟨fun k hk w hw2 => pu_Wd_fr (rl_tw hr k hk w hw2) (fun i hi => GG _ (by omega)), fun k hk => ?_⟩
    rcases rl_tj hr k hk with ⟨a1, a2⟩ | ⟨p, a1, a2, a3, a4⟩
    · left
      rcases ht k hk with v | v
      · rw [a1] at v
        exact absurd v.1.symm nP
      · exact ⟨v.2.trans a1, fun p hp => by rw [X 12 p (by omega)]; exact a2 p (by omega)⟩
    · by_cases z : p = P
      · left
        rcases ht k hk with v | v
        · refine ⟨v.2, fun q hq e => ?_⟩
          rw [X 12 q (by omega)] at e
          have := a4 q (by omega) e
          omega
        · rw [a2, z] at v
          exact absurd rfl v.1
      · right
        rcases ht k hk with v | v
        · rw [a2, nI_eq (by omega) (by omega)] at v
          omega
        · exact ⟨p, by omega, v.2.trans a2, by rw [X 12 p (by omega)]; exact a3, fun q hq e => a4 q (by omega) (by rw [X 12 q (by omega)] at e; exact e)⟩
  · refine ⟨hk, fun k hk2 => ?_, fun k i hk2 hi hl => ?_⟩
    · rw [GG _ (by omega), X 29 k (by omega)]; exact rl_k1 hr k (by omega)
    · rw [X 29 k (by omega)] at hl
      rw [GG _ (by omega), X 30 _ (by omega)]
      exact rl_k2 hr k i (by omega) hi hl
  · have D : ∀ d, d < cD J → (∀ i, i = 1 ∨ i = 2 ∨ i = 3 ∨ i = 7 ∨ i = 8 ∨ i = 9 → s' (9552 + 12 * d + i) = s (9552 + 12 * d + i)) ∧ s' (9552 + 12 * d + 10) = J 37 d ∧ ((J 38 d = -1 ∧ I 38 d = nI P ∧ s' (9552 + 12 * d) = 0 ∧ s' (9552 + 12 * d + 11) = -1 ∧ s' (9552 + 12 * d + 4) = -1 ∧ s' (9552 + 12 * d + 5) = -1 ∧ s' (9552 + 12 * d + 6) = -1 ∧ J 39 (2 * d + 1) = -1 ∧ J 40 (2 * d + 1) = -1 ∧ J 41 (2 * d + 1) = -1) ∨ (J 38 d = I 38 d ∧ s' (9552 + 12 * d) = s (9552 + 12 * d) ∧ (∀ i, i = 4 ∨ i = 5 ∨ i = 6 ∨ i = 11 → s' (9552 + 12 * d + i) = s (9552 + 12 * d + i)) ∧ ∀ x, 39 ≤ x → x ≤ 41 → J x (2 * d + 1) = I x (2 * d + 1))) := fun d hd2 => by
      obtain ⟨q, q1, ⟨v1, v2, v3, v4⟩⟩ := hd d hd2
      refine ⟨fun i hi => ?_, ?_, ?_⟩
      · rw [← q1 _ (by omega) (by omega)]
        exact v2 i hi
      · rw [← q1 _ (by omega) (by omega)]
        have a := rl_d10 hr d (by omega)
        rcases v3 with v | v
        · rcases u37 d hd2 with w | w
          · rw [v.2, w.2]
          · exact absurd (a.symm.trans v.1) w.1
        · rcases u37 d hd2 with w | w
          · exact absurd (a.trans w.1) v.1
          · rw [v.2, w.2]; exact a
      · have a := rl_d11 hr d (by omega)
        rw [← q1 (9552 + 12 * d) (by omega) (by omega), ← q1 (9552 + 12 * d + 11) (by omega) (by omega), ← q1 (9552 + 12 * d + 4) (by omega) (by omega), ← q1 (9552 + 12 * d + 5) (by omega) (by omega), ← q1 (9552 + 12 * d + 6) (by omega) (by omega)]
        rcases v4 with v | v
        · rcases u38 d hd2 with w | w
          · exact Or.inl ⟨w.2.1, w.1, v.2.1, v.2.2.1, v.2.2.2.1, v.2.2.2.2.1, v.2.2.2.2.2, w.2.2⟩
          · exact absurd (a.symm.trans v.1) w.1
        · rcases u38 d hd2 with w | w
          · exact absurd (a.trans w.1) v.1
          · refine Or.inr ⟨w.2.1, v.2.1, fun i hi => ?_, w.2.2⟩
            rw [← q1 _ (by omega) (by omega)]
            exact v.2.2 i hi
    refine ⟨fun k hk => ?_, fun k hk => ?_, fun k hk => ?_, fun k hk => ?_, fun k hk => ?_, fun k hk => ?_, fun k hk => ?_, fun k hk => ?_, fun k hk => ?_, fun k hk => ?_, fun k hk => ?_, fun k hk => ?_⟩
    · rcases (D k hk).2.2 with v | v
      · rw [if_pos v.1, X 32 k (by omega), (wx_d1 hw k (by omega) (by rw [v.2.1]; exact nP)).1]; exact v.2.2.1
      · rw [v.1, X 32 k (by omega), v.2.1]; exact rl_d0 hr k (by omega)
    · rw [u39 39 k (by omega) (by omega) hk, (D k hk).1 1 (by omega)]; exact rl_d1 hr k (by omega)
    · rw [u39 40 k (by omega) (by omega) hk, (D k hk).1 2 (by omega)]; exact rl_d2 hr k (by omega)
    · rw [u39 41 k (by omega) (by omega) hk, (D k hk).1 3 (by omega)]; exact rl_d3 hr k (by omega)
    · rcases (D k hk).2.2 with v | v
      · rw [v.2.2.2.2.1, v.2.2.2.2.2.2.2.1]
      · rw [v.2.2.1 4 (by omega), v.2.2.2 39 (by omega) (by omega)]; exact rl_d4 hr k (by omega)
    · rcases (D k hk).2.2 with v | v
      · rw [v.2.2.2.2.2.1, v.2.2.2.2.2.2.2.2.1]
      · rw [v.2.2.1 5 (by omega), v.2.2.2 40 (by omega) (by omega)]; exact rl_d5 hr k (by omega)
    · rcases (D k hk).2.2 with v | v
      · rw [v.2.2.2.2.2.2.1, v.2.2.2.2.2.2.2.2.2]
      · rw [v.2.2.1 6 (by omega), v.2.2.2 41 (by omega) (by omega)]; exact rl_d6 hr k (by omega)
    · rw [X 35 k (by omega), (D k hk).1 7 (by omega)]; exact rl_d7 hr k (by omega)
    · rw [X 33 k (by omega), (D k hk).1 8 (by omega)]; exact rl_d8 hr k (by omega)
    · rw [X 36 k (by omega), (D k hk).1 9 (by omega)]; exact rl_d9 hr k (by omega)
    · exact (D k hk).2.1
    · rcases (D k hk).2.2 with v | v
      · rw [v.1]; exact v.2.2.2.1
      · rw [v.1, v.2.2.1 11 (by omega)]; exact rl_d11 hr k (by omega)
  · refine ⟨fun k hk => ?_, fun k hk => ?_⟩
    · rw [cFJ] at hk
      exact pu_Wd_fr (rl_f0 hr k hk) (fun i hi => GG _ (by omega))
    · rw [cFJ] at hk
      exact pu_Wd_fr (rl_f1 hr k hk) (fun i hi => GG _ (by omega))
