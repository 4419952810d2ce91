/-! a SHORT form kept -/
theorem St_short {I J : Nat → Nat → Int32} {L L' : Nat → Nat → Int64} {s s' : Nat → Int32} (h : pu_St I L s) {k n' : Nat} {x y : Int64} (hn : (n' = cF I ∧ k < cF I) ∨ (n' = cF I + 1 ∧ k = cF I ∧ cF I < 20)) (hx0 : x ≠ 0) (F : ∀ z j, ¬ (z = 42 ∧ j = 0) → J z j = I z j) (v : J 42 0 = nI n') (FL : ∀ z j, ¬ ((z = 43 ∨ z = 44) ∧ j = k) → L' z j = L z j) (vL : L' 43 k = x ∧ L' 44 k = y) (G : ∀ j, j ≠ 8 → ¬ (30152 + 24 * k ≤ j ∧ j < 30152 + 24 * k + 24) → s' j = s j) (g8 : s' 8 = nI n') (gw : pu_Wd s' (30152 + 24 * k) x ∧ pu_Wd s' (30152 + 24 * k + 12) y) : pu_St J L' s' := by
  obtain ⟨hw, hr⟩ := h
  have bF := wx_bF hw
  have cFJ : cF J = n' := pz_cc v (by omega)
  have Y : ∀ x, x ≠ 42 → J x = I x := fun x hx => funext (fun j => F x j (by omega))
  have cP' : cP J = cP I := by unfold cP; rw [Y 6 (by omega)]
  have cU' : cU J = cU I := by unfold cU; rw [Y 14 (by omega)]
  have cN' : cN J = cN I := by unfold cN; rw [Y 19 (by omega)]
  have cK' : cK J = cK I := by unfold cK; rw [Y 25 (by omega)]
  have cT' : cT J = cT I := by unfold cT; rw [Y 25 (by omega)]
  have cD' : cD J = cD I := by unfold cD; rw [Y 31 (by omega)]
  have bN := wx_bN hw
  have bK := wx_bK hw
  have bP := wx_bP hw
  have bT := wx_bT hw
  have slE : ∀ k, pu_sl0 J k = pu_sl0 I k := fun k => by unfold pu_sl0; rw [Y 15 (by omega)]
  have tcE : ∀ p k, pu_tc J p k = pu_tc I p k := fun p k => by unfold pu_tc; rw [Y 9 (by omega), Y 10 (by omega)]
  have wp : w_p J := by
    unfold w_p
    simp only [tcE]
    rw [cP', cK', cT', Y 6 (by omega), Y 7 (by omega), Y 8 (by omega), Y 9 (by omega), Y 10 (by omega), Y 11 (by omega), Y 12 (by omega), Y 13 (by omega)]
    exact wg_p hw
  have wu : w_u J := by
    unfold w_u
    simp only [tcE, slE]
    rw [cP', cU', cD', cK', Y 15 (by omega), Y 16 (by omega), Y 17 (by omega), Y 18 (by omega), Y 32 (by omega), Y 36 (by omega), Y 37 (by omega), Y 38 (by omega), Y 39 (by omega), Y 40 (by omega), Y 41 (by omega)]
    exact wg_u hw
  have ctE : ∀ q t, pu_ct J q t = pu_ct I q t := fun q t => pz_ctc (fun p _ => by rw [Y 12 (by omega)]) t
  have wn : w_n J L' := by
    unfold w_n
    simp only [ctE]
    rw [cP', cN', cK', cT', Y 7 (by omega), Y 9 (by omega), Y 11 (by omega), Y 12 (by omega), Y 20 (by omega), Y 21 (by omega), Y 22 (by omega), Y 23 (by omega), Y 28 (by omega), show L' 24 = L 24 from funext (fun j => FL 24 j (by omega))]
    exact wg_n hw
  have wk : w_k J L' := by
    unfold w_k
    simp only [tcE]
    rw [cP', cK', cT', Y 9 (by omega), Y 27 (by omega), Y 28 (by omega), Y 29 (by omega), Y 30 (by omega), show L' 26 = L 26 from funext (fun j => FL 26 j (by omega))]
    exact wg_k hw
  have wd : w_d J := by
    unfold w_d
    simp only [tcE]
    rw [cP', cK', cD', Y 32 (by omega), Y 33 (by omega), Y 34 (by omega), Y 35 (by omega), Y 36 (by omega), Y 37 (by omega), Y 38 (by omega), Y 39 (by omega), Y 40 (by omega), Y 41 (by omega)]
    exact wg_d hw
  have GG : ∀ j, j ≠ 8 → ¬ (30152 ≤ j ∧ j < 30632) → s' j = s j := fun j a b => G j a (by omega)
  have he : ∀ x j, 45 ≤ x → x < 58 → J x j = I x j := fun x j h1 h2 => F x j (by omega)
  have q : ∀ x, 45 ≤ x → x < 58 → J x = I x := fun x h1 h2 => Y x (by omega)
  obtain ⟨rE, c1, c2, c3, c4, c5, c6⟩ := re_same (s := s') he
  have we : w_e J L' := by
    have w := wg_e hw
    unfold w_e
    rw [c1, cFJ, c4, q 53 (by omega) (by omega), q 54 (by omega) (by omega)]
    refine ⟨w.1, fun l hl => ?_, w.2.2⟩
    by_cases z : l = k
    · rw [z, vL.1]; exact hx0
    · rw [FL 43 l (by omega)]; exact w.2.1 l (by omega)
  refine ⟨⟨⟨?_, ?_, ?_, ?_, ?_, ?_, ?_, ?_, ?_, ?_, ?_, ?_, ?_⟩, ⟨by rw [cP']; exact bP, by rw [cU']; exact wx_bU hw, by rw [cN']; exact bN, by rw [cT']; exact bT, by rw [cK']; exact bK, by rw [cD']; exact wx_bD hw, by omega, ?_, ?_, ?_, ?_, ?_, ?_⟩, wp, wu, wn, wk, wd, we⟩, ⟨?_, ?_, ?_, ?_, ?_, ?_, ?_, ?_, ?_, ?_, ?_, ?_, ?_, ?_, ?_, ?_, ?_⟩, ?_, ?_, ?_, ?_, ?_, ?_, ?_, rE (rf_e (rg_e hr) ⟨wx_bS hw, wx_bE hw, wx_bQ hw, wx_bW hw, wx_bO hw, wx_bR hw⟩ (fun j _ _ => GG j (by omega) (by omega)))⟩
  · rw [cP', Y 6 (by omega)]; exact wx_cP hw
  · rw [cU', Y 14 (by omega)]; exact wx_cU hw
  · rw [cN', Y 19 (by omega)]; exact wx_cN hw
  · rw [cT', Y 25 (by omega)]; exact wx_cT hw
  · rw [cK', Y 25 (by omega)]; exact wx_cK hw
  · rw [cD', Y 31 (by omega)]; exact wx_cD hw
  · rw [cFJ]; exact v
  · rw [q 45 (by omega) (by omega), c3]; exact wx_cQ hw
  · rw [q 45 (by omega) (by omega), c6]; exact wx_cR hw
  · rw [q 45 (by omega) (by omega), c1]; exact wx_cS hw
  · rw [q 45 (by omega) (by omega), c4]; exact wx_cW hw
  · rw [q 45 (by omega) (by omega), c2]; exact wx_cE hw
  · rw [q 45 (by omega) (by omega), c5]; exact wx_cO hw
  · rw [c3]; exact wx_bQ hw
  · rw [c6]; exact wx_bR hw
  · rw [c1]; exact wx_bS hw
  · rw [c4]; exact wx_bW hw
  · rw [c2]; exact wx_bE hw
  · rw [c5]; exact wx_bO hw
  · rw [GG _ (by omega) (by omega), Y 6 (by omega)]; exact rl_h0 hr
  · rw [GG _ (by omega) (by omega), Y 6 (by omega)]; exact rl_h1 hr
  · rw [GG _ (by omega) (by omega), cT']; exact rl_h2 hr
  · rw [GG _ (by omega) (by omega), cK']; exact rl_h3 hr
  · rw [GG _ (by omega) (by omega), cD']; exact rl_h4 hr
  · rw [GG _ (by omega) (by omega), cP']; exact rl_h5 hr
  · rw [GG _ (by omega) (by omega), cU']; exact rl_h6 hr
  · rw [GG _ (by omega) (by omega), cN']; exact rl_h7 hr
  · rw [cFJ]; exact g8
  · rw [GG _ (by omega) (by omega), c1]; exact rl_h9 hr
  · rw [GG _ (by omega) (by omega), c2]; exact rl_h10 hr
  · rw [GG _ (by omega) (by omega), c3]; exact rl_h11 hr
  · rw [GG _ (by omega) (by omega), c4]; exact rl_h12 hr
  · rw [GG _ (by omega) (by omega), c5]; exact rl_h13 hr
  · rw [GG _ (by omega) (by omega), c6]; exact rl_h14 hr
  · rw [GG _ (by omega) (by omega), q 45 (by omega) (by omega)]; exact rl_h15 hr
  · rw [GG _ (by omega) (by omega), q 45 (by omega) (by omega)]; exact rl_h16 hr
  · have T := rf_p (rg_p hr) bP (s' := s') (fun j _ _ => GG j (by omega) (by omega))
    unfold rl_p
    rw [cP', Y 7 (by omega), Y 8 (by omega), Y 9 (by omega), Y 10 (by omega), Y 11 (by omega), Y 12 (by omega), Y 13 (by omega)]
    exact T
  · exact ru_same cU' (fun x _ _ k _ => F x k (by omega)) (fun k _ => F 39 _ (by omega)) (rf_u (rg_u hr) (wx_bU hw) (fun j _ _ => GG j (by omega) (by omega)))
  · refine rn_same cN' (fun x _ _ k _ => F x k (by omega)) (fun j _ => FL 24 j (by omega)) ?_
    have R : ∀ j k, j < cN I → pz_nr I L s j k → pz_nr I L s' j k := fun j k hj q => by
      obtain ⟨a1, a2, a3, a4, m, m1, m2, m3, m4, m5⟩ := q
      exact ⟨(GG _ (by omega) (by omega)).trans a1, (GG _ (by omega) (by omega)).trans a2, (GG _ (by omega) (by omega)).trans a3, (GG _ (by omega) (by omega)).trans a4, m, m1, m2, m3, (GG _ (by omega) (by omega)).trans m4, fun w hw2 => pu_Wd_fr (m5 w hw2) (fun i hi => GG _ (by omega) (by omega))⟩
    refine ⟨fun k hk => ?_, fun j hj => ?_, fun k hk => ?_, fun j l hj hl a c => ?_⟩
    · obtain ⟨j, j1, j2⟩ := rl_na hr k hk
      exact ⟨j, j1, R j k j1 j2⟩
    · obtain ⟨k, k1, k2⟩ := rl_nb hr j hj
      exact ⟨k, k1, R j k hj k2⟩
    · rw [GG _ (by omega) (by omega)]; exact rl_n3 hr k hk
    · rw [GG _ (by omega) (by omega), GG (7552 + 5 * l) (by omega) (by omega)] at a
      rw [GG _ (by omega) (by omega), GG (7552 + 5 * l + 3) (by omega) (by omega)] at c
      exact rl_ni hr j l hj hl a c
  · unfold rl_t
    rw [cP', cT', Y 12 (by omega), show L' 26 = L 26 from funext (fun j => FL 26 j (by omega))]
    refine ⟨fun k hk w hw2 => pu_Wd_fr (rl_tw hr k hk w hw2) (fun i hi => GG _ (by omega) (by omega)), fun k hk => ?_⟩
    rw [GG _ (by omega) (by omega)]
    exact rl_tj hr k hk
  · have T := rf_k (rg_k hr) bK (s' := s') (fun j _ _ => GG j (by omega) (by omega)) (fun j _ _ => GG j (by omega) (by omega))
    unfold rl_k
    rw [cK', Y 27 (by omega), Y 29 (by omega), Y 30 (by omega)]
    exact T
  · exact rd_same cD' (fun x _ _ k _ => F x k (by omega)) (fun x _ _ k _ => F x k (by omega)) (rf_d (rg_d hr) (wx_bD hw) (fun j _ _ => GG j (by omega) (by omega)))
  · refine ⟨fun l hl => ?_, fun l hl => ?_⟩
    · rw [cFJ] at hl
      by_cases z : l = k
      · rw [z, vL.1]; exact gw.1
      · rw [FL 43 l (by omega)]
        exact pu_Wd_fr (rl_f0 hr l (by omega)) (fun i hi => G _ (by omega) (by omega))
    · rw [cFJ] at hl
      by_cases z : l = k
      · rw [z, vL.2]; exact gw.2
      · rw [FL 44 l (by omega)]
        exact pu_Wd_fr (rl_f1 hr l (by omega)) (fun i hi => G _ (by omega) (by omega))
