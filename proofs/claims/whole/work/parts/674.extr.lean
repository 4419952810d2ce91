/-! one more paper: the relation -/
section
variable {I J : Nat → Nat → Int32} {L L' : Nat → Nat → Int64} {s s' : Nat → Int32} {f a b ta tb ru : Int32}
theorem rp_ext (h : pz_pp I J f a b ta tb ru) (hP : cP I < 200) (hr : rl_p I s) (hs : ∀ j, 28752 ≤ j → j < 28752 + 7 * cP I → s' j = s j) (n0 : s' (28752 + 7 * cP I) = I 6 0) (n1 : s' (28752 + 7 * cP I + 1) = f) (n2 : s' (28752 + 7 * cP I + 2) = a) (n3 : s' (28752 + 7 * cP I + 3) = b) (n4 : s' (28752 + 7 * cP I + 4) = ta) (n5 : s' (28752 + 7 * cP I + 5) = tb) (n6 : s' (28752 + 7 * cP I + 6) = ru) : rl_p J s' := by
  have cJ := pz_cPJ h hP
  obtain ⟨⟨g0, g1, g2⟩, G, g7, g8, g9, g10, g11, g12, g13⟩ := id h
  obtain ⟨r0, r1, r2, r3, r4, r5, r6⟩ := hr
  unfold rl_p
  rw [cJ]
  refine ⟨fun k hk => ?_, fun k hk => ?_, fun k hk => ?_, fun k hk => ?_, fun k hk => ?_, fun k hk => ?_, fun k hk => ?_⟩
  · by_cases z : k < cP I
    · rw [hs _ (by omega) (by omega), G 8 (by omega) (by omega) k z]; exact r0 k z
    · rw [show k = cP I by omega, n0, g8]
  · by_cases z : k < cP I
    · rw [hs _ (by omega) (by omega), G 7 (by omega) (by omega) k z]; exact r1 k z
    · rw [show k = cP I by omega, n1, g7]
  · by_cases z : k < cP I
    · rw [hs _ (by omega) (by omega), G 9 (by omega) (by omega) k z]; exact r2 k z
    · rw [show k = cP I by omega, n2, g9]
  · by_cases z : k < cP I
    · rw [hs _ (by omega) (by omega), G 10 (by omega) (by omega) k z]; exact r3 k z
    · rw [show k = cP I by omega, n3, g10]
  · by_cases z : k < cP I
    · rw [hs _ (by omega) (by omega), G 11 (by omega) (by omega) k z]; exact r4 k z
    · rw [show k = cP I by omega, n4, g11]
  · by_cases z : k < cP I
    · rw [hs _ (by omega) (by omega), G 12 (by omega) (by omega) k z]; exact r5 k z
    · rw [show k = cP I by omega, n5, g12]
  · by_cases z : k < cP I
    · rw [hs _ (by omega) (by omega), G 13 (by omega) (by omega) k z]; exact r6 k z
    · rw [show k = cP I by omega, n6, g13]
theorem rt_np (h : pz_pp I J f a b ta (-1) ru) (hP : cP I < 200) (hT : cT J = cT I) (bT : cT I ≤ 8) (hL : ∀ j, j < 3 * cT I → L' 26 j = L 26 j) (hr : rl_t I L s) (e0 : ∀ j, 32 ≤ j → j < 320 → s' j = s j) (e1 : ∀ j, 7520 ≤ j → j < 7528 → s' j = s j) : rl_t J L' s' := by
  have cJ := pz_cPJ h hP
  obtain ⟨⟨g0, g1, g2⟩, G, g7, g8, g9, g10, g11, g12, g13⟩ := id h
  unfold rl_t
  rw [cJ, hT]
  refine ⟨fun k hk w hw => ?_, fun k hk => ?_⟩
  · rw [hL _ (by omega)]
    exact pu_Wd_fr (hr.1 k hk w hw) (fun i hi => e0 _ (by omega) (by omega))
  · rw [e1 _ (by omega) (by omega)]
    rcases hr.2 k hk with ⟨a1, a2⟩ | ⟨p, a1, a2, a3, a4⟩
    · refine Or.inl ⟨a1, fun p hp => ?_⟩
      by_cases z : p < cP I
      · rw [G 12 (by omega) (by omega) p z]; exact a2 p z
      · rw [show p = cP I by omega, g12]
        exact fun q => by rw [nl_n2 k (by omega)] at q; exact q
    · refine Or.inr ⟨p, by omega, a2, by rw [G 12 (by omega) (by omega) p a1]; exact a3, fun q hq e => ?_⟩
      by_cases z : q < cP I
      · rw [G 12 (by omega) (by omega) q z] at e; exact a4 q z e
      · rw [show q = cP I by omega, g12, nl_n2 k (by omega)] at e
        exact e.elim
theorem ru_same (hU : cU J = cU I) (h1 : ∀ x, 15 ≤ x → x ≤ 18 → ∀ k, k < cU I → J x k = I x k) (h2 : ∀ k, k < cU I → J 39 (pu_sl0 I k) = I 39 (pu_sl0 I k)) (hr : rl_u I s) : rl_u J s := by
  obtain ⟨r0, r1, r2, r3, r4, r5⟩ := hr
  unfold rl_u
  rw [hU]
  refine ⟨fun k hk => ?_, fun k hk => ?_, fun k hk => ?_, fun k hk => ?_, fun k hk => ?_, fun k hk => ?_⟩
  · rw [h1 15 (by omega) (by omega) k hk]; exact r0 k hk
  · rw [h1 15 (by omega) (by omega) k hk]; exact r1 k hk
  · rw [h1 15 (by omega) (by omega) k hk]; exact (r2 k hk).trans (h2 k hk).symm
  · rw [h1 16 (by omega) (by omega) k hk]; exact r3 k hk
  · rw [h1 17 (by omega) (by omega) k hk]; exact r4 k hk
  · rw [h1 18 (by omega) (by omega) k hk]; exact r5 k hk
theorem rd_same (hD : cD J = cD I) (h1 : ∀ x, 32 ≤ x → x ≤ 38 → ∀ k, k < cD I → J x k = I x k) (h2 : ∀ x, 39 ≤ x → x ≤ 41 → ∀ k, k < 2 * cD I → J x k = I x k) (hr : rl_d I s) : rl_d J s := by
  obtain ⟨r0, r1, r2, r3, r4, r5, r6, r7, r8, r9, r10, r11⟩ := hr
  unfold rl_d
  rw [hD]
  refine ⟨fun k hk => ?_, fun k hk => ?_, fun k hk => ?_, fun k hk => ?_, fun k hk => ?_, fun k hk => ?_, fun k hk => ?_, fun k hk => ?_, fun k hk => ?_, fun k hk => ?_, fun k hk => ?_, fun k hk => ?_⟩
  · rw [h1 38 (by omega) (by omega) k hk, h1 32 (by omega) (by omega) k hk]; exact r0 k hk
  · rw [h2 39 (by omega) (by omega) _ (by omega)]; exact r1 k hk
  · rw [h2 40 (by omega) (by omega) _ (by omega)]; exact r2 k hk
  · rw [h2 41 (by omega) (by omega) _ (by omega)]; exact r3 k hk
  · rw [h2 39 (by omega) (by omega) _ (by omega)]; exact r4 k hk
  · rw [h2 40 (by omega) (by omega) _ (by omega)]; exact r5 k hk
  · rw [h2 41 (by omega) (by omega) _ (by omega)]; exact r6 k hk
  · rw [h1 35 (by omega) (by omega) k hk]; exact r7 k hk
  · rw [h1 33 (by omega) (by omega) k hk]; exact r8 k hk
  · rw [h1 36 (by omega) (by omega) k hk]; exact r9 k hk
  · rw [h1 37 (by omega) (by omega) k hk]; exact r10 k hk
  · rw [h1 38 (by omega) (by omega) k hk]; exact r11 k hk
theorem rn_same (hN : cN J = cN I) (h1 : ∀ x, 20 ≤ x → x ≤ 23 → ∀ k, k < cN I → J x k = I x k) (h2 : ∀ j, j < 3 * cN I → L' 24 j = L 24 j) (hr : rl_n I L s) : rl_n J L' s := by
  have R : ∀ j k, k < cN I → pz_nr I L s j k → pz_nr J L' s j k := by
    rintro j k hk ⟨a1, a2, a3, a4, m, m1, m2, m3, m4, m5⟩
    unfold pz_nr
    rw [h1 20 (by omega) (by omega) k hk, h1 21 (by omega) (by omega) k hk, h1 22 (by omega) (by omega) k hk, h1 23 (by omega) (by omega) k hk]
    exact ⟨a1, a2, a3, a4, m, m1, m2, m3, m4, fun w hw2 => by
      rw [h2 _ (by omega)]
      exact m5 w hw2⟩
  obtain ⟨ra, rb, r3, ri⟩ := hr
  unfold rl_n
  rw [hN]
  refine ⟨fun k hk => ?_, fun j hj => ?_, fun k hk => ?_, ri⟩
  · obtain ⟨j, j1, j2⟩ := ra k hk
    exact ⟨j, j1, R j k hk j2⟩
  · obtain ⟨k, k1, k2⟩ := rb j hj
    exact ⟨k, k1, R j k k1 k2⟩
  · rw [h1 22 (by omega) (by omega) k hk]; exact r3 k hk
theorem re_same (h : ∀ x j, 45 ≤ x → x < 58 → J x j = I x j) : (rl_e I s → rl_e J s) ∧ (cS J = cS I ∧ cE J = cE I ∧ cQ J = cQ I ∧ cW J = cW I ∧ cO J = cO I ∧ cR J = cR I) := by
  have q : ∀ x, 45 ≤ x → x < 58 → J x = I x := fun x h1 h2 => funext (fun j => h x j h1 h2)
  have c1 : cS J = cS I := by unfold cS; rw [q 45 (by omega) (by omega)]
  have c2 : cE J = cE I := by unfold cE; rw [q 45 (by omega) (by omega)]
  have c3 : cQ J = cQ I := by unfold cQ; rw [q 45 (by omega) (by omega)]
  have c4 : cW J = cW I := by unfold cW; rw [q 45 (by omega) (by omega)]
  have c5 : cO J = cO I := by unfold cO; rw [q 45 (by omega) (by omega)]
  have c6 : cR J = cR I := by unfold cR; rw [q 45 (by omega) (by omega)]
  refine ⟨fun hr => ?_, c1, c2, c3, c4, c5, c6⟩
  unfold rl_e
  rw [c1, c2, c3, c4, c5, c6, q 52 (by omega) (by omega), q 53 (by omega) (by omega), q 55 (by omega) (by omega), q 46 (by omega) (by omega), q 47 (by omega) (by omega), q 54 (by omega) (by omega), q 56 (by omega) (by omega), q 57 (by omega) (by omega), q 49 (by omega) (by omega), q 50 (by omega) (by omega)]
  exact hr
theorem we_same (h : ∀ x j, 45 ≤ x → x < 58 → J x j = I x j) (hF : cF J = cF I) (hL : ∀ j, j < cF I → L' 43 j = L 43 j) (hw : w_e I L) : w_e J L' := by
  have q : ∀ x, 45 ≤ x → x < 58 → J x = I x := fun x h1 h2 => funext (fun j => h x j h1 h2)
  have c := (re_same (s := fun _ => 0) h).2
  unfold w_e
  rw [c.1, hF, c.2.2.2.1, q 53 (by omega) (by omega), q 54 (by omega) (by omega)]
  exact ⟨hw.1, fun k hk => by rw [hL k hk]; exact hw.2.1 k hk, hw.2.2⟩
/-- all of it, out of its groups -/
theorem St_join (hc : J 6 2 = nI (cP J) ∧ J 14 0 = nI (cU J) ∧ J 19 0 = nI (cN J) ∧ J 25 0 = nI (cT J) ∧ J 25 1 = nI (cK J) ∧ J 31 0 = nI (cD J) ∧ J 42 0 = nI (cF J)) (hb : cP J ≤ 200 ∧ cU J ≤ 3000 ∧ cN J ≤ 400 ∧ cT J ≤ 8 ∧ cK J ≤ 24 ∧ cD J ≤ 100 ∧ cF J ≤ 20) (hw : pu_WF I L) (he : ∀ x j, 45 ≤ x → x < 58 → J x j = I x j) (hF : cF J = cF I) (hL : ∀ j, j < cF I → L' 43 j = L 43 j ∧ L' 44 j = L 44 j) (wp : w_p J) (wu : w_u J) (wn : w_n J L') (wk : w_k J L') (wd : w_d J) (h0 : J 6 0 = I 6 0) (h1 : J 6 1 = I 6 1) (hr : pu_Rel I L s) (e1 : ∀ j, (8 ≤ j ∧ j < 17) ∨ j < 2 → s' j = s j) (e2 : s' 2 = nI (cT J) ∧ s' 3 = nI (cK J) ∧ s' 4 = nI (cD J) ∧ s' 5 = nI (cP J) ∧ s' 6 = nI (cU J) ∧ s' 7 = nI (cN J)) (rp : rl_p J s') (ru : rl_u J s') (rn : rl_n J L' s') (rt : rl_t J L' s') (rk : rl_k J s') (rd : rl_d J s') (e3 : ∀ j, 30152 ≤ j → j < 30632 → s' j = s j) (e4 : ∀ j, 59480 ≤ j → j < 65008 → s' j = s j) : pu_St J L' s' := by
  have q : ∀ x, 45 ≤ x → x < 58 → J x = I x := fun x h1 h2 => funext (fun j => he x j h1 h2)
  obtain ⟨rE, c1, c2, c3, c4, c5, c6⟩ := re_same (s := s') he
  have bF := wx_bF hw
  refine ⟨⟨⟨hc.1, hc.2.1, hc.2.2.1, hc.2.2.2.1, hc.2.2.2.2.1, hc.2.2.2.2.2.1, hc.2.2.2.2.2.2, ?_, ?_, ?_, ?_, ?_, ?_⟩, ⟨hb.1, hb.2.1, hb.2.2.1, hb.2.2.2.1, hb.2.2.2.2.1, hb.2.2.2.2.2.1, hb.2.2.2.2.2.2, ?_, ?_, ?_, ?_, ?_, ?_⟩, wp, wu, wn, wk, wd, we_same he hF (fun j hj => (hL j hj).1) (wg_e hw)⟩, ⟨?_, ?_, e2.1, e2.2.1, e2.2.2.1, e2.2.2.2.1, e2.2.2.2.2.1, e2.2.2.2.2.2, ?_, ?_, ?_, ?_, ?_, ?_, ?_, ?_, ?_⟩, rp, ru, rn, rt, rk, rd, ?_, rE (rf_e (rg_e hr) ⟨wx_bS hw, wx_bE hw, wx_bQ hw, wx_bW hw, wx_bO hw, wx_bR hw⟩ e4)⟩
  · rw [q 45 (by omega) (by omega), c3]; exact wx_cQ hw
  · rw [q 45 (by omega) (by omega), c6]; exact wx_cR hw
  · rw [q 45 (by omega) (by omega), c1]; exact wx_cS hw
  · rw [q 45 (by omega) (by omega), c4]; exact wx_cW hw
  · rw [q 45 (by omega) (by omega), c2]; exact wx_cE hw
  · rw [q 45 (by omega) (by omega), c5]; exact wx_cO hw
  · rw [c3]; exact wx_bQ hw
  · rw [c6]; exact wx_bR hw
  · rw [c1]; exact wx_bS hw
  · rw [c4]; exact wx_bW hw
  · rw [c2]; exact wx_bE hw
  · rw [c5]; exact wx_bO hw
  · rw [e1 _ (by omega), h0]; exact rl_h0 hr
  · rw [e1 _ (by omega), h1]; exact rl_h1 hr
  · rw [e1 _ (by omega), hF]; exact rl_h8 hr
  · rw [e1 _ (by omega), c1]; exact rl_h9 hr
  · rw [e1 _ (by omega), c2]; exact rl_h10 hr
  · rw [e1 _ (by omega), c3]; exact rl_h11 hr
  · rw [e1 _ (by omega), c4]; exact rl_h12 hr
  · rw [e1 _ (by omega), c5]; exact rl_h13 hr
  · rw [e1 _ (by omega), c6]; exact rl_h14 hr
  · rw [e1 _ (by omega), q 45 (by omega) (by omega)]; exact rl_h15 hr
  · rw [e1 _ (by omega), q 45 (by omega) (by omega)]; exact rl_h16 hr
  · refine ⟨fun k hk => ?_, fun k hk => ?_⟩
    · rw [hF] at hk
      rw [(hL k hk).1]
      exact pu_Wd_fr (rl_f0 hr k hk) (fun i hi => e3 _ (by omega) (by omega))
    · rw [hF] at hk
      rw [(hL k hk).2]
      exact pu_Wd_fr (rl_f1 hr k hk) (fun i hi => e3 _ (by omega) (by omega))
end
