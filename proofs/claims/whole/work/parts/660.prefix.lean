/-! an office is told by its counts and by what lies below them -/
def pz_pg (I J : Nat → Nat → Int32) (a n : Nat) : Prop := ∀ j, j < n → J a j = I a j
/-- J and L' tell what I and L tell -/
def pz_pa (I : Nat → Nat → Int32) (L : Nat → Nat → Int64) (J : Nat → Nat → Int32) (L' : Nat → Nat → Int64) : Prop := ((∀ j, j < 3 → J 6 j = I 6 j) ∧ J 14 0 = I 14 0 ∧ J 19 0 = I 19 0 ∧ (∀ j, j < 2 → J 25 j = I 25 j) ∧ J 31 0 = I 31 0 ∧ J 42 0 = I 42 0 ∧ (∀ j, j < 8 → J 45 j = I 45 j)) ∧ (∀ a, 7 ≤ a → a ≤ 13 → pz_pg I J a (cP I)) ∧ (∀ a, 15 ≤ a → a ≤ 18 → pz_pg I J a (cU I)) ∧ (∀ a, 20 ≤ a → a ≤ 23 → pz_pg I J a (cN I)) ∧ ((∀ a, 27 ≤ a → a ≤ 28 → pz_pg I J a (cK I)) ∧ pz_pg I J 29 (2 * cK I) ∧ pz_pg I J 30 (2 * cK I * 100)) ∧ ((∀ a, 32 ≤ a → a ≤ 38 → pz_pg I J a (cD I)) ∧ (∀ a, 39 ≤ a → a ≤ 41 → pz_pg I J a (2 * cD I))) ∧ ((∀ j, j < 3 * cN I → L' 24 j = L 24 j) ∧ (∀ j, j < 3 * cT I → L' 26 j = L 26 j) ∧ (∀ j, j < cF I → L' 43 j = L 43 j ∧ L' 44 j = L 44 j)) ∧ (pz_pg I J 46 (cQ I) ∧ pz_pg I J 47 (cQ I) ∧ pz_pg I J 49 (cR I) ∧ pz_pg I J 50 (cR I) ∧ pz_pg I J 52 (cS I) ∧ pz_pg I J 53 (cS I) ∧ pz_pg I J 54 (cW I) ∧ pz_pg I J 55 (cE I) ∧ pz_pg I J 56 (cO I) ∧ pz_pg I J 57 (cO I))
section
variable {I J : Nat → Nat → Int32} {L L' : Nat → Nat → Int64}
theorem pz_pc (h : pz_pa I L J L') : cP J = cP I ∧ cU J = cU I ∧ cN J = cN I ∧ cT J = cT I ∧ cK J = cK I ∧ cD J = cD I ∧ cF J = cF I ∧ cQ J = cQ I ∧ cR J = cR I ∧ cS J = cS I ∧ cW J = cW I ∧ cE J = cE I ∧ cO J = cO I := by
  obtain ⟨⟨h6, h14, h19, h25, h31, h42, h45⟩, _⟩ := h
  refine ⟨?_, ?_, ?_, ?_, ?_, ?_, ?_, ?_, ?_, ?_, ?_, ?_, ?_⟩
  · unfold cP; rw [h6 2 (by omega)]
  · unfold cU; rw [h14]
  · unfold cN; rw [h19]
  · unfold cT; rw [h25 0 (by omega)]
  · unfold cK; rw [h25 1 (by omega)]
  · unfold cD; rw [h31]
  · unfold cF; rw [h42]
  · unfold cQ; rw [h45 2 (by omega)]
  · unfold cR; rw [h45 3 (by omega)]
  · unfold cS; rw [h45 4 (by omega)]
  · unfold cW; rw [h45 5 (by omega)]
  · unfold cE; rw [h45 6 (by omega)]
  · unfold cO; rw [h45 7 (by omega)]
theorem pz_p_c (h : pz_pa I L J L') (hw : pu_WF I L) : w_c J ∧ w_b J := by
  obtain ⟨c1, c2, c3, c4, c5, c6, c7, c8, c9, c10, c11, c12, c13⟩ := pz_pc h
  obtain ⟨⟨h6, h14, h19, h25, h31, h42, h45⟩, _⟩ := h
  refine ⟨⟨?_, ?_, ?_, ?_, ?_, ?_, ?_, ?_, ?_, ?_, ?_, ?_, ?_⟩, ⟨?_, ?_, ?_, ?_, ?_, ?_, ?_, ?_, ?_, ?_, ?_, ?_, ?_⟩⟩
  · rw [c1, h6 2 (by omega)]; exact wx_cP hw
  · rw [c2, h14]; exact wx_cU hw
  · rw [c3, h19]; exact wx_cN hw
  · rw [c4, h25 0 (by omega)]; exact wx_cT hw
  · rw [c5, h25 1 (by omega)]; exact wx_cK hw
  · rw [c6, h31]; exact wx_cD hw
  · rw [c7, h42]; exact wx_cF hw
  · rw [c8, h45 2 (by omega)]; exact wx_cQ hw
  · rw [c9, h45 3 (by omega)]; exact wx_cR hw
  · rw [c10, h45 4 (by omega)]; exact wx_cS hw
  · rw [c11, h45 5 (by omega)]; exact wx_cW hw
  · rw [c12, h45 6 (by omega)]; exact wx_cE hw
  · rw [c13, h45 7 (by omega)]; exact wx_cO hw
  · rw [c1]; exact wx_bP hw
  · rw [c2]; exact wx_bU hw
  · rw [c3]; exact wx_bN hw
  · rw [c4]; exact wx_bT hw
  · rw [c5]; exact wx_bK hw
  · rw [c6]; exact wx_bD hw
  · rw [c7]; exact wx_bF hw
  · rw [c8]; exact wx_bQ hw
  · rw [c9]; exact wx_bR hw
  · rw [c10]; exact wx_bS hw
  · rw [c11]; exact wx_bW hw
  · rw [c12]; exact wx_bE hw
  · rw [c13]; exact wx_bO hw
theorem pz_ptc (h : pz_pa I L J L') {p : Nat} {k : Int32} (hp : p < cP I) : pu_tc J p k = pu_tc I p k := by
  unfold pu_tc
  rw [h.2.1 9 (by omega) (by omega) p hp, h.2.1 10 (by omega) (by omega) p hp]
theorem pz_p_p (h : pz_pa I L J L') (hw : pu_WF I L) : w_p J := by
  obtain ⟨c1, c2, c3, c4, c5, c6, c7, c8, c9, c10, c11, c12, c13⟩ := pz_pc h
  have h6 := h.1.1
  have P := h.2.1
  unfold w_p
  rw [c1, c4, c5, h6 0 (by omega), h6 1 (by omega)]
  refine ⟨wx_p0 hw, wx_p1 hw, fun p hp => ?_, fun p hp => ?_, fun p hp => ?_, fun p hp => ?_, fun p hp => ?_, fun p hp => ?_, fun p hp => ?_, fun p r a b => ?_, fun k p r a b c d e => ?_, fun p r a b c => ?_⟩
  · rw [P 7 (by omega) (by omega) p hp]; exact wx_pf hw p hp
  · rw [P 8 (by omega) (by omega) p hp]; exact wx_pk hw p hp
  · rw [P 9 (by omega) (by omega) p hp]; exact wx_pa hw p hp
  · rw [P 10 (by omega) (by omega) p hp]; exact wx_pb hw p hp
  · rw [P 11 (by omega) (by omega) p hp]; exact wx_pt hw p hp
  · rw [P 12 (by omega) (by omega) p hp]; exact wx_pu hw p hp
  · rw [P 13 (by omega) (by omega) p hp, P 9 (by omega) (by omega) p hp]; exact wx_pr hw p hp
  · rw [P 8 (by omega) (by omega) p (by omega), P 8 (by omega) (by omega) r b]; exact wx_pm hw p r a b
  · rw [pz_ptc h (by omega)] at d
    rw [pz_ptc h c] at e
    rw [P 7 (by omega) (by omega) p (by omega), P 7 (by omega) (by omega) r c]
    exact wx_po hw k p r a b c d e
  · rw [P 12 (by omega) (by omega) p (by omega)] at c ⊢
    rw [P 12 (by omega) (by omega) r b] at c
    exact wx_pj hw p r a b c
end
