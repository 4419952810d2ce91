/-! the desk's cells alone have changed -/
def pu_dk (I K : Nat → Nat → Int32) : Nat → Nat → Int32 := fun a j => if a < 45 then I a j else K a j
theorem pu_dk_e {I I' : Nat → Nat → Int32} (h : ∀ a j, a < 45 → I' a j = I a j) : I' = pu_dk I I' := by
  funext a j
  unfold pu_dk
  split
  · exact h a j (by assumption)
  · rfl
section
variable {I K : Nat → Nat → Int32} {L : Nat → Nat → Int64} {s s' : Nat → Int32}
def w_dk (K : Nat → Nat → Int32) : Prop := (K 45 2 = nI (cQ K) ∧ K 45 3 = nI (cR K) ∧ K 45 4 = nI (cS K) ∧ K 45 5 = nI (cW K) ∧ K 45 6 = nI (cE K) ∧ K 45 7 = nI (cO K)) ∧ (cQ K ≤ 100 ∧ cR K ≤ 200 ∧ cS K ≤ 24 ∧ cW K ≤ 100 ∧ cE K ≤ 60 ∧ cO K ≤ 60) ∧ (∀ k, k < cS K → 0 ≤ (K 53 k).toInt ∧ (K 53 k).toInt ≤ 2) ∧ (∀ k l, k < l → l < cW K → K 54 k ≠ K 54 l)
theorem w_dk_of (hw : pu_WF I L) : w_dk I := ⟨⟨wx_cQ hw, wx_cR hw, wx_cS hw, wx_cW hw, wx_cE hw, wx_cO hw⟩, ⟨wx_bQ hw, wx_bR hw, wx_bS hw, wx_bW hw, wx_bE hw, wx_bO hw⟩, wx_es hw, wx_ew hw⟩
def h_dk (K : Nat → Nat → Int32) (s : Nat → Int32) : Prop := s 9 = nI (cS K) ∧ s 10 = nI (cE K) ∧ s 11 = nI (cQ K) ∧ s 12 = nI (cW K) ∧ s 13 = nI (cO K) ∧ s 14 = nI (cR K) ∧ s 15 = K 45 0 ∧ s 16 = K 45 1
theorem h_dk_of (hr : pu_Rel I L s) : h_dk I s := ⟨rl_h9 hr, rl_h10 hr, rl_h11 hr, rl_h12 hr, rl_h13 hr, rl_h14 hr, rl_h15 hr, rl_h16 hr⟩
theorem St_desk (h : pu_St I L s) (hs : ∀ j, j < 9 ∨ (17 ≤ j ∧ j < 59480) → s' j = s j) (hk : w_dk K) (hh : h_dk K s') (he : rl_e K s') : pu_St (pu_dk I K) L s' := by
  obtain ⟨hw, hr⟩ := h
  obtain ⟨k1, k2, k3⟩ := hk
  obtain ⟨h9, h10, h11, h12, h13, h14, h15, h16⟩ := hh
  have q : ∀ j, j < 9 → s' j = s j := fun j hj => hs j (Or.inl hj)
  have E : ∀ j, 17 ≤ j → j < 59480 → s' j = s j := fun j h1 h2 => hs j (Or.inr ⟨h1, h2⟩)
  refine ⟨⟨⟨(wx_cP hw :), (wx_cU hw :), (wx_cN hw :), (wx_cT hw :), (wx_cK hw :), (wx_cD hw :), (wx_cF hw :), (k1.1 :), (k1.2.1 :), (k1.2.2.1 :), (k1.2.2.2.1 :), (k1.2.2.2.2.1 :), (k1.2.2.2.2.2 :)⟩, ⟨(wx_bP hw :), (wx_bU hw :), (wx_bN hw :), (wx_bT hw :), (wx_bK hw :), (wx_bD hw :), (wx_bF hw :), (k2.1 :), (k2.2.1 :), (k2.2.2.1 :), (k2.2.2.2.1 :), (k2.2.2.2.2.1 :), (k2.2.2.2.2.2 :)⟩, (wg_p hw :), (wg_u hw :), (wg_n hw :), (wg_k hw :), (wg_d hw :), ⟨(k3.1 :), (wx_ef hw :), (k3.2 :)⟩⟩, ⟨?_, ?_, ?_, ?_, ?_, ?_, ?_, ?_, ?_, (h9 :), (h10 :), (h11 :), (h12 :), (h13 :), (h14 :), (h15 :), (h16 :)⟩, ?_, ?_, ?_, ?_, ?_, ?_, ?_, (he :)⟩
  · rw [q _ (by omega)]; exact (rl_h0 hr :)
  · rw [q _ (by omega)]; exact (rl_h1 hr :)
  · rw [q _ (by omega)]; exact (rl_h2 hr :)
  · rw [q _ (by omega)]; exact (rl_h3 hr :)
  · rw [q _ (by omega)]; exact (rl_h4 hr :)
  · rw [q _ (by omega)]; exact (rl_h5 hr :)
  · rw [q _ (by omega)]; exact (rl_h6 hr :)
  · rw [q _ (by omega)]; exact (rl_h7 hr :)
  · rw [q _ (by omega)]; exact (rl_h8 hr :)
  · have T := rf_p (rg_p hr) (wx_bP hw) (s' := s') (fun j _ _ => E j (by omega) (by omega))
    exact (T :)
  · have T := rf_u (rg_u hr) (wx_bU hw) (s' := s') (fun j _ _ => E j (by omega) (by omega))
    exact (T :)
  · have T := rf_n (rg_n hr) ⟨wx_bN hw, wx_bP hw⟩ (s' := s') (fun j _ _ => E j (by omega) (by omega)) (fun j _ _ => E j (by omega) (by omega))
    exact (T :)
  · have T := rf_t (rg_t hr) (wx_bT hw) (s' := s') (fun j _ _ => E j (by omega) (by omega)) (fun j _ _ => E j (by omega) (by omega))
    exact (T :)
  · have T := rf_k (rg_k hr) (wx_bK hw) (s' := s') (fun j _ _ => E j (by omega) (by omega)) (fun j _ _ => E j (by omega) (by omega))
    exact (T :)
  · have T := rf_d (rg_d hr) (wx_bD hw) (s' := s') (fun j _ _ => E j (by omega) (by omega))
    exact (T :)
  · have T := rf_f (rg_f hr) (wx_bF hw) (s' := s') (fun j _ _ => E j (by omega) (by omega))
    exact (T :)
end
/-- stops: none, one more -/
theorem St_stop0 {I : Nat → Nat → Int32} {L : Nat → Nat → Int64} {s : Nat → Int32} (h : pu_St I L s) : pu_St (pu_ui I 45 4 0) L (pu_us s 9 0) := by
  rw [pu_dk_e (I := I) (I' := pu_ui I 45 4 0) (fun a j ha => by grind [pu_ui])]
  obtain ⟨⟨k1, k2, k3⟩, hh, he⟩ : w_dk I ∧ h_dk I s ∧ rl_e I s := ⟨w_dk_of h.1, h_dk_of h.2, rg_e h.2⟩
  refine St_desk h (fun j hj => by grind [pu_us]) ⟨⟨(k1.1 :), (k1.2.1 :), rfl, (k1.2.2.2.1 :), (k1.2.2.2.2.1 :), (k1.2.2.2.2.2 :)⟩, ⟨(k2.1 :), (k2.2.1 :), ?_, (k2.2.2.2.1 :), (k2.2.2.2.2.1 :), (k2.2.2.2.2.2 :)⟩, fun k hk => ?_, (k3.2 :)⟩ ⟨rfl, (hh.2.1 :), (hh.2.2.1 :), (hh.2.2.2.1 :), (hh.2.2.2.2.1 :), (hh.2.2.2.2.2.1 :), (hh.2.2.2.2.2.2.1 :), (hh.2.2.2.2.2.2.2 :)⟩ ?_
  · exact Nat.zero_le 24
  · exact absurd hk (Nat.not_lt_zero k)
  · have e2 := rf_e he ⟨k2.2.2.1, k2.2.2.2.2.1, k2.1, k2.2.2.2.1, k2.2.2.2.2.2, k2.2.1⟩ (s' := pu_us s 9 0) (fun j _ _ => if_neg (by omega))
    exact ⟨fun k hk => absurd hk (Nat.not_lt_zero k), fun k hk => absurd hk (Nat.not_lt_zero k), (e2.2.2.1 :), (e2.2.2.2.1 :), (e2.2.2.2.2.1 :), (e2.2.2.2.2.2.1 :), (e2.2.2.2.2.2.2.1 :), (e2.2.2.2.2.2.2.2.1 :), (e2.2.2.2.2.2.2.2.2.1 :), (e2.2.2.2.2.2.2.2.2.2 :)⟩
theorem St_stop1 {I : Nat → Nat → Int32} {L : Nat → Nat → Int64} {s : Nat → Int32} {st wy : Int32} (h : pu_St I L s) (hn : cS I < 24) (h1 : 0 ≤ wy.toInt) (h2 : wy.toInt ≤ 2) : pu_St (pu_ui (pu_ui (pu_ui I 52 (cS I) st) 53 (cS I) wy) 45 4 (nI (cS I + 1))) L (pu_us (pu_us (pu_us s (59480 + 2 * cS I) st) (59480 + 2 * cS I + 1) wy) 9 (nI (cS I + 1))) := by
  generalize hcn : cS I = n at *
  have hK : ∀ a j, a < 45 → pu_ui (pu_ui (pu_ui I 52 n st) 53 n wy) 45 4 (nI (n + 1)) a j = I a j := fun a j ha => by grind [pu_ui]
  rw [pu_dk_e hK]
  have hcS : cS (pu_ui (pu_ui (pu_ui I 52 n st) 53 n wy) 45 4 (nI (n + 1))) = n + 1 := nI_clamp (n := n + 1) (by omega)
  obtain ⟨⟨k1, k2, k3⟩, hh, he⟩ : w_dk I ∧ h_dk I s ∧ rl_e I s := ⟨w_dk_of h.1, h_dk_of h.2, rg_e h.2⟩
  refine St_desk h (fun j hj => by grind [pu_us]) ⟨⟨(k1.1 :), (k1.2.1 :), by rw [hcS]; rfl, (k1.2.2.2.1 :), (k1.2.2.2.2.1 :), (k1.2.2.2.2.2 :)⟩, ⟨(k2.1 :), (k2.2.1 :), by rw [hcS]; omega, (k2.2.2.2.1 :), (k2.2.2.2.2.1 :), (k2.2.2.2.2.2 :)⟩, fun k hk => ?_, (k3.2 :)⟩ ⟨by rw [hcS]; rfl, ?_⟩ ?_
  · rw [hcS] at hk
    have := k3.1 k
    grind [pu_ui]
  · refine ⟨?_, ?_, ?_, ?_, ?_, ?_, ?_⟩
    · have := hh.2.1
      rw [show pu_us (pu_us (pu_us s (59480 + 2 * n) st) (59480 + 2 * n + 1) wy) 9 (nI (n + 1)) 10 = s 10 by grind [pu_us]]
      exact (this :)
    · have := hh.2.2.1
      rw [show pu_us (pu_us (pu_us s (59480 + 2 * n) st) (59480 + 2 * n + 1) wy) 9 (nI (n + 1)) 11 = s 11 by grind [pu_us]]
      exact (this :)
    · have := hh.2.2.2.1
      rw [show pu_us (pu_us (pu_us s (59480 + 2 * n) st) (59480 + 2 * n + 1) wy) 9 (nI (n + 1)) 12 = s 12 by grind [pu_us]]
      exact (this :)
    · have := hh.2.2.2.2.1
      rw [show pu_us (pu_us (pu_us s (59480 + 2 * n) st) (59480 + 2 * n + 1) wy) 9 (nI (n + 1)) 13 = s 13 by grind [pu_us]]
      exact (this :)
    · have := hh.2.2.2.2.2.1
      rw [show pu_us (pu_us (pu_us s (59480 + 2 * n) st) (59480 + 2 * n + 1) wy) 9 (nI (n + 1)) 14 = s 14 by grind [pu_us]]
      exact (this :)
    · have := hh.2.2.2.2.2.2.1
      rw [show pu_us (pu_us (pu_us s (59480 + 2 * n) st) (59480 + 2 * n + 1) wy) 9 (nI (n + 1)) 15 = s 15 by grind [pu_us]]
      exact (this :)
    · have := hh.2.2.2.2.2.2.2
      rw [show pu_us (pu_us (pu_us s (59480 + 2 * n) st) (59480 + 2 * n + 1) wy) 9 (nI (n + 1)) 16 = s 16 by grind [pu_us]]
      exact (this :)
  · obtain ⟨r1, r2, r3, r4, r5, r6, r7, r8, r9, r10⟩ := he
    have E : ∀ j, 59528 ≤ j → pu_us (pu_us (pu_us s (59480 + 2 * n) st) (59480 + 2 * n + 1) wy) 9 (nI (n + 1)) j = s j := fun j hj => by grind [pu_us]
    refine ⟨fun k hk => ?_, fun k hk => ?_, fun k hk => ?_, fun k hk => ?_, fun k hk => ?_, fun k hk => ?_, fun k hk => ?_, fun k hk => ?_, fun k hk => ?_, fun k hk => ?_⟩
    · rw [hcS] at hk
      have := r1 k
      grind [pu_ui, pu_us]
    · rw [hcS] at hk
      have := r2 k
      grind [pu_ui, pu_us]
    · rw [E _ (by omega)]; exact (r3 k hk :)
    · rw [E _ (by omega)]; exact (r4 k hk :)
    · rw [E _ (by omega)]; exact (r5 k hk :)
    · rw [E _ (by omega)]; exact (r6 k hk :)
    · rw [E _ (by omega)]; exact (r7 k hk :)
    · rw [E _ (by omega)]; exact (r8 k hk :)
    · rw [E _ (by omega)]; exact (r9 k hk :)
    · rw [E _ (by omega)]; exact (r10 k hk :)
