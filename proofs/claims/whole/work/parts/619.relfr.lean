/-! each group of the relation depends on its own stretch of s -/
theorem pu_Wd_fr {s s' : Nat → Int32} {at0 : Nat} {x : Int64} (h : pu_Wd s at0 x) (e : ∀ i, i < 12 → s' (at0 + i) = s (at0 + i)) : pu_Wd s' at0 x := by
  obtain ⟨ds, a1, a2, a3, a4⟩ := h
  exact ⟨ds, a1, a2, fun i hi => by rw [e i hi]; exact a3 i hi, a4⟩
theorem pz_nr_fr {I : Nat → Nat → Int32} {L : Nat → Nat → Int64} {s s' : Nat → Int32} {j k : Nat} (h : pz_nr I L s j k) (e : ∀ i, i < 5 → s' (7552 + 5 * j + i) = s (7552 + 5 * j + i)) (e1 : ∀ i, 32 ≤ i → i < 7520 → s' i = s i) : pz_nr I L s' j k := by
  obtain ⟨a1, a2, a3, a4, m, m1, m2, m3, m4, m5⟩ := h
  exact ⟨(e 0 (by omega)).trans a1, (e 1 (by omega)).trans a2, (e 3 (by omega)).trans a3, (e 4 (by omega)).trans a4, m, m1, m2, m3, (e 2 (by omega)).trans m4, fun w hw => pu_Wd_fr (m5 w hw) (fun i hi => e1 _ (by omega) (by omega))⟩
theorem rf_h {I : Nat → Nat → Int32} {s s' : Nat → Int32} (h : rl_h I s) (e0 : ∀ j, 0 ≤ j → j < 32 → s' j = s j) : rl_h I s' := by
  exact ⟨by rw [e0 _ (by omega) (by omega)]; exact h.1,
   by rw [e0 _ (by omega) (by omega)]; exact h.2.1,
   by rw [e0 _ (by omega) (by omega)]; exact h.2.2.1,
   by rw [e0 _ (by omega) (by omega)]; exact h.2.2.2.1,
   by rw [e0 _ (by omega) (by omega)]; exact h.2.2.2.2.1,
   by rw [e0 _ (by omega) (by omega)]; exact h.2.2.2.2.2.1,
   by rw [e0 _ (by omega) (by omega)]; exact h.2.2.2.2.2.2.1,
   by rw [e0 _ (by omega) (by omega)]; exact h.2.2.2.2.2.2.2.1,
   by rw [e0 _ (by omega) (by omega)]; exact h.2.2.2.2.2.2.2.2.1,
   by rw [e0 _ (by omega) (by omega)]; exact h.2.2.2.2.2.2.2.2.2.1,
   by rw [e0 _ (by omega) (by omega)]; exact h.2.2.2.2.2.2.2.2.2.2.1,
   by rw [e0 _ (by omega) (by omega)]; exact h.2.2.2.2.2.2.2.2.2.2.2.1,
   by rw [e0 _ (by omega) (by omega)]; exact h.2.2.2.2.2.2.2.2.2.2.2.2.1,
   by rw [e0 _ (by omega) (by omega)]; exact h.2.2.2.2.2.2.2.2.2.2.2.2.2.1,
   by rw [e0 _ (by omega) (by omega)]; exact h.2.2.2.2.2.2.2.2.2.2.2.2.2.2.1,
   by rw [e0 _ (by omega) (by omega)]; exact h.2.2.2.2.2.2.2.2.2.2.2.2.2.2.2.1,
   by rw [e0 _ (by omega) (by omega)]; exact h.2.2.2.2.2.2.2.2.2.2.2.2.2.2.2.2⟩
theorem rf_p {I : Nat → Nat → Int32} {s s' : Nat → Int32} (h : rl_p I s) (hb : cP I ≤ 200) (e0 : ∀ j, 28752 ≤ j → j < 30152 → s' j = s j) : rl_p I s' := by
  exact ⟨fun k hk => by rw [e0 _ (by omega) (by omega)]; exact h.1 k hk,
   fun k hk => by rw [e0 _ (by omega) (by omega)]; exact h.2.1 k hk,
   fun k hk => by rw [e0 _ (by omega) (by omega)]; exact h.2.2.1 k hk,
   fun k hk => by rw [e0 _ (by omega) (by omega)]; exact h.2.2.2.1 k hk,
   fun k hk => by rw [e0 _ (by omega) (by omega)]; exact h.2.2.2.2.1 k hk,
   fun k hk => by rw [e0 _ (by omega) (by omega)]; exact h.2.2.2.2.2.1 k hk,
   fun k hk => by rw [e0 _ (by omega) (by omega)]; exact h.2.2.2.2.2.2 k hk⟩
theorem rf_u {I : Nat → Nat → Int32} {s s' : Nat → Int32} (h : rl_u I s) (hb : cU I ≤ 3000) (e0 : ∀ j, 10752 ≤ j → j < 28752 → s' j = s j) : rl_u I s' := by
  exact ⟨fun k hk => by rw [e0 _ (by omega) (by omega)]; exact h.1 k hk,
   fun k hk => by rw [e0 _ (by omega) (by omega)]; exact h.2.1 k hk,
   fun k hk => by rw [e0 _ (by omega) (by omega)]; exact h.2.2.1 k hk,
   fun k hk => by rw [e0 _ (by omega) (by omega)]; exact h.2.2.2.1 k hk,
   fun k hk => by rw [e0 _ (by omega) (by omega)]; exact h.2.2.2.2.1 k hk,
   fun k hk => by rw [e0 _ (by omega) (by omega)]; exact h.2.2.2.2.2 k hk⟩
theorem rf_n {I : Nat → Nat → Int32} {L : Nat → Nat → Int64} {s s' : Nat → Int32} (h : rl_n I L s) (hb : cN I ≤ 400 ∧ cP I ≤ 200) (e0 : ∀ j, 7552 ≤ j → j < 9552 → s' j = s j) (e1 : ∀ j, 32 ≤ j → j < 7520 → s' j = s j) : rl_n I L s' := by
  exact ⟨fun k hk => by
    obtain ⟨j, j1, j2⟩ := h.1 k hk
    exact ⟨j, j1, pz_nr_fr j2 (fun i hi => e0 _ (by omega) (by omega)) (fun i a b => e1 _ a b)⟩,
   fun j hj => by
    obtain ⟨k, k1, k2⟩ := h.2.1 j hj
    exact ⟨k, k1, pz_nr_fr k2 (fun i hi => e0 _ (by omega) (by omega)) (fun i a b => e1 _ a b)⟩,
   fun k hk => by rw [e0 _ (by omega) (by omega)]; exact h.2.2.1 k hk,
   fun j l hj hl a b => by
    rw [e0 _ (by omega) (by omega), e0 (7552 + 5 * l) (by omega) (by omega)] at a
    rw [e0 _ (by omega) (by omega), e0 (7552 + 5 * l + 3) (by omega) (by omega)] at b
    exact h.2.2.2 j l hj hl a b⟩
theorem rf_t {I : Nat → Nat → Int32} {L : Nat → Nat → Int64} {s s' : Nat → Int32} (h : rl_t I L s) (hb : cT I ≤ 8) (e0 : ∀ j, 32 ≤ j → j < 7520 → s' j = s j) (e1 : ∀ j, 7520 ≤ j → j < 7528 → s' j = s j) : rl_t I L s' := by
  exact ⟨fun k hk w hw => pu_Wd_fr (h.1 k hk w hw) (fun i hi => e0 _ (by omega) (by omega)),
   fun k hk => by rw [e1 _ (by omega) (by omega)]; exact h.2 k hk⟩
theorem rf_k {I : Nat → Nat → Int32} {s s' : Nat → Int32} (h : rl_k I s) (hb : cK I ≤ 24) (e0 : ∀ j, 7528 ≤ j → j < 7552 → s' j = s j) (e1 : ∀ j, 30632 ≤ j → j < 59480 → s' j = s j) : rl_k I s' := by
  exact ⟨fun k hk => by rw [e0 _ (by omega) (by omega)]; exact h.1 k hk,
   fun k hk => by rw [e1 _ (by omega) (by omega)]; exact h.2.1 k hk,
   fun k i hk hi hl => by rw [e1 _ (by omega) (by omega)]; exact h.2.2 k i hk hi hl⟩
theorem rf_d {I : Nat → Nat → Int32} {s s' : Nat → Int32} (h : rl_d I s) (hb : cD I ≤ 100) (e0 : ∀ j, 9552 ≤ j → j < 10752 → s' j = s j) : rl_d I s' := by
  exact ⟨fun k hk => by rw [e0 _ (by omega) (by omega)]; exact h.1 k hk,
   fun k hk => by rw [e0 _ (by omega) (by omega)]; exact h.2.1 k hk,
   fun k hk => by rw [e0 _ (by omega) (by omega)]; exact h.2.2.1 k hk,
   fun k hk => by rw [e0 _ (by omega) (by omega)]; exact h.2.2.2.1 k hk,
   fun k hk => by rw [e0 _ (by omega) (by omega)]; exact h.2.2.2.2.1 k hk,
   fun k hk => by rw [e0 _ (by omega) (by omega)]; exact h.2.2.2.2.2.1 k hk,
   fun k hk => by rw [e0 _ (by omega) (by omega)]; exact h.2.2.2.2.2.2.1 k hk,
   fun k hk => by rw [e0 _ (by omega) (by omega)]; exact h.2.2.2.2.2.2.2.1 k hk,
   fun k hk => by rw [e0 _ (by omega) (by omega)]; exact h.2.2.2.2.2.2.2.2.1 k hk,
   fun k hk => by rw [e0 _ (by omega) (by omega)]; exact h.2.2.2.2.2.2.2.2.2.1 k hk,
   fun k hk => by rw [e0 _ (by omega) (by omega)]; exact h.2.2.2.2.2.2.2.2.2.2.1 k hk,
   fun k hk => by rw [e0 _ (by omega) (by omega)]; exact h.2.2.2.2.2.2.2.2.2.2.2 k hk⟩
theorem rf_f {I : Nat → Nat → Int32} {L : Nat → Nat → Int64} {s s' : Nat → Int32} (h : rl_f I L s) (hb : cF I ≤ 20) (e0 : ∀ j, 30152 ≤ j → j < 30632 → s' j = s j) : rl_f I L s' := by
  exact ⟨fun k hk => pu_Wd_fr (h.1 k hk) (fun i hi => e0 _ (by omega) (by omega)),
   fun k hk => pu_Wd_fr (h.2 k hk) (fun i hi => e0 _ (by omega) (by omega))⟩
theorem rf_e {I : Nat → Nat → Int32} {s s' : Nat → Int32} (h : rl_e I s) (hb : cS I ≤ 24 ∧ cE I ≤ 60 ∧ cQ I ≤ 100 ∧ cW I ≤ 100 ∧ cO I ≤ 60 ∧ cR I ≤ 200) (e0 : ∀ j, 59480 ≤ j → j < 65008 → s' j = s j) : rl_e I s' := by
  exact ⟨fun k hk => by rw [e0 _ (by omega) (by omega)]; exact h.1 k hk,
   fun k hk => by rw [e0 _ (by omega) (by omega)]; exact h.2.1 k hk,
   fun k hk => by rw [e0 _ (by omega) (by omega)]; exact h.2.2.1 k hk,
   fun k hk => by rw [e0 _ (by omega) (by omega)]; exact h.2.2.2.1 k hk,
   fun k hk => by rw [e0 _ (by omega) (by omega)]; exact h.2.2.2.2.1 k hk,
   fun k hk => by rw [e0 _ (by omega) (by omega)]; exact h.2.2.2.2.2.1 k hk,
   fun k hk => by rw [e0 _ (by omega) (by omega)]; exact h.2.2.2.2.2.2.1 k hk,
   fun k hk => by rw [e0 _ (by omega) (by omega)]; exact h.2.2.2.2.2.2.2.1 k hk,
   fun k hk => by rw [e0 _ (by omega) (by omega)]; exact h.2.2.2.2.2.2.2.2.1 k hk,
   fun k hk => by rw [e0 _ (by omega) (by omega)]; exact h.2.2.2.2.2.2.2.2.2 k hk⟩
