/-! the invariant of the law's loop, in pieces -/
def pu_tp (M : pu_M) : Prop := ∃ t, t ≤ 1200 ∧ M.1 1 0 = nI t ∧ M.1 71 4 = nI t ∧ ∀ j, j < t → M.1 2 j = M.1 75 j &&& 255
def pu_ou (M : pu_M) : Prop := ∃ t, t ≤ 1200 ∧ M.1 3 0 = nI t ∧ M.1 71 8 = nI t ∧ ∀ j, j < t → M.1 4 j = M.1 77 j &&& 255
/-- the office at place b as the cells from 5 on -/
def pu_si (M : pu_M) (b : Nat) : Nat → Nat → Int32 := fun a j => if 5 ≤ a ∧ a < 58 then M.1 (a - 5 + b) j else 0
def pu_sj (M : pu_M) (b : Nat) : Nat → Nat → Int64 := fun a j => if 5 ≤ a ∧ a < 58 then M.2.1 (a - 5 + b) j else 0
theorem pu_tp_fr {M N : pu_M} (h : pu_tp M) (h1 : N.1 1 0 = M.1 1 0) (h2 : N.1 71 4 = M.1 71 4) (h3 : ∀ j, N.1 2 j = M.1 2 j) (h4 : ∀ j, N.1 75 j = M.1 75 j) : pu_tp N := by
  obtain ⟨t, a1, a2, a3, a4⟩ := h
  exact ⟨t, a1, by rw [h1, a2], by rw [h2, a3], fun j hj => by rw [h3, h4]; exact a4 j hj⟩
theorem pu_ou_fr {M N : pu_M} (h : pu_ou M) (h1 : N.1 3 0 = M.1 3 0) (h2 : N.1 71 8 = M.1 71 8) (h3 : ∀ j, N.1 4 j = M.1 4 j) (h4 : ∀ j, N.1 77 j = M.1 77 j) : pu_ou N := by
  obtain ⟨t, a1, a2, a3, a4⟩ := h
  exact ⟨t, a1, by rw [h1, a2], by rw [h2, a3], fun j hj => by rw [h3, h4]; exact a4 j hj⟩
/-- one image: none on either side, or an office at b that tells what the reference's row tells -/
def pu_im1 (St : (Nat → Nat → Int32) → (Nat → Nat → Int64) → (Nat → Int32) → Prop) (M : pu_M) (k : Nat) : Prop := (M.2.2.1 58 k = none ∧ M.1 74 k = 0) ∨ ∃ i, i < 3 ∧ M.2.2.1 58 k = some (86 + 53 * i) ∧ M.1 74 k = 1 ∧ 86 + 53 * i + 53 ≤ M.2.2.2 ∧ (∀ a j r, 5 ≤ a → a < 58 → pu_RT a j = some r → M.2.2.1 (a - 5 + (86 + 53 * i)) j = some (r - 5 + (86 + 53 * i))) ∧ St (pu_si M (86 + 53 * i)) (pu_sj M (86 + 53 * i)) (fun q => M.1 73 (70000 * k + q))
def pu_im (St : (Nat → Nat → Int32) → (Nat → Nat → Int64) → (Nat → Int32) → Prop) (M : pu_M) : Prop := (∃ n, n ≤ 3 ∧ M.2.2.2 = 86 + 53 * n) ∧ (∀ k, k < 3 → pu_im1 St M k) ∧ (∀ k l b, k < 3 → l < 3 → M.2.2.1 58 k = some b → M.2.2.1 58 l = some b → k = l) ∧ (∃ f : Nat → Bool, M.2.2.2 = 86 + 53 * ((if f 0 then 1 else 0) + (if f 1 then 1 else 0) + (if f 2 then 1 else 0)) ∧ ∀ k, k < 3 → (f k = true ↔ M.2.2.1 58 k ≠ none))
theorem pu_im_fr {St : (Nat → Nat → Int32) → (Nat → Nat → Int64) → (Nat → Int32) → Prop} {M N : pu_M} (h : pu_im St M) (h1 : N.2.2 = M.2.2) (h2 : ∀ a j, 86 ≤ a → N.1 a j = M.1 a j) (h3 : ∀ a j, 86 ≤ a → N.2.1 a j = M.2.1 a j) (h4 : ∀ j, N.1 74 j = M.1 74 j) (h5 : ∀ j, N.1 73 j = M.1 73 j) : pu_im St N := by
  have e1 : N.2.2.2 = M.2.2.2 := by rw [h1]
  have e2 : N.2.2.1 = M.2.2.1 := by rw [h1]
  refine ⟨by rw [e1]; exact h.1, fun k hk => ?_, by rw [e2]; exact h.2.2.1, by rw [e1, e2]; exact h.2.2.2⟩
  rcases h.2.1 k hk with q | ⟨i, q1, q2, q3, q4, q5, q6⟩
  · exact Or.inl ⟨by rw [e2]; exact q.1, by rw [h4]; exact q.2⟩
  · refine Or.inr ⟨i, q1, by rw [e2]; exact q2, by rw [h4]; exact q3, by rw [e1]; exact q4, by rw [e2]; exact q5, ?_⟩
    have f1 : pu_si N (86 + 53 * i) = pu_si M (86 + 53 * i) := by
      funext a j
      unfold pu_si
      split
      · exact h2 _ _ (by omega)
      · rfl
    have f2 : pu_sj N (86 + 53 * i) = pu_sj M (86 + 53 * i) := by
      funext a j
      unfold pu_sj
      split
      · exact h3 _ _ (by omega)
      · rfl
    have f3 : (fun q => N.1 73 (70000 * k + q)) = (fun q => M.1 73 (70000 * k + q)) := by
      funext q
      exact h5 _
    rw [f1, f2, f3]
    exact q6
