/-! addresses: what stands in a text -/
def py_sw (b : Nat → Nat) (t : Nat) : Nat → Nat → Option (List (List Nat))
  | 0, _ => none
  | n + 1, pos => if py_lw b t 12 pos = [] then none else if pos + (py_lw b t 12 pos).length < t ∧ b (pos + (py_lw b t 12 pos).length) = 32 then (if pos + (py_lw b t 12 pos).length + 1 < t ∧ 49 ≤ b (pos + (py_lw b t 12 pos).length + 1) ∧ b (pos + (py_lw b t 12 pos).length + 1) ≤ 57 then some [py_lw b t 12 pos] else (py_sw b t n (pos + (py_lw b t 12 pos).length + 1)).map (fun l => py_lw b t 12 pos :: l)) else none
/-- where that reading ends -/
def py_sq (b : Nat → Nat) (t : Nat) : Nat → Nat → Nat
  | 0, pos => pos
  | n + 1, pos => if py_lw b t 12 pos = [] then pos else if pos + (py_lw b t 12 pos).length < t ∧ b (pos + (py_lw b t 12 pos).length) = 32 then (if pos + (py_lw b t 12 pos).length + 1 < t ∧ 49 ≤ b (pos + (py_lw b t 12 pos).length + 1) ∧ b (pos + (py_lw b t 12 pos).length + 1) ≤ 57 then pos + (py_lw b t 12 pos).length + 1 else py_sq b t n (pos + (py_lw b t 12 pos).length + 1)) else pos + (py_lw b t 12 pos).length
def py_nq (b : Nat → Nat) (t : Nat) : Nat → Nat → Nat
  | 0, pos => pos
  | n + 1, pos => if py_lw b t 12 pos = [] then pos else if pos + (py_lw b t 12 pos).length = t then t else if n = 0 then pos + (py_lw b t 12 pos).length else if b (pos + (py_lw b t 12 pos).length) = 32 then py_nq b t n (pos + (py_lw b t 12 pos).length + 1) else pos + (py_lw b t 12 pos).length
theorem py_sq_b (b : Nat → Nat) (t : Nat) : ∀ n pos, pos ≤ t → pos ≤ py_sq b t n pos ∧ py_sq b t n pos ≤ t ∧ (py_sw b t n pos ≠ none → py_sq b t n pos < t ∧ 49 ≤ b (py_sq b t n pos) ∧ b (py_sq b t n pos) ≤ 57)
  | 0, pos, h => ⟨Nat.le_refl _, h, fun z => absurd rfl z⟩
  | n + 1, pos, h => by
    have q := py_lw_l b t 12 pos h
    unfold py_sq py_sw
    by_cases c0 : py_lw b t 12 pos = []
    · rw [if_pos c0, if_pos c0]
      exact ⟨Nat.le_refl _, h, fun z => absurd rfl z⟩
    · rw [if_neg c0, if_neg c0]
      by_cases c1 : pos + (py_lw b t 12 pos).length < t ∧ b (pos + (py_lw b t 12 pos).length) = 32
      · rw [if_pos c1, if_pos c1]
        by_cases c2 : pos + (py_lw b t 12 pos).length + 1 < t ∧ 49 ≤ b (pos + (py_lw b t 12 pos).length + 1) ∧ b (pos + (py_lw b t 12 pos).length + 1) ≤ 57
        · rw [if_pos c2, if_pos c2]
          exact ⟨by omega, by omega, fun _ => c2⟩
        · rw [if_neg c2, if_neg c2]
          have ih := py_sq_b b t n (pos + (py_lw b t 12 pos).length + 1) (by omega)
          exact ⟨by omega, by omega, fun z => ih.2.2 (fun y => z (by rw [y]; rfl))⟩
      · rw [if_neg c1, if_neg c1]
        exact ⟨by omega, by omega, fun z => absurd rfl z⟩
theorem py_nq_b (b : Nat → Nat) (t : Nat) : ∀ n pos, pos ≤ t → pos ≤ py_nq b t n pos ∧ py_nq b t n pos ≤ t
  | 0, pos, h => ⟨Nat.le_refl _, h⟩
  | n + 1, pos, h => by
    have q := py_lw_l b t 12 pos h
    unfold py_nq
    by_cases c0 : py_lw b t 12 pos = []
    · rw [if_pos c0]
      exact ⟨Nat.le_refl _, h⟩
    · rw [if_neg c0]
      by_cases c1 : pos + (py_lw b t 12 pos).length = t
      · rw [if_pos c1]
        exact ⟨h, Nat.le_refl _⟩
      · rw [if_neg c1]
        by_cases c2 : n = 0
        · rw [if_pos c2]
          exact ⟨by omega, by omega⟩
        · rw [if_neg c2]
          by_cases c3 : b (pos + (py_lw b t 12 pos).length) = 32
          · rw [if_pos c3]
            have ih := py_nq_b b t n (pos + (py_lw b t 12 pos).length + 1) (by omega)
            exact ⟨by omega, by omega⟩
          · rw [if_neg c3]
            exact ⟨by omega, by omega⟩
/-- digits: their number, and where they end -/
def py_dv (b : Nat → Nat) (t : Nat) : Nat → Nat → Nat → Nat × Nat
  | 0, pos, v => (v, pos)
  | m + 1, pos, v => if pos < t ∧ 48 ≤ b pos ∧ b pos ≤ 57 then py_dv b t m (pos + 1) (v * 10 + b pos - 48) else (v, pos)
def py_d1 (b : Nat → Nat) (t : Nat) (m pos : Nat) : Nat × Nat := if pos < t ∧ 49 ≤ b pos ∧ b pos ≤ 57 then py_dv b t m (pos + 1) (b pos - 48) else (0, pos)
theorem py_dv_b (b : Nat → Nat) (t : Nat) : ∀ m pos v, pos ≤ t → v ≤ (py_dv b t m pos v).1 ∧ (py_dv b t m pos v).1 < (v + 1) * 10 ^ m ∧ pos ≤ (py_dv b t m pos v).2 ∧ (py_dv b t m pos v).2 ≤ t
  | 0, pos, v, h => ⟨Nat.le_refl _, by simp [py_dv], Nat.le_refl _, h⟩
  | m + 1, pos, v, h => by
    unfold py_dv
    by_cases c : pos < t ∧ 48 ≤ b pos ∧ b pos ≤ 57
    · rw [if_pos c]
      have ih := py_dv_b b t m (pos + 1) (v * 10 + b pos - 48) (by omega)
      have e : (v * 10 + b pos - 48 + 1) * 10 ^ m ≤ (v + 1) * 10 * 10 ^ m := Nat.mul_le_mul_right _ (by omega)
      have e2 : (v + 1) * 10 ^ (m + 1) = (v + 1) * 10 * 10 ^ m := by rw [Nat.pow_succ, Nat.mul_comm (10 ^ m) 10, Nat.mul_assoc]
      exact ⟨by omega, by omega, by omega, by omega⟩
    · rw [if_neg c]
      have e : (v + 1) * 1 ≤ (v + 1) * 10 ^ (m + 1) := Nat.mul_le_mul_left _ (Nat.pow_pos (by omega))
      exact ⟨Nat.le_refl _, by simp only; omega, Nat.le_refl _, h⟩
theorem py_d1_b (b : Nat → Nat) (t : Nat) (m pos : Nat) (h : pos ≤ t) : (py_d1 b t m pos).1 < 10 * 10 ^ m ∧ pos ≤ (py_d1 b t m pos).2 ∧ (py_d1 b t m pos).2 ≤ t ∧ (0 < (py_d1 b t m pos).1 ↔ pos < t ∧ 49 ≤ b pos ∧ b pos ≤ 57) := by
  unfold py_d1
  by_cases c : pos < t ∧ 49 ≤ b pos ∧ b pos ≤ 57
  · rw [if_pos c]
    have q := py_dv_b b t m (pos + 1) (b pos - 48) (by omega)
    have e : (b pos - 48 + 1) * 10 ^ m ≤ 10 * 10 ^ m := Nat.mul_le_mul_right _ (by omega)
    exact ⟨by omega, by omega, by omega, fun _ => c, fun _ => by omega⟩
  · rw [if_neg c]
    have : 0 < 10 * 10 ^ m := Nat.mul_pos (by omega) (Nat.pow_pos (by omega))
    exact ⟨by simp only; omega, Nat.le_refl _, h, fun z => absurd z (by simp), fun z => absurd z c⟩
def py_nl2 (b : Nat → Nat) (t : Nat) (p : Nat) : Nat × Nat := if p < t ∧ 97 ≤ b p ∧ b p ≤ 104 then (b p - 96, p + 1) else if p < t ∧ b p = 43 then (9, p + 1) else (0, p)
theorem py_nl2_b (b : Nat → Nat) (t : Nat) (p : Nat) (h : p ≤ t) : (py_nl2 b t p).1 ≤ 9 ∧ p ≤ (py_nl2 b t p).2 ∧ (py_nl2 b t p).2 ≤ t := by
  unfold py_nl2
  by_cases c : p < t ∧ 97 ≤ b p ∧ b p ≤ 104
  · rw [if_pos c]
    exact ⟨by simp only; omega, by simp only; omega, by simp only; omega⟩
  · rw [if_neg c]
    by_cases d : p < t ∧ b p = 43
    · rw [if_pos d]
      exact ⟨by simp only; omega, by simp only; omega, by simp only; omega⟩
    · rw [if_neg d]
      exact ⟨by simp only; omega, by simp only; omega, by simp only; omega⟩
/-- a wanted text -/
def py_mo (b : Nat → Nat) (t : Nat) : List Nat → Nat → Bool
  | [], _ => true
  | c :: cs, pos => if pos < t ∧ b pos = c then py_mo b t cs (pos + 1) else false
def py_mq (b : Nat → Nat) (t : Nat) : List Nat → Nat → Nat
  | [], pos => pos
  | c :: cs, pos => if pos < t ∧ b pos = c then py_mq b t cs (pos + 1) else pos
theorem py_mq_b (b : Nat → Nat) (t : Nat) : ∀ cs pos, pos ≤ t → pos ≤ py_mq b t cs pos ∧ py_mq b t cs pos ≤ t
  | [], pos, h => ⟨Nat.le_refl _, h⟩
  | c :: cs, pos, h => by
    unfold py_mq
    by_cases z : pos < t ∧ b pos = c
    · rw [if_pos z]
      have := py_mq_b b t cs (pos + 1) (by omega)
      exact ⟨by omega, by omega⟩
    · rw [if_neg z]
      exact ⟨Nat.le_refl _, h⟩
/-- EXTRA: ok, where it ends, its sort (0: none), its number -/
def py_x (b : Nat → Nat) (t : Nat) (p : Nat) : Bool × Nat × Nat × Nat :=
  if p < t ∧ b p = 32 then
    (if p + 1 < t ∧ b (p + 1) = 98 then (py_mo b t [98, 97, 99, 107] (p + 1), py_mq b t [98, 97, 99, 107] (p + 1), 2, 0)
    else if p + 1 < t ∧ b (p + 1) = 99 then (if py_mo b t [99, 111, 117, 114, 116, 32] (p + 1) = true then (decide (0 < (py_d1 b t 1 (py_mq b t [99, 111, 117, 114, 116, 32] (p + 1))).1), (py_d1 b t 1 (py_mq b t [99, 111, 117, 114, 116, 32] (p + 1))).2, 3, (py_d1 b t 1 (py_mq b t [99, 111, 117, 114, 116, 32] (p + 1))).1) else (false, py_mq b t [99, 111, 117, 114, 116, 32] (p + 1), 3, 0))
    else (if py_mo b t [102, 108, 111, 111, 114, 32] (p + 1) = true then (decide (0 < (py_d1 b t 1 (py_mq b t [102, 108, 111, 111, 114, 32] (p + 1))).1), (py_d1 b t 1 (py_mq b t [102, 108, 111, 111, 114, 32] (p + 1))).2, 4, (py_d1 b t 1 (py_mq b t [102, 108, 111, 111, 114, 32] (p + 1))).1) else (false, py_mq b t [102, 108, 111, 111, 114, 32] (p + 1), 4, 0)))
  else (true, p, 0, 0)
theorem py_x_b (b : Nat → Nat) (t : Nat) (p : Nat) (h : p ≤ t) : p ≤ (py_x b t p).2.1 ∧ (py_x b t p).2.1 ≤ t ∧ (py_x b t p).2.2.1 < 5 ∧ (py_x b t p).2.2.2 < 100 := by
  unfold py_x
  have m1 := fun cs (hp : p + 1 ≤ t) => py_mq_b b t cs (p + 1) hp
  by_cases c0 : p < t ∧ b p = 32
  · rw [if_pos c0]
    by_cases c1 : p + 1 < t ∧ b (p + 1) = 98
    · rw [if_pos c1]
      have := m1 [98, 97, 99, 107] (by omega)
      exact ⟨by simp only; omega, by simp only; omega, by simp only; omega, by simp only; omega⟩
    · rw [if_neg c1]
      by_cases c2 : p + 1 < t ∧ b (p + 1) = 99
      · rw [if_pos c2]
        have q := m1 [99, 111, 117, 114, 116, 32] (by omega)
        have d := py_d1_b b t 1 _ q.2
        by_cases c3 : py_mo b t [99, 111, 117, 114, 116, 32] (p + 1) = true
        · rw [if_pos c3]
          exact ⟨by simp only; omega, by simp only; omega, by simp only; omega, by simp only; omega⟩
        · rw [if_neg c3]
          exact ⟨by simp only; omega, by simp only; omega, by simp only; omega, by simp only; omega⟩
      · rw [if_neg c2]
        have q := m1 [102, 108, 111, 111, 114, 32] (by omega)
        have d := py_d1_b b t 1 _ q.2
        by_cases c3 : py_mo b t [102, 108, 111, 111, 114, 32] (p + 1) = true
        · rw [if_pos c3]
          exact ⟨by simp only; omega, by simp only; omega, by simp only; omega, by simp only; omega⟩
        · rw [if_neg c3]
          exact ⟨by simp only; omega, by simp only; omega, by simp only; omega, by simp only; omega⟩
  · rw [if_neg c0]
    exact ⟨by simp only; omega, by simp only; omega, by simp only; omega, by simp only; omega⟩
