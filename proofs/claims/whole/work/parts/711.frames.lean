/-! what the name's and the street's writings leave -/
section
variable {M : pu_M}
theorem py_as_o {n : Nat} {ru p : Int32} {x j : Nat} (h1 : ¬ (x = 25 ∧ j = 1)) (h2 : ¬ (27 ≤ x ∧ x ≤ 28 ∧ j = n)) (h3 : ¬ (x = 29 ∧ (j = 2 * n ∨ j = 2 * n + 1))) : (py_as M n ru p).1 x j = M.1 x j := by
  unfold py_as
  rw [py_wi_o (by omega), py_wi_o (by omega), py_wi_o (by omega), py_wi_o (by omega), py_wi_o (by omega)]
theorem py_as_v {n : Nat} {ru p : Int32} : (py_as M n ru p).1 25 1 = nI (n + 1) ∧ (py_as M n ru p).1 27 n = ru ∧ (py_as M n ru p).1 28 n = p ∧ (py_as M n ru p).1 29 (2 * n) = -1 ∧ (py_as M n ru p).1 29 (2 * n + 1) = -1 := by
  simp [py_as, pu_wi_1]
theorem py_no_o {n : Nat} {st tn : Int32} {a f : Nat} {p : Int32} {x j : Nat} (h1 : ¬ (x = 19 ∧ j = 0)) (h2 : ¬ (20 ≤ x ∧ x ≤ 23 ∧ j = n)) : (py_no M n st tn a f p).1 x j = M.1 x j := by
  unfold py_no
  rw [py_wi_o (by omega), pu_cl_1, py_wi_o (by omega), py_wi_o (by omega), py_wi_o (by omega), py_wi_o (by omega)]
theorem py_no_v {n : Nat} {st tn : Int32} {a f : Nat} {p : Int32} : (py_no M n st tn a f p).1 19 0 = nI (n + 1) ∧ (py_no M n st tn a f p).1 20 n = st ∧ (py_no M n st tn a f p).1 21 n = tn ∧ (py_no M n st tn a f p).1 22 n = p ∧ (py_no M n st tn a f p).1 23 n = -1 := by
  unfold py_no
  refine ⟨by simp [pu_wi_1], ?_, ?_, ?_, ?_⟩ <;> (rw [py_wi_o (by omega), pu_cl_1]; simp [pu_wi_1])
theorem py_no_2 {n : Nat} {st tn : Int32} {a f : Nat} {p : Int32} : (py_no M n st tn a f p).2.2 = M.2.2 := rfl
theorem py_no_L {n : Nat} {st tn : Int32} {a f : Nat} {p : Int32} {x j : Nat} (h : ¬ (x = 24 ∧ 3 * n ≤ j ∧ j < 3 * n + 3)) : (py_no M n st tn a f p).2.1 x j = M.2.1 x j := by
  show (pu_cl (pu_wi (pu_wi (pu_wi (pu_wi M 20 n st) 21 n tn) 22 n p) 23 n (-1)) a f 24 (3 * n) 3).2.1 x j = _
  rw [pu_cl_3]
  by_cases c : x = 24
  · rw [if_pos c, if_neg (by omega)]
    rfl
  · rw [if_neg c]
    rfl
theorem py_no_W {n : Nat} {st tn : Int32} {a f : Nat} {p : Int32} {w : Nat} (hw : w < 3) : (py_no M n st tn a f p).2.1 24 (3 * n + w) = M.2.1 a (f + w) := by
  show (pu_cl (pu_wi (pu_wi (pu_wi (pu_wi M 20 n st) 21 n tn) 22 n p) 23 n (-1)) a f 24 (3 * n) 3).2.1 24 (3 * n + w) = _
  rw [pu_cl_3, if_pos rfl, if_pos (by omega), show f + (3 * n + w - 3 * n) = f + w by omega]
  rfl
theorem py_rn1_o {n : Nat} {st tn nm p : Int32} {x j : Nat} (h1 : ¬ (x = 72 ∧ j = 7)) (h2 : ¬ (x = 72 ∧ 7552 + 5 * n ≤ j ∧ j < 7552 + 5 * n + 5)) : (py_rn1 M n st tn nm p).1 x j = M.1 x j := by
  unfold py_rn1
  rw [py_wi_o (by omega), py_wi_o (by omega), py_wi_o (by omega), py_wi_o (by omega), py_wi_o (by omega), py_wi_o (by omega)]
theorem py_rn1_v {n : Nat} {st tn nm p : Int32} : (py_rn1 M n st tn nm p).1 72 7 = nI (n + 1) ∧ (py_rn1 M n st tn nm p).1 72 (7552 + 5 * n) = st ∧ (py_rn1 M n st tn nm p).1 72 (7552 + 5 * n + 1) = tn ∧ (py_rn1 M n st tn nm p).1 72 (7552 + 5 * n + 2) = nm ∧ (py_rn1 M n st tn nm p).1 72 (7552 + 5 * n + 3) = p ∧ (py_rn1 M n st tn nm p).1 72 (7552 + 5 * n + 4) = -1 := by
  simp only [py_rn1, pu_wi_1]
  simp (disch := omega) [nl_feq]
end
/-- a name read from the tape, on both sides -/
theorem py_name {M : pu_M} (h : pu_Inv M) : ∃ (g : Prop) (nm : Nat → Int64) (N : pu_M), py_cr M N ∧ (g → ∀ k, k < 3 → N.2.1 60 k = nm k) ∧ pu_r 31 [some (.ref 0)] [] M = some (some (.int (pu_q g)), N) ∧ ∀ Q : pu_M, pu_fx Q → Q.1 72 = M.1 72 → Q.1 71 4 = M.1 71 4 → (∀ j, Q.1 75 j = M.1 75 j) → ∃ R, py_cq Q R ∧ (g → ∀ k, k < 3 → pu_Wd (R.1 78) (12 * k) (nm k)) ∧ pu_r 244 [some (.ref 71)] [] Q = some (some (.int (pu_q g)), R) := by
  have hr := pu_hR h
  have hw := pu_hS h
  obtain ⟨t, t1, t2, t3, t4⟩ := h.2.1
  obtain ⟨N, n1, n2, n3⟩ := c_readName h t1 t2 t4
  have RF : ∀ Q : pu_M, pu_fx Q → Q.1 72 = M.1 72 → Q.1 71 4 = M.1 71 4 → (∀ j, Q.1 75 j = M.1 75 j) → ∃ R, py_cq Q R ∧ (∀ l, py_ns (py_by M) t 3 0 = some l → ∀ k, k < 3 → pu_Wd (R.1 78) (12 * k) (py_fu (pu_si M 5) (pu_sj M 5) (lN (pu_wv (l.getD k []))))) ∧ pu_r 244 [some (.ref 71)] [] Q = some (some (.int (pu_q (py_ns (py_by M) t 3 0 ≠ none))), R) := fun Q q1 q2 q3 q4 =>
    r_readsName q1 (by rw [q2]; exact hr) hw t1 (by rw [q3]; exact t3) (fun j hj => by rw [q4]; exact py_by_b M j)
  cases hl : py_ns (py_by M) t 3 0 with
  | none =>
    rw [hl] at n3 RF
    refine ⟨_, fun _ => 0, N, n1, fun g => absurd rfl g, n3, fun Q q1 q2 q3 q4 => ?_⟩
    obtain ⟨R, r1, r2, r3⟩ := RF Q q1 q2 q3 q4
    exact ⟨R, r1, fun g => absurd rfl g, r3⟩
  | some l =>
    rw [hl] at n3 RF
    refine ⟨_, _, N, n1, fun _ => n2 l hl, n3, fun Q q1 q2 q3 q4 => ?_⟩
    obtain ⟨R, r1, r2, r3⟩ := RF Q q1 q2 q3 q4
    exact ⟨R, r1, fun _ => r2 l rfl, r3⟩
