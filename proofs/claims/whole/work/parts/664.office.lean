/-! copies: what they change -/
/-- only the cells from u to u + n have changed, and no reference -/
def pz_fo (M N : pu_M) (u n : Nat) : Prop := N.2.2 = M.2.2 ∧ (∀ a j, a < u ∨ u + n < a → N.1 a j = M.1 a j) ∧ (∀ a j, a < u ∨ u + n < a → N.2.1 a j = M.2.1 a j)
theorem pz_fo_r (M : pu_M) (u n : Nat) : pz_fo M M u n := ⟨rfl, fun _ _ _ => rfl, fun _ _ _ => rfl⟩
theorem pz_fo_wi {M N : pu_M} {u n a i : Nat} {v : Int32} (h : pz_fo M N u n) (h1 : u ≤ a) (h2 : a ≤ u + n) : pz_fo M (pu_wi N a i v) u n :=
  ⟨h.1, fun b j q => by rw [pu_wi_1, if_neg (by omega)]; exact h.2.1 b j q, h.2.2⟩
theorem pz_fo_ci {M N : pu_M} {u n a sp b dp k : Nat} (h : pz_fo M N u n) (h1 : u ≤ b) (h2 : b ≤ u + n) : pz_fo M (pu_ci N a sp b dp k) u n :=
  ⟨h.1, fun c j q => by rw [pu_ci_1, if_neg (by omega)]; exact h.2.1 c j q, h.2.2⟩
theorem pz_fo_cl {M N : pu_M} {u n a sp b dp k : Nat} (h : pz_fo M N u n) (h1 : u ≤ b) (h2 : b ≤ u + n) : pz_fo M (pu_cl N a sp b dp k) u n :=
  ⟨h.1, h.2.1, fun c j q => by rw [pu_cl_3, if_neg (by omega)]; exact h.2.2 c j q⟩
/-- papers -/
theorem pz_cpp2 {M : pu_M} {u v n : Nat} (hn : n ≤ 200) (hd : u + 7 < v ∨ v + 7 < u) (h2 : M.1 v 2 = nI n) (su : pu_sh u = (0, 6)) (sv : pu_sh v = (0, 6)) (tu : ∀ k, 1 ≤ k → k ≤ 7 → pu_sh (u + k) = (1, 200)) (tv : ∀ k, 1 ≤ k → k ≤ 7 → pu_sh (v + k) = (1, 200)) (ru : ∀ k, 1 ≤ k → k ≤ 7 → M.2.2.1 u (k + 2) = some (u + k)) (rv : ∀ k, 1 ≤ k → k ≤ 7 → M.2.2.1 v (k + 2) = some (v + k)) : ∃ N, pz_fo M N u 7 ∧ (∀ j, j < 3 → N.1 u j = M.1 v j) ∧ (∀ k j, 1 ≤ k → k ≤ 7 → j < n → N.1 (u + k) j = M.1 (v + k) j) ∧ pu_r 134 [some (.ref u), some (.ref v)] [] M = some (none, N) := by
  refine ⟨_, ?_, ?_, ?_, pz_cpp hn hd h2 su sv tu tv ru rv⟩
  · exact pz_fo_ci (pz_fo_ci (pz_fo_ci (pz_fo_ci (pz_fo_ci (pz_fo_ci (pz_fo_ci (pz_fo_wi (pz_fo_wi (pz_fo_wi (pz_fo_r _ _ _) (by omega) (by omega)) (by omega) (by omega)) (by omega) (by omega)) (by omega) (by omega)) (by omega) (by omega)) (by omega) (by omega)) (by omega) (by omega)) (by omega) (by omega)) (by omega) (by omega)) (by omega) (by omega)
  · intro j hj
    simp only [pu_ci_1, pu_wi_1]
    match j, hj with
    | 0, _ => simp
    | 1, _ => simp
    | 2, _ => simp [h2]
    | j + 3, hj => omega
  · intro k j h3 h4 hj
    simp only [pu_ci_1, pu_wi_1]
    match k, h3, h4 with
    | 1, _, _ => simp (disch := omega) [nl_feq, hj]
    | 2, _, _ => simp (disch := omega) [nl_feq, hj]
    | 3, _, _ => simp (disch := omega) [nl_feq, hj]
    | 4, _, _ => simp (disch := omega) [nl_feq, hj]
    | 5, _, _ => simp (disch := omega) [nl_feq, hj]
    | 6, _, _ => simp (disch := omega) [nl_feq, hj]
    | 7, _, _ => simp (disch := omega) [nl_feq, hj]
    | 0, h3, _ => omega
    | k + 8, _, h4 => omega
