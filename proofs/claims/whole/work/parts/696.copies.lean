/-! copies of an office's parts, where they lie in it -/
def pz_os1 (u : Nat) : Prop := ∀ k, k < 53 → pu_sh (u + k) = pu_shO.getD k (9, 0)
def pz_or (M : pu_M) (u : Nat) : Prop := ∀ a j r, pu_RT (a + 5) j = some (r + 5) → a < 53 → M.2.2.1 (u + a) j = some (u + r)
theorem pz_or_t {M N : pu_M} {u : Nat} (h : N.2.2 = M.2.2) (g : pz_or M u) : pz_or N u := fun a j r q1 q2 => by
  rw [h]
  exact g a j r q1 q2
theorem py_X4 {M : pu_M} {u v n : Nat} (hu : pz_os1 u) (hv : pz_os1 v) (ru : pz_or M u) (rv : pz_or M v) (hd : u + 52 < v ∨ v + 52 < u) (bn : n ≤ 3000) (hn : M.1 (v + 9) 0 = nI n) : ∃ N, pz_fo M N (u + 9) 4 ∧ (∀ j, j < 1 → N.1 (u + 9) j = M.1 (v + 9) j) ∧ (∀ j, j < n → N.1 (u + 10) j = M.1 (v + 10) j) ∧ (∀ j, j < n → N.1 (u + 11) j = M.1 (v + 11) j) ∧ (∀ j, j < n → N.1 (u + 12) j = M.1 (v + 12) j) ∧ (∀ j, j < n → N.1 (u + 13) j = M.1 (v + 13) j) ∧ pu_r 135 [some (.ref (u + 9)), some (.ref (v + 9))] [] M = some (none, N) := by
  have d0 : u + 9 + 4 < v + 9 ∨ v + 9 + 4 < u + 9 := by omega
  have su : pu_sh (u + 9) = (0, 4) := by rw [hu 9 (by omega)]; rfl
  have sv : pu_sh (v + 9) = (0, 4) := by rw [hv 9 (by omega)]; rfl
  have su10 : pu_sh (u + 9 + 1) = (1, 3000) := by rw [show u + 9 + 1 = u + 10 by omega, hu 10 (by omega)]; rfl
  have sv10 : pu_sh (v + 9 + 1) = (1, 3000) := by rw [show v + 9 + 1 = v + 10 by omega, hv 10 (by omega)]; rfl
  have ru10 : M.2.2.1 (u + 9) 1 = some (u + 9 + 1) := by rw [ru 9 1 10 rfl (by omega), show u + 9 + 1 = u + 10 by omega]
  have rv10 : M.2.2.1 (v + 9) 1 = some (v + 9 + 1) := by rw [rv 9 1 10 rfl (by omega), show v + 9 + 1 = v + 10 by omega]
  have su11 : pu_sh (u + 9 + 2) = (1, 3000) := by rw [show u + 9 + 2 = u + 11 by omega, hu 11 (by omega)]; rfl
  have sv11 : pu_sh (v + 9 + 2) = (1, 3000) := by rw [show v + 9 + 2 = v + 11 by omega, hv 11 (by omega)]; rfl
  have ru11 : M.2.2.1 (u + 9) 2 = some (u + 9 + 2) := by rw [ru 9 2 11 rfl (by omega), show u + 9 + 2 = u + 11 by omega]
  have rv11 : M.2.2.1 (v + 9) 2 = some (v + 9 + 2) := by rw [rv 9 2 11 rfl (by omega), show v + 9 + 2 = v + 11 by omega]
  have su12 : pu_sh (u + 9 + 3) = (1, 3000) := by rw [show u + 9 + 3 = u + 12 by omega, hu 12 (by omega)]; rfl
  have sv12 : pu_sh (v + 9 + 3) = (1, 3000) := by rw [show v + 9 + 3 = v + 12 by omega, hv 12 (by omega)]; rfl
  have ru12 : M.2.2.1 (u + 9) 3 = some (u + 9 + 3) := by rw [ru 9 3 12 rfl (by omega), show u + 9 + 3 = u + 12 by omega]
  have rv12 : M.2.2.1 (v + 9) 3 = some (v + 9 + 3) := by rw [rv 9 3 12 rfl (by omega), show v + 9 + 3 = v + 12 by omega]
  have su13 : pu_sh (u + 9 + 4) = (1, 3000) := by rw [show u + 9 + 4 = u + 13 by omega, hu 13 (by omega)]; rfl
  have sv13 : pu_sh (v + 9 + 4) = (1, 3000) := by rw [show v + 9 + 4 = v + 13 by omega, hv 13 (by omega)]; rfl
  have ru13 : M.2.2.1 (u + 9) 4 = some (u + 9 + 4) := by rw [ru 9 4 13 rfl (by omega), show u + 9 + 4 = u + 13 by omega]
  have rv13 : M.2.2.1 (v + 9) 4 = some (v + 9 + 4) := by rw [rv 9 4 13 rfl (by omega), show v + 9 + 4 = v + 13 by omega]
  have T := pz_coX4 bn hn d0 su sv su10 sv10 ru10 rv10 su11 sv11 ru11 rv11 su12 sv12 ru12 rv12 su13 sv13 ru13 rv13
  obtain ⟨N, f, c0, c1, c2, c3, c4, e⟩ := T
  exact ⟨N, f, c0, fun j hj => by have := c1 j hj; rw [show u + 9 + 1 = u + 10 by omega, show v + 9 + 1 = v + 10 by omega] at this; exact this, fun j hj => by have := c2 j hj; rw [show u + 9 + 2 = u + 11 by omega, show v + 9 + 2 = v + 11 by omega] at this; exact this, fun j hj => by have := c3 j hj; rw [show u + 9 + 3 = u + 12 by omega, show v + 9 + 3 = v + 12 by omega] at this; exact this, fun j hj => by have := c4 j hj; rw [show u + 9 + 4 = u + 13 by omega, show v + 9 + 4 = v + 13 by omega] at this; exact this, e⟩
theorem py_X3 {M : pu_M} {u v n : Nat} (hu : pz_os1 u) (hv : pz_os1 v) (ru : pz_or M u) (rv : pz_or M v) (hd : u + 52 < v ∨ v + 52 < u) (bn : n ≤ 400) (hn : M.1 (v + 14) 0 = nI n) : ∃ N, pz_fo M N (u + 14) 5 ∧ (∀ j, j < 1 → N.1 (u + 14) j = M.1 (v + 14) j) ∧ (∀ j, j < n → N.1 (u + 15) j = M.1 (v + 15) j) ∧ (∀ j, j < n → N.1 (u + 16) j = M.1 (v + 16) j) ∧ (∀ j, j < n → N.1 (u + 17) j = M.1 (v + 17) j) ∧ (∀ j, j < n → N.1 (u + 18) j = M.1 (v + 18) j) ∧ (∀ j, j < 3 * n → N.2.1 (u + 19) j = M.2.1 (v + 19) j) ∧ pu_r 136 [some (.ref (u + 14)), some (.ref (v + 14))] [] M = some (none, N) := by
  have d0 : u + 14 + 5 < v + 14 ∨ v + 14 + 5 < u + 14 := by omega
  have su : pu_sh (u + 14) = (0, 3) := by rw [hu 14 (by omega)]; rfl
  have sv : pu_sh (v + 14) = (0, 3) := by rw [hv 14 (by omega)]; rfl
  have su15 : pu_sh (u + 14 + 1) = (1, 416) := by rw [show u + 14 + 1 = u + 15 by omega, hu 15 (by omega)]; rfl
  have sv15 : pu_sh (v + 14 + 1) = (1, 416) := by rw [show v + 14 + 1 = v + 15 by omega, hv 15 (by omega)]; rfl
  have ru15 : M.2.2.1 (u + 14) 1 = some (u + 14 + 1) := by rw [ru 14 1 15 rfl (by omega), show u + 14 + 1 = u + 15 by omega]
  have rv15 : M.2.2.1 (v + 14) 1 = some (v + 14 + 1) := by rw [rv 14 1 15 rfl (by omega), show v + 14 + 1 = v + 15 by omega]
  have su16 : pu_sh (u + 14 + 2) = (1, 416) := by rw [show u + 14 + 2 = u + 16 by omega, hu 16 (by omega)]; rfl
  have sv16 : pu_sh (v + 14 + 2) = (1, 416) := by rw [show v + 14 + 2 = v + 16 by omega, hv 16 (by omega)]; rfl
  have ru16 : M.2.2.1 (u + 14) 2 = some (u + 14 + 2) := by rw [ru 14 2 16 rfl (by omega), show u + 14 + 2 = u + 16 by omega]
  have rv16 : M.2.2.1 (v + 14) 2 = some (v + 14 + 2) := by rw [rv 14 2 16 rfl (by omega), show v + 14 + 2 = v + 16 by omega]
  have su17 : pu_sh (u + 14 + 3) = (1, 416) := by rw [show u + 14 + 3 = u + 17 by omega, hu 17 (by omega)]; rfl
  have sv17 : pu_sh (v + 14 + 3) = (1, 416) := by rw [show v + 14 + 3 = v + 17 by omega, hv 17 (by omega)]; rfl
  have ru17 : M.2.2.1 (u + 14) 3 = some (u + 14 + 3) := by rw [ru 14 3 17 rfl (by omega), show u + 14 + 3 = u + 17 by omega]
  have rv17 : M.2.2.1 (v + 14) 3 = some (v + 14 + 3) := by rw [rv 14 3 17 rfl (by omega), show v + 14 + 3 = v + 17 by omega]
  have su18 : pu_sh (u + 14 + 4) = (1, 416) := by rw [show u + 14 + 4 = u + 18 by omega, hu 18 (by omega)]; rfl
  have sv18 : pu_sh (v + 14 + 4) = (1, 416) := by rw [show v + 14 + 4 = v + 18 by omega, hv 18 (by omega)]; rfl
  have ru18 : M.2.2.1 (u + 14) 4 = some (u + 14 + 4) := by rw [ru 14 4 18 rfl (by omega), show u + 14 + 4 = u + 18 by omega]
  have rv18 : M.2.2.1 (v + 14) 4 = some (v + 14 + 4) := by rw [rv 14 4 18 rfl (by omega), show v + 14 + 4 = v + 18 by omega]
  have su19 : pu_sh (u + 14 + 5) = (3, 1248) := by rw [show u + 14 + 5 = u + 19 by omega, hu 19 (by omega)]; rfl
  have sv19 : pu_sh (v + 14 + 5) = (3, 1248) := by rw [show v + 14 + 5 = v + 19 by omega, hv 19 (by omega)]; rfl
  have ru19 : M.2.2.1 (u + 14) 5 = some (u + 14 + 5) := by rw [ru 14 5 19 rfl (by omega), show u + 14 + 5 = u + 19 by omega]
  have rv19 : M.2.2.1 (v + 14) 5 = some (v + 14 + 5) := by rw [rv 14 5 19 rfl (by omega), show v + 14 + 5 = v + 19 by omega]
  have T := pz_coX3 bn hn d0 su sv su15 sv15 ru15 rv15 su16 sv16 ru16 rv16 su17 sv17 ru17 rv17 su18 sv18 ru18 rv18 su19 sv19 ru19 rv19
  obtain ⟨N, f, c0, c1, c2, c3, c4, c5, e⟩ := T
  exact ⟨N, f, c0, fun j hj => by have := c1 j hj; rw [show u + 14 + 1 = u + 15 by omega, show v + 14 + 1 = v + 15 by omega] at this; exact this, fun j hj => by have := c2 j hj; rw [show u + 14 + 2 = u + 16 by omega, show v + 14 + 2 = v + 16 by omega] at this; exact this, fun j hj => by have := c3 j hj; rw [show u + 14 + 3 = u + 17 by omega, show v + 14 + 3 = v + 17 by omega] at this; exact this, fun j hj => by have := c4 j hj; rw [show u + 14 + 4 = u + 18 by omega, show v + 14 + 4 = v + 18 by omega] at this; exact this, fun j hj => by have := c5 j hj; rw [show u + 14 + 5 = u + 19 by omega, show v + 14 + 5 = v + 19 by omega] at this; exact this, e⟩
theorem py_X10 {M : pu_M} {u v t n : Nat} (hu : pz_os1 u) (hv : pz_os1 v) (ru : pz_or M u) (rv : pz_or M v) (hd : u + 52 < v ∨ v + 52 < u) (bt : t ≤ 8) (ht : M.1 (v + 20) 0 = nI t) (bn : n ≤ 24) (hn : M.1 (v + 20) 1 = nI n) : ∃ N, pz_fo M N (u + 20) 5 ∧ (∀ j, j < 2 → N.1 (u + 20) j = M.1 (v + 20) j) ∧ (∀ j, j < 3 * t → N.2.1 (u + 21) j = M.2.1 (v + 21) j) ∧ (∀ j, j < n → N.1 (u + 22) j = M.1 (v + 22) j) ∧ (∀ j, j < n → N.1 (u + 23) j = M.1 (v + 23) j) ∧ (∀ j, j < 2 * n → N.1 (u + 24) j = M.1 (v + 24) j) ∧ (∀ j, j < 2 * n * 100 → N.1 (u + 25) j = M.1 (v + 25) j) ∧ pu_r 137 [some (.ref (u + 20)), some (.ref (v + 20))] [] M = some (none, N) := by
  have d0 : u + 20 + 5 < v + 20 ∨ v + 20 + 5 < u + 20 := by omega
  have su : pu_sh (u + 20) = (0, 10) := by rw [hu 20 (by omega)]; rfl
  have sv : pu_sh (v + 20) = (0, 10) := by rw [hv 20 (by omega)]; rfl
  have su21 : pu_sh (u + 20 + 1) = (3, 24) := by rw [show u + 20 + 1 = u + 21 by omega, hu 21 (by omega)]; rfl
  have sv21 : pu_sh (v + 20 + 1) = (3, 24) := by rw [show v + 20 + 1 = v + 21 by omega, hv 21 (by omega)]; rfl
  have ru21 : M.2.2.1 (u + 20) 2 = some (u + 20 + 1) := by rw [ru 20 2 21 rfl (by omega), show u + 20 + 1 = u + 21 by omega]
  have rv21 : M.2.2.1 (v + 20) 2 = some (v + 20 + 1) := by rw [rv 20 2 21 rfl (by omega), show v + 20 + 1 = v + 21 by omega]
  have su22 : pu_sh (u + 20 + 2) = (1, 24) := by rw [show u + 20 + 2 = u + 22 by omega, hu 22 (by omega)]; rfl
  have sv22 : pu_sh (v + 20 + 2) = (1, 24) := by rw [show v + 20 + 2 = v + 22 by omega, hv 22 (by omega)]; rfl
  have ru22 : M.2.2.1 (u + 20) 3 = some (u + 20 + 2) := by rw [ru 20 3 22 rfl (by omega), show u + 20 + 2 = u + 22 by omega]
  have rv22 : M.2.2.1 (v + 20) 3 = some (v + 20 + 2) := by rw [rv 20 3 22 rfl (by omega), show v + 20 + 2 = v + 22 by omega]
  have su23 : pu_sh (u + 20 + 3) = (1, 24) := by rw [show u + 20 + 3 = u + 23 by omega, hu 23 (by omega)]; rfl
  have sv23 : pu_sh (v + 20 + 3) = (1, 24) := by rw [show v + 20 + 3 = v + 23 by omega, hv 23 (by omega)]; rfl
  have ru23 : M.2.2.1 (u + 20) 4 = some (u + 20 + 3) := by rw [ru 20 4 23 rfl (by omega), show u + 20 + 3 = u + 23 by omega]
  have rv23 : M.2.2.1 (v + 20) 4 = some (v + 20 + 3) := by rw [rv 20 4 23 rfl (by omega), show v + 20 + 3 = v + 23 by omega]
  have su24 : pu_sh (u + 20 + 4) = (1, 48) := by rw [show u + 20 + 4 = u + 24 by omega, hu 24 (by omega)]; rfl
  have sv24 : pu_sh (v + 20 + 4) = (1, 48) := by rw [show v + 20 + 4 = v + 24 by omega, hv 24 (by omega)]; rfl
  have ru24 : M.2.2.1 (u + 20) 5 = some (u + 20 + 4) := by rw [ru 20 5 24 rfl (by omega), show u + 20 + 4 = u + 24 by omega]
  have rv24 : M.2.2.1 (v + 20) 5 = some (v + 20 + 4) := by rw [rv 20 5 24 rfl (by omega), show v + 20 + 4 = v + 24 by omega]
  have su25 : pu_sh (u + 20 + 5) = (1, 4800) := by rw [show u + 20 + 5 = u + 25 by omega, hu 25 (by omega)]; rfl
  have sv25 : pu_sh (v + 20 + 5) = (1, 4800) := by rw [show v + 20 + 5 = v + 25 by omega, hv 25 (by omega)]; rfl
  have ru25 : M.2.2.1 (u + 20) 6 = some (u + 20 + 5) := by rw [ru 20 6 25 rfl (by omega), show u + 20 + 5 = u + 25 by omega]
  have rv25 : M.2.2.1 (v + 20) 6 = some (v + 20 + 5) := by rw [rv 20 6 25 rfl (by omega), show v + 20 + 5 = v + 25 by omega]
  have T := pz_coX10 bt ht bn hn d0 su sv su21 sv21 ru21 rv21 su22 sv22 ru22 rv22 su23 sv23 ru23 rv23 su24 sv24 ru24 rv24 su25 sv25 ru25 rv25
  obtain ⟨N, f, c0, c1, c2, c3, c4, c5, e⟩ := T
  exact ⟨N, f, c0, fun j hj => by have := c1 j hj; rw [show u + 20 + 1 = u + 21 by omega, show v + 20 + 1 = v + 21 by omega] at this; exact this, fun j hj => by have := c2 j hj; rw [show u + 20 + 2 = u + 22 by omega, show v + 20 + 2 = v + 22 by omega] at this; exact this, fun j hj => by have := c3 j hj; rw [show u + 20 + 3 = u + 23 by omega, show v + 20 + 3 = v + 23 by omega] at this; exact this, fun j hj => by have := c4 j hj; rw [show u + 20 + 4 = u + 24 by omega, show v + 20 + 4 = v + 24 by omega] at this; exact this, fun j hj => by have := c5 j hj; rw [show u + 20 + 5 = u + 25 by omega, show v + 20 + 5 = v + 25 by omega] at this; exact this, e⟩
theorem py_X2 {M : pu_M} {u v n : Nat} (hu : pz_os1 u) (hv : pz_os1 v) (ru : pz_or M u) (rv : pz_or M v) (hd : u + 52 < v ∨ v + 52 < u) (bn : n ≤ 100) (hn : M.1 (v + 26) 0 = nI n) : ∃ N, pz_fo M N (u + 26) 10 ∧ (∀ j, j < 1 → N.1 (u + 26) j = M.1 (v + 26) j) ∧ (∀ j, j < n → N.1 (u + 27) j = M.1 (v + 27) j) ∧ (∀ j, j < n → N.1 (u + 28) j = M.1 (v + 28) j) ∧ (∀ j, j < n → N.1 (u + 29) j = M.1 (v + 29) j) ∧ (∀ j, j < n → N.1 (u + 30) j = M.1 (v + 30) j) ∧ (∀ j, j < n → N.1 (u + 31) j = M.1 (v + 31) j) ∧ (∀ j, j < n → N.1 (u + 32) j = M.1 (v + 32) j) ∧ (∀ j, j < n → N.1 (u + 33) j = M.1 (v + 33) j) ∧ (∀ j, j < 2 * n → N.1 (u + 34) j = M.1 (v + 34) j) ∧ (∀ j, j < 2 * n → N.1 (u + 35) j = M.1 (v + 35) j) ∧ (∀ j, j < 2 * n → N.1 (u + 36) j = M.1 (v + 36) j) ∧ pu_r 138 [some (.ref (u + 26)), some (.ref (v + 26))] [] M = some (none, N) := by
  have d0 : u + 26 + 10 < v + 26 ∨ v + 26 + 10 < u + 26 := by omega
  have su : pu_sh (u + 26) = (0, 2) := by rw [hu 26 (by omega)]; rfl
  have sv : pu_sh (v + 26) = (0, 2) := by rw [hv 26 (by omega)]; rfl
  have su27 : pu_sh (u + 26 + 1) = (1, 100) := by rw [show u + 26 + 1 = u + 27 by omega, hu 27 (by omega)]; rfl
  have sv27 : pu_sh (v + 26 + 1) = (1, 100) := by rw [show v + 26 + 1 = v + 27 by omega, hv 27 (by omega)]; rfl
  have ru27 : M.2.2.1 (u + 26) 1 = some (u + 26 + 1) := by rw [ru 26 1 27 rfl (by omega), show u + 26 + 1 = u + 27 by omega]
  have rv27 : M.2.2.1 (v + 26) 1 = some (v + 26 + 1) := by rw [rv 26 1 27 rfl (by omega), show v + 26 + 1 = v + 27 by omega]
  have su28 : pu_sh (u + 26 + 2) = (1, 100) := by rw [show u + 26 + 2 = u + 28 by omega, hu 28 (by omega)]; rfl
  have sv28 : pu_sh (v + 26 + 2) = (1, 100) := by rw [show v + 26 + 2 = v + 28 by omega, hv 28 (by omega)]; rfl
  have ru28 : M.2.2.1 (u + 26) 2 = some (u + 26 + 2) := by rw [ru 26 2 28 rfl (by omega), show u + 26 + 2 = u + 28 by omega]
  have rv28 : M.2.2.1 (v + 26) 2 = some (v + 26 + 2) := by rw [rv 26 2 28 rfl (by omega), show v + 26 + 2 = v + 28 by omega]
  have su29 : pu_sh (u + 26 + 3) = (1, 100) := by rw [show u + 26 + 3 = u + 29 by omega, hu 29 (by omega)]; rfl
  have sv29 : pu_sh (v + 26 + 3) = (1, 100) := by rw [show v + 26 + 3 = v + 29 by omega, hv 29 (by omega)]; rfl
  have ru29 : M.2.2.1 (u + 26) 3 = some (u + 26 + 3) := by rw [ru 26 3 29 rfl (by omega), show u + 26 + 3 = u + 29 by omega]
  have rv29 : M.2.2.1 (v + 26) 3 = some (v + 26 + 3) := by rw [rv 26 3 29 rfl (by omega), show v + 26 + 3 = v + 29 by omega]
  have su30 : pu_sh (u + 26 + 4) = (1, 100) := by rw [show u + 26 + 4 = u + 30 by omega, hu 30 (by omega)]; rfl
  have sv30 : pu_sh (v + 26 + 4) = (1, 100) := by rw [show v + 26 + 4 = v + 30 by omega, hv 30 (by omega)]; rfl
  have ru30 : M.2.2.1 (u + 26) 4 = some (u + 26 + 4) := by rw [ru 26 4 30 rfl (by omega), show u + 26 + 4 = u + 30 by omega]
  have rv30 : M.2.2.1 (v + 26) 4 = some (v + 26 + 4) := by rw [rv 26 4 30 rfl (by omega), show v + 26 + 4 = v + 30 by omega]
  have su31 : pu_sh (u + 26 + 5) = (1, 100) := by rw [show u + 26 + 5 = u + 31 by omega, hu 31 (by omega)]; rfl
  have sv31 : pu_sh (v + 26 + 5) = (1, 100) := by rw [show v + 26 + 5 = v + 31 by omega, hv 31 (by omega)]; rfl
  have ru31 : M.2.2.1 (u + 26) 5 = some (u + 26 + 5) := by rw [ru 26 5 31 rfl (by omega), show u + 26 + 5 = u + 31 by omega]
  have rv31 : M.2.2.1 (v + 26) 5 = some (v + 26 + 5) := by rw [rv 26 5 31 rfl (by omega), show v + 26 + 5 = v + 31 by omega]
  have su32 : pu_sh (u + 26 + 6) = (1, 100) := by rw [show u + 26 + 6 = u + 32 by omega, hu 32 (by omega)]; rfl
  have sv32 : pu_sh (v + 26 + 6) = (1, 100) := by rw [show v + 26 + 6 = v + 32 by omega, hv 32 (by omega)]; rfl
  have ru32 : M.2.2.1 (u + 26) 6 = some (u + 26 + 6) := by rw [ru 26 6 32 rfl (by omega), show u + 26 + 6 = u + 32 by omega]
  have rv32 : M.2.2.1 (v + 26) 6 = some (v + 26 + 6) := by rw [rv 26 6 32 rfl (by omega), show v + 26 + 6 = v + 32 by omega]
  have su33 : pu_sh (u + 26 + 7) = (1, 100) := by rw [show u + 26 + 7 = u + 33 by omega, hu 33 (by omega)]; rfl
  have sv33 : pu_sh (v + 26 + 7) = (1, 100) := by rw [show v + 26 + 7 = v + 33 by omega, hv 33 (by omega)]; rfl
  have ru33 : M.2.2.1 (u + 26) 7 = some (u + 26 + 7) := by rw [ru 26 7 33 rfl (by omega), show u + 26 + 7 = u + 33 by omega]
  have rv33 : M.2.2.1 (v + 26) 7 = some (v + 26 + 7) := by rw [rv 26 7 33 rfl (by omega), show v + 26 + 7 = v + 33 by omega]
  have su34 : pu_sh (u + 26 + 8) = (1, 200) := by rw [show u + 26 + 8 = u + 34 by omega, hu 34 (by omega)]; rfl
  have sv34 : pu_sh (v + 26 + 8) = (1, 200) := by rw [show v + 26 + 8 = v + 34 by omega, hv 34 (by omega)]; rfl
  have ru34 : M.2.2.1 (u + 26) 8 = some (u + 26 + 8) := by rw [ru 26 8 34 rfl (by omega), show u + 26 + 8 = u + 34 by omega]
  have rv34 : M.2.2.1 (v + 26) 8 = some (v + 26 + 8) := by rw [rv 26 8 34 rfl (by omega), show v + 26 + 8 = v + 34 by omega]
  have su35 : pu_sh (u + 26 + 9) = (1, 200) := by rw [show u + 26 + 9 = u + 35 by omega, hu 35 (by omega)]; rfl
  have sv35 : pu_sh (v + 26 + 9) = (1, 200) := by rw [show v + 26 + 9 = v + 35 by omega, hv 35 (by omega)]; rfl
  have ru35 : M.2.2.1 (u + 26) 9 = some (u + 26 + 9) := by rw [ru 26 9 35 rfl (by omega), show u + 26 + 9 = u + 35 by omega]
  have rv35 : M.2.2.1 (v + 26) 9 = some (v + 26 + 9) := by rw [rv 26 9 35 rfl (by omega), show v + 26 + 9 = v + 35 by omega]
  have su36 : pu_sh (u + 26 + 10) = (1, 200) := by rw [show u + 26 + 10 = u + 36 by omega, hu 36 (by omega)]; rfl
  have sv36 : pu_sh (v + 26 + 10) = (1, 200) := by rw [show v + 26 + 10 = v + 36 by omega, hv 36 (by omega)]; rfl
  have ru36 : M.2.2.1 (u + 26) 10 = some (u + 26 + 10) := by rw [ru 26 10 36 rfl (by omega), show u + 26 + 10 = u + 36 by omega]
  have rv36 : M.2.2.1 (v + 26) 10 = some (v + 26 + 10) := by rw [rv 26 10 36 rfl (by omega), show v + 26 + 10 = v + 36 by omega]
  have T := pz_coX2 bn hn d0 su sv su27 sv27 ru27 rv27 su28 sv28 ru28 rv28 su29 sv29 ru29 rv29 su30 sv30 ru30 rv30 su31 sv31 ru31 rv31 su32 sv32 ru32 rv32 su33 sv33 ru33 rv33 su34 sv34 ru34 rv34 su35 sv35 ru35 rv35 su36 sv36 ru36 rv36
  obtain ⟨N, f, c0, c1, c2, c3, c4, c5, c6, c7, c8, c9, c10, e⟩ := T
  exact ⟨N, f, c0, fun j hj => by have := c1 j hj; rw [show u + 26 + 1 = u + 27 by omega, show v + 26 + 1 = v + 27 by omega] at this; exact this, fun j hj => by have := c2 j hj; rw [show u + 26 + 2 = u + 28 by omega, show v + 26 + 2 = v + 28 by omega] at this; exact this, fun j hj => by have := c3 j hj; rw [show u + 26 + 3 = u + 29 by omega, show v + 26 + 3 = v + 29 by omega] at this; exact this, fun j hj => by have := c4 j hj; rw [show u + 26 + 4 = u + 30 by omega, show v + 26 + 4 = v + 30 by omega] at this; exact this, fun j hj => by have := c5 j hj; rw [show u + 26 + 5 = u + 31 by omega, show v + 26 + 5 = v + 31 by omega] at this; exact this, fun j hj => by have := c6 j hj; rw [show u + 26 + 6 = u + 32 by omega, show v + 26 + 6 = v + 32 by omega] at this; exact this, fun j hj => by have := c7 j hj; rw [show u + 26 + 7 = u + 33 by omega, show v + 26 + 7 = v + 33 by omega] at this; exact this, fun j hj => by have := c8 j hj; rw [show u + 26 + 8 = u + 34 by omega, show v + 26 + 8 = v + 34 by omega] at this; exact this, fun j hj => by have := c9 j hj; rw [show u + 26 + 9 = u + 35 by omega, show v + 26 + 9 = v + 35 by omega] at this; exact this, fun j hj => by have := c10 j hj; rw [show u + 26 + 10 = u + 36 by omega, show v + 26 + 10 = v + 36 by omega] at this; exact this, e⟩
theorem py_X8 {M : pu_M} {u v n : Nat} (hu : pz_os1 u) (hv : pz_os1 v) (ru : pz_or M u) (rv : pz_or M v) (hd : u + 52 < v ∨ v + 52 < u) (bn : n ≤ 20) (hn : M.1 (v + 37) 0 = nI n) : ∃ N, pz_fo M N (u + 37) 2 ∧ (∀ j, j < 1 → N.1 (u + 37) j = M.1 (v + 37) j) ∧ (∀ j, j < n → N.2.1 (u + 38) j = M.2.1 (v + 38) j) ∧ (∀ j, j < n → N.2.1 (u + 39) j = M.2.1 (v + 39) j) ∧ pu_r 139 [some (.ref (u + 37)), some (.ref (v + 37))] [] M = some (none, N) := by
  have d0 : u + 37 + 2 < v + 37 ∨ v + 37 + 2 < u + 37 := by omega
  have su : pu_sh (u + 37) = (0, 8) := by rw [hu 37 (by omega)]; rfl
  have sv : pu_sh (v + 37) = (0, 8) := by rw [hv 37 (by omega)]; rfl
  have su38 : pu_sh (u + 37 + 1) = (3, 20) := by rw [show u + 37 + 1 = u + 38 by omega, hu 38 (by omega)]; rfl
  have sv38 : pu_sh (v + 37 + 1) = (3, 20) := by rw [show v + 37 + 1 = v + 38 by omega, hv 38 (by omega)]; rfl
  have ru38 : M.2.2.1 (u + 37) 1 = some (u + 37 + 1) := by rw [ru 37 1 38 rfl (by omega), show u + 37 + 1 = u + 38 by omega]
  have rv38 : M.2.2.1 (v + 37) 1 = some (v + 37 + 1) := by rw [rv 37 1 38 rfl (by omega), show v + 37 + 1 = v + 38 by omega]
  have su39 : pu_sh (u + 37 + 2) = (3, 20) := by rw [show u + 37 + 2 = u + 39 by omega, hu 39 (by omega)]; rfl
  have sv39 : pu_sh (v + 37 + 2) = (3, 20) := by rw [show v + 37 + 2 = v + 39 by omega, hv 39 (by omega)]; rfl
  have ru39 : M.2.2.1 (u + 37) 2 = some (u + 37 + 2) := by rw [ru 37 2 39 rfl (by omega), show u + 37 + 2 = u + 39 by omega]
  have rv39 : M.2.2.1 (v + 37) 2 = some (v + 37 + 2) := by rw [rv 37 2 39 rfl (by omega), show v + 37 + 2 = v + 39 by omega]
  have T := pz_coX8 bn hn d0 su sv su38 sv38 ru38 rv38 su39 sv39 ru39 rv39
  obtain ⟨N, f, c0, c1, c2, e⟩ := T
  exact ⟨N, f, c0, fun j hj => by have := c1 j hj; rw [show u + 37 + 1 = u + 38 by omega, show v + 37 + 1 = v + 38 by omega] at this; exact this, fun j hj => by have := c2 j hj; rw [show u + 37 + 2 = u + 39 by omega, show v + 37 + 2 = v + 39 by omega] at this; exact this, e⟩
theorem py_X1 {M : pu_M} {u v f p s w l o : Nat} (hu : pz_os1 u) (hv : pz_os1 v) (ru : pz_or M u) (rv : pz_or M v) (hd : u + 52 < v ∨ v + 52 < u) (bf : f ≤ 100) (hf : M.1 (v + 40) 2 = nI f) (bp : p ≤ 200) (hp : M.1 (v + 40) 3 = nI p) (bs : s ≤ 24) (hs : M.1 (v + 40) 4 = nI s) (bw : w ≤ 100) (hw : M.1 (v + 40) 5 = nI w) (bl : l ≤ 60) (hl : M.1 (v + 40) 6 = nI l) (bo : o ≤ 60) (ho : M.1 (v + 40) 7 = nI o) : ∃ N, pz_fo M N (u + 40) 12 ∧ (∀ j, j < 8 → N.1 (u + 40) j = M.1 (v + 40) j) ∧ (∀ j, j < f → N.1 (u + 41) j = M.1 (v + 41) j) ∧ (∀ j, j < f → N.1 (u + 42) j = M.1 (v + 42) j) ∧ (∀ j, j < p → N.1 (u + 44) j = M.1 (v + 44) j) ∧ (∀ j, j < p → N.1 (u + 45) j = M.1 (v + 45) j) ∧ (∀ j, j < s → N.1 (u + 47) j = M.1 (v + 47) j) ∧ (∀ j, j < s → N.1 (u + 48) j = M.1 (v + 48) j) ∧ (∀ j, j < w → N.1 (u + 49) j = M.1 (v + 49) j) ∧ (∀ j, j < l → N.1 (u + 50) j = M.1 (v + 50) j) ∧ (∀ j, j < o → N.1 (u + 51) j = M.1 (v + 51) j) ∧ (∀ j, j < o → N.1 (u + 52) j = M.1 (v + 52) j) ∧ pu_r 140 [some (.ref (u + 40)), some (.ref (v + 40))] [] M = some (none, N) := by
  have d0 : u + 40 + 12 < v + 40 ∨ v + 40 + 12 < u + 40 := by omega
  have su : pu_sh (u + 40) = (0, 1) := by rw [hu 40 (by omega)]; rfl
  have sv : pu_sh (v + 40) = (0, 1) := by rw [hv 40 (by omega)]; rfl
  have su41 : pu_sh (u + 40 + 1) = (1, 100) := by rw [show u + 40 + 1 = u + 41 by omega, hu 41 (by omega)]; rfl
  have sv41 : pu_sh (v + 40 + 1) = (1, 100) := by rw [show v + 40 + 1 = v + 41 by omega, hv 41 (by omega)]; rfl
  have ru41 : M.2.2.1 (u + 40) 8 = some (u + 40 + 1) := by rw [ru 40 8 41 rfl (by omega), show u + 40 + 1 = u + 41 by omega]
  have rv41 : M.2.2.1 (v + 40) 8 = some (v + 40 + 1) := by rw [rv 40 8 41 rfl (by omega), show v + 40 + 1 = v + 41 by omega]
  have su42 : pu_sh (u + 40 + 2) = (1, 100) := by rw [show u + 40 + 2 = u + 42 by omega, hu 42 (by omega)]; rfl
  have sv42 : pu_sh (v + 40 + 2) = (1, 100) := by rw [show v + 40 + 2 = v + 42 by omega, hv 42 (by omega)]; rfl
  have ru42 : M.2.2.1 (u + 40) 9 = some (u + 40 + 2) := by rw [ru 40 9 42 rfl (by omega), show u + 40 + 2 = u + 42 by omega]
  have rv42 : M.2.2.1 (v + 40) 9 = some (v + 40 + 2) := by rw [rv 40 9 42 rfl (by omega), show v + 40 + 2 = v + 42 by omega]
  have su44 : pu_sh (u + 40 + 4) = (1, 200) := by rw [show u + 40 + 4 = u + 44 by omega, hu 44 (by omega)]; rfl
  have sv44 : pu_sh (v + 40 + 4) = (1, 200) := by rw [show v + 40 + 4 = v + 44 by omega, hv 44 (by omega)]; rfl
  have ru44 : M.2.2.1 (u + 40) 11 = some (u + 40 + 4) := by rw [ru 40 11 44 rfl (by omega), show u + 40 + 4 = u + 44 by omega]
  have rv44 : M.2.2.1 (v + 40) 11 = some (v + 40 + 4) := by rw [rv 40 11 44 rfl (by omega), show v + 40 + 4 = v + 44 by omega]
  have su45 : pu_sh (u + 40 + 5) = (1, 200) := by rw [show u + 40 + 5 = u + 45 by omega, hu 45 (by omega)]; rfl
  have sv45 : pu_sh (v + 40 + 5) = (1, 200) := by rw [show v + 40 + 5 = v + 45 by omega, hv 45 (by omega)]; rfl
  have ru45 : M.2.2.1 (u + 40) 12 = some (u + 40 + 5) := by rw [ru 40 12 45 rfl (by omega), show u + 40 + 5 = u + 45 by omega]
  have rv45 : M.2.2.1 (v + 40) 12 = some (v + 40 + 5) := by rw [rv 40 12 45 rfl (by omega), show v + 40 + 5 = v + 45 by omega]
  have su47 : pu_sh (u + 40 + 7) = (1, 24) := by rw [show u + 40 + 7 = u + 47 by omega, hu 47 (by omega)]; rfl
  have sv47 : pu_sh (v + 40 + 7) = (1, 24) := by rw [show v + 40 + 7 = v + 47 by omega, hv 47 (by omega)]; rfl
  have ru47 : M.2.2.1 (u + 40) 14 = some (u + 40 + 7) := by rw [ru 40 14 47 rfl (by omega), show u + 40 + 7 = u + 47 by omega]
  have rv47 : M.2.2.1 (v + 40) 14 = some (v + 40 + 7) := by rw [rv 40 14 47 rfl (by omega), show v + 40 + 7 = v + 47 by omega]
  have su48 : pu_sh (u + 40 + 8) = (1, 24) := by rw [show u + 40 + 8 = u + 48 by omega, hu 48 (by omega)]; rfl
  have sv48 : pu_sh (v + 40 + 8) = (1, 24) := by rw [show v + 40 + 8 = v + 48 by omega, hv 48 (by omega)]; rfl
  have ru48 : M.2.2.1 (u + 40) 15 = some (u + 40 + 8) := by rw [ru 40 15 48 rfl (by omega), show u + 40 + 8 = u + 48 by omega]
  have rv48 : M.2.2.1 (v + 40) 15 = some (v + 40 + 8) := by rw [rv 40 15 48 rfl (by omega), show v + 40 + 8 = v + 48 by omega]
  have su49 : pu_sh (u + 40 + 9) = (1, 100) := by rw [show u + 40 + 9 = u + 49 by omega, hu 49 (by omega)]; rfl
  have sv49 : pu_sh (v + 40 + 9) = (1, 100) := by rw [show v + 40 + 9 = v + 49 by omega, hv 49 (by omega)]; rfl
  have ru49 : M.2.2.1 (u + 40) 16 = some (u + 40 + 9) := by rw [ru 40 16 49 rfl (by omega), show u + 40 + 9 = u + 49 by omega]
  have rv49 : M.2.2.1 (v + 40) 16 = some (v + 40 + 9) := by rw [rv 40 16 49 rfl (by omega), show v + 40 + 9 = v + 49 by omega]
  have su50 : pu_sh (u + 40 + 10) = (1, 60) := by rw [show u + 40 + 10 = u + 50 by omega, hu 50 (by omega)]; rfl
  have sv50 : pu_sh (v + 40 + 10) = (1, 60) := by rw [show v + 40 + 10 = v + 50 by omega, hv 50 (by omega)]; rfl
  have ru50 : M.2.2.1 (u + 40) 17 = some (u + 40 + 10) := by rw [ru 40 17 50 rfl (by omega), show u + 40 + 10 = u + 50 by omega]
  have rv50 : M.2.2.1 (v + 40) 17 = some (v + 40 + 10) := by rw [rv 40 17 50 rfl (by omega), show v + 40 + 10 = v + 50 by omega]
  have su51 : pu_sh (u + 40 + 11) = (1, 60) := by rw [show u + 40 + 11 = u + 51 by omega, hu 51 (by omega)]; rfl
  have sv51 : pu_sh (v + 40 + 11) = (1, 60) := by rw [show v + 40 + 11 = v + 51 by omega, hv 51 (by omega)]; rfl
  have ru51 : M.2.2.1 (u + 40) 18 = some (u + 40 + 11) := by rw [ru 40 18 51 rfl (by omega), show u + 40 + 11 = u + 51 by omega]
  have rv51 : M.2.2.1 (v + 40) 18 = some (v + 40 + 11) := by rw [rv 40 18 51 rfl (by omega), show v + 40 + 11 = v + 51 by omega]
  have su52 : pu_sh (u + 40 + 12) = (1, 60) := by rw [show u + 40 + 12 = u + 52 by omega, hu 52 (by omega)]; rfl
  have sv52 : pu_sh (v + 40 + 12) = (1, 60) := by rw [show v + 40 + 12 = v + 52 by omega, hv 52 (by omega)]; rfl
  have ru52 : M.2.2.1 (u + 40) 19 = some (u + 40 + 12) := by rw [ru 40 19 52 rfl (by omega), show u + 40 + 12 = u + 52 by omega]
  have rv52 : M.2.2.1 (v + 40) 19 = some (v + 40 + 12) := by rw [rv 40 19 52 rfl (by omega), show v + 40 + 12 = v + 52 by omega]
  have T := pz_coX1 bf hf bp hp bs hs bw hw bl hl bo ho d0 su sv su41 sv41 ru41 rv41 su42 sv42 ru42 rv42 su44 sv44 ru44 rv44 su45 sv45 ru45 rv45 su47 sv47 ru47 rv47 su48 sv48 ru48 rv48 su49 sv49 ru49 rv49 su50 sv50 ru50 rv50 su51 sv51 ru51 rv51 su52 sv52 ru52 rv52
  obtain ⟨N, f, c0, c1, c2, c3, c4, c5, c6, c7, c8, c9, c10, e⟩ := T
  exact ⟨N, f, c0, fun j hj => by have := c1 j hj; rw [show u + 40 + 1 = u + 41 by omega, show v + 40 + 1 = v + 41 by omega] at this; exact this, fun j hj => by have := c2 j hj; rw [show u + 40 + 2 = u + 42 by omega, show v + 40 + 2 = v + 42 by omega] at this; exact this, fun j hj => by have := c3 j hj; rw [show u + 40 + 4 = u + 44 by omega, show v + 40 + 4 = v + 44 by omega] at this; exact this, fun j hj => by have := c4 j hj; rw [show u + 40 + 5 = u + 45 by omega, show v + 40 + 5 = v + 45 by omega] at this; exact this, fun j hj => by have := c5 j hj; rw [show u + 40 + 7 = u + 47 by omega, show v + 40 + 7 = v + 47 by omega] at this; exact this, fun j hj => by have := c6 j hj; rw [show u + 40 + 8 = u + 48 by omega, show v + 40 + 8 = v + 48 by omega] at this; exact this, fun j hj => by have := c7 j hj; rw [show u + 40 + 9 = u + 49 by omega, show v + 40 + 9 = v + 49 by omega] at this; exact this, fun j hj => by have := c8 j hj; rw [show u + 40 + 10 = u + 50 by omega, show v + 40 + 10 = v + 50 by omega] at this; exact this, fun j hj => by have := c9 j hj; rw [show u + 40 + 11 = u + 51 by omega, show v + 40 + 11 = v + 51 by omega] at this; exact this, fun j hj => by have := c10 j hj; rw [show u + 40 + 12 = u + 52 by omega, show v + 40 + 12 = v + 52 by omega] at this; exact this, e⟩
theorem py_X6 {M : pu_M} {u v n : Nat} (hu : pz_os1 u) (hv : pz_os1 v) (ru : pz_or M u) (rv : pz_or M v) (hd : u + 52 < v ∨ v + 52 < u) (bn : n ≤ 200) (hn : M.1 (v + 1) 2 = nI n) : ∃ N, pz_fo M N (u + 1) 7 ∧ (∀ j, j < 3 → N.1 (u + 1) j = M.1 (v + 1) j) ∧ (∀ k j, 2 ≤ k → k ≤ 8 → j < n → N.1 (u + k) j = M.1 (v + k) j) ∧ pu_r 134 [some (.ref (u + 1)), some (.ref (v + 1))] [] M = some (none, N) := by
  have A0 : ∀ k, k < 9 → 2 ≤ k → pu_shO.getD k (9, 0) = (1, 200) := by decide
  have B0 : ∀ k, k < 8 → 1 ≤ k → pu_RT (1 + 5) (k + 2) = some (k + 1 + 5) := by decide
  have A : ∀ k, 2 ≤ k → k ≤ 8 → pu_shO.getD k (9, 0) = (1, 200) := fun k h1 h2 => A0 k (by omega) h1
  have B : ∀ k, 1 ≤ k → k ≤ 7 → pu_RT (1 + 5) (k + 2) = some (k + 1 + 5) := fun k h1 h2 => B0 k (by omega) h1
  obtain ⟨N, f, c0, c1, e⟩ := pz_cpp2 (M := M) (u := u + 1) (v := v + 1) bn (by omega) hn (by rw [hu 1 (by omega)]; rfl) (by rw [hv 1 (by omega)]; rfl) (fun k h1 h2 => by rw [show u + 1 + k = u + (k + 1) by omega, hu (k + 1) (by omega)]; exact A (k + 1) (by omega) (by omega)) (fun k h1 h2 => by rw [show v + 1 + k = v + (k + 1) by omega, hv (k + 1) (by omega)]; exact A (k + 1) (by omega) (by omega)) (fun k h1 h2 => by rw [ru 1 (k + 2) (k + 1) (B k h1 h2) (by omega), show u + 1 + k = u + (k + 1) by omega]) (fun k h1 h2 => by rw [rv 1 (k + 2) (k + 1) (B k h1 h2) (by omega), show v + 1 + k = v + (k + 1) by omega])
  refine ⟨N, f, c0, fun k j h1 h2 hj => ?_, e⟩
  have := c1 (k - 1) j (by omega) (by omega) hj
  rw [show u + 1 + (k - 1) = u + k by omega, show v + 1 + (k - 1) = v + k by omega] at this
  exact this
