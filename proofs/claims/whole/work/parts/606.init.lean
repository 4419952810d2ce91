/-! constructors: a new object's arrays lie behind it -/
theorem pu_wr_3 (M : pu_M) (a i : Nat) (v : Option Nat) (b j : Nat) : (pu_wr M a i v).2.2.1 b j = if b = a then (if j = i then v else M.2.2.1 b j) else M.2.2.1 b j := rfl
theorem pu_wr_n (M : pu_M) (a i : Nat) (v : Option Nat) : (pu_wr M a i v).2.2.2 = M.2.2.2 := rfl
theorem pu_wr_1 (M : pu_M) (a i : Nat) (v : Option Nat) : (pu_wr M a i v).1 = M.1 := rfl
theorem pu_nw_n (M : pu_M) : (pu_nw M).2.2.2 = M.2.2.2 + 1 := rfl
theorem e_X0_init (a : Nat) (M : pu_M) (hs : pu_sh a = (0, 0)) (h : pu_sh M.2.2.2 = (1, 1200)) : pu_r 0 [some (.ref a)] [] M = some (none, pu_wr (pu_nw M) a 1 (some M.2.2.2)) := by
  have e : (1200 : Int32).toNatClampNeg = 1200 := by decide
  have e0 : ¬ (1200 : Int32) < 0 := by decide
  rw [qX0_init]
  simp only [s_ent, kX0_init_0, s_ald, s_na, s_obj, s_pr, s_push, s_vret]
  simp [hs, h, Value.category, e, e0]
/-- arrays made one behind another, and kept in the fields js of a -/
def pu_mk (M : pu_M) (a : Nat) : List Nat → pu_M
  | [] => M
  | j :: js => pu_mk (pu_wr (pu_nw M) a j (some M.2.2.2)) a js
theorem pu_wi_n (M : pu_M) (a i : Nat) (v : Int32) : (pu_wi M a i v).2.2.2 = M.2.2.2 := rfl
theorem e_X4_init (a : Nat) (M : pu_M) (hs : pu_sh a = (0, 4)) (h : ∀ k, k < 4 → pu_sh (M.2.2.2 + k) = (1, 3000)) : pu_r 2 [some (.ref a)] [] M = some (none, pu_mk M a [1, 2, 3, 4]) := by
  have e : (3000 : Int32).toNatClampNeg = 3000 := by decide
  have e0 : ¬ (3000 : Int32) < 0 := by decide
  have h0 := h 0 (by omega)
  have h1 := h 1 (by omega)
  have h2 := h 2 (by omega)
  have h3 := h 3 (by omega)
  rw [Nat.add_zero] at h0
  rw [qX4_init]
  simp only [s_ent, kX4_init_0, s_ald, s_na, s_obj, s_pr, s_push, s_vret]
  simp [hs, h0, h1, h2, h3, Value.category, e, e0, pu_wr_n, pu_nw_n, pu_mk, Nat.add_assoc]
theorem e_X6_init (a : Nat) (M : pu_M) (hs : pu_sh a = (0, 6)) (h : ∀ k, k < 7 → pu_sh (M.2.2.2 + k) = (1, 200)) : pu_r 1 [some (.ref a)] [] M = some (none, pu_mk (pu_wi M a 1 (-1)) a [3, 4, 5, 6, 7, 8, 9]) := by
  have e : (200 : Int32).toNatClampNeg = 200 := by decide
  have e0 : ¬ (200 : Int32) < 0 := by decide
  have h0 := h 0 (by omega)
  have h1 := h 1 (by omega)
  have h2 := h 2 (by omega)
  have h3 := h 3 (by omega)
  have h4 := h 4 (by omega)
  have h5 := h 5 (by omega)
  have h6 := h 6 (by omega)
  rw [Nat.add_zero] at h0
  rw [qX6_init]
  simp only [s_ent, kX6_init_0, kX6_init_51, s_ald, s_na, s_obj, s_pi, s_pr, s_push, s_vret]
  simp [hs, h0, h1, h2, h3, h4, h5, h6, Value.category, e, e0, pu_wi_n, pu_wr_n, pu_nw_n, pu_mk, Nat.add_assoc]
