/-! constructors: a new object's arrays lie behind it -/
theorem pu_wr_3 (M : pu_M) (a i : Nat) (v : Option Nat) (b j : Nat) : (pu_wr M a i v).2.2.1 b j = if b = a then (if j = i then v else M.2.2.1 b j) else M.2.2.1 b j := rfl
theorem pu_wr_n (M : pu_M) (a i : Nat) (v : Option Nat) : (pu_wr M a i v).2.2.2 = M.2.2.2 := rfl
theorem pu_wr_1 (M : pu_M) (a i : Nat) (v : Option Nat) : (pu_wr M a i v).1 = M.1 := rfl
theorem pu_nw_n (M : pu_M) : (pu_nw M).2.2.2 = M.2.2.2 + 1 := rfl
theorem e_X0_init (a : Nat) (M : pu_M) (hs : pu_sh a = (0, 0)) (h : pu_sh M.2.2.2 = (1, 1200)) : pu_r 0 [some (.ref a)] [] M = some (none, pu_wr (pu_nw M) a 1 (some M.2.2.2)) := by
  have e : (1200 : Int32).toNatClampNeg = 1200 := by decide
  have e0 : ¬ (1200 : Int32) < 0 := by decide
  rw [qX0_init]
  simp only [s_ent, kX0_init_0, s_ald, s_na, s_obj, s_pr, s_push, s_vret]
  simp [hs, h, Value.category, e, e0]
