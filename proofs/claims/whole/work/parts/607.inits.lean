theorem e_X3_init (a : Nat) (M : pu_M) (hs : pu_sh a = (0, 3)) (h0 : pu_sh (M.2.2.2 + 0) = (1, 416)) (h1 : pu_sh (M.2.2.2 + 1) = (1, 416)) (h2 : pu_sh (M.2.2.2 + 2) = (1, 416)) (h3 : pu_sh (M.2.2.2 + 3) = (1, 416)) (h4 : pu_sh (M.2.2.2 + 4) = (3, 1248)) : pu_r 3 [some (.ref a)] [] M = some (none, pu_mk M a [1, 2, 3, 4, 5]) := by
  have c416 : (416 : Int32).toNatClampNeg = 416 := by decide
  have d416 : ¬ (416 : Int32) < 0 := by decide
  have c1248 : (1248 : Int32).toNatClampNeg = 1248 := by decide
  have d1248 : ¬ (1248 : Int32) < 0 := by decide
  rw [Nat.add_zero] at h0
  rw [qX3_init]
  simp only [s_ent, kX3_init_0, s_ald, s_na, s_obj, s_pr, s_push, s_vret]
  simp [hs, h0, h1, h2, h3, h4, c416, d416, c1248, d1248, Value.category, pu_wi_n, pu_wr_n, pu_nw_n, pu_mk, Nat.add_assoc]
theorem e_X10_init (a : Nat) (M : pu_M) (hs : pu_sh a = (0, 10)) (h0 : pu_sh (M.2.2.2 + 0) = (3, 24)) (h1 : pu_sh (M.2.2.2 + 1) = (1, 24)) (h2 : pu_sh (M.2.2.2 + 2) = (1, 24)) (h3 : pu_sh (M.2.2.2 + 3) = (1, 48)) (h4 : pu_sh (M.2.2.2 + 4) = (1, 4800)) : pu_r 4 [some (.ref a)] [] M = some (none, pu_mk M a [2, 3, 4, 5, 6]) := by
  have c24 : (24 : Int32).toNatClampNeg = 24 := by decide
  have d24 : ¬ (24 : Int32) < 0 := by decide
  have c48 : (48 : Int32).toNatClampNeg = 48 := by decide
  have d48 : ¬ (48 : Int32) < 0 := by decide
  have c4800 : (4800 : Int32).toNatClampNeg = 4800 := by decide
  have d4800 : ¬ (4800 : Int32) < 0 := by decide
  rw [Nat.add_zero] at h0
  rw [qX10_init]
  simp only [s_ent, kX10_init_0, s_ald, s_na, s_obj, s_pr, s_push, s_vret]
  simp [hs, h0, h1, h2, h3, h4, c24, d24, c48, d48, c4800, d4800, Value.category, pu_wi_n, pu_wr_n, pu_nw_n, pu_mk, Nat.add_assoc]
theorem e_X2_init (a : Nat) (M : pu_M) (hs : pu_sh a = (0, 2)) (h0 : pu_sh (M.2.2.2 + 0) = (1, 100)) (h1 : pu_sh (M.2.2.2 + 1) = (1, 100)) (h2 : pu_sh (M.2.2.2 + 2) = (1, 100)) (h3 : pu_sh (M.2.2.2 + 3) = (1, 100)) (h4 : pu_sh (M.2.2.2 + 4) = (1, 100)) (h5 : pu_sh (M.2.2.2 + 5) = (1, 100)) (h6 : pu_sh (M.2.2.2 + 6) = (1, 100)) (h7 : pu_sh (M.2.2.2 + 7) = (1, 200)) (h8 : pu_sh (M.2.2.2 + 8) = (1, 200)) (h9 : pu_sh (M.2.2.2 + 9) = (1, 200)) : pu_r 5 [some (.ref a)] [] M = some (none, pu_mk M a [1, 2, 3, 4, 5, 6, 7, 8, 9, 10]) := by
  have c100 : (100 : Int32).toNatClampNeg = 100 := by decide
  have d100 : ¬ (100 : Int32) < 0 := by decide
  have c200 : (200 : Int32).toNatClampNeg = 200 := by decide
  have d200 : ¬ (200 : Int32) < 0 := by decide
  rw [Nat.add_zero] at h0
  rw [qX2_init]
  simp only [s_ent, kX2_init_0, kX2_init_47, s_ald, s_na, s_obj, s_pr, s_push, s_vret]
  simp [hs, h0, h1, h2, h3, h4, h5, h6, h7, h8, h9, c100, d100, c200, d200, Value.category, pu_wi_n, pu_wr_n, pu_nw_n, pu_mk, Nat.add_assoc]
theorem e_X8_init (a : Nat) (M : pu_M) (hs : pu_sh a = (0, 8)) (h0 : pu_sh (M.2.2.2 + 0) = (3, 20)) (h1 : pu_sh (M.2.2.2 + 1) = (3, 20)) : pu_r 6 [some (.ref a)] [] M = some (none, pu_mk M a [1, 2]) := by
  have c20 : (20 : Int32).toNatClampNeg = 20 := by decide
  have d20 : ¬ (20 : Int32) < 0 := by decide
  rw [Nat.add_zero] at h0
  rw [qX8_init]
  simp only [s_ent, kX8_init_0, s_ald, s_na, s_obj, s_pr, s_push, s_vret]
  simp [hs, h0, h1, c20, d20, Value.category, pu_wi_n, pu_wr_n, pu_nw_n, pu_mk, Nat.add_assoc]
theorem e_X1_init (a : Nat) (M : pu_M) (hs : pu_sh a = (0, 1)) (h0 : pu_sh (M.2.2.2 + 0) = (1, 100)) (h1 : pu_sh (M.2.2.2 + 1) = (1, 100)) (h2 : pu_sh (M.2.2.2 + 2) = (1, 100)) (h3 : pu_sh (M.2.2.2 + 3) = (1, 200)) (h4 : pu_sh (M.2.2.2 + 4) = (1, 200)) (h5 : pu_sh (M.2.2.2 + 5) = (1, 200)) (h6 : pu_sh (M.2.2.2 + 6) = (1, 24)) (h7 : pu_sh (M.2.2.2 + 7) = (1, 24)) (h8 : pu_sh (M.2.2.2 + 8) = (1, 100)) (h9 : pu_sh (M.2.2.2 + 9) = (1, 60)) (h10 : pu_sh (M.2.2.2 + 10) = (1, 60)) (h11 : pu_sh (M.2.2.2 + 11) = (1, 60)) : pu_r 7 [some (.ref a)] [] M = some (none, pu_mk (pu_wi (pu_wi M a 0 (-1)) a 1 (-1)) a [8, 9, 10, 11, 12, 13, 14, 15, 16, 17, 18, 19]) := by
  have c24 : (24 : Int32).toNatClampNeg = 24 := by decide
  have d24 : ¬ (24 : Int32) < 0 := by decide
  have c60 : (60 : Int32).toNatClampNeg = 60 := by decide
  have d60 : ¬ (60 : Int32) < 0 := by decide
  have c100 : (100 : Int32).toNatClampNeg = 100 := by decide
  have d100 : ¬ (100 : Int32) < 0 := by decide
  have c200 : (200 : Int32).toNatClampNeg = 200 := by decide
  have d200 : ¬ (200 : Int32) < 0 := by decide
  rw [Nat.add_zero] at h0
  rw [qX1_init]
  simp only [s_ent, kX1_init_0, kX1_init_47, kX1_init_97, s_ald, s_na, s_obj, s_pi, s_pr, s_push, s_vret]
  simp [hs, h0, h1, h2, h3, h4, h5, h6, h7, h8, h9, h10, h11, c24, d24, c60, d60, c100, d100, c200, d200, Value.category, pu_wi_n, pu_wr_n, pu_nw_n, pu_mk, Nat.add_assoc]
theorem e_X7_init (a : Nat) (M : pu_M) (hs : pu_sh a = (0, 7)) (h0 : pu_sh (M.2.2.2 + 0) = (3, 3)) (h1 : pu_sh (M.2.2.2 + 1) = (3, 3)) : pu_r 9 [some (.ref a)] [] M = some (none, pu_wi (pu_mk M a [0, 1]) a 5 (-1)) := by
  have c3 : (3 : Int32).toNatClampNeg = 3 := by decide
  have d3 : ¬ (3 : Int32) < 0 := by decide
  rw [Nat.add_zero] at h0
  rw [qX7_init]
  simp only [s_ent, kX7_init_0, s_ald, s_na, s_obj, s_pi, s_pr, s_push, s_vret]
  simp [hs, h0, h1, c3, d3, Value.category, pu_wi_n, pu_wr_n, pu_nw_n, pu_mk, Nat.add_assoc]
theorem e_X9_init (a : Nat) (M : pu_M) (hs : pu_sh a = (0, 9)) (h0 : pu_sh (M.2.2.2 + 0) = (1, 100)) (h1 : pu_sh (M.2.2.2 + 1) = (1, 100)) (h2 : pu_sh (M.2.2.2 + 2) = (1, 100)) (h3 : pu_sh (M.2.2.2 + 3) = (1, 100)) (h4 : pu_sh (M.2.2.2 + 4) = (1, 100)) (h5 : pu_sh (M.2.2.2 + 5) = (1, 100)) : pu_r 10 [some (.ref a)] [] M = some (none, pu_mk M a [3, 4, 5, 6, 7, 8]) := by
  have c100 : (100 : Int32).toNatClampNeg = 100 := by decide
  have d100 : ¬ (100 : Int32) < 0 := by decide
  rw [Nat.add_zero] at h0
  rw [qX9_init]
  simp only [s_ent, kX9_init_0, kX9_init_47, s_ald, s_na, s_obj, s_pr, s_push, s_vret]
  simp [hs, h0, h1, h2, h3, h4, h5, c100, d100, Value.category, pu_wi_n, pu_wr_n, pu_nw_n, pu_mk, Nat.add_assoc]
