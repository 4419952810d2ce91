/-! where the references lie: a table, and what holds of a memory that keeps it -/
def pu_RTl : List (Nat × Nat × Nat) := [(0, 0, 1), (0, 1, 3), (0, 2, 5), (0, 3, 58), (0, 4, 59), (0, 5, 62), (0, 6, 69), (0, 7, 70), (1, 1, 2), (3, 1, 4), (5, 0, 6), (5, 1, 14), (5, 2, 19), (5, 3, 25), (5, 4, 31), (5, 5, 42), (5, 6, 45), (6, 3, 7), (6, 4, 8), (6, 5, 9), (6, 6, 10), (6, 7, 11), (6, 8, 12), (6, 9, 13), (14, 1, 15), (14, 2, 16), (14, 3, 17), (14, 4, 18), (19, 1, 20), (19, 2, 21), (19, 3, 22), (19, 4, 23), (19, 5, 24), (25, 2, 26), (25, 3, 27), (25, 4, 28), (25, 5, 29), (25, 6, 30), (31, 1, 32), (31, 2, 33), (31, 3, 34), (31, 4, 35), (31, 5, 36), (31, 6, 37), (31, 7, 38), (31, 8, 39), (31, 9, 40), (31, 10, 41), (42, 1, 43), (42, 2, 44), (45, 8, 46), (45, 9, 47), (45, 10, 48), (45, 11, 49), (45, 12, 50), (45, 13, 51), (45, 14, 52), (45, 15, 53), (45, 16, 54), (45, 17, 55), (45, 18, 56), (45, 19, 57), (59, 0, 60), (59, 1, 61), (62, 3, 63), (62, 4, 64), (62, 5, 65), (62, 6, 66), (62, 7, 67), (62, 8, 68), (71, 0, 72), (71, 1, 73), (71, 2, 74), (71, 3, 75), (71, 5, 76), (71, 7, 77), (71, 9, 78), (71, 12, 79), (71, 14, 80), (71, 15, 81), (71, 16, 82), (71, 23, 83), (71, 24, 84), (71, 25, 85)]
def pu_RT (a k : Nat) : Option Nat := (pu_RTl.find? (fun q => q.1 == a && q.2.1 == k)).map (fun q => q.2.2)
theorem pu_RTm {a k r : Nat} (h : pu_RT a k = some r) : (a, k, r) ∈ pu_RTl := by
  unfold pu_RT at h
  rw [Option.map_eq_some_iff] at h
  obtain ⟨q, h1, h2⟩ := h
  have h3 := List.mem_of_find?_eq_some h1
  have h4 := List.find?_some h1
  simp only [Bool.and_eq_true, beq_iff_eq] at h4
  obtain ⟨x, y, z⟩ := q
  simp only at h2 h4
  rw [← h4.1, ← h4.2, ← h2]
  exact h3
def pu_fx (M : pu_M) : Prop := ∀ a k r, pu_RT a k = some r → M.2.2.1 a k = some r
theorem fx_0_0 {M : pu_M} (h : pu_fx M) : M.2.2.1 0 0 = some 1 := h 0 0 1 rfl
theorem fx_0_1 {M : pu_M} (h : pu_fx M) : M.2.2.1 0 1 = some 3 := h 0 1 3 rfl
theorem fx_0_2 {M : pu_M} (h : pu_fx M) : M.2.2.1 0 2 = some 5 := h 0 2 5 rfl
theorem fx_0_3 {M : pu_M} (h : pu_fx M) : M.2.2.1 0 3 = some 58 := h 0 3 58 rfl
theorem fx_0_4 {M : pu_M} (h : pu_fx M) : M.2.2.1 0 4 = some 59 := h 0 4 59 rfl
theorem fx_0_5 {M : pu_M} (h : pu_fx M) : M.2.2.1 0 5 = some 62 := h 0 5 62 rfl
theorem fx_0_6 {M : pu_M} (h : pu_fx M) : M.2.2.1 0 6 = some 69 := h 0 6 69 rfl
theorem fx_0_7 {M : pu_M} (h : pu_fx M) : M.2.2.1 0 7 = some 70 := h 0 7 70 rfl
theorem fx_1_1 {M : pu_M} (h : pu_fx M) : M.2.2.1 1 1 = some 2 := h 1 1 2 rfl
theorem fx_3_1 {M : pu_M} (h : pu_fx M) : M.2.2.1 3 1 = some 4 := h 3 1 4 rfl
theorem fx_5_0 {M : pu_M} (h : pu_fx M) : M.2.2.1 5 0 = some 6 := h 5 0 6 rfl
theorem fx_5_1 {M : pu_M} (h : pu_fx M) : M.2.2.1 5 1 = some 14 := h 5 1 14 rfl
theorem fx_5_2 {M : pu_M} (h : pu_fx M) : M.2.2.1 5 2 = some 19 := h 5 2 19 rfl
theorem fx_5_3 {M : pu_M} (h : pu_fx M) : M.2.2.1 5 3 = some 25 := h 5 3 25 rfl
theorem fx_5_4 {M : pu_M} (h : pu_fx M) : M.2.2.1 5 4 = some 31 := h 5 4 31 rfl
theorem fx_5_5 {M : pu_M} (h : pu_fx M) : M.2.2.1 5 5 = some 42 := h 5 5 42 rfl
theorem fx_5_6 {M : pu_M} (h : pu_fx M) : M.2.2.1 5 6 = some 45 := h 5 6 45 rfl
theorem fx_6_3 {M : pu_M} (h : pu_fx M) : M.2.2.1 6 3 = some 7 := h 6 3 7 rfl
theorem fx_6_4 {M : pu_M} (h : pu_fx M) : M.2.2.1 6 4 = some 8 := h 6 4 8 rfl
theorem fx_6_5 {M : pu_M} (h : pu_fx M) : M.2.2.1 6 5 = some 9 := h 6 5 9 rfl
theorem fx_6_6 {M : pu_M} (h : pu_fx M) : M.2.2.1 6 6 = some 10 := h 6 6 10 rfl
theorem fx_6_7 {M : pu_M} (h : pu_fx M) : M.2.2.1 6 7 = some 11 := h 6 7 11 rfl
theorem fx_6_8 {M : pu_M} (h : pu_fx M) : M.2.2.1 6 8 = some 12 := h 6 8 12 rfl
theorem fx_6_9 {M : pu_M} (h : pu_fx M) : M.2.2.1 6 9 = some 13 := h 6 9 13 rfl
theorem fx_14_1 {M : pu_M} (h : pu_fx M) : M.2.2.1 14 1 = some 15 := h 14 1 15 rfl
theorem fx_14_2 {M : pu_M} (h : pu_fx M) : M.2.2.1 14 2 = some 16 := h 14 2 16 rfl
theorem fx_14_3 {M : pu_M} (h : pu_fx M) : M.2.2.1 14 3 = some 17 := h 14 3 17 rfl
theorem fx_14_4 {M : pu_M} (h : pu_fx M) : M.2.2.1 14 4 = some 18 := h 14 4 18 rfl
theorem fx_19_1 {M : pu_M} (h : pu_fx M) : M.2.2.1 19 1 = some 20 := h 19 1 20 rfl
theorem fx_19_2 {M : pu_M} (h : pu_fx M) : M.2.2.1 19 2 = some 21 := h 19 2 21 rfl
theorem fx_19_3 {M : pu_M} (h : pu_fx M) : M.2.2.1 19 3 = some 22 := h 19 3 22 rfl
theorem fx_19_4 {M : pu_M} (h : pu_fx M) : M.2.2.1 19 4 = some 23 := h 19 4 23 rfl
theorem fx_19_5 {M : pu_M} (h : pu_fx M) : M.2.2.1 19 5 = some 24 := h 19 5 24 rfl
theorem fx_25_2 {M : pu_M} (h : pu_fx M) : M.2.2.1 25 2 = some 26 := h 25 2 26 rfl
theorem fx_25_3 {M : pu_M} (h : pu_fx M) : M.2.2.1 25 3 = some 27 := h 25 3 27 rfl
theorem fx_25_4 {M : pu_M} (h : pu_fx M) : M.2.2.1 25 4 = some 28 := h 25 4 28 rfl
theorem fx_25_5 {M : pu_M} (h : pu_fx M) : M.2.2.1 25 5 = some 29 := h 25 5 29 rfl
theorem fx_25_6 {M : pu_M} (h : pu_fx M) : M.2.2.1 25 6 = some 30 := h 25 6 30 rfl
theorem fx_31_1 {M : pu_M} (h : pu_fx M) : M.2.2.1 31 1 = some 32 := h 31 1 32 rfl
theorem fx_31_2 {M : pu_M} (h : pu_fx M) : M.2.2.1 31 2 = some 33 := h 31 2 33 rfl
theorem fx_31_3 {M : pu_M} (h : pu_fx M) : M.2.2.1 31 3 = some 34 := h 31 3 34 rfl
theorem fx_31_4 {M : pu_M} (h : pu_fx M) : M.2.2.1 31 4 = some 35 := h 31 4 35 rfl
theorem fx_31_5 {M : pu_M} (h : pu_fx M) : M.2.2.1 31 5 = some 36 := h 31 5 36 rfl
theorem fx_31_6 {M : pu_M} (h : pu_fx M) : M.2.2.1 31 6 = some 37 := h 31 6 37 rfl
theorem fx_31_7 {M : pu_M} (h : pu_fx M) : M.2.2.1 31 7 = some 38 := h 31 7 38 rfl
theorem fx_31_8 {M : pu_M} (h : pu_fx M) : M.2.2.1 31 8 = some 39 := h 31 8 39 rfl
theorem fx_31_9 {M : pu_M} (h : pu_fx M) : M.2.2.1 31 9 = some 40 := h 31 9 40 rfl
theorem fx_31_10 {M : pu_M} (h : pu_fx M) : M.2.2.1 31 10 = some 41 := h 31 10 41 rfl
theorem fx_42_1 {M : pu_M} (h : pu_fx M) : M.2.2.1 42 1 = some 43 := h 42 1 43 rfl
theorem fx_42_2 {M : pu_M} (h : pu_fx M) : M.2.2.1 42 2 = some 44 := h 42 2 44 rfl
theorem fx_45_8 {M : pu_M} (h : pu_fx M) : M.2.2.1 45 8 = some 46 := h 45 8 46 rfl
theorem fx_45_9 {M : pu_M} (h : pu_fx M) : M.2.2.1 45 9 = some 47 := h 45 9 47 rfl
theorem fx_45_10 {M : pu_M} (h : pu_fx M) : M.2.2.1 45 10 = some 48 := h 45 10 48 rfl
theorem fx_45_11 {M : pu_M} (h : pu_fx M) : M.2.2.1 45 11 = some 49 := h 45 11 49 rfl
theorem fx_45_12 {M : pu_M} (h : pu_fx M) : M.2.2.1 45 12 = some 50 := h 45 12 50 rfl
theorem fx_45_13 {M : pu_M} (h : pu_fx M) : M.2.2.1 45 13 = some 51 := h 45 13 51 rfl
theorem fx_45_14 {M : pu_M} (h : pu_fx M) : M.2.2.1 45 14 = some 52 := h 45 14 52 rfl
theorem fx_45_15 {M : pu_M} (h : pu_fx M) : M.2.2.1 45 15 = some 53 := h 45 15 53 rfl
theorem fx_45_16 {M : pu_M} (h : pu_fx M) : M.2.2.1 45 16 = some 54 := h 45 16 54 rfl
theorem fx_45_17 {M : pu_M} (h : pu_fx M) : M.2.2.1 45 17 = some 55 := h 45 17 55 rfl
theorem fx_45_18 {M : pu_M} (h : pu_fx M) : M.2.2.1 45 18 = some 56 := h 45 18 56 rfl
theorem fx_45_19 {M : pu_M} (h : pu_fx M) : M.2.2.1 45 19 = some 57 := h 45 19 57 rfl
theorem fx_59_0 {M : pu_M} (h : pu_fx M) : M.2.2.1 59 0 = some 60 := h 59 0 60 rfl
theorem fx_59_1 {M : pu_M} (h : pu_fx M) : M.2.2.1 59 1 = some 61 := h 59 1 61 rfl
theorem fx_62_3 {M : pu_M} (h : pu_fx M) : M.2.2.1 62 3 = some 63 := h 62 3 63 rfl
theorem fx_62_4 {M : pu_M} (h : pu_fx M) : M.2.2.1 62 4 = some 64 := h 62 4 64 rfl
theorem fx_62_5 {M : pu_M} (h : pu_fx M) : M.2.2.1 62 5 = some 65 := h 62 5 65 rfl
theorem fx_62_6 {M : pu_M} (h : pu_fx M) : M.2.2.1 62 6 = some 66 := h 62 6 66 rfl
theorem fx_62_7 {M : pu_M} (h : pu_fx M) : M.2.2.1 62 7 = some 67 := h 62 7 67 rfl
theorem fx_62_8 {M : pu_M} (h : pu_fx M) : M.2.2.1 62 8 = some 68 := h 62 8 68 rfl
theorem fx_71_0 {M : pu_M} (h : pu_fx M) : M.2.2.1 71 0 = some 72 := h 71 0 72 rfl
theorem fx_71_1 {M : pu_M} (h : pu_fx M) : M.2.2.1 71 1 = some 73 := h 71 1 73 rfl
theorem fx_71_2 {M : pu_M} (h : pu_fx M) : M.2.2.1 71 2 = some 74 := h 71 2 74 rfl
theorem fx_71_3 {M : pu_M} (h : pu_fx M) : M.2.2.1 71 3 = some 75 := h 71 3 75 rfl
theorem fx_71_5 {M : pu_M} (h : pu_fx M) : M.2.2.1 71 5 = some 76 := h 71 5 76 rfl
theorem fx_71_7 {M : pu_M} (h : pu_fx M) : M.2.2.1 71 7 = some 77 := h 71 7 77 rfl
theorem fx_71_9 {M : pu_M} (h : pu_fx M) : M.2.2.1 71 9 = some 78 := h 71 9 78 rfl
theorem fx_71_12 {M : pu_M} (h : pu_fx M) : M.2.2.1 71 12 = some 79 := h 71 12 79 rfl
theorem fx_71_14 {M : pu_M} (h : pu_fx M) : M.2.2.1 71 14 = some 80 := h 71 14 80 rfl
theorem fx_71_15 {M : pu_M} (h : pu_fx M) : M.2.2.1 71 15 = some 81 := h 71 15 81 rfl
theorem fx_71_16 {M : pu_M} (h : pu_fx M) : M.2.2.1 71 16 = some 82 := h 71 16 82 rfl
theorem fx_71_23 {M : pu_M} (h : pu_fx M) : M.2.2.1 71 23 = some 83 := h 71 23 83 rfl
theorem fx_71_24 {M : pu_M} (h : pu_fx M) : M.2.2.1 71 24 = some 84 := h 71 24 84 rfl
theorem fx_71_25 {M : pu_M} (h : pu_fx M) : M.2.2.1 71 25 = some 85 := h 71 25 85 rfl
