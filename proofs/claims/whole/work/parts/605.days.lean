theorem e_X12_isDay (d : Int32) (M : pu_M) : pu_r 234 [some (.int d)] [] M = some (some (.int (if d < 0 then 0 else if 109574 < d then 0 else 1)), M) := by
  rw [qX12_isDay]
  simp only [s_ent, kX12_isDay_0, kX12_isDay_14, kX12_isDay_15, s_icgt, s_iflt, s_ild, s_push, s_zret]
  simp
  split
  · simp
  · split <;> simp
theorem e_X12_end (n : Int32) (M : pu_M) : pu_r 230 [some (.ref 71), some (.int n)] [] M = some (some (.int (if n < 0 then 0 else if n ≤ M.1 71 4 then 1 else 0)), if n < 0 then M else if n ≤ M.1 71 4 then pu_wi M 71 4 n else M) := by
  rw [qX12_end]
  simp only [s_ent, kX12_end_0, kX12_end_12, kX12_end_14, s_ald, s_gi, s_icle, s_iflt, s_ild, s_pi, s_push, s_zret]
  simp [sh_71]
  split
  · simp
  · split <;> simp
theorem e_X11_day (d : Int32) (M : pu_M) (h1 : M.2.2.1 0 2 = some 5) (h2 : M.2.2.1 5 0 = some 6) : pu_r 19 [some (.ref 0), some (.int d)] [] M = (if d < 0 ∨ 109574 < d ∨ d < M.1 6 0 then some (some (.int 0), M) else some (some (.int 1), pu_wi M 6 0 d)) := by
  rw [qX11_day]
  simp only [s_ent, kX11_day_0, kX11_day_21, kX11_day_23, s_ald, s_cs, s_gi, s_gr, s_icge, s_ifeq, s_ild, s_pi, s_push, s_zret]
  simp [pu_as, Value.category, e_X11_isDay, pu_bk]
  simp only [s_ald, s_gi, s_gr, s_icge, s_ifeq, s_ild, s_pi, s_push, s_zret]
  by_cases a : d < 0
  · simp [a]
  · by_cases b : 109574 < d
    · simp [a, b]
    · by_cases c : d < M.1 6 0
      · have c' : ¬ M.1 6 0 ≤ d := fun h => absurd c (Int32.not_lt.mpr h)
        simp [a, b, c, c', sh_0, sh_5, sh_6, h1, h2, pu_rv]
      · have c' : M.1 6 0 ≤ d := Int32.not_lt.mp c
        simp [a, b, c, c', sh_0, sh_5, sh_6, h1, h2, pu_rv]
theorem e_X12_day (d : Int32) (M : pu_M) (h1 : M.2.2.1 71 0 = some 72) : pu_r 235 [some (.ref 71), some (.int d)] [] M = (if d < 0 ∨ 109574 < d ∨ d < M.1 72 0 then some (some (.int 0), M) else some (some (.int 1), pu_wi M 72 0 d)) := by
  rw [qX12_day]
  simp only [s_ent, kX12_day_0, kX12_day_17, kX12_day_19, s_ai, s_ald, s_cs, s_gr, s_icge, s_ifeq, s_ild, s_push, s_wi, s_zret]
  simp [pu_as, Value.category, e_X12_isDay, pu_bk]
  simp only [s_ai, s_ald, s_gr, s_icge, s_ifeq, s_ild, s_push, s_wi, s_zret]
  by_cases a : d < 0
  · simp [a]
  · by_cases b : 109574 < d
    · simp [a, b]
    · by_cases c : d < M.1 72 0
      · have c' : ¬ M.1 72 0 ≤ d := fun h => absurd c (Int32.not_lt.mpr h)
        simp [a, b, c, c', sh_71, sh_72, h1, pu_rv]
      · have c' : M.1 72 0 ≤ d := Int32.not_lt.mp c
        simp [a, b, c, c', sh_71, sh_72, h1, pu_rv]
