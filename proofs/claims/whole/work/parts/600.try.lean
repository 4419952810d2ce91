theorem e_X11_isDay (d : Int32) (M : pu_M) : pu_r 18 [some (.int d)] [] M = some (some (.int (if d < 0 then 0 else if 109574 < d then 0 else 1)), M) := by
  rw [qX11_isDay]
  simp only [s_ent, kX11_isDay_0, kX11_isDay_15, kX11_isDay_16, s_icgt, s_iflt, s_ild, s_push, s_zret]
  simp
  split
  · simp
  · split <;> simp
theorem e_X11_end (n : Int32) (M : pu_M) (h : M.2.2.1 0 0 = some 1) : pu_r 15 [some (.ref 0), some (.int n)] [] M = some (some (.int (if n < 0 then 0 else if n ≤ M.1 1 0 then 1 else 0)), if n < 0 then M else if n ≤ M.1 1 0 then pu_wi M 1 0 n else M) := by
  rw [qX11_end]
  simp only [s_ent, kX11_end_0, kX11_end_15, kX11_end_17, s_ald, s_gi, s_gr, s_icle, s_iflt, s_ild, s_pi, s_push, s_zret, sh_0, sh_1, h, pu_rv]
  simp [sh_0, sh_1, h, pu_rv]
  split
  · simp
  · split <;> simp
