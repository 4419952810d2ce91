def pu_off (M : pu_M) (a : Nat) : pu_M := pu_pt1 (pu_pt1 (pu_pt1 (pu_pt1 (pu_pt1 (pu_pt1 (pu_pt1 M a 0 pu_iP) a 1 pu_iNu) a 2 pu_iNa) a 3 pu_iS) a 4 pu_iD) a 5 pu_iF) a 6 pu_iK
/-- one part of an Office: new, its constructor, its field -/
theorem pu_part {c j i : Nat} {f : pu_M → Nat → pu_M} {k : pu_K} {a : Nat} {M : pu_M} (hs : pu_sh a = (0, 5)) (hn : pu_sh M.2.2.2 = (0, c)) (h : pu_r j [some (.ref M.2.2.2)] [] (pu_nw M) = some (none, f (pu_nw M) M.2.2.2)) : s_ald 0 (s_new c (s_dup (s_ci pu_r j 0 (s_pr 5 i k)))) [some (.ref a)] [] M = k [some (.ref a)] [] (pu_pt1 M a i f) := by
  simp only [s_ald, s_new, s_dup, s_ci, s_pr]
  simp [hn, Value.category, pu_as, pu_bk]
  rw [h]
  simp [pu_bk, s_pr, hs, pu_pt1]
