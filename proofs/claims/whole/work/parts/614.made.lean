/-! the two objects as the law makes them -/
def pu_iB (M : pu_M) (a : Nat) : pu_M := pu_wr (pu_nw M) a 1 (some M.2.2.2)
def pu_iR (M : pu_M) (a : Nat) : pu_M := pu_wi (pu_mk M a [0, 1]) a 5 (-1)
def pu_iV (M : pu_M) (a : Nat) : pu_M := pu_mk M a [3, 4, 5, 6, 7, 8]
theorem pu_iB_n (M : pu_M) (a : Nat) : (pu_iB M a).2.2.2 = M.2.2.2 + 1 := rfl
theorem pu_iR_n (M : pu_M) (a : Nat) : (pu_iR M a).2.2.2 = M.2.2.2 + 2 := pu_mk_n a _ _
theorem pu_iV_n (M : pu_M) (a : Nat) : (pu_iV M a).2.2.2 = M.2.2.2 + 6 := pu_mk_n a _ _
theorem pu_off_n (M : pu_M) (a : Nat) : (pu_off M a).2.2.2 = M.2.2.2 + 52 := by
  unfold pu_off
  rw [pu_pt1_n _ _ _ _ _ pu_iK_n, pu_pt1_n _ _ _ _ _ pu_iF_n, pu_pt1_n _ _ _ _ _ pu_iD_n, pu_pt1_n _ _ _ _ _ pu_iS_n, pu_pt1_n _ _ _ _ _ pu_iNa_n, pu_pt1_n _ _ _ _ _ pu_iNu_n, pu_pt1_n _ _ _ _ _ pu_iP_n]
def pu_x0 : pu_M := pu_nw pu_M0
def pu_x1 : pu_M := pu_pt1 pu_x0 0 0 pu_iB
def pu_x2 : pu_M := pu_pt1 pu_x1 0 1 pu_iB
def pu_x3 : pu_M := pu_pt1 pu_x2 0 2 pu_off
def pu_x4 : pu_M := pu_wr (pu_nw pu_x3) 0 3 (some 58)
def pu_x5 : pu_M := pu_pt1 pu_x4 0 4 pu_iR
def pu_x6 : pu_M := pu_pt1 pu_x5 0 5 pu_iV
def pu_x7 : pu_M := pu_mk pu_x6 0 [6, 7]
def pu_x8 : pu_M := pu_wi (pu_wi pu_x7 0 8 (-1)) 0 9 (-1)
theorem pu_x0n : pu_x0.2.2.2 = 1 := rfl
theorem pu_x1n : pu_x1.2.2.2 = 3 := rfl
theorem pu_x2n : pu_x2.2.2.2 = 5 := rfl
theorem pu_x3n : pu_x3.2.2.2 = 58 := by
  unfold pu_x3
  rw [pu_pt1_n _ _ _ _ _ pu_off_n, pu_x2n]
theorem pu_x4n : pu_x4.2.2.2 = 59 := by
  unfold pu_x4
  rw [pu_wr_n, pu_nw_n, pu_x3n]
theorem pu_x5n : pu_x5.2.2.2 = 62 := by
  unfold pu_x5
  rw [pu_pt1_n _ _ _ _ _ pu_iR_n, pu_x4n]
theorem pu_x6n : pu_x6.2.2.2 = 69 := by
  unfold pu_x6
  rw [pu_pt1_n _ _ _ _ _ pu_iV_n, pu_x5n]
theorem pu_x7n : pu_x7.2.2.2 = 71 := by
  unfold pu_x7
  rw [pu_mk_n, pu_x6n]
  rfl
theorem pu_prt11 {c j i : Nat} {f : pu_M → Nat → pu_M} {k : pu_K} {a : Nat} {M : pu_M} (hs : pu_sh a = (0, 11)) (hn : pu_sh M.2.2.2 = (0, c)) (h : pu_r j [some (.ref M.2.2.2)] [] (pu_nw M) = some (none, f (pu_nw M) M.2.2.2)) : s_ald 0 (s_new c (s_dup (s_ci pu_r j 0 (s_pr 11 i k)))) [some (.ref a)] [] M = k [some (.ref a)] [] (pu_pt1 M a i f) := by
  simp only [s_ald, s_new, s_dup, s_ci, s_pr]
  simp [hn, Value.category, pu_as, pu_bk]
  rw [h]
  simp [pu_bk, s_pr, hs, pu_pt1]
theorem pu_obj1 {k : pu_K} {a : Nat} {tl : pu_L} {M : pu_M} : s_ald 0 (s_obj k) (some (.ref a) :: tl) [] M = k (some (.ref a) :: tl) [] M := by
  simp [s_ald, s_obj]
theorem pu_pa1 {c i kd n : Nat} {v : Int32} {k : pu_K} {a : Nat} {tl : pu_L} {M : pu_M} (hs : pu_sh a = (0, c)) (hn : pu_sh M.2.2.2 = (kd, n)) (hv : v = nI n) (hb : n ≤ 1000000) : s_ald 0 (s_push (.int v) (s_na kd (s_pr c i k))) (some (.ref a) :: tl) [] M = k (some (.ref a) :: tl) [] (pu_wr (pu_nw M) a i (some M.2.2.2)) := by
  subst hv
  have h1 : (nI n).toNatClampNeg = n := nI_clamp (by omega)
  have h2 : ¬ nI n < 0 := nI_pos (by omega)
  simp only [s_ald, s_push, s_na, s_pr]
  simp [h1, h2, hn, hs, hb]
theorem pu_pf1 {c i : Nat} {v : Int32} {k : pu_K} {a : Nat} {tl : pu_L} {M : pu_M} (hs : pu_sh a = (0, c)) : s_ald 0 (s_push (.int v) (s_pi c i k)) (some (.ref a) :: tl) [] M = k (some (.ref a) :: tl) [] (pu_wi M a i v) := by
  simp only [s_ald, s_push, s_pi]
  simp [hs]
theorem pu_pf2 {c i : Nat} {k : pu_K} {a : Nat} {tl : pu_L} {M : pu_M} (hs : pu_sh a = (0, c)) : s_ald 0 (s_push (.int 0) (s_pz c i k)) (some (.ref a) :: tl) [] M = k (some (.ref a) :: tl) [] (pu_wi M a i 0) := by
  simp only [s_ald, s_push, s_pz]
  simp [hs]
theorem e_X11_init : pu_r 11 [some (.ref 0)] [] pu_x0 = some (none, pu_x8) := by
  rw [qX11_init]
  unfold s_ent
  rw [if_pos (by simp)]
  show kX11_init_0 pu_r [some (.ref 0)] [] pu_x0 = _
  unfold kX11_init_0 kX11_init_50
  rw [pu_obj0]
  rw [pu_prt11 (f := pu_iB) sh_0 (by rw [pu_x0n]; exact sh_1) (e_X0_init _ _ (by rw [pu_x0n]; exact sh_1) (by rw [pu_nw_n, pu_x0n]; exact sh_2))]
  show s_ald 0 _ [some (.ref 0)] [] pu_x1 = _
  rw [pu_prt11 (f := pu_iB) sh_0 (by rw [pu_x1n]; exact sh_3) (e_X0_init _ _ (by rw [pu_x1n]; exact sh_3) (by rw [pu_nw_n, pu_x1n]; exact sh_4))]
  show s_ald 0 _ [some (.ref 0)] [] pu_x2 = _
  rw [pu_prt11 (f := pu_off) sh_0 (by rw [pu_x2n]; exact sh_5) (e_X5_init _ _ (by rw [pu_x2n]; exact sh_5) (fun k hk => by
    rw [pu_nw_n, pu_x2n]
    exact (by decide +kernel : ∀ k, k < 52 → pu_sh (5 + 1 + k) = pu_shO.getD (k + 1) (9, 0)) k hk))]
  show s_ald 0 _ [some (.ref 0)] [] pu_x3 = _
  rw [pu_pa1 (v := 3) (n := 3) sh_0 (by rw [pu_x3n]; exact sh_58) rfl (by omega), pu_x3n]
  show s_ald 0 _ [some (.ref 0)] [] pu_x4 = _
  rw [pu_prt11 (f := pu_iR) sh_0 (by rw [pu_x4n]; exact sh_59) (e_X7_init _ _ (by rw [pu_x4n]; exact sh_59) (by rw [pu_nw_n, pu_x4n]; exact sh_60) (by rw [pu_nw_n, pu_x4n]; exact sh_61))]
  show s_ald 0 _ [some (.ref 0)] [] pu_x5 = _
  rw [pu_prt11 (f := pu_iV) sh_0 (by rw [pu_x5n]; exact sh_62) (e_X9_init _ _ (by rw [pu_x5n]; exact sh_62) (by rw [pu_nw_n, pu_x5n]; exact sh_63) (by rw [pu_nw_n, pu_x5n]; exact sh_64) (by rw [pu_nw_n, pu_x5n]; exact sh_65) (by rw [pu_nw_n, pu_x5n]; exact sh_66) (by rw [pu_nw_n, pu_x5n]; exact sh_67) (by rw [pu_nw_n, pu_x5n]; exact sh_68))]
  show s_ald 0 _ [some (.ref 0)] [] pu_x6 = _
  rw [pu_pa1 (v := 100) (n := 100) sh_0 (by rw [pu_x6n]; exact sh_69) rfl (by omega)]
  rw [pu_pa1 (v := 200) (n := 200) sh_0 (by rw [pu_wr_n, pu_nw_n, pu_x6n]; exact sh_70) rfl (by omega)]
  rw [pu_pf1 sh_0, pu_pf1 sh_0]
  rfl
