def pu_off (M : pu_M) (a : Nat) : pu_M := pu_pt1 (pu_pt1 (pu_pt1 (pu_pt1 (pu_pt1 (pu_pt1 (pu_pt1 M a 0 pu_iP) a 1 pu_iNu) a 2 pu_iNa) a 3 pu_iS) a 4 pu_iD) a 5 pu_iF) a 6 pu_iK
/-- one part of an Office: new, its constructor, its field -/
theorem pu_part {c j i : Nat} {f : pu_M → Nat → pu_M} {k : pu_K} {a : Nat} {M : pu_M} (hs : pu_sh a = (0, 5)) (hn : pu_sh M.2.2.2 = (0, c)) (h : pu_r j [some (.ref M.2.2.2)] [] (pu_nw M) = some (none, f (pu_nw M) M.2.2.2)) : s_ald 0 (s_new c (s_dup (s_ci pu_r j 0 (s_pr 5 i k)))) [some (.ref a)] [] M = k [some (.ref a)] [] (pu_pt1 M a i f) := by
  simp only [s_ald, s_new, s_dup, s_ci, s_pr]
  simp [hn, Value.category, pu_as, pu_bk]
  rw [h]
  simp [pu_bk, s_pr, hs, pu_pt1]
theorem pu_obj0 {k : pu_K} {a : Nat} {M : pu_M} : s_ald 0 (s_obj k) [some (.ref a)] [] M = k [some (.ref a)] [] M := by
  simp [s_ald, s_obj]
theorem e_X5_init (a : Nat) (M : pu_M) (hs : pu_sh a = (0, 5)) (h : ∀ k, k < 52 → pu_sh (M.2.2.2 + k) = pu_shO.getD (k + 1) (9, 0)) : pu_r 8 [some (.ref a)] [] M = some (none, pu_off M a) := by
  rw [qX5_init]
  unfold s_ent
  rw [if_pos (by simp)]
  show kX5_init_0 pu_r [some (.ref a)] [] M = _
  unfold kX5_init_0 kX5_init_52
  have n1 := pu_pt1_n M a 0 pu_iP 7 pu_iP_n
  have n2 := pu_pt1_n (pu_pt1 M a 0 pu_iP) a 1 pu_iNu 4 pu_iNu_n
  have n3 := pu_pt1_n (pu_pt1 (pu_pt1 M a 0 pu_iP) a 1 pu_iNu) a 2 pu_iNa 5 pu_iNa_n
  have n4 := pu_pt1_n (pu_pt1 (pu_pt1 (pu_pt1 M a 0 pu_iP) a 1 pu_iNu) a 2 pu_iNa) a 3 pu_iS 5 pu_iS_n
  have n5 := pu_pt1_n (pu_pt1 (pu_pt1 (pu_pt1 (pu_pt1 M a 0 pu_iP) a 1 pu_iNu) a 2 pu_iNa) a 3 pu_iS) a 4 pu_iD 10 pu_iD_n
  have n6 := pu_pt1_n (pu_pt1 (pu_pt1 (pu_pt1 (pu_pt1 (pu_pt1 M a 0 pu_iP) a 1 pu_iNu) a 2 pu_iNa) a 3 pu_iS) a 4 pu_iD) a 5 pu_iF 2 pu_iF_n
  rw [n1] at n2
  rw [n2] at n3
  rw [n3] at n4
  rw [n4] at n5
  rw [n5] at n6
  have H : ∀ (N : pu_M) (o k : Nat), N.2.2.2 = M.2.2.2 + o → o + k < 52 → pu_sh (N.2.2.2 + k) = pu_shO.getD (o + k + 1) (9, 0) := fun N o k e hk => by rw [e, Nat.add_assoc]; exact h (o + k) hk
  have H0 : ∀ (N : pu_M) (o : Nat), N.2.2.2 = M.2.2.2 + o → o < 52 → pu_sh N.2.2.2 = pu_shO.getD (o + 1) (9, 0) := fun N o e hk => by rw [e]; exact h o hk
  have W : ∀ (N : pu_M) (o k : Nat), N.2.2.2 = M.2.2.2 + o → o + 1 + k < 52 → pu_sh ((pu_nw N).2.2.2 + k) = pu_shO.getD (o + 1 + k + 1) (9, 0) := fun N o k e hk => by rw [pu_nw_n, e, show M.2.2.2 + o + 1 + k = M.2.2.2 + (o + 1 + k) by omega]; exact h (o + 1 + k) hk
  rw [pu_obj0, pu_part (f := pu_iP) hs (H0 M 0 rfl (by omega)) (e_X6_init _ _ (H0 M 0 rfl (by omega)) (fun k hk => by
    rw [W M 0 k rfl (by omega)]
    match k, hk with
    | 0, _ => rfl
    | 1, _ => rfl
    | 2, _ => rfl
    | 3, _ => rfl
    | 4, _ => rfl
    | 5, _ => rfl
    | 6, _ => rfl
    | k + 7, hk => omega))]
  rw [pu_part (f := pu_iNu) hs (H0 _ 8 n1 (by omega)) (e_X4_init _ _ (H0 _ 8 n1 (by omega)) (fun k hk => by
    rw [W _ 8 k n1 (by omega)]
    match k, hk with
    | 0, _ => rfl
    | 1, _ => rfl
    | 2, _ => rfl
    | 3, _ => rfl
    | k + 4, hk => omega))]
  rw [pu_part (f := pu_iNa) hs (H0 _ 13 n2 (by omega)) (e_X3_init _ _ (H0 _ 13 n2 (by omega)) (W _ 13 0 n2 (by omega)) (W _ 13 1 n2 (by omega)) (W _ 13 2 n2 (by omega)) (W _ 13 3 n2 (by omega)) (W _ 13 4 n2 (by omega)))]
  rw [pu_part (f := pu_iS) hs (H0 _ 19 n3 (by omega)) (e_X10_init _ _ (H0 _ 19 n3 (by omega)) (W _ 19 0 n3 (by omega)) (W _ 19 1 n3 (by omega)) (W _ 19 2 n3 (by omega)) (W _ 19 3 n3 (by omega)) (W _ 19 4 n3 (by omega)))]
  rw [pu_part (f := pu_iD) hs (H0 _ 25 n4 (by omega)) (e_X2_init _ _ (H0 _ 25 n4 (by omega)) (W _ 25 0 n4 (by omega)) (W _ 25 1 n4 (by omega)) (W _ 25 2 n4 (by omega)) (W _ 25 3 n4 (by omega)) (W _ 25 4 n4 (by omega)) (W _ 25 5 n4 (by omega)) (W _ 25 6 n4 (by omega)) (W _ 25 7 n4 (by omega)) (W _ 25 8 n4 (by omega)) (W _ 25 9 n4 (by omega)))]
  rw [pu_part (f := pu_iF) hs (H0 _ 36 n5 (by omega)) (e_X8_init _ _ (H0 _ 36 n5 (by omega)) (W _ 36 0 n5 (by omega)) (W _ 36 1 n5 (by omega)))]
  rw [pu_part (f := pu_iK) hs (H0 _ 39 n6 (by omega)) (e_X1_init _ _ (H0 _ 39 n6 (by omega)) (W _ 39 0 n6 (by omega)) (W _ 39 1 n6 (by omega)) (W _ 39 2 n6 (by omega)) (W _ 39 3 n6 (by omega)) (W _ 39 4 n6 (by omega)) (W _ 39 5 n6 (by omega)) (W _ 39 6 n6 (by omega)) (W _ 39 7 n6 (by omega)) (W _ 39 8 n6 (by omega)) (W _ 39 9 n6 (by omega)) (W _ 39 10 n6 (by omega)) (W _ 39 11 n6 (by omega)))]
  rfl
