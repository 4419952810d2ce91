theorem pu_mk_n (a : Nat) : ∀ (js : List Nat) (M : pu_M), (pu_mk M a js).2.2.2 = M.2.2.2 + js.length
  | [], M => rfl
  | j :: js, M => by
    show (pu_mk (pu_wr (pu_nw M) a j (some M.2.2.2)) a js).2.2.2 = _
    rw [pu_mk_n a js, pu_wr_n, pu_nw_n, List.length_cons]
    omega
/-- memory behind a part's constructor, the part kept in field j of a -/
def pu_pt1 (M : pu_M) (a j : Nat) (f : pu_M → Nat → pu_M) : pu_M := pu_wr (f (pu_nw M) M.2.2.2) a j (some M.2.2.2)
def pu_iP (M : pu_M) (a : Nat) : pu_M := pu_mk (pu_wi M a 1 (-1)) a [3, 4, 5, 6, 7, 8, 9]
def pu_iNu (M : pu_M) (a : Nat) : pu_M := pu_mk M a [1, 2, 3, 4]
def pu_iNa (M : pu_M) (a : Nat) : pu_M := pu_mk M a [1, 2, 3, 4, 5]
def pu_iS (M : pu_M) (a : Nat) : pu_M := pu_mk M a [2, 3, 4, 5, 6]
def pu_iD (M : pu_M) (a : Nat) : pu_M := pu_mk M a [1, 2, 3, 4, 5, 6, 7, 8, 9, 10]
def pu_iF (M : pu_M) (a : Nat) : pu_M := pu_mk M a [1, 2]
def pu_iK (M : pu_M) (a : Nat) : pu_M := pu_mk (pu_wi (pu_wi M a 0 (-1)) a 1 (-1)) a [8, 9, 10, 11, 12, 13, 14, 15, 16, 17, 18, 19]
theorem pu_pt1_n (M : pu_M) (a j : Nat) (f : pu_M → Nat → pu_M) (k : Nat) (hf : ∀ M b, (f M b).2.2.2 = M.2.2.2 + k) : (pu_pt1 M a j f).2.2.2 = M.2.2.2 + (1 + k) := by
  unfold pu_pt1
  rw [pu_wr_n, hf, pu_nw_n]
  omega
theorem pu_iP_n (M : pu_M) (a : Nat) : (pu_iP M a).2.2.2 = M.2.2.2 + 7 := pu_mk_n a _ _
theorem pu_iNu_n (M : pu_M) (a : Nat) : (pu_iNu M a).2.2.2 = M.2.2.2 + 4 := pu_mk_n a _ _
theorem pu_iNa_n (M : pu_M) (a : Nat) : (pu_iNa M a).2.2.2 = M.2.2.2 + 5 := pu_mk_n a _ _
theorem pu_iS_n (M : pu_M) (a : Nat) : (pu_iS M a).2.2.2 = M.2.2.2 + 5 := pu_mk_n a _ _
theorem pu_iD_n (M : pu_M) (a : Nat) : (pu_iD M a).2.2.2 = M.2.2.2 + 10 := pu_mk_n a _ _
theorem pu_iF_n (M : pu_M) (a : Nat) : (pu_iF M a).2.2.2 = M.2.2.2 + 2 := pu_mk_n a _ _
theorem pu_iK_n (M : pu_M) (a : Nat) : (pu_iK M a).2.2.2 = M.2.2.2 + 12 := pu_mk_n a _ _
