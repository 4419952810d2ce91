/-! reading over writing -/
theorem pu_wi_1 (M : pu_M) (a i : Nat) (v : Int32) (b j : Nat) : (pu_wi M a i v).1 b j = if b = a then (if j = i then v else M.1 b j) else M.1 b j := rfl
theorem pu_wi_2 (M : pu_M) (a i : Nat) (v : Int32) : (pu_wi M a i v).2 = M.2 := rfl
/-- Bytes.put, where there is room -/
theorem e_put (a b : Nat) (v : Int32) (M : pu_M) (n : Nat) (hsa : pu_sh a = (0, 0)) (hsb : pu_sh b = (1, 1200)) (hr : M.2.2.1 a 1 = some b) (hn : M.1 a 0 = nI n) (hlt : n < 1200) (hab : a ≠ b) :
    pu_r 12 [some (.ref a), some (.int v)] [] M = some (none, pu_wi (pu_wi M b n (v &&& 255)) a 0 (nI (n + 1))) := by
  rw [qX0_put]
  have h1 : ¬ (1200 : Int32) ≤ nI n := nI_ge (b := 1200) hlt (by omega)
  have h2 : ¬ (nI n < 0 ∨ 1200 ≤ (nI n).toNatClampNeg) := nI_in hlt (by omega)
  have h3 : (nI n).toNatClampNeg = n := nI_clamp (by omega)
  simp only [s_ent, kX0_put_0, kX0_put_34, s_ald, s_dup, s_gi, s_gr, s_iadd, s_iand, s_icge, s_ild, s_pi, s_push, s_vret, s_wi]
  simp [hsa, hsb, hr, hn, h1, pu_rv, pu_wi_1, pu_wi_2, hab, h3, Value.category, nI_1, nI_pos (n := n) (by omega), Nat.not_le.mpr hlt]
/-- memory behind Bytes.put at n -/
def pu_pt (M : pu_M) (a b n : Nat) (v : Int32) : pu_M := pu_wi (pu_wi M b n (v &&& 255)) a 0 (nI (n + 1))
theorem pu_pt_n (M : pu_M) (a b n : Nat) (v : Int32) : (pu_pt M a b n v).1 a 0 = nI (n + 1) := by simp [pu_pt, pu_wi_1]
theorem pu_pt_2 (M : pu_M) (a b n : Nat) (v : Int32) : (pu_pt M a b n v).2 = M.2 := rfl
theorem pu_pt_b (M : pu_M) (a b n : Nat) (v : Int32) (hab : a ≠ b) (j : Nat) : (pu_pt M a b n v).1 b j = if j = n then v &&& 255 else M.1 b j := by
  have hba : b ≠ a := fun h => hab h.symm
  simp [pu_pt, pu_wi_1, hba]
theorem pu_pt_o (M : pu_M) (a b n : Nat) (v : Int32) (c j : Nat) (h1 : ¬ (c = a ∧ j = 0)) (h2 : c ≠ b) : (pu_pt M a b n v).1 c j = M.1 c j := by
  by_cases hc : c = a
  · subst hc
    have hj : ¬ j = 0 := fun h => h1 ⟨rfl, h⟩
    simp [pu_pt, pu_wi_1, hj, h2]
  · simp [pu_pt, pu_wi_1, hc, h2]
theorem e_put' (a b : Nat) (v : Int32) (M : pu_M) (n : Nat) (hsa : pu_sh a = (0, 0)) (hsb : pu_sh b = (1, 1200)) (hr : M.2.2.1 a 1 = some b) (hn : M.1 a 0 = nI n) (hlt : n < 1200) (hab : a ≠ b) :
    pu_r 12 [some (.ref a), some (.int v)] [] M = some (none, pu_pt M a b n v) := e_put a b v M n hsa hsb hr hn hlt hab
theorem e_putFour (a b : Nat) (v : Int32) (M : pu_M) (n : Nat) (hsa : pu_sh a = (0, 0)) (hsb : pu_sh b = (1, 1200)) (hr : M.2.2.1 a 1 = some b) (hn : M.1 a 0 = nI n) (hlt : n + 4 ≤ 1200) (hab : a ≠ b) :
    pu_r 13 [some (.ref a), some (.int v)] [] M = some (none, pu_pt (pu_pt (pu_pt (pu_pt M a b n (v >>> 24)) a b (n + 1) (v >>> 16)) a b (n + 2) (v >>> 8)) a b (n + 3) v) := by
  rw [qX0_putFour]
  simp only [s_ent, kX0_putFour_0, s_ald, s_cv, s_ild, s_ishr, s_push, s_vret]
  simp [hsa, pu_as, Value.category, pu_bk]
  rw [e_put' a b _ M n hsa hsb hr hn (by omega) hab]
  simp only [s_ald, s_cv, s_ild, s_ishr, s_push, s_vret]
  simp [hsa, pu_as, Value.category, pu_bk]
  rw [e_put' a b _ _ (n + 1) hsa hsb (by rw [pu_pt_2]; exact hr) (pu_pt_n _ _ _ _ _) (by omega) hab]
  simp only [s_ald, s_cv, s_ild, s_ishr, s_push, s_vret]
  simp [hsa, pu_as, Value.category, pu_bk]
  rw [e_put' a b _ _ (n + 2) hsa hsb (by rw [pu_pt_2, pu_pt_2]; exact hr) (pu_pt_n _ _ _ _ _) (by omega) hab]
  simp only [s_ald, s_cv, s_ild, s_ishr, s_push, s_vret]
  simp [hsa, pu_as, Value.category, pu_bk]
  rw [e_put' a b _ _ (n + 3) hsa hsb (by rw [pu_pt_2, pu_pt_2, pu_pt_2]; exact hr) (pu_pt_n _ _ _ _ _) (by omega) hab]
  rfl
