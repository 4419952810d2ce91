/-- memory behind Bytes.putFour at n -/
def pu_p4 (M : pu_M) (a b n : Nat) (v : Int32) : pu_M := pu_pt (pu_pt (pu_pt (pu_pt M a b n (v >>> 24)) a b (n + 1) (v >>> 16)) a b (n + 2) (v >>> 8)) a b (n + 3) v
theorem e_p4 (a b : Nat) (v : Int32) (M : pu_M) (n : Nat) (hsa : pu_sh a = (0, 0)) (hsb : pu_sh b = (1, 1200)) (hr : M.2.2.1 a 1 = some b) (hn : M.1 a 0 = nI n) (hlt : n + 4 ≤ 1200) (hab : a ≠ b) :
    pu_r 13 [some (.ref a), some (.int v)] [] M = some (none, pu_p4 M a b n v) := e_putFour a b v M n hsa hsb hr hn hlt hab
theorem pu_p4_n (M : pu_M) (a b n : Nat) (v : Int32) : (pu_p4 M a b n v).1 a 0 = nI (n + 4) := pu_pt_n _ _ _ _ _
theorem pu_p4_2 (M : pu_M) (a b n : Nat) (v : Int32) : (pu_p4 M a b n v).2 = M.2 := rfl
theorem pu_p4_o (M : pu_M) (a b n : Nat) (v : Int32) (c j : Nat) (h1 : ¬ (c = a ∧ j = 0)) (h2 : c ≠ b) : (pu_p4 M a b n v).1 c j = M.1 c j := by
  unfold pu_p4
  rw [pu_pt_o _ _ _ _ _ _ _ h1 h2, pu_pt_o _ _ _ _ _ _ _ h1 h2, pu_pt_o _ _ _ _ _ _ _ h1 h2, pu_pt_o _ _ _ _ _ _ _ h1 h2]
theorem pu_p4_b (M : pu_M) (a b n : Nat) (v : Int32) (hab : a ≠ b) (j : Nat) : (pu_p4 M a b n v).1 b j = if j = n + 3 then v &&& 255 else if j = n + 2 then (v >>> 8) &&& 255 else if j = n + 1 then (v >>> 16) &&& 255 else if j = n then (v >>> 24) &&& 255 else M.1 b j := by
  unfold pu_p4
  rw [pu_pt_b _ _ _ _ _ hab, pu_pt_b _ _ _ _ _ hab, pu_pt_b _ _ _ _ _ hab, pu_pt_b _ _ _ _ _ hab]
/-- feed of the class: no room, and room -/
theorem e_feed0 (a b c d e : Int32) (M : pu_M) (n : Nat) (hr : M.2.2.1 0 0 = some 1) (hn : M.1 1 0 = nI n) (hlt : 1200 < n + 20) (hb : n ≤ 1200) :
    pu_r 14 [some (.ref 0), some (.int a), some (.int b), some (.int c), some (.int d), some (.int e)] [] M = some (some (.int (-1)), M) := by
  have h1 : ¬ (nI n + 20 ≤ (1200 : Int32)) := by
    rw [show nI n + 20 = nI (n + 20) from nI_add n 20]
    exact nI_ge (a := 1200) (b := n + 20) hlt (by omega)
  rw [qX11_feed]
  simp only [s_ent, kX11_feed_0, s_ald, s_cv, s_gi, s_gr, s_iadd, s_icle, s_ild, s_iret, s_push]
  simp [sh_0, sh_1, hr, hn, pu_rv, h1]
def pu_fd (M : pu_M) (n : Nat) (a b c d e : Int32) : pu_M := pu_p4 (pu_p4 (pu_p4 (pu_p4 (pu_p4 M 1 2 n a) 1 2 (n + 4) b) 1 2 (n + 8) c) 1 2 (n + 12) d) 1 2 (n + 16) e
theorem e_feed1 (a b c d e : Int32) (M : pu_M) (n : Nat) (hr : M.2.2.1 0 0 = some 1) (hr2 : M.2.2.1 1 1 = some 2) (hn : M.1 1 0 = nI n) (hlt : n + 20 ≤ 1200) :
    pu_r 14 [some (.ref 0), some (.int a), some (.int b), some (.int c), some (.int d), some (.int e)] [] M = some (some (.int (nI (n + 20))), pu_fd M n a b c d e) := by
  have h1 : (nI n + 20 ≤ (1200 : Int32)) := by
    rw [show nI n + 20 = nI (n + 20) from nI_add n 20]
    exact nI_le (a := n + 20) (b := 1200) hlt (by omega)
  rw [qX11_feed]
  simp only [s_ent, kX11_feed_0, kX11_feed_18, s_ald, s_cv, s_gi, s_gr, s_iadd, s_icle, s_ild, s_iret, s_push]
  simp [sh_0, sh_1, hr, hn, pu_rv, h1, pu_as, Value.category, pu_bk]
  rw [e_p4 1 2 _ M n sh_1 sh_2 hr2 hn (by omega) (by decide)]
  simp only [s_ald, s_cv, s_gi, s_gr, s_ild, s_iret]
  simp [sh_0, sh_1, hr, pu_p4_2, pu_rv, pu_as, Value.category, pu_bk]
  rw [e_p4 1 2 _ _ (n + 4) sh_1 sh_2 (by simpa [pu_p4_2] using hr2) (pu_p4_n _ _ _ _ _) (by omega) (by decide)]
  simp only [s_ald, s_cv, s_gi, s_gr, s_ild, s_iret]
  simp [sh_0, sh_1, hr, pu_p4_2, pu_rv, pu_as, Value.category, pu_bk]
  rw [e_p4 1 2 _ _ (n + 8) sh_1 sh_2 (by simpa [pu_p4_2] using hr2) (pu_p4_n _ _ _ _ _) (by omega) (by decide)]
  simp only [s_ald, s_cv, s_gi, s_gr, s_ild, s_iret]
  simp [sh_0, sh_1, hr, pu_p4_2, pu_rv, pu_as, Value.category, pu_bk]
  rw [e_p4 1 2 _ _ (n + 12) sh_1 sh_2 (by simpa [pu_p4_2] using hr2) (pu_p4_n _ _ _ _ _) (by omega) (by decide)]
  simp only [s_ald, s_cv, s_gi, s_gr, s_ild, s_iret]
  simp [sh_0, sh_1, hr, pu_p4_2, pu_rv, pu_as, Value.category, pu_bk]
  rw [e_p4 1 2 _ _ (n + 16) sh_1 sh_2 (by simpa [pu_p4_2] using hr2) (pu_p4_n _ _ _ _ _) (by omega) (by decide)]
  simp only [s_ald, s_cv, s_gi, s_gr, s_ild, s_iret]
  simp [sh_0, sh_1, hr, pu_p4_2, pu_rv, pu_as, Value.category, pu_bk, pu_p4_n]
  rfl
