/-- what a byte array keeps of an int -/
def pu_by (x : Int32) : Int32 := x.toInt8.toInt32
theorem nI_c (t c : Nat) : nI t + nI c = nI (t + c) := nI_add t c
/-- feed of the reference: one step of its loop -/
def pu_mf (M : pu_M) (t k : Nat) (a b c d e : Int32) : pu_M :=
  pu_wi (pu_wi (pu_wi (pu_wi (pu_wi M 75 (t + k) (pu_by (pu_by (a >>> ((24 - 8 * nI k) &&& 31))))) 75 (t + 4 + k) (pu_by (pu_by (b >>> ((24 - 8 * nI k) &&& 31))))) 75 (t + 8 + k) (pu_by (pu_by (c >>> ((24 - 8 * nI k) &&& 31))))) 75 (t + 12 + k) (pu_by (pu_by (d >>> ((24 - 8 * nI k) &&& 31))))) 75 (t + 16 + k) (pu_by (pu_by (e >>> ((24 - 8 * nI k) &&& 31))))
theorem e_mf1 (a b c d e : Int32) (M : pu_M) (t k : Nat) (x : Option Value) (hx : ∀ v, x = some v → v.category = 1) (hr : M.2.2.1 71 3 = some 75) (hn : M.1 71 4 = nI t) (hlt : t + 20 ≤ 1200) (hk : k < 4) :
    pu_r 430 [some (.ref 71), some (.int a), some (.int b), some (.int c), some (.int d), some (.int e), some (.int (nI k)), x] [] M = pu_r 430 [some (.ref 71), some (.int a), some (.int b), some (.int c), some (.int d), some (.int e), some (.int (nI (k + 1))), some (.int (24 - 8 * nI k))] [] (pu_mf M t k a b c d e) := by
  have h0 : ¬ (4 : Int32) ≤ nI k := nI_ge (b := 4) hk (by omega)
  have e4 : nI t + 4 = nI (t + 4) := nI_add t 4
  have e8 : nI t + 8 = nI (t + 8) := nI_add t 8
  have e12 : nI t + 12 = nI (t + 12) := nI_add t 12
  have e16 : nI t + 16 = nI (t + 16) := nI_add t 16
  have cl : ∀ q, q < 1200 → (nI q).toNatClampNeg = q := fun q hq => nI_clamp (by omega)
  have ps : ∀ q, q < 1200 → ¬ nI q < 0 := fun q hq => nI_pos (by omega)
  have c0 := cl (t + k) (by omega)
  have c1 := cl (t + 4 + k) (by omega)
  have c2 := cl (t + 8 + k) (by omega)
  have c3 := cl (t + 12 + k) (by omega)
  have c4 := cl (t + 16 + k) (by omega)
  have p0 := ps (t + k) (by omega)
  have p1 := ps (t + 4 + k) (by omega)
  have p2 := ps (t + 8 + k) (by omega)
  have p3 := ps (t + 12 + k) (by omega)
  have p4 := ps (t + 16 + k) (by omega)
  have b0 : ¬ 1200 ≤ t + k := by omega
  have b1 : ¬ 1200 ≤ t + 4 + k := by omega
  have b2 : ¬ 1200 ≤ t + 8 + k := by omega
  have b3 : ¬ 1200 ≤ t + 12 + k := by omega
  have b4 : ¬ 1200 ≤ t + 16 + k := by omega
  rw [qX12_feed_18]
  simp only [kX12_feed_18, kX12_feed_138, kX12_feed_59, kX12_feed_94, kX12_feed_132, s_ald, s_dup, s_gi, s_gr, s_i2b, s_iadd, s_icge, s_ild, s_imul, s_inc, s_iret, s_ishr, s_ist, s_isub, s_pi, s_push, s_wb]
  cases x with
  | none => simp [h0, pu_kl, sh_71, sh_75, hr, hn, pu_rv, pu_wi_1, pu_wi_2, nI_c, nI_1, e4, e8, e12, e16, c0, c1, c2, c3, c4, p0, p1, p2, p3, p4, b0, b1, b2, b3, b4, pu_mf, pu_by, Value.category]
  | some v => simp [h0, pu_kl, sh_71, sh_75, hr, hn, pu_rv, pu_wi_1, pu_wi_2, nI_c, nI_1, e4, e8, e12, e16, c0, c1, c2, c3, c4, p0, p1, p2, p3, p4, b0, b1, b2, b3, b4, pu_mf, pu_by, Value.category]
