/-! counts as Int32, with plain numbers -/
theorem nl_add (a k : Nat) : nI a + (no_index (OfNat.ofNat k) : Int32) = nI (a + OfNat.ofNat k) := nI_add a k
theorem nl_ladd (a k : Nat) : (no_index (OfNat.ofNat k) : Int32) + nI a = nI (OfNat.ofNat k + a) := nI_add k a
theorem nl_aa (a b : Nat) : nI a + nI b = nI (a + b) := nI_add a b
theorem nl_mul (a k : Nat) : (no_index (OfNat.ofNat k) : Int32) * nI a = nI (OfNat.ofNat k * a) := pk_mul k a
theorem nl_rmul (a k : Nat) : nI a * (no_index (OfNat.ofNat k) : Int32) = nI (a * OfNat.ofNat k) := pk_mul a k
theorem nl_mm (a b : Nat) : nI a * nI b = nI (a * b) := pk_mul a b
theorem nl_sub (a k : Nat) (h : OfNat.ofNat k ≤ a) : nI a - (no_index (OfNat.ofNat k) : Int32) = nI (a - OfNat.ofNat k) := pk_sub (a := a) (b := k) h
theorem nl_ss (a b : Nat) (h : b ≤ a) : nI a - nI b = nI (a - b) := pk_sub h
theorem nl_lt (a k : Nat) (ha : a < 2147483648) (hk : OfNat.ofNat k < 2147483648) : (nI a < (no_index (OfNat.ofNat k) : Int32)) = (a < OfNat.ofNat k) := propext (nI_ltI (a := a) (b := k) (by omega) hk)
theorem nl_llt (a k : Nat) (ha : a < 2147483648) (hk : OfNat.ofNat k < 2147483648) : ((no_index (OfNat.ofNat k) : Int32) < nI a) = (OfNat.ofNat k < a) := propext (nI_ltI (a := k) (b := a) hk (by omega))
theorem nl_ltt (a b : Nat) (ha : a < 2147483648) (hb : b < 2147483648) : (nI a < nI b) = (a < b) := propext (nI_ltI (by omega) (by omega))
theorem nl_le (a k : Nat) (ha : a < 2147483648) (hk : OfNat.ofNat k < 2147483648) : (nI a ≤ (no_index (OfNat.ofNat k) : Int32)) = (a ≤ OfNat.ofNat k) := propext (nI_leI (a := a) (b := k) (by omega) hk)
theorem nl_lle (a k : Nat) (ha : a < 2147483648) (hk : OfNat.ofNat k < 2147483648) : ((no_index (OfNat.ofNat k) : Int32) ≤ nI a) = (OfNat.ofNat k ≤ a) := propext (nI_leI (a := k) (b := a) hk (by omega))
theorem nl_lee (a b : Nat) (ha : a < 2147483648) (hb : b < 2147483648) : (nI a ≤ nI b) = (a ≤ b) := propext (nI_leI (by omega) (by omega))
theorem nl_eq (a k : Nat) (ha : a < 2147483648) (hk : OfNat.ofNat k < 2147483648) : (nI a = (no_index (OfNat.ofNat k) : Int32)) = (a = OfNat.ofNat k) := propext (nI_eq (a := a) (b := k) (by omega) hk)
theorem nl_leq (a k : Nat) (ha : a < 2147483648) (hk : OfNat.ofNat k < 2147483648) : ((no_index (OfNat.ofNat k) : Int32) = nI a) = (OfNat.ofNat k = a) := propext (nI_eq (a := k) (b := a) hk (by omega))
theorem nl_ee (a b : Nat) (ha : a < 2147483648) (hb : b < 2147483648) : (nI a = nI b) = (a = b) := propext (nI_eq (by omega) (by omega))
theorem nl_div (a k : Nat) (ha : a < 2147483648) (h0 : 0 < OfNat.ofNat k) (hk : OfNat.ofNat k < 2147483648) : nI a / (no_index (OfNat.ofNat k) : Int32) = nI (a / OfNat.ofNat k) := pk_div (a := a) (d := k) (by omega) h0 hk
theorem nl_rem (a k : Nat) : a - a / k * k = a % k := by
  have h := Nat.div_add_mod a k
  rw [Nat.mul_comm] at h
  omega
theorem nl_cl (a : Nat) (ha : a < 2147483648) : (nI a).toNatClampNeg = a := nI_clamp ha
theorem nl_n0 {a : Nat} (ha : a < 2147483648) : (nI a).toInt = a := nI_toInt ha
theorem nl_n1 (a : Nat) (ha : a < 2147483648) : (nI a = -1) = False := by
  refine eq_false (fun h => ?_)
  have h2 := congrArg Int32.toInt h
  rw [nl_n0 ha] at h2
  have h3 : (-1 : Int32).toInt = -1 := by decide
  omega
theorem nl_n2 (a : Nat) (ha : a < 2147483648) : ((-1 : Int32) = nI a) = False := eq_false (fun h => (nl_n1 a ha).mp h.symm)
theorem nl_n3 (a : Nat) (ha : a < 2147483648) : (nI a < -1) = False := by
  refine eq_false (fun h => ?_)
  have h2 := Int32.lt_iff_toInt_lt.mp h
  rw [nl_n0 ha] at h2
  have h3 : (-1 : Int32).toInt = -1 := by decide
  omega
theorem nl_n4 (a : Nat) (ha : a < 2147483648) : ((-1 : Int32) < nI a) = True := by
  refine eq_true (Int32.lt_iff_toInt_lt.mpr ?_)
  rw [nl_n0 ha]
  have h3 : (-1 : Int32).toInt = -1 := by decide
  omega
theorem nl_tle {a b : Nat} (h : a ≤ b) : (a ≤ b) = True := eq_true h
theorem nl_fle {a b : Nat} (h : ¬ a ≤ b) : (a ≤ b) = False := eq_false h
theorem nl_tlt {a b : Nat} (h : a < b) : (a < b) = True := eq_true h
theorem nl_flt {a b : Nat} (h : ¬ a < b) : (a < b) = False := eq_false h
theorem nl_teq {a b : Nat} (h : a = b) : (a = b) = True := eq_true h
theorem nl_feq {a b : Nat} (h : ¬ a = b) : (a = b) = False := eq_false h
