/-! what holds of an office's cells -/
/-- opened by o, closed by c (-1: not), open when the first q papers lie there -/
def pu_oq (o c : Int32) (q : Nat) : Prop := o.toInt < q ∧ (c = -1 ∨ (q : Int) ≤ c.toInt)
/-- paper p is on street k -/
def pu_tc (I : Nat → Nat → Int32) (p : Nat) (k : Int32) : Prop := I 9 p = k ∨ I 10 p = k
/-- how many of the first t towns were joined to another by the first q papers -/
noncomputable def pu_ct (I : Nat → Nat → Int32) (q : Nat) : Nat → Nat
  | 0 => 0
  | t + 1 => pu_ct I q t + @ite Nat (∃ p, p < q ∧ I 12 p = nI t) (Classical.propDecidable _) 1 0
def pu_sl0 (I : Nat → Nat → Int32) (k : Nat) : Nat := (I 15 k).toNatClampNeg
def w_c (I : Nat → Nat → Int32) : Prop := (I 6 2 = nI (cP I)) ∧ (I 14 0 = nI (cU I)) ∧ (I 19 0 = nI (cN I)) ∧ (I 25 0 = nI (cT I)) ∧ (I 25 1 = nI (cK I)) ∧ (I 31 0 = nI (cD I)) ∧ (I 42 0 = nI (cF I)) ∧ (I 45 2 = nI (cQ I)) ∧ (I 45 3 = nI (cR I)) ∧ (I 45 4 = nI (cS I)) ∧ (I 45 5 = nI (cW I)) ∧ (I 45 6 = nI (cE I)) ∧ (I 45 7 = nI (cO I))
def w_b (I : Nat → Nat → Int32) : Prop := (cP I ≤ 200) ∧ (cU I ≤ 3000) ∧ (cN I ≤ 400) ∧ (cT I ≤ 8) ∧ (cK I ≤ 24) ∧ (cD I ≤ 100) ∧ (cF I ≤ 20) ∧ (cQ I ≤ 100) ∧ (cR I ≤ 200) ∧ (cS I ≤ 24) ∧ (cW I ≤ 100) ∧ (cE I ≤ 60) ∧ (cO I ≤ 60)
def w_p (I : Nat → Nat → Int32) : Prop := (0 ≤ (I 6 0).toInt ∧ (I 6 0).toInt ≤ 109574) ∧ (-1 ≤ (I 6 1).toInt ∧ (I 6 1).toInt ≤ 109574) ∧ (∀ p, p < cP I → 0 ≤ (I 7 p).toInt ∧ (I 7 p).toInt ≤ 109574) ∧ (∀ p, p < cP I → 0 ≤ (I 8 p).toInt ∧ (I 8 p).toInt ≤ (I 6 0).toInt) ∧ (∀ p, p < cP I → -1 ≤ (I 9 p).toInt ∧ (I 9 p).toInt < cK I) ∧ (∀ p, p < cP I → -1 ≤ (I 10 p).toInt ∧ (I 10 p).toInt < cK I) ∧ (∀ p, p < cP I → -1 ≤ (I 11 p).toInt ∧ (I 11 p).toInt < cT I) ∧ (∀ p, p < cP I → -1 ≤ (I 12 p).toInt ∧ (I 12 p).toInt < cT I) ∧ (∀ p, p < cP I → -1 ≤ (I 13 p).toInt ∧ (I 13 p).toInt ≤ 3 ∧ (I 13 p ≠ -1 → 0 ≤ (I 9 p).toInt)) ∧ (∀ p r, p ≤ r → r < cP I → (I 8 p).toInt ≤ (I 8 r).toInt) ∧ (∀ k p r, k ≠ -1 → p ≤ r → r < cP I → pu_tc I p k → pu_tc I r k → (I 7 p).toInt ≤ (I 7 r).toInt) ∧ (∀ p r, p < r → r < cP I → I 12 p = I 12 r → I 12 p = -1)
def w_u (I : Nat → Nat → Int32) : Prop := (∀ k, k < cU I → 0 ≤ (I 15 k).toInt ∧ (I 15 k).toInt < 2 * cD I) ∧ (∀ k, k < cU I → 0 ≤ (I 16 k).toInt ∧ (I 16 k).toInt < 160000 ∧ ((I 16 k).toInt = 0 ∨ 16 ≤ (I 16 k).toInt)) ∧ (∀ k, k < cU I → 0 ≤ (I 17 k).toInt ∧ (I 17 k).toInt < cP I) ∧ (∀ k, k < cU I → -1 ≤ (I 18 k).toInt ∧ (I 18 k).toInt < cP I ∧ (I 18 k = -1 ∨ (I 17 k).toInt < (I 18 k).toInt)) ∧ (∀ k, k < cU I → 0 ≤ (I 39 (pu_sl0 I k)).toInt ∧ (I 39 (pu_sl0 I k)).toInt < cK I ∧ pu_tc I (I 17 k).toNatClampNeg (I 39 (pu_sl0 I k)) ∧ (I 18 k ≠ -1 → pu_tc I (I 18 k).toNatClampNeg (I 39 (pu_sl0 I k)))) ∧ (∀ k l, k ≤ l → l < cU I → (I 17 k).toInt ≤ (I 17 l).toInt) ∧ (∀ q k l, q ≤ cP I → k < cU I → l < cU I → pu_oq (I 17 k) (I 18 k) q → pu_oq (I 17 l) (I 18 l) q → I 15 k = I 15 l → k = l) ∧ (∀ q k l, q ≤ cP I → k < cU I → l < cU I → pu_oq (I 17 k) (I 18 k) q → pu_oq (I 17 l) (I 18 l) q → I 39 (pu_sl0 I k) = I 39 (pu_sl0 I l) → I 16 k = I 16 l → I 16 k ≠ 0 → k = l) ∧ (∀ q k l, q ≤ cP I → k < cU I → l < cU I → pu_oq (I 17 k) (I 18 k) q → pu_oq (I 17 l) (I 18 l) q → I 39 (pu_sl0 I k) = I 39 (pu_sl0 I l) → I 40 (pu_sl0 I k) = I 40 (pu_sl0 I l) → I 41 (pu_sl0 I k) = I 41 (pu_sl0 I l) → k = l) ∧ (∀ q k, q ≤ cP I → k < cU I → pu_oq (I 17 k) (I 18 k) q → pu_oq (I 36 (pu_sl0 I k / 2)) (I 37 (pu_sl0 I k / 2)) q ∧ I 32 (pu_sl0 I k / 2) = 0 ∧ (pu_sl0 I k % 2 = 1 → I 38 (pu_sl0 I k / 2) ≠ -1 ∧ (I 38 (pu_sl0 I k / 2)).toInt < q)) ∧ (∀ q d w, q ≤ cP I → d < cD I → I 32 d = 0 → pu_oq (I 36 d) (I 37 d) q → (w = 0 ∨ w = 1 ∧ I 38 d ≠ -1 ∧ (I 38 d).toInt < q) → ∃ k, k < cU I ∧ pu_oq (I 17 k) (I 18 k) q ∧ I 15 k = nI (2 * d + w))
def w_n (I : Nat → Nat → Int32) (L : Nat → Nat → Int64) : Prop := (∀ k, k < cN I → 0 ≤ (I 20 k).toInt ∧ (I 20 k).toInt < cK I) ∧ (∀ k, k < cN I → 0 ≤ (I 21 k).toInt ∧ (I 21 k).toInt < cT I) ∧ (∀ k, k < cN I → 0 ≤ (I 22 k).toInt ∧ (I 22 k).toInt < cP I ∧ (I 28 (I 20 k).toNatClampNeg).toInt ≤ (I 22 k).toInt ∧ (I 9 (I 22 k).toNatClampNeg = I 20 k ∨ I 11 (I 22 k).toNatClampNeg = I 21 k)) ∧ (∀ k, k < cN I → -1 ≤ (I 23 k).toInt ∧ (I 23 k).toInt < cP I ∧ (I 23 k = -1 ∨ (I 22 k).toInt < (I 23 k).toInt ∧ (I 7 (I 22 k).toNatClampNeg).toInt ≤ (I 7 (I 23 k).toNatClampNeg).toInt)) ∧ (∀ k l, k ≤ l → l < cN I → (I 22 k).toInt ≤ (I 22 l).toInt) ∧ (∀ q k, q ≤ cP I → k < cK I → (I 28 k).toInt < q → ∃ l, l < cN I ∧ pu_oq (I 22 l) (I 23 l) q ∧ I 20 l = nI k) ∧ (∀ q k p, q ≤ cP I → k < cN I → pu_oq (I 22 k) (I 23 k) q → p < q → I 12 p ≠ I 21 k) ∧ (∀ k, k < cN I → k < (I 22 k).toNatClampNeg + 1 + 23 * pu_ct I ((I 22 k).toNatClampNeg + 1) 8) ∧ (∀ k l, k < l → l < cN I → I 20 k = I 20 l → I 23 k ≠ -1 ∧ (I 23 k).toInt ≤ (I 22 l).toInt ∧ (I 7 (I 23 k).toNatClampNeg).toInt ≤ (I 7 (I 22 l).toNatClampNeg).toInt) ∧ (∀ k l, k < l → l < cN I → I 21 k = I 21 l → (∀ w, w < 3 → L 24 (3 * k + w) = L 24 (3 * l + w)) → I 23 k ≠ -1 ∧ (I 23 k).toInt ≤ (I 22 l).toInt ∧ ((I 7 (I 23 k).toNatClampNeg).toInt ≤ (I 7 (I 22 l).toNatClampNeg).toInt ∨ (I 7 (I 23 k).toNatClampNeg).toInt ≤ (I 7 (I 22 k).toNatClampNeg).toInt)) ∧ (∀ k l, k < l → l < cN I → I 20 k = I 20 l → I 21 k = I 21 l ∨ ∃ p : Nat, (p : Int) ≤ (I 22 l).toInt ∧ I 12 p = I 21 k) ∧ (∀ k, k < cN I → I 23 k ≠ -1 → I 9 (I 23 k).toNatClampNeg = I 20 k ∨ I 12 (I 23 k).toNatClampNeg = I 21 k)
def w_k (I : Nat → Nat → Int32) (L : Nat → Nat → Int64) : Prop := (∀ k l, k < cT I → l < cT I → (∀ w, w < 3 → L 26 (3 * k + w) = L 26 (3 * l + w)) → k = l) ∧ (∀ k, k < cK I → 0 ≤ (I 27 k).toInt ∧ (I 27 k).toInt ≤ 3) ∧ (∀ k, k < cK I → 0 ≤ (I 28 k).toInt ∧ (I 28 k).toInt < cP I ∧ I 9 (I 28 k).toNatClampNeg = nI k) ∧ (∀ k l, k < l → l < cK I → (I 28 k).toInt < (I 28 l).toInt) ∧ (∀ k, k < 2 * cK I → -1 ≤ (I 29 k).toInt ∧ (I 29 k).toInt ≤ 600) ∧ (∀ k i, k < 2 * cK I → i < 100 → nI i < I 29 k → 0 ≤ (I 30 (k * 100 + i)).toInt ∧ (I 30 (k * 100 + i)).toInt < 65536) ∧ (∀ p k, p < cP I → k < cK I → pu_tc I p (nI k) → (I 28 k).toInt ≤ p)
def w_d (I : Nat → Nat → Int32) : Prop := (∀ d, d < cD I → I 32 d = 0 ∨ (2 ≤ (I 32 d).toInt ∧ (I 32 d).toInt ≤ 4)) ∧ (∀ d, d < cD I → 0 ≤ (I 36 d).toInt ∧ (I 36 d).toInt < cP I) ∧ (∀ d, d < cD I → -1 ≤ (I 37 d).toInt ∧ (I 37 d).toInt < cP I ∧ (I 37 d = -1 ∨ (I 36 d).toInt < (I 37 d).toInt)) ∧ (∀ d, d < cD I → -1 ≤ (I 38 d).toInt ∧ (I 38 d).toInt < cP I ∧ (I 38 d = -1 ∨ (I 36 d).toInt < (I 38 d).toInt)) ∧ (∀ d, d < cD I → I 32 d = 0 → I 33 d = -1 ∧ I 35 d = 0 ∧ I 34 d = nI d ∧ 0 ≤ (I 39 (2 * d)).toInt ∧ (I 39 (2 * d)).toInt < cK I ∧ 0 ≤ (I 40 (2 * d)).toInt ∧ (I 40 (2 * d)).toInt ≤ 1 ∧ 0 ≤ (I 41 (2 * d)).toInt ∧ (I 41 (2 * d)).toInt ≤ 9999 ∧ pu_tc I (I 36 d).toNatClampNeg (I 39 (2 * d)) ∧ (I 37 d ≠ -1 → pu_tc I (I 37 d).toNatClampNeg (I 39 (2 * d)))) ∧ (∀ d, d < cD I → I 38 d ≠ -1 → I 32 d = 0 ∧ 0 ≤ (I 39 (2 * d + 1)).toInt ∧ (I 39 (2 * d + 1)).toInt < cK I ∧ I 39 (2 * d + 1) ≠ I 39 (2 * d) ∧ 0 ≤ (I 40 (2 * d + 1)).toInt ∧ (I 40 (2 * d + 1)).toInt ≤ 1 ∧ 0 ≤ (I 41 (2 * d + 1)).toInt ∧ (I 41 (2 * d + 1)).toInt ≤ 9999 ∧ pu_tc I (I 38 d).toNatClampNeg (I 39 (2 * d + 1)) ∧ pu_tc I (I 38 d).toNatClampNeg (I 39 (2 * d)) ∧ (I 37 d ≠ -1 → pu_tc I (I 37 d).toNatClampNeg (I 39 (2 * d + 1)))) ∧ (∀ d, d < cD I → I 38 d = -1 → I 39 (2 * d + 1) = -1 ∧ I 40 (2 * d + 1) = -1 ∧ I 41 (2 * d + 1) = -1) ∧ (∀ d, d < cD I → I 32 d ≠ 0 → 0 ≤ (I 33 d).toInt ∧ (I 33 d).toInt < d ∧ (I 32 d = 3 → I 32 (I 33 d).toNatClampNeg = 2) ∧ (I 32 d ≠ 3 → I 32 (I 33 d).toNatClampNeg = 0) ∧ I 34 d = I 34 (I 33 d).toNatClampNeg ∧ I 39 (2 * d) = -1 ∧ I 40 (2 * d) = -1 ∧ I 41 (2 * d) = -1 ∧ 0 ≤ (I 35 d).toInt ∧ (I 35 d).toInt ≤ 99 ∧ (I 32 d = 2 → I 35 d = 0) ∧ (I 32 d ≠ 2 → I 35 d ≠ 0)) ∧ (∀ d, d < cD I → 0 ≤ (I 34 d).toInt ∧ (I 34 d).toInt ≤ d ∧ I 32 (I 34 d).toNatClampNeg = 0 ∧ (I 32 d ≠ 0 → (I 34 d).toInt < d)) ∧ (∀ d e, d < e → e < cD I → (I 36 d).toInt < (I 36 e).toInt) ∧ (∀ q d, q ≤ cP I → d < cD I → I 32 d ≠ 0 → pu_oq (I 36 d) (I 37 d) q → pu_oq (I 36 (I 33 d).toNatClampNeg) (I 37 (I 33 d).toNatClampNeg) q) ∧ (∀ q d, q ≤ cP I → d < cD I → pu_oq (I 36 d) (I 37 d) q → pu_oq (I 36 (I 34 d).toNatClampNeg) (I 37 (I 34 d).toNatClampNeg) q)
def w_e (I : Nat → Nat → Int32) (L : Nat → Nat → Int64) : Prop := (∀ k, k < cS I → 0 ≤ (I 53 k).toInt ∧ (I 53 k).toInt ≤ 2) ∧ (∀ k, k < cF I → L 43 k ≠ 0) ∧ (∀ k l, k < l → l < cW I → I 54 k ≠ I 54 l)
def pu_WF (I : Nat → Nat → Int32) (L : Nat → Nat → Int64) : Prop := w_c I ∧ w_b I ∧ w_p I ∧ w_u I ∧ w_n I L ∧ w_k I L ∧ w_d I ∧ w_e I L
section
variable {I : Nat → Nat → Int32} {L : Nat → Nat → Int64}
theorem wg_c (h : pu_WF I L) : w_c I := h.1
theorem wx_cP (h : pu_WF I L) : I 6 2 = nI (cP I) := (wg_c h).1
theorem wx_cU (h : pu_WF I L) : I 14 0 = nI (cU I) := (wg_c h).2.1
theorem wx_cN (h : pu_WF I L) : I 19 0 = nI (cN I) := (wg_c h).2.2.1
theorem wx_cT (h : pu_WF I L) : I 25 0 = nI (cT I) := (wg_c h).2.2.2.1
theorem wx_cK (h : pu_WF I L) : I 25 1 = nI (cK I) := (wg_c h).2.2.2.2.1
theorem wx_cD (h : pu_WF I L) : I 31 0 = nI (cD I) := (wg_c h).2.2.2.2.2.1
theorem wx_cF (h : pu_WF I L) : I 42 0 = nI (cF I) := (wg_c h).2.2.2.2.2.2.1
theorem wx_cQ (h : pu_WF I L) : I 45 2 = nI (cQ I) := (wg_c h).2.2.2.2.2.2.2.1
theorem wx_cR (h : pu_WF I L) : I 45 3 = nI (cR I) := (wg_c h).2.2.2.2.2.2.2.2.1
theorem wx_cS (h : pu_WF I L) : I 45 4 = nI (cS I) := (wg_c h).2.2.2.2.2.2.2.2.2.1
theorem wx_cW (h : pu_WF I L) : I 45 5 = nI (cW I) := (wg_c h).2.2.2.2.2.2.2.2.2.2.1
theorem wx_cE (h : pu_WF I L) : I 45 6 = nI (cE I) := (wg_c h).2.2.2.2.2.2.2.2.2.2.2.1
theorem wx_cO (h : pu_WF I L) : I 45 7 = nI (cO I) := (wg_c h).2.2.2.2.2.2.2.2.2.2.2.2
theorem wg_b (h : pu_WF I L) : w_b I := h.2.1
theorem wx_bP (h : pu_WF I L) : cP I ≤ 200 := (wg_b h).1
theorem wx_bU (h : pu_WF I L) : cU I ≤ 3000 := (wg_b h).2.1
theorem wx_bN (h : pu_WF I L) : cN I ≤ 400 := (wg_b h).2.2.1
theorem wx_bT (h : pu_WF I L) : cT I ≤ 8 := (wg_b h).2.2.2.1
theorem wx_bK (h : pu_WF I L) : cK I ≤ 24 := (wg_b h).2.2.2.2.1
theorem wx_bD (h : pu_WF I L) : cD I ≤ 100 := (wg_b h).2.2.2.2.2.1
theorem wx_bF (h : pu_WF I L) : cF I ≤ 20 := (wg_b h).2.2.2.2.2.2.1
theorem wx_bQ (h : pu_WF I L) : cQ I ≤ 100 := (wg_b h).2.2.2.2.2.2.2.1
theorem wx_bR (h : pu_WF I L) : cR I ≤ 200 := (wg_b h).2.2.2.2.2.2.2.2.1
theorem wx_bS (h : pu_WF I L) : cS I ≤ 24 := (wg_b h).2.2.2.2.2.2.2.2.2.1
theorem wx_bW (h : pu_WF I L) : cW I ≤ 100 := (wg_b h).2.2.2.2.2.2.2.2.2.2.1
theorem wx_bE (h : pu_WF I L) : cE I ≤ 60 := (wg_b h).2.2.2.2.2.2.2.2.2.2.2.1
theorem wx_bO (h : pu_WF I L) : cO I ≤ 60 := (wg_b h).2.2.2.2.2.2.2.2.2.2.2.2
theorem wg_p (h : pu_WF I L) : w_p I := h.2.2.1
theorem wx_p0 (h : pu_WF I L) : 0 ≤ (I 6 0).toInt ∧ (I 6 0).toInt ≤ 109574 := (wg_p h).1
theorem wx_p1 (h : pu_WF I L) : -1 ≤ (I 6 1).toInt ∧ (I 6 1).toInt ≤ 109574 := (wg_p h).2.1
theorem wx_pf (h : pu_WF I L) : ∀ p, p < cP I → 0 ≤ (I 7 p).toInt ∧ (I 7 p).toInt ≤ 109574 := (wg_p h).2.2.1
theorem wx_pk (h : pu_WF I L) : ∀ p, p < cP I → 0 ≤ (I 8 p).toInt ∧ (I 8 p).toInt ≤ (I 6 0).toInt := (wg_p h).2.2.2.1
theorem wx_pa (h : pu_WF I L) : ∀ p, p < cP I → -1 ≤ (I 9 p).toInt ∧ (I 9 p).toInt < cK I := (wg_p h).2.2.2.2.1
theorem wx_pb (h : pu_WF I L) : ∀ p, p < cP I → -1 ≤ (I 10 p).toInt ∧ (I 10 p).toInt < cK I := (wg_p h).2.2.2.2.2.1
theorem wx_pt (h : pu_WF I L) : ∀ p, p < cP I → -1 ≤ (I 11 p).toInt ∧ (I 11 p).toInt < cT I := (wg_p h).2.2.2.2.2.2.1
theorem wx_pu (h : pu_WF I L) : ∀ p, p < cP I → -1 ≤ (I 12 p).toInt ∧ (I 12 p).toInt < cT I := (wg_p h).2.2.2.2.2.2.2.1
theorem wx_pr (h : pu_WF I L) : ∀ p, p < cP I → -1 ≤ (I 13 p).toInt ∧ (I 13 p).toInt ≤ 3 ∧ (I 13 p ≠ -1 → 0 ≤ (I 9 p).toInt) := (wg_p h).2.2.2.2.2.2.2.2.1
theorem wx_pm (h : pu_WF I L) : ∀ p r, p ≤ r → r < cP I → (I 8 p).toInt ≤ (I 8 r).toInt := (wg_p h).2.2.2.2.2.2.2.2.2.1
theorem wx_po (h : pu_WF I L) : ∀ k p r, k ≠ -1 → p ≤ r → r < cP I → pu_tc I p k → pu_tc I r k → (I 7 p).toInt ≤ (I 7 r).toInt := (wg_p h).2.2.2.2.2.2.2.2.2.2.1
theorem wx_pj (h : pu_WF I L) : ∀ p r, p < r → r < cP I → I 12 p = I 12 r → I 12 p = -1 := (wg_p h).2.2.2.2.2.2.2.2.2.2.2
theorem wg_u (h : pu_WF I L) : w_u I := h.2.2.2.1
theorem wx_us (h : pu_WF I L) : ∀ k, k < cU I → 0 ≤ (I 15 k).toInt ∧ (I 15 k).toInt < 2 * cD I := (wg_u h).1
theorem wx_uw (h : pu_WF I L) : ∀ k, k < cU I → 0 ≤ (I 16 k).toInt ∧ (I 16 k).toInt < 160000 ∧ ((I 16 k).toInt = 0 ∨ 16 ≤ (I 16 k).toInt) := (wg_u h).2.1
theorem wx_uo (h : pu_WF I L) : ∀ k, k < cU I → 0 ≤ (I 17 k).toInt ∧ (I 17 k).toInt < cP I := (wg_u h).2.2.1
theorem wx_uc (h : pu_WF I L) : ∀ k, k < cU I → -1 ≤ (I 18 k).toInt ∧ (I 18 k).toInt < cP I ∧ (I 18 k = -1 ∨ (I 17 k).toInt < (I 18 k).toInt) := (wg_u h).2.2.2.1
theorem wx_uk (h : pu_WF I L) : ∀ k, k < cU I → 0 ≤ (I 39 (pu_sl0 I k)).toInt ∧ (I 39 (pu_sl0 I k)).toInt < cK I ∧ pu_tc I (I 17 k).toNatClampNeg (I 39 (pu_sl0 I k)) ∧ (I 18 k ≠ -1 → pu_tc I (I 18 k).toNatClampNeg (I 39 (pu_sl0 I k))) := (wg_u h).2.2.2.2.1
theorem wx_um (h : pu_WF I L) : ∀ k l, k ≤ l → l < cU I → (I 17 k).toInt ≤ (I 17 l).toInt := (wg_u h).2.2.2.2.2.1
theorem wx_u1 (h : pu_WF I L) : ∀ q k l, q ≤ cP I → k < cU I → l < cU I → pu_oq (I 17 k) (I 18 k) q → pu_oq (I 17 l) (I 18 l) q → I 15 k = I 15 l → k = l := (wg_u h).2.2.2.2.2.2.1
theorem wx_u2 (h : pu_WF I L) : ∀ q k l, q ≤ cP I → k < cU I → l < cU I → pu_oq (I 17 k) (I 18 k) q → pu_oq (I 17 l) (I 18 l) q → I 39 (pu_sl0 I k) = I 39 (pu_sl0 I l) → I 16 k = I 16 l → I 16 k ≠ 0 → k = l := (wg_u h).2.2.2.2.2.2.2.1
theorem wx_u3 (h : pu_WF I L) : ∀ q k l, q ≤ cP I → k < cU I → l < cU I → pu_oq (I 17 k) (I 18 k) q → pu_oq (I 17 l) (I 18 l) q → I 39 (pu_sl0 I k) = I 39 (pu_sl0 I l) → I 40 (pu_sl0 I k) = I 40 (pu_sl0 I l) → I 41 (pu_sl0 I k) = I 41 (pu_sl0 I l) → k = l := (wg_u h).2.2.2.2.2.2.2.2.1
theorem wx_u4 (h : pu_WF I L) : ∀ q k, q ≤ cP I → k < cU I → pu_oq (I 17 k) (I 18 k) q → pu_oq (I 36 (pu_sl0 I k / 2)) (I 37 (pu_sl0 I k / 2)) q ∧ I 32 (pu_sl0 I k / 2) = 0 ∧ (pu_sl0 I k % 2 = 1 → I 38 (pu_sl0 I k / 2) ≠ -1 ∧ (I 38 (pu_sl0 I k / 2)).toInt < q) := (wg_u h).2.2.2.2.2.2.2.2.2.1
theorem wx_u5 (h : pu_WF I L) : ∀ q d w, q ≤ cP I → d < cD I → I 32 d = 0 → pu_oq (I 36 d) (I 37 d) q → (w = 0 ∨ w = 1 ∧ I 38 d ≠ -1 ∧ (I 38 d).toInt < q) → ∃ k, k < cU I ∧ pu_oq (I 17 k) (I 18 k) q ∧ I 15 k = nI (2 * d + w) := (wg_u h).2.2.2.2.2.2.2.2.2.2
theorem wg_n (h : pu_WF I L) : w_n I L := h.2.2.2.2.1
theorem wx_ns (h : pu_WF I L) : ∀ k, k < cN I → 0 ≤ (I 20 k).toInt ∧ (I 20 k).toInt < cK I := (wg_n h).1
theorem wx_nt (h : pu_WF I L) : ∀ k, k < cN I → 0 ≤ (I 21 k).toInt ∧ (I 21 k).toInt < cT I := (wg_n h).2.1
theorem wx_no (h : pu_WF I L) : ∀ k, k < cN I → 0 ≤ (I 22 k).toInt ∧ (I 22 k).toInt < cP I ∧ (I 28 (I 20 k).toNatClampNeg).toInt ≤ (I 22 k).toInt ∧ (I 9 (I 22 k).toNatClampNeg = I 20 k ∨ I 11 (I 22 k).toNatClampNeg = I 21 k) := (wg_n h).2.2.1
theorem wx_nc (h : pu_WF I L) : ∀ k, k < cN I → -1 ≤ (I 23 k).toInt ∧ (I 23 k).toInt < cP I ∧ (I 23 k = -1 ∨ (I 22 k).toInt < (I 23 k).toInt ∧ (I 7 (I 22 k).toNatClampNeg).toInt ≤ (I 7 (I 23 k).toNatClampNeg).toInt) := (wg_n h).2.2.2.1
theorem wx_nm (h : pu_WF I L) : ∀ k l, k ≤ l → l < cN I → (I 22 k).toInt ≤ (I 22 l).toInt := (wg_n h).2.2.2.2.1
theorem wx_n3 (h : pu_WF I L) : ∀ q k, q ≤ cP I → k < cK I → (I 28 k).toInt < q → ∃ l, l < cN I ∧ pu_oq (I 22 l) (I 23 l) q ∧ I 20 l = nI k := (wg_n h).2.2.2.2.2.1
theorem wx_n4 (h : pu_WF I L) : ∀ q k p, q ≤ cP I → k < cN I → pu_oq (I 22 k) (I 23 k) q → p < q → I 12 p ≠ I 21 k := (wg_n h).2.2.2.2.2.2.1
theorem wx_n5 (h : pu_WF I L) : ∀ k, k < cN I → k < (I 22 k).toNatClampNeg + 1 + 23 * pu_ct I ((I 22 k).toNatClampNeg + 1) 8 := (wg_n h).2.2.2.2.2.2.2.1
theorem wx_n6 (h : pu_WF I L) : ∀ k l, k < l → l < cN I → I 20 k = I 20 l → I 23 k ≠ -1 ∧ (I 23 k).toInt ≤ (I 22 l).toInt ∧ (I 7 (I 23 k).toNatClampNeg).toInt ≤ (I 7 (I 22 l).toNatClampNeg).toInt := (wg_n h).2.2.2.2.2.2.2.2.1
theorem wx_n7 (h : pu_WF I L) : ∀ k l, k < l → l < cN I → I 21 k = I 21 l → (∀ w, w < 3 → L 24 (3 * k + w) = L 24 (3 * l + w)) → I 23 k ≠ -1 ∧ (I 23 k).toInt ≤ (I 22 l).toInt ∧ ((I 7 (I 23 k).toNatClampNeg).toInt ≤ (I 7 (I 22 l).toNatClampNeg).toInt ∨ (I 7 (I 23 k).toNatClampNeg).toInt ≤ (I 7 (I 22 k).toNatClampNeg).toInt) := (wg_n h).2.2.2.2.2.2.2.2.2.1
theorem wx_n8 (h : pu_WF I L) : ∀ k l, k < l → l < cN I → I 20 k = I 20 l → I 21 k = I 21 l ∨ ∃ p : Nat, (p : Int) ≤ (I 22 l).toInt ∧ I 12 p = I 21 k := (wg_n h).2.2.2.2.2.2.2.2.2.2.1
theorem wx_n9 (h : pu_WF I L) : ∀ k, k < cN I → I 23 k ≠ -1 → I 9 (I 23 k).toNatClampNeg = I 20 k ∨ I 12 (I 23 k).toNatClampNeg = I 21 k := (wg_n h).2.2.2.2.2.2.2.2.2.2.2
theorem wg_k (h : pu_WF I L) : w_k I L := h.2.2.2.2.2.1
theorem wx_kt (h : pu_WF I L) : ∀ k l, k < cT I → l < cT I → (∀ w, w < 3 → L 26 (3 * k + w) = L 26 (3 * l + w)) → k = l := (wg_k h).1
theorem wx_kr (h : pu_WF I L) : ∀ k, k < cK I → 0 ≤ (I 27 k).toInt ∧ (I 27 k).toInt ≤ 3 := (wg_k h).2.1
theorem wx_ko (h : pu_WF I L) : ∀ k, k < cK I → 0 ≤ (I 28 k).toInt ∧ (I 28 k).toInt < cP I ∧ I 9 (I 28 k).toNatClampNeg = nI k := (wg_k h).2.2.1
theorem wx_km (h : pu_WF I L) : ∀ k l, k < l → l < cK I → (I 28 k).toInt < (I 28 l).toInt := (wg_k h).2.2.2.1
theorem wx_kl (h : pu_WF I L) : ∀ k, k < 2 * cK I → -1 ≤ (I 29 k).toInt ∧ (I 29 k).toInt ≤ 600 := (wg_k h).2.2.2.2.1
theorem wx_kw (h : pu_WF I L) : ∀ k i, k < 2 * cK I → i < 100 → nI i < I 29 k → 0 ≤ (I 30 (k * 100 + i)).toInt ∧ (I 30 (k * 100 + i)).toInt < 65536 := (wg_k h).2.2.2.2.2.1
theorem wx_kp (h : pu_WF I L) : ∀ p k, p < cP I → k < cK I → pu_tc I p (nI k) → (I 28 k).toInt ≤ p := (wg_k h).2.2.2.2.2.2
theorem wg_d (h : pu_WF I L) : w_d I := h.2.2.2.2.2.2.1
theorem wx_ds (h : pu_WF I L) : ∀ d, d < cD I → I 32 d = 0 ∨ (2 ≤ (I 32 d).toInt ∧ (I 32 d).toInt ≤ 4) := (wg_d h).1
theorem wx_do (h : pu_WF I L) : ∀ d, d < cD I → 0 ≤ (I 36 d).toInt ∧ (I 36 d).toInt < cP I := (wg_d h).2.1
theorem wx_dc (h : pu_WF I L) : ∀ d, d < cD I → -1 ≤ (I 37 d).toInt ∧ (I 37 d).toInt < cP I ∧ (I 37 d = -1 ∨ (I 36 d).toInt < (I 37 d).toInt) := (wg_d h).2.2.1
theorem wx_de (h : pu_WF I L) : ∀ d, d < cD I → -1 ≤ (I 38 d).toInt ∧ (I 38 d).toInt < cP I ∧ (I 38 d = -1 ∨ (I 36 d).toInt < (I 38 d).toInt) := (wg_d h).2.2.2.1
theorem wx_d0 (h : pu_WF I L) : ∀ d, d < cD I → I 32 d = 0 → I 33 d = -1 ∧ I 35 d = 0 ∧ I 34 d = nI d ∧ 0 ≤ (I 39 (2 * d)).toInt ∧ (I 39 (2 * d)).toInt < cK I ∧ 0 ≤ (I 40 (2 * d)).toInt ∧ (I 40 (2 * d)).toInt ≤ 1 ∧ 0 ≤ (I 41 (2 * d)).toInt ∧ (I 41 (2 * d)).toInt ≤ 9999 ∧ pu_tc I (I 36 d).toNatClampNeg (I 39 (2 * d)) ∧ (I 37 d ≠ -1 → pu_tc I (I 37 d).toNatClampNeg (I 39 (2 * d))) := (wg_d h).2.2.2.2.1
theorem wx_d1 (h : pu_WF I L) : ∀ d, d < cD I → I 38 d ≠ -1 → I 32 d = 0 ∧ 0 ≤ (I 39 (2 * d + 1)).toInt ∧ (I 39 (2 * d + 1)).toInt < cK I ∧ I 39 (2 * d + 1) ≠ I 39 (2 * d) ∧ 0 ≤ (I 40 (2 * d + 1)).toInt ∧ (I 40 (2 * d + 1)).toInt ≤ 1 ∧ 0 ≤ (I 41 (2 * d + 1)).toInt ∧ (I 41 (2 * d + 1)).toInt ≤ 9999 ∧ pu_tc I (I 38 d).toNatClampNeg (I 39 (2 * d + 1)) ∧ pu_tc I (I 38 d).toNatClampNeg (I 39 (2 * d)) ∧ (I 37 d ≠ -1 → pu_tc I (I 37 d).toNatClampNeg (I 39 (2 * d + 1))) := (wg_d h).2.2.2.2.2.1
theorem wx_dn (h : pu_WF I L) : ∀ d, d < cD I → I 38 d = -1 → I 39 (2 * d + 1) = -1 ∧ I 40 (2 * d + 1) = -1 ∧ I 41 (2 * d + 1) = -1 := (wg_d h).2.2.2.2.2.2.1
theorem wx_d2 (h : pu_WF I L) : ∀ d, d < cD I → I 32 d ≠ 0 → 0 ≤ (I 33 d).toInt ∧ (I 33 d).toInt < d ∧ (I 32 d = 3 → I 32 (I 33 d).toNatClampNeg = 2) ∧ (I 32 d ≠ 3 → I 32 (I 33 d).toNatClampNeg = 0) ∧ I 34 d = I 34 (I 33 d).toNatClampNeg ∧ I 39 (2 * d) = -1 ∧ I 40 (2 * d) = -1 ∧ I 41 (2 * d) = -1 ∧ 0 ≤ (I 35 d).toInt ∧ (I 35 d).toInt ≤ 99 ∧ (I 32 d = 2 → I 35 d = 0) ∧ (I 32 d ≠ 2 → I 35 d ≠ 0) := (wg_d h).2.2.2.2.2.2.2.1
theorem wx_df (h : pu_WF I L) : ∀ d, d < cD I → 0 ≤ (I 34 d).toInt ∧ (I 34 d).toInt ≤ d ∧ I 32 (I 34 d).toNatClampNeg = 0 ∧ (I 32 d ≠ 0 → (I 34 d).toInt < d) := (wg_d h).2.2.2.2.2.2.2.2.1
theorem wx_dm (h : pu_WF I L) : ∀ d e, d < e → e < cD I → (I 36 d).toInt < (I 36 e).toInt := (wg_d h).2.2.2.2.2.2.2.2.2.1
theorem wx_dq (h : pu_WF I L) : ∀ q d, q ≤ cP I → d < cD I → I 32 d ≠ 0 → pu_oq (I 36 d) (I 37 d) q → pu_oq (I 36 (I 33 d).toNatClampNeg) (I 37 (I 33 d).toNatClampNeg) q := (wg_d h).2.2.2.2.2.2.2.2.2.2.1
theorem wx_dh (h : pu_WF I L) : ∀ q d, q ≤ cP I → d < cD I → pu_oq (I 36 d) (I 37 d) q → pu_oq (I 36 (I 34 d).toNatClampNeg) (I 37 (I 34 d).toNatClampNeg) q := (wg_d h).2.2.2.2.2.2.2.2.2.2.2
theorem wg_e (h : pu_WF I L) : w_e I L := h.2.2.2.2.2.2.2
theorem wx_es (h : pu_WF I L) : ∀ k, k < cS I → 0 ≤ (I 53 k).toInt ∧ (I 53 k).toInt ≤ 2 := (wg_e h).1
theorem wx_ef (h : pu_WF I L) : ∀ k, k < cF I → L 43 k ≠ 0 := (wg_e h).2.1
theorem wx_ew (h : pu_WF I L) : ∀ k l, k < l → l < cW I → I 54 k ≠ I 54 l := (wg_e h).2.2
theorem pz_oqx {o c o' c' : Int32} {q : Nat} (h1 : c ≠ -1) (h2 : c.toInt ≤ o'.toInt) (h3 : pu_oq o c q) (h4 : pu_oq o' c' q) : False := by
  rcases h3.2 with z | z
  · exact h1 z
  · have := h4.1
    omega
theorem wx_n1 (h : pu_WF I L) : ∀ q k l, q ≤ cP I → k < cN I → l < cN I → pu_oq (I 22 k) (I 23 k) q → pu_oq (I 22 l) (I 23 l) q → I 20 k = I 20 l → k = l := by
  intro q k l _ hk hl o1 o2 e
  rcases Nat.lt_trichotomy k l with z | z | z
  · have w := wx_n6 h k l z hl e
    exact (pz_oqx w.1 w.2.1 o1 o2).elim
  · exact z
  · have w := wx_n6 h l k z hk e.symm
    exact (pz_oqx w.1 w.2.1 o2 o1).elim
theorem wx_n2 (h : pu_WF I L) : ∀ q k l, q ≤ cP I → k < cN I → l < cN I → pu_oq (I 22 k) (I 23 k) q → pu_oq (I 22 l) (I 23 l) q → I 21 k = I 21 l → (∀ w, w < 3 → L 24 (3 * k + w) = L 24 (3 * l + w)) → k = l := by
  intro q k l _ hk hl o1 o2 e e2
  rcases Nat.lt_trichotomy k l with z | z | z
  · have w := wx_n7 h k l z hl e e2
    exact (pz_oqx w.1 w.2.1 o1 o2).elim
  · exact z
  · have w := wx_n7 h l k z hk e.symm (fun x hx => (e2 x hx).symm)
    exact (pz_oqx w.1 w.2.1 o2 o1).elim
end
/-- the two sides tell the same -/
def pu_St (I : Nat → Nat → Int32) (L : Nat → Nat → Int64) (s : Nat → Int32) : Prop := pu_WF I L ∧ pu_Rel I L s
/-! memories that agree with I and L on the office -/
def pu_ag (M : pu_M) (I : Nat → Nat → Int32) : Prop := ∀ a j, 5 ≤ a → a < 58 → M.1 a j = I a j
def pu_al (M : pu_M) (L : Nat → Nat → Int64) : Prop := ∀ a j, 5 ≤ a → a < 58 → M.2.1 a j = L a j
theorem ag_6 {M : pu_M} {I : Nat → Nat → Int32} (h : pu_ag M I) (j : Nat) : M.1 6 j = I 6 j := h 6 j (by decide) (by decide)
theorem ag_7 {M : pu_M} {I : Nat → Nat → Int32} (h : pu_ag M I) (j : Nat) : M.1 7 j = I 7 j := h 7 j (by decide) (by decide)
theorem ag_8 {M : pu_M} {I : Nat → Nat → Int32} (h : pu_ag M I) (j : Nat) : M.1 8 j = I 8 j := h 8 j (by decide) (by decide)
theorem ag_9 {M : pu_M} {I : Nat → Nat → Int32} (h : pu_ag M I) (j : Nat) : M.1 9 j = I 9 j := h 9 j (by decide) (by decide)
theorem ag_10 {M : pu_M} {I : Nat → Nat → Int32} (h : pu_ag M I) (j : Nat) : M.1 10 j = I 10 j := h 10 j (by decide) (by decide)
theorem ag_11 {M : pu_M} {I : Nat → Nat → Int32} (h : pu_ag M I) (j : Nat) : M.1 11 j = I 11 j := h 11 j (by decide) (by decide)
theorem ag_12 {M : pu_M} {I : Nat → Nat → Int32} (h : pu_ag M I) (j : Nat) : M.1 12 j = I 12 j := h 12 j (by decide) (by decide)
theorem ag_13 {M : pu_M} {I : Nat → Nat → Int32} (h : pu_ag M I) (j : Nat) : M.1 13 j = I 13 j := h 13 j (by decide) (by decide)
theorem ag_14 {M : pu_M} {I : Nat → Nat → Int32} (h : pu_ag M I) (j : Nat) : M.1 14 j = I 14 j := h 14 j (by decide) (by decide)
theorem ag_15 {M : pu_M} {I : Nat → Nat → Int32} (h : pu_ag M I) (j : Nat) : M.1 15 j = I 15 j := h 15 j (by decide) (by decide)
theorem ag_16 {M : pu_M} {I : Nat → Nat → Int32} (h : pu_ag M I) (j : Nat) : M.1 16 j = I 16 j := h 16 j (by decide) (by decide)
theorem ag_17 {M : pu_M} {I : Nat → Nat → Int32} (h : pu_ag M I) (j : Nat) : M.1 17 j = I 17 j := h 17 j (by decide) (by decide)
theorem ag_18 {M : pu_M} {I : Nat → Nat → Int32} (h : pu_ag M I) (j : Nat) : M.1 18 j = I 18 j := h 18 j (by decide) (by decide)
theorem ag_19 {M : pu_M} {I : Nat → Nat → Int32} (h : pu_ag M I) (j : Nat) : M.1 19 j = I 19 j := h 19 j (by decide) (by decide)
theorem ag_20 {M : pu_M} {I : Nat → Nat → Int32} (h : pu_ag M I) (j : Nat) : M.1 20 j = I 20 j := h 20 j (by decide) (by decide)
theorem ag_21 {M : pu_M} {I : Nat → Nat → Int32} (h : pu_ag M I) (j : Nat) : M.1 21 j = I 21 j := h 21 j (by decide) (by decide)
theorem ag_22 {M : pu_M} {I : Nat → Nat → Int32} (h : pu_ag M I) (j : Nat) : M.1 22 j = I 22 j := h 22 j (by decide) (by decide)
theorem ag_23 {M : pu_M} {I : Nat → Nat → Int32} (h : pu_ag M I) (j : Nat) : M.1 23 j = I 23 j := h 23 j (by decide) (by decide)
theorem ag_24 {M : pu_M} {I : Nat → Nat → Int32} (h : pu_ag M I) (j : Nat) : M.1 24 j = I 24 j := h 24 j (by decide) (by decide)
theorem ag_25 {M : pu_M} {I : Nat → Nat → Int32} (h : pu_ag M I) (j : Nat) : M.1 25 j = I 25 j := h 25 j (by decide) (by decide)
theorem ag_26 {M : pu_M} {I : Nat → Nat → Int32} (h : pu_ag M I) (j : Nat) : M.1 26 j = I 26 j := h 26 j (by decide) (by decide)
theorem ag_27 {M : pu_M} {I : Nat → Nat → Int32} (h : pu_ag M I) (j : Nat) : M.1 27 j = I 27 j := h 27 j (by decide) (by decide)
theorem ag_28 {M : pu_M} {I : Nat → Nat → Int32} (h : pu_ag M I) (j : Nat) : M.1 28 j = I 28 j := h 28 j (by decide) (by decide)
theorem ag_29 {M : pu_M} {I : Nat → Nat → Int32} (h : pu_ag M I) (j : Nat) : M.1 29 j = I 29 j := h 29 j (by decide) (by decide)
theorem ag_30 {M : pu_M} {I : Nat → Nat → Int32} (h : pu_ag M I) (j : Nat) : M.1 30 j = I 30 j := h 30 j (by decide) (by decide)
theorem ag_31 {M : pu_M} {I : Nat → Nat → Int32} (h : pu_ag M I) (j : Nat) : M.1 31 j = I 31 j := h 31 j (by decide) (by decide)
theorem ag_32 {M : pu_M} {I : Nat → Nat → Int32} (h : pu_ag M I) (j : Nat) : M.1 32 j = I 32 j := h 32 j (by decide) (by decide)
theorem ag_33 {M : pu_M} {I : Nat → Nat → Int32} (h : pu_ag M I) (j : Nat) : M.1 33 j = I 33 j := h 33 j (by decide) (by decide)
theorem ag_34 {M : pu_M} {I : Nat → Nat → Int32} (h : pu_ag M I) (j : Nat) : M.1 34 j = I 34 j := h 34 j (by decide) (by decide)
theorem ag_35 {M : pu_M} {I : Nat → Nat → Int32} (h : pu_ag M I) (j : Nat) : M.1 35 j = I 35 j := h 35 j (by decide) (by decide)
theorem ag_36 {M : pu_M} {I : Nat → Nat → Int32} (h : pu_ag M I) (j : Nat) : M.1 36 j = I 36 j := h 36 j (by decide) (by decide)
theorem ag_37 {M : pu_M} {I : Nat → Nat → Int32} (h : pu_ag M I) (j : Nat) : M.1 37 j = I 37 j := h 37 j (by decide) (by decide)
theorem ag_38 {M : pu_M} {I : Nat → Nat → Int32} (h : pu_ag M I) (j : Nat) : M.1 38 j = I 38 j := h 38 j (by decide) (by decide)
theorem ag_39 {M : pu_M} {I : Nat → Nat → Int32} (h : pu_ag M I) (j : Nat) : M.1 39 j = I 39 j := h 39 j (by decide) (by decide)
theorem ag_40 {M : pu_M} {I : Nat → Nat → Int32} (h : pu_ag M I) (j : Nat) : M.1 40 j = I 40 j := h 40 j (by decide) (by decide)
theorem ag_41 {M : pu_M} {I : Nat → Nat → Int32} (h : pu_ag M I) (j : Nat) : M.1 41 j = I 41 j := h 41 j (by decide) (by decide)
theorem ag_42 {M : pu_M} {I : Nat → Nat → Int32} (h : pu_ag M I) (j : Nat) : M.1 42 j = I 42 j := h 42 j (by decide) (by decide)
theorem ag_43 {M : pu_M} {I : Nat → Nat → Int32} (h : pu_ag M I) (j : Nat) : M.1 43 j = I 43 j := h 43 j (by decide) (by decide)
theorem ag_44 {M : pu_M} {I : Nat → Nat → Int32} (h : pu_ag M I) (j : Nat) : M.1 44 j = I 44 j := h 44 j (by decide) (by decide)
theorem ag_45 {M : pu_M} {I : Nat → Nat → Int32} (h : pu_ag M I) (j : Nat) : M.1 45 j = I 45 j := h 45 j (by decide) (by decide)
theorem ag_46 {M : pu_M} {I : Nat → Nat → Int32} (h : pu_ag M I) (j : Nat) : M.1 46 j = I 46 j := h 46 j (by decide) (by decide)
theorem ag_47 {M : pu_M} {I : Nat → Nat → Int32} (h : pu_ag M I) (j : Nat) : M.1 47 j = I 47 j := h 47 j (by decide) (by decide)
theorem ag_48 {M : pu_M} {I : Nat → Nat → Int32} (h : pu_ag M I) (j : Nat) : M.1 48 j = I 48 j := h 48 j (by decide) (by decide)
theorem ag_49 {M : pu_M} {I : Nat → Nat → Int32} (h : pu_ag M I) (j : Nat) : M.1 49 j = I 49 j := h 49 j (by decide) (by decide)
theorem ag_50 {M : pu_M} {I : Nat → Nat → Int32} (h : pu_ag M I) (j : Nat) : M.1 50 j = I 50 j := h 50 j (by decide) (by decide)
theorem ag_51 {M : pu_M} {I : Nat → Nat → Int32} (h : pu_ag M I) (j : Nat) : M.1 51 j = I 51 j := h 51 j (by decide) (by decide)
theorem ag_52 {M : pu_M} {I : Nat → Nat → Int32} (h : pu_ag M I) (j : Nat) : M.1 52 j = I 52 j := h 52 j (by decide) (by decide)
theorem ag_53 {M : pu_M} {I : Nat → Nat → Int32} (h : pu_ag M I) (j : Nat) : M.1 53 j = I 53 j := h 53 j (by decide) (by decide)
theorem ag_54 {M : pu_M} {I : Nat → Nat → Int32} (h : pu_ag M I) (j : Nat) : M.1 54 j = I 54 j := h 54 j (by decide) (by decide)
theorem ag_55 {M : pu_M} {I : Nat → Nat → Int32} (h : pu_ag M I) (j : Nat) : M.1 55 j = I 55 j := h 55 j (by decide) (by decide)
theorem ag_56 {M : pu_M} {I : Nat → Nat → Int32} (h : pu_ag M I) (j : Nat) : M.1 56 j = I 56 j := h 56 j (by decide) (by decide)
theorem ag_57 {M : pu_M} {I : Nat → Nat → Int32} (h : pu_ag M I) (j : Nat) : M.1 57 j = I 57 j := h 57 j (by decide) (by decide)
theorem al_24 {M : pu_M} {L : Nat → Nat → Int64} (h : pu_al M L) (j : Nat) : M.2.1 24 j = L 24 j := h 24 j (by decide) (by decide)
theorem al_26 {M : pu_M} {L : Nat → Nat → Int64} (h : pu_al M L) (j : Nat) : M.2.1 26 j = L 26 j := h 26 j (by decide) (by decide)
theorem al_43 {M : pu_M} {L : Nat → Nat → Int64} (h : pu_al M L) (j : Nat) : M.2.1 43 j = L 43 j := h 43 j (by decide) (by decide)
theorem al_44 {M : pu_M} {L : Nat → Nat → Int64} (h : pu_al M L) (j : Nat) : M.2.1 44 j = L 44 j := h 44 j (by decide) (by decide)
