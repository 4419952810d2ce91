/-! the class's counts, and how the reference's row s tells what the class's cells I (ints) and L (longs) tell -/
def cP (I : Nat → Nat → Int32) : Nat := (I 6 2).toNatClampNeg
def cU (I : Nat → Nat → Int32) : Nat := (I 14 0).toNatClampNeg
def cN (I : Nat → Nat → Int32) : Nat := (I 19 0).toNatClampNeg
def cT (I : Nat → Nat → Int32) : Nat := (I 25 0).toNatClampNeg
def cK (I : Nat → Nat → Int32) : Nat := (I 25 1).toNatClampNeg
def cD (I : Nat → Nat → Int32) : Nat := (I 31 0).toNatClampNeg
def cF (I : Nat → Nat → Int32) : Nat := (I 42 0).toNatClampNeg
def cQ (I : Nat → Nat → Int32) : Nat := (I 45 2).toNatClampNeg
def cR (I : Nat → Nat → Int32) : Nat := (I 45 3).toNatClampNeg
def cS (I : Nat → Nat → Int32) : Nat := (I 45 4).toNatClampNeg
def cW (I : Nat → Nat → Int32) : Nat := (I 45 5).toNatClampNeg
def cE (I : Nat → Nat → Int32) : Nat := (I 45 6).toNatClampNeg
def cO (I : Nat → Nat → Int32) : Nat := (I 45 7).toNatClampNeg
/-- a word's letters as digits, and as a number -/
def pu_lt (ds : List Nat) (i : Nat) : Int32 := match ds[i]? with
  | some d => nI (97 + d)
  | none => 0
def pu_wv (ds : List Nat) : Nat := ds.foldl (fun v d => v * 27 + (d + 1)) 0
def pu_Wd (s : Nat → Int32) (at0 : Nat) (x : Int64) : Prop := ∃ ds : List Nat, ds.length ≤ 12 ∧ (∀ d ∈ ds, d < 26) ∧ (∀ i, i < 12 → s (at0 + i) = pu_lt ds i) ∧ x = lN (pu_wv ds)
/-- the reference's span j of a name tells the class's span k -/
def pz_nr (I : Nat → Nat → Int32) (L : Nat → Nat → Int64) (s : Nat → Int32) (j k : Nat) : Prop := s (7552 + 5 * j) = I 20 k ∧ s (7552 + 5 * j + 1) = I 21 k ∧ s (7552 + 5 * j + 3) = I 22 k ∧ s (7552 + 5 * j + 4) = I 23 k ∧ ∃ m, 8 ≤ m ∧ m < 208 ∧ m ≤ 8 + (I 22 k).toNatClampNeg ∧ s (7552 + 5 * j + 2) = nI m ∧ ∀ w, w < 3 → pu_Wd s (32 + 36 * m + 12 * w) (L 24 (3 * k + w))
def rl_h (I : Nat → Nat → Int32) (s : Nat → Int32) : Prop := (s 0 = I 6 0) ∧ (s 1 = I 6 1) ∧ (s 2 = nI (cT I)) ∧ (s 3 = nI (cK I)) ∧ (s 4 = nI (cD I)) ∧ (s 5 = nI (cP I)) ∧ (s 6 = nI (cU I)) ∧ (s 7 = nI (cN I)) ∧ (s 8 = nI (cF I)) ∧ (s 9 = nI (cS I)) ∧ (s 10 = nI (cE I)) ∧ (s 11 = nI (cQ I)) ∧ (s 12 = nI (cW I)) ∧ (s 13 = nI (cO I)) ∧ (s 14 = nI (cR I)) ∧ (s 15 = I 45 0) ∧ (s 16 = I 45 1)
def rl_p (I : Nat → Nat → Int32) (s : Nat → Int32) : Prop := (∀ k, k < cP I → s (28752 + 7 * k) = I 8 k) ∧ (∀ k, k < cP I → s (28752 + 7 * k + 1) = I 7 k) ∧ (∀ k, k < cP I → s (28752 + 7 * k + 2) = I 9 k) ∧ (∀ k, k < cP I → s (28752 + 7 * k + 3) = I 10 k) ∧ (∀ k, k < cP I → s (28752 + 7 * k + 4) = I 11 k) ∧ (∀ k, k < cP I → s (28752 + 7 * k + 5) = I 12 k) ∧ (∀ k, k < cP I → s (28752 + 7 * k + 6) = I 13 k)
def rl_u (I : Nat → Nat → Int32) (s : Nat → Int32) : Prop := (∀ k, k < cU I → s (10752 + 6 * k) = nI ((I 15 k).toNatClampNeg / 2)) ∧ (∀ k, k < cU I → s (10752 + 6 * k + 1) = nI ((I 15 k).toNatClampNeg % 2)) ∧ (∀ k, k < cU I → s (10752 + 6 * k + 2) = I 39 (I 15 k).toNatClampNeg) ∧ (∀ k, k < cU I → s (10752 + 6 * k + 3) = I 16 k) ∧ (∀ k, k < cU I → s (10752 + 6 * k + 4) = I 17 k) ∧ (∀ k, k < cU I → s (10752 + 6 * k + 5) = I 18 k)
def rl_n (I : Nat → Nat → Int32) (L : Nat → Nat → Int64) (s : Nat → Int32) : Prop := (∀ k, k < cN I → ∃ j, j < cN I ∧ pz_nr I L s j k) ∧ (∀ j, j < cN I → ∃ k, k < cN I ∧ pz_nr I L s j k) ∧ (∀ k, k < cN I → s (7552 + 5 * k + 3) = I 22 k) ∧ (∀ j l, j < cN I → l < cN I → s (7552 + 5 * j) = s (7552 + 5 * l) → s (7552 + 5 * j + 3) = s (7552 + 5 * l + 3) → j = l)
def rl_t (I : Nat → Nat → Int32) (L : Nat → Nat → Int64) (s : Nat → Int32) : Prop := (∀ k, k < cT I → ∀ w, w < 3 → pu_Wd s (32 + 36 * k + 12 * w) (L 26 (3 * k + w))) ∧ (∀ k, k < cT I → (s (7520 + k) = -1 ∧ ∀ p, p < cP I → I 12 p ≠ nI k) ∨ ∃ p, p < cP I ∧ s (7520 + k) = nI p ∧ I 12 p = nI k ∧ ∀ q, q < cP I → I 12 q = nI k → q = p)
def rl_k (I : Nat → Nat → Int32) (s : Nat → Int32) : Prop := (∀ k, k < cK I → s (7528 + k) = I 27 k) ∧ (∀ k, k < 2 * cK I → s (30632 + 601 * k) = I 29 k) ∧ (∀ k i, k < 2 * cK I → i < 100 → nI i < I 29 k → s (30632 + 601 * k + 1 + i) = I 30 (k * 100 + i))
def rl_d (I : Nat → Nat → Int32) (s : Nat → Int32) : Prop := (∀ k, k < cD I → s (9552 + 12 * k) = if I 38 k = -1 then I 32 k else 1) ∧ (∀ k, k < cD I → s (9552 + 12 * k + 1) = I 39 (2 * k)) ∧ (∀ k, k < cD I → s (9552 + 12 * k + 2) = I 40 (2 * k)) ∧ (∀ k, k < cD I → s (9552 + 12 * k + 3) = I 41 (2 * k)) ∧ (∀ k, k < cD I → s (9552 + 12 * k + 4) = I 39 (2 * k + 1)) ∧ (∀ k, k < cD I → s (9552 + 12 * k + 5) = I 40 (2 * k + 1)) ∧ (∀ k, k < cD I → s (9552 + 12 * k + 6) = I 41 (2 * k + 1)) ∧ (∀ k, k < cD I → s (9552 + 12 * k + 7) = I 35 k) ∧ (∀ k, k < cD I → s (9552 + 12 * k + 8) = I 33 k) ∧ (∀ k, k < cD I → s (9552 + 12 * k + 9) = I 36 k) ∧ (∀ k, k < cD I → s (9552 + 12 * k + 10) = I 37 k) ∧ (∀ k, k < cD I → s (9552 + 12 * k + 11) = I 38 k)
def rl_f (I : Nat → Nat → Int32) (L : Nat → Nat → Int64) (s : Nat → Int32) : Prop := (∀ k, k < cF I → pu_Wd s (30152 + 24 * k) (L 43 k)) ∧ (∀ k, k < cF I → pu_Wd s (30152 + 24 * k + 12) (L 44 k))
def rl_e (I : Nat → Nat → Int32) (s : Nat → Int32) : Prop := (∀ k, k < cS I → s (59480 + 2 * k) = I 52 k) ∧ (∀ k, k < cS I → s (59480 + 2 * k + 1) = I 53 k) ∧ (∀ k, k < cE I → s (59528 + k) = I 55 k) ∧ (∀ k, k < cQ I → s (59588 + 2 * k) = I 46 k) ∧ (∀ k, k < cQ I → s (59588 + 2 * k + 1) = I 47 k) ∧ (∀ k, k < cW I → s (59788 + k) = I 54 k) ∧ (∀ k, k < cO I → s (59888 + 2 * k) = I 56 k) ∧ (∀ k, k < cO I → s (59888 + 2 * k + 1) = I 57 k) ∧ (∀ k, k < cR I → s (60008 + 2 * k) = I 49 k) ∧ (∀ k, k < cR I → s (60008 + 2 * k + 1) = I 50 k)
def pu_Rel (I : Nat → Nat → Int32) (L : Nat → Nat → Int64) (s : Nat → Int32) : Prop := rl_h I s ∧ rl_p I s ∧ rl_u I s ∧ rl_n I L s ∧ rl_t I L s ∧ rl_k I s ∧ rl_d I s ∧ rl_f I L s ∧ rl_e I s
section
variable {I : Nat → Nat → Int32} {L : Nat → Nat → Int64} {s : Nat → Int32}
theorem rg_h (h : pu_Rel I L s) : rl_h I s := h.1
theorem rl_h0 (h : pu_Rel I L s) : s 0 = I 6 0 := (rg_h h).1
theorem rl_h1 (h : pu_Rel I L s) : s 1 = I 6 1 := (rg_h h).2.1
theorem rl_h2 (h : pu_Rel I L s) : s 2 = nI (cT I) := (rg_h h).2.2.1
theorem rl_h3 (h : pu_Rel I L s) : s 3 = nI (cK I) := (rg_h h).2.2.2.1
theorem rl_h4 (h : pu_Rel I L s) : s 4 = nI (cD I) := (rg_h h).2.2.2.2.1
theorem rl_h5 (h : pu_Rel I L s) : s 5 = nI (cP I) := (rg_h h).2.2.2.2.2.1
theorem rl_h6 (h : pu_Rel I L s) : s 6 = nI (cU I) := (rg_h h).2.2.2.2.2.2.1
theorem rl_h7 (h : pu_Rel I L s) : s 7 = nI (cN I) := (rg_h h).2.2.2.2.2.2.2.1
theorem rl_h8 (h : pu_Rel I L s) : s 8 = nI (cF I) := (rg_h h).2.2.2.2.2.2.2.2.1
theorem rl_h9 (h : pu_Rel I L s) : s 9 = nI (cS I) := (rg_h h).2.2.2.2.2.2.2.2.2.1
theorem rl_h10 (h : pu_Rel I L s) : s 10 = nI (cE I) := (rg_h h).2.2.2.2.2.2.2.2.2.2.1
theorem rl_h11 (h : pu_Rel I L s) : s 11 = nI (cQ I) := (rg_h h).2.2.2.2.2.2.2.2.2.2.2.1
theorem rl_h12 (h : pu_Rel I L s) : s 12 = nI (cW I) := (rg_h h).2.2.2.2.2.2.2.2.2.2.2.2.1
theorem rl_h13 (h : pu_Rel I L s) : s 13 = nI (cO I) := (rg_h h).2.2.2.2.2.2.2.2.2.2.2.2.2.1
theorem rl_h14 (h : pu_Rel I L s) : s 14 = nI (cR I) := (rg_h h).2.2.2.2.2.2.2.2.2.2.2.2.2.2.1
theorem rl_h15 (h : pu_Rel I L s) : s 15 = I 45 0 := (rg_h h).2.2.2.2.2.2.2.2.2.2.2.2.2.2.2.1
theorem rl_h16 (h : pu_Rel I L s) : s 16 = I 45 1 := (rg_h h).2.2.2.2.2.2.2.2.2.2.2.2.2.2.2.2
theorem rg_p (h : pu_Rel I L s) : rl_p I s := h.2.1
theorem rl_p0 (h : pu_Rel I L s) : ∀ k, k < cP I → s (28752 + 7 * k) = I 8 k := (rg_p h).1
theorem rl_p1 (h : pu_Rel I L s) : ∀ k, k < cP I → s (28752 + 7 * k + 1) = I 7 k := (rg_p h).2.1
theorem rl_p2 (h : pu_Rel I L s) : ∀ k, k < cP I → s (28752 + 7 * k + 2) = I 9 k := (rg_p h).2.2.1
theorem rl_p3 (h : pu_Rel I L s) : ∀ k, k < cP I → s (28752 + 7 * k + 3) = I 10 k := (rg_p h).2.2.2.1
theorem rl_p4 (h : pu_Rel I L s) : ∀ k, k < cP I → s (28752 + 7 * k + 4) = I 11 k := (rg_p h).2.2.2.2.1
theorem rl_p5 (h : pu_Rel I L s) : ∀ k, k < cP I → s (28752 + 7 * k + 5) = I 12 k := (rg_p h).2.2.2.2.2.1
theorem rl_p6 (h : pu_Rel I L s) : ∀ k, k < cP I → s (28752 + 7 * k + 6) = I 13 k := (rg_p h).2.2.2.2.2.2
theorem rg_u (h : pu_Rel I L s) : rl_u I s := h.2.2.1
theorem rl_u0 (h : pu_Rel I L s) : ∀ k, k < cU I → s (10752 + 6 * k) = nI ((I 15 k).toNatClampNeg / 2) := (rg_u h).1
theorem rl_u1 (h : pu_Rel I L s) : ∀ k, k < cU I → s (10752 + 6 * k + 1) = nI ((I 15 k).toNatClampNeg % 2) := (rg_u h).2.1
theorem rl_u2 (h : pu_Rel I L s) : ∀ k, k < cU I → s (10752 + 6 * k + 2) = I 39 (I 15 k).toNatClampNeg := (rg_u h).2.2.1
theorem rl_u3 (h : pu_Rel I L s) : ∀ k, k < cU I → s (10752 + 6 * k + 3) = I 16 k := (rg_u h).2.2.2.1
theorem rl_u4 (h : pu_Rel I L s) : ∀ k, k < cU I → s (10752 + 6 * k + 4) = I 17 k := (rg_u h).2.2.2.2.1
theorem rl_u5 (h : pu_Rel I L s) : ∀ k, k < cU I → s (10752 + 6 * k + 5) = I 18 k := (rg_u h).2.2.2.2.2
theorem rg_n (h : pu_Rel I L s) : rl_n I L s := h.2.2.2.1
theorem rl_na (h : pu_Rel I L s) : ∀ k, k < cN I → ∃ j, j < cN I ∧ pz_nr I L s j k := (rg_n h).1
theorem rl_nb (h : pu_Rel I L s) : ∀ j, j < cN I → ∃ k, k < cN I ∧ pz_nr I L s j k := (rg_n h).2.1
theorem rl_n3 (h : pu_Rel I L s) : ∀ k, k < cN I → s (7552 + 5 * k + 3) = I 22 k := (rg_n h).2.2.1
theorem rl_ni (h : pu_Rel I L s) : ∀ j l, j < cN I → l < cN I → s (7552 + 5 * j) = s (7552 + 5 * l) → s (7552 + 5 * j + 3) = s (7552 + 5 * l + 3) → j = l := (rg_n h).2.2.2
theorem rg_t (h : pu_Rel I L s) : rl_t I L s := h.2.2.2.2.1
theorem rl_tw (h : pu_Rel I L s) : ∀ k, k < cT I → ∀ w, w < 3 → pu_Wd s (32 + 36 * k + 12 * w) (L 26 (3 * k + w)) := (rg_t h).1
theorem rl_tj (h : pu_Rel I L s) : ∀ k, k < cT I → (s (7520 + k) = -1 ∧ ∀ p, p < cP I → I 12 p ≠ nI k) ∨ ∃ p, p < cP I ∧ s (7520 + k) = nI p ∧ I 12 p = nI k ∧ ∀ q, q < cP I → I 12 q = nI k → q = p := (rg_t h).2
theorem rg_k (h : pu_Rel I L s) : rl_k I s := h.2.2.2.2.2.1
theorem rl_k0 (h : pu_Rel I L s) : ∀ k, k < cK I → s (7528 + k) = I 27 k := (rg_k h).1
theorem rl_k1 (h : pu_Rel I L s) : ∀ k, k < 2 * cK I → s (30632 + 601 * k) = I 29 k := (rg_k h).2.1
theorem rl_k2 (h : pu_Rel I L s) : ∀ k i, k < 2 * cK I → i < 100 → nI i < I 29 k → s (30632 + 601 * k + 1 + i) = I 30 (k * 100 + i) := (rg_k h).2.2
theorem rg_d (h : pu_Rel I L s) : rl_d I s := h.2.2.2.2.2.2.1
theorem rl_d0 (h : pu_Rel I L s) : ∀ k, k < cD I → s (9552 + 12 * k) = if I 38 k = -1 then I 32 k else 1 := (rg_d h).1
theorem rl_d1 (h : pu_Rel I L s) : ∀ k, k < cD I → s (9552 + 12 * k + 1) = I 39 (2 * k) := (rg_d h).2.1
theorem rl_d2 (h : pu_Rel I L s) : ∀ k, k < cD I → s (9552 + 12 * k + 2) = I 40 (2 * k) := (rg_d h).2.2.1
theorem rl_d3 (h : pu_Rel I L s) : ∀ k, k < cD I → s (9552 + 12 * k + 3) = I 41 (2 * k) := (rg_d h).2.2.2.1
theorem rl_d4 (h : pu_Rel I L s) : ∀ k, k < cD I → s (9552 + 12 * k + 4) = I 39 (2 * k + 1) := (rg_d h).2.2.2.2.1
theorem rl_d5 (h : pu_Rel I L s) : ∀ k, k < cD I → s (9552 + 12 * k + 5) = I 40 (2 * k + 1) := (rg_d h).2.2.2.2.2.1
theorem rl_d6 (h : pu_Rel I L s) : ∀ k, k < cD I → s (9552 + 12 * k + 6) = I 41 (2 * k + 1) := (rg_d h).2.2.2.2.2.2.1
theorem rl_d7 (h : pu_Rel I L s) : ∀ k, k < cD I → s (9552 + 12 * k + 7) = I 35 k := (rg_d h).2.2.2.2.2.2.2.1
theorem rl_d8 (h : pu_Rel I L s) : ∀ k, k < cD I → s (9552 + 12 * k + 8) = I 33 k := (rg_d h).2.2.2.2.2.2.2.2.1
theorem rl_d9 (h : pu_Rel I L s) : ∀ k, k < cD I → s (9552 + 12 * k + 9) = I 36 k := (rg_d h).2.2.2.2.2.2.2.2.2.1
theorem rl_d10 (h : pu_Rel I L s) : ∀ k, k < cD I → s (9552 + 12 * k + 10) = I 37 k := (rg_d h).2.2.2.2.2.2.2.2.2.2.1
theorem rl_d11 (h : pu_Rel I L s) : ∀ k, k < cD I → s (9552 + 12 * k + 11) = I 38 k := (rg_d h).2.2.2.2.2.2.2.2.2.2.2
theorem rg_f (h : pu_Rel I L s) : rl_f I L s := h.2.2.2.2.2.2.2.1
theorem rl_f0 (h : pu_Rel I L s) : ∀ k, k < cF I → pu_Wd s (30152 + 24 * k) (L 43 k) := (rg_f h).1
theorem rl_f1 (h : pu_Rel I L s) : ∀ k, k < cF I → pu_Wd s (30152 + 24 * k + 12) (L 44 k) := (rg_f h).2
theorem rg_e (h : pu_Rel I L s) : rl_e I s := h.2.2.2.2.2.2.2.2
theorem rl_eS0 (h : pu_Rel I L s) : ∀ k, k < cS I → s (59480 + 2 * k) = I 52 k := (rg_e h).1
theorem rl_eS1 (h : pu_Rel I L s) : ∀ k, k < cS I → s (59480 + 2 * k + 1) = I 53 k := (rg_e h).2.1
theorem rl_eE (h : pu_Rel I L s) : ∀ k, k < cE I → s (59528 + k) = I 55 k := (rg_e h).2.2.1
theorem rl_eQ0 (h : pu_Rel I L s) : ∀ k, k < cQ I → s (59588 + 2 * k) = I 46 k := (rg_e h).2.2.2.1
theorem rl_eQ1 (h : pu_Rel I L s) : ∀ k, k < cQ I → s (59588 + 2 * k + 1) = I 47 k := (rg_e h).2.2.2.2.1
theorem rl_eW (h : pu_Rel I L s) : ∀ k, k < cW I → s (59788 + k) = I 54 k := (rg_e h).2.2.2.2.2.1
theorem rl_eO0 (h : pu_Rel I L s) : ∀ k, k < cO I → s (59888 + 2 * k) = I 56 k := (rg_e h).2.2.2.2.2.2.1
theorem rl_eO1 (h : pu_Rel I L s) : ∀ k, k < cO I → s (59888 + 2 * k + 1) = I 57 k := (rg_e h).2.2.2.2.2.2.2.1
theorem rl_eR0 (h : pu_Rel I L s) : ∀ k, k < cR I → s (60008 + 2 * k) = I 49 k := (rg_e h).2.2.2.2.2.2.2.2.1
theorem rl_eR1 (h : pu_Rel I L s) : ∀ k, k < cR I → s (60008 + 2 * k + 1) = I 50 k := (rg_e h).2.2.2.2.2.2.2.2.2
end
