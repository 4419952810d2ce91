/-! one more paper: groups that it leaves as they were -/
section
variable {I J : Nat → Nat → Int32} {L L' : Nat → Nat → Int64} {f a b ta tb ru : Int32}
theorem wn_same (h : pz_pp I J f a b ta (-1) ru) (hw : pu_WF I L) (hP : cP I < 200) (hT : cT J = cT I) (hK : cK J = cK I) (hN : cN J = cN I) (h1 : ∀ x, 20 ≤ x → x ≤ 23 → ∀ k, k < cN I → J x k = I x k) (h2 : ∀ j, j < 3 * cN I → L' 24 j = L 24 j) (h28 : ∀ k, k < cK I → J 28 k = I 28 k) : w_n J L' := by
  have m1 : (-1 : Int32).toInt = -1 := by decide
  have N23 : ∀ k, k < cN I → J 23 k = I 23 k := fun k hk => h1 23 (by omega) (by omega) k hk
  refine wn_ext h hw hP hT ⟨h28, by omega, by omega, fun k r1 r2 => by omega⟩ ⟨fun x r1 r2 k hk => h1 x r1 (by omega) k hk, fun k hk => Or.inl (N23 k hk), by omega, fun k r1 r2 => by omega, h2⟩ (fun k r1 r2 => by omega) (fun k hk e1 e2 => ?_) (fun k hk => ?_) (fun k p hk e hp => ?_) (fun k l r1 r2 r3 => by omega) (fun k l r1 r2 r3 => by omega) (fun k l r1 r2 r3 => by omega)
  · rw [N23 k hk, e1, nl_n2 _ (by omega)] at e2
    exact e2.elim
  · rw [hK] at hk
    obtain ⟨l, l1, l2, l3⟩ := wx_n3 hw (cP I) k (Nat.le_refl _) hk (by have := wx_ko hw k hk; omega)
    rw [pu_opq hw l1] at l2
    exact ⟨l, by omega, by rw [N23 l l1]; exact l2, by rw [h1 20 (by omega) (by omega) l l1]; exact l3⟩
  · rw [hN] at hk
    rw [N23 k hk] at e
    rw [h1 21 (by omega) (by omega) k hk]
    by_cases z : p < cP I
    · rw [h.2.1 12 (by omega) (by omega) p z]
      exact wx_n4 hw (cP I) k p (Nat.le_refl _) hk (by rw [pu_opq hw hk]; exact e) z
    · rw [show p = cP I by omega, h.2.2.2.2.2.2.2.1]
      intro q
      have := wx_nt hw k hk
      rw [← q] at this
      omega
theorem wk_same (h : pz_pp I J f a b ta tb ru) (hw : pu_WF I L) (hP : cP I < 200) (hT : cT J = cT I) (hK : cK J = cK I) (ht : ∀ j, j < 3 * cT I → L' 26 j = L 26 j) (h28 : ∀ k, k < cK I → J 28 k = I 28 k) (hr : ∀ k, k < cK I → 0 ≤ (J 27 k).toInt ∧ (J 27 k).toInt ≤ 3) (hl : ∀ k, k < 2 * cK I → J 29 k = I 29 k) (hl2 : ∀ k, k < 2 * cK I * 100 → J 30 k = I 30 k) : w_k J L' :=
  wk_ext h hw hP hT ⟨h28, by omega, by omega, fun k r1 r2 => by omega⟩ ht (by rw [hK]; exact hr) hl hl2 (fun k r1 r2 => by omega)
theorem pz_dcur (hw : pu_WF I L) {d : Nat} (hd : d < cD I) (h : I 37 d = -1) : (I 32 d ≠ 0 → I 37 (I 33 d).toNatClampNeg = -1) ∧ I 37 (I 34 d).toNatClampNeg = -1 := by
  have o : pu_oq (I 36 d) (I 37 d) (cP I) := by rw [pz_doq hw hd]; exact h
  constructor
  · intro z
    have y := wx_dq hw (cP I) d (Nat.le_refl _) hd z o
    have x := wx_d2 hw d hd z
    have v := pu_on (x := I 33 d) (n := d) ⟨x.1, x.2.1⟩
    rw [pz_doq hw (by omega)] at y
    exact y
  · have y := wx_dh hw (cP I) d (Nat.le_refl _) hd o
    have x := wx_df hw d hd
    have v := pu_on (x := I 34 d) (n := d + 1) ⟨x.1, by omega⟩
    rw [pz_doq hw (by omega)] at y
    exact y
theorem wd_same (h : pz_pp I J f a b ta tb ru) (hw : pu_WF I L) (hP : cP I < 200) (hD : cD J = cD I) (hK : cK I ≤ cK J) (h1 : ∀ x, 32 ≤ x → x ≤ 38 → ∀ d, d < cD I → J x d = I x d) (h2 : ∀ x, 39 ≤ x → x ≤ 41 → ∀ d, d < 2 * cD I → J x d = I x d) : w_d J := by
  refine wd_ext h hw hP ⟨fun x r1 r2 d hd => h1 x r1 (by omega) d hd, fun d hd => Or.inl (h1 37 (by omega) (by omega) d hd), fun d hd => Or.inl (h1 38 (by omega) (by omega) d hd), by omega, fun d r1 r2 => by omega⟩ (by omega) hK (fun x r1 r2 d hd => h2 x r1 r2 _ (by omega)) (fun x r1 r2 d hd _ => h2 x r1 r2 _ (by omega)) (fun d hd e1 e2 => ?_) (fun d hd e1 e2 => ?_) (fun d r1 r2 => by omega) (fun d hd e => ?_)
  · rw [h1 37 (by omega) (by omega) d hd, e1, nl_n2 _ (by omega)] at e2
    exact e2.elim
  · rw [h1 38 (by omega) (by omega) d hd, e1, nl_n2 _ (by omega)] at e2
    exact e2.elim
  · rw [hD] at hd
    rw [h1 37 (by omega) (by omega) d hd] at e
    have y := pz_dcur hw hd e
    have x := wx_df hw d hd
    have v := pu_on (x := I 34 d) (n := d + 1) ⟨x.1, by omega⟩
    rw [h1 32 (by omega) (by omega) d hd, h1 33 (by omega) (by omega) d hd, h1 34 (by omega) (by omega) d hd, h1 37 (by omega) (by omega) _ (show (I 34 d).toNatClampNeg < cD I by omega)]
    refine ⟨fun z => ?_, y.2⟩
    have x2 := wx_d2 hw d hd z
    have v2 := pu_on (x := I 33 d) (n := d) ⟨x2.1, x2.2.1⟩
    rw [h1 37 (by omega) (by omega) _ (show (I 33 d).toNatClampNeg < cD I by omega)]
    exact y.1 z
/-- spans of numbers as they were; doors may have come, but no place of a street -/
theorem wu_same (h : pz_pp I J f a b ta tb ru) (hw : pu_WF I L) (hP : cP I < 200) (hU : cU J = cU I) (hd : pz_de I J) (hK : cK I ≤ cK J) (h1 : ∀ x, 15 ≤ x → x ≤ 18 → ∀ k, k < cU I → J x k = I x k) (h2 : ∀ x, 39 ≤ x → x ≤ 41 → ∀ j, j < 2 * cD I → J x j = I x j) (h37 : ∀ d, d < cD I → J 37 d = I 37 d) (h38 : ∀ d, d < cD I → J 38 d = I 38 d) (hn : ∀ d, cD I ≤ d → d < cD J → J 32 d ≠ 0) : w_u J := by
  have s2 : ∀ k, k < cU I → pu_sl0 I k < 2 * cD I := fun k hk => (pu_sl_lt hw hk).1
  have hu : pz_ue I J := ⟨fun x r1 r2 k hk => h1 x r1 (by omega) k hk, fun k hk => Or.inl (h1 18 (by omega) (by omega) k hk), by omega, fun k r1 r2 => by omega, fun x r1 r2 k hk => h2 x r1 r2 _ (s2 k hk)⟩
  have O : ∀ k, k < cU I → J 18 k = -1 → I 18 k = -1 := fun k hk e => by rw [h1 18 (by omega) (by omega) k hk] at e; exact e
  obtain ⟨c1, c2, c3, c4, c5⟩ := pz_uc_of hw
  refine wu_ext h hw hP hd hu hK (fun k r1 r2 => by omega) (fun k hk e1 e2 => ?_) ?_
  · rw [h1 18 (by omega) (by omega) k hk, e1, nl_n2 _ (by omega)] at e2
    exact e2.elim
  · unfold pz_uc
    rw [hU]
    refine ⟨fun k l hk hl o1 o2 e => ?_, fun k l hk hl o1 o2 e e2 e3 => ?_, fun k l hk hl o1 o2 e e2 e3 => ?_, fun k hk o => ?_, fun d w hd2 e1 e2 e3 => ?_⟩
    · rw [h1 15 (by omega) (by omega) k hk, h1 15 (by omega) (by omega) l hl] at e
      exact c1 k l hk hl (O k hk o1) (O l hl o2) e
    · rw [pz_slJ hu hk, pz_slJ hu hl, h2 39 (by omega) (by omega) _ (s2 k hk), h2 39 (by omega) (by omega) _ (s2 l hl)] at e
      rw [h1 16 (by omega) (by omega) k hk] at e2 e3
      rw [h1 16 (by omega) (by omega) l hl] at e2
      exact c2 k l hk hl (O k hk o1) (O l hl o2) e e2 e3
    · rw [pz_slJ hu hk, pz_slJ hu hl] at e e2 e3
      rw [h2 39 (by omega) (by omega) _ (s2 k hk), h2 39 (by omega) (by omega) _ (s2 l hl)] at e
      rw [h2 40 (by omega) (by omega) _ (s2 k hk), h2 40 (by omega) (by omega) _ (s2 l hl)] at e2
      rw [h2 41 (by omega) (by omega) _ (s2 k hk), h2 41 (by omega) (by omega) _ (s2 l hl)] at e3
      exact c3 k l hk hl (O k hk o1) (O l hl o2) e e2 e3
    · have y := c4 k hk (O k hk o)
      have s3 := s2 k hk
      rw [pz_slJ hu hk, h37 _ (by omega), h38 _ (by omega), hd.1 32 (by omega) (by omega) _ (by omega)]
      exact y
    · by_cases z : d < cD I
      · rw [hd.1 32 (by omega) (by omega) d z] at e1
        rw [h37 d z] at e2
        rw [h38 d z] at e3
        obtain ⟨k, k1, k2, k3⟩ := c5 d w z e1 e2 e3
        exact ⟨k, k1, by rw [h1 18 (by omega) (by omega) k k1]; exact k2, by rw [h1 15 (by omega) (by omega) k k1]; exact k3⟩
      · exact absurd e1 (hn d (by omega) hd2)
end
/-! frames of the writes -/
theorem py_wi_o {M : pu_M} {a i : Nat} {v : Int32} {x j : Nat} (h : ¬ (x = a ∧ j = i)) : (pu_wi M a i v).1 x j = M.1 x j := by
  rw [pu_wi_1]
  by_cases c : x = a
  · rw [if_pos c, if_neg (fun z => h ⟨c, z⟩)]
  · rw [if_neg c]
section
variable {M : pu_M}
theorem pz_ly_o {P : Nat} {t f a b : Int32} {x j : Nat} (h1 : ¬ (x = 6 ∧ j = 2)) (h2 : ¬ (7 ≤ x ∧ x ≤ 13 ∧ j = P)) : (pz_ly M P t f a b).1 x j = M.1 x j := by
  unfold pz_ly
  rw [py_wi_o (by omega), py_wi_o (by omega), py_wi_o (by omega), py_wi_o (by omega), py_wi_o (by omega), py_wi_o (by omega), py_wi_o (by omega), py_wi_o (by omega)]
theorem pz_ly_v {P : Nat} {t f a b : Int32} : (pz_ly M P t f a b).1 6 2 = nI (P + 1) ∧ (pz_ly M P t f a b).1 7 P = f ∧ (pz_ly M P t f a b).1 8 P = t ∧ (pz_ly M P t f a b).1 9 P = a ∧ (pz_ly M P t f a b).1 10 P = b ∧ (pz_ly M P t f a b).1 11 P = -1 ∧ (pz_ly M P t f a b).1 12 P = -1 ∧ (pz_ly M P t f a b).1 13 P = -1 := by
  simp [pz_ly, pu_wi_1]
theorem py_rp_o {P : Nat} {t f a b ta tb : Int32} {x j : Nat} (h1 : ¬ (x = 72 ∧ j = 5)) (h2 : ¬ (x = 72 ∧ 28752 + 7 * P ≤ j ∧ j < 28752 + 7 * P + 7)) : (py_rp M P t f a b ta tb).1 x j = M.1 x j := by
  unfold py_rp
  rw [py_wi_o (by omega), py_wi_o (by omega), py_wi_o (by omega), py_wi_o (by omega), py_wi_o (by omega), py_wi_o (by omega), py_wi_o (by omega), py_wi_o (by omega)]
theorem py_rp_v {P : Nat} {t f a b ta tb : Int32} : (py_rp M P t f a b ta tb).1 72 5 = nI (P + 1) ∧ (py_rp M P t f a b ta tb).1 72 (28752 + 7 * P) = t ∧ (py_rp M P t f a b ta tb).1 72 (28752 + 7 * P + 1) = f ∧ (py_rp M P t f a b ta tb).1 72 (28752 + 7 * P + 2) = a ∧ (py_rp M P t f a b ta tb).1 72 (28752 + 7 * P + 3) = b ∧ (py_rp M P t f a b ta tb).1 72 (28752 + 7 * P + 4) = ta ∧ (py_rp M P t f a b ta tb).1 72 (28752 + 7 * P + 5) = tb ∧ (py_rp M P t f a b ta tb).1 72 (28752 + 7 * P + 6) = -1 := by
  simp only [py_rp, pu_wi_1]
  simp (disch := omega) [nl_feq]
theorem pz_on_o {n : Nat} {sl w p : Int32} {x j : Nat} (h1 : ¬ (x = 14 ∧ j = 0)) (h2 : ¬ (15 ≤ x ∧ x ≤ 18 ∧ j = n)) : (pz_on M n sl w p).1 x j = M.1 x j := by
  unfold pz_on
  rw [py_wi_o (by omega), py_wi_o (by omega), py_wi_o (by omega), py_wi_o (by omega), py_wi_o (by omega)]
theorem pz_on_v {n : Nat} {sl w p : Int32} : (pz_on M n sl w p).1 14 0 = nI (n + 1) ∧ (pz_on M n sl w p).1 15 n = sl ∧ (pz_on M n sl w p).1 16 n = w ∧ (pz_on M n sl w p).1 17 n = p ∧ (pz_on M n sl w p).1 18 n = -1 := by
  simp [pz_on, pu_wi_1]
theorem pz_ro1_o {n : Nat} {d w st v p : Int32} {x j : Nat} (h1 : ¬ (x = 72 ∧ j = 6)) (h2 : ¬ (x = 72 ∧ 10752 + 6 * n ≤ j ∧ j < 10752 + 6 * n + 6)) : (pz_ro1 M n d w st v p).1 x j = M.1 x j := by
  unfold pz_ro1
  rw [py_wi_o (by omega), py_wi_o (by omega), py_wi_o (by omega), py_wi_o (by omega), py_wi_o (by omega), py_wi_o (by omega), py_wi_o (by omega)]
theorem pz_ro1_v {n : Nat} {d w st v p : Int32} : (pz_ro1 M n d w st v p).1 72 6 = nI (n + 1) ∧ (pz_ro1 M n d w st v p).1 72 (10752 + 6 * n) = d ∧ (pz_ro1 M n d w st v p).1 72 (10752 + 6 * n + 1) = w ∧ (pz_ro1 M n d w st v p).1 72 (10752 + 6 * n + 2) = st ∧ (pz_ro1 M n d w st v p).1 72 (10752 + 6 * n + 3) = v ∧ (pz_ro1 M n d w st v p).1 72 (10752 + 6 * n + 4) = p ∧ (pz_ro1 M n d w st v p).1 72 (10752 + 6 * n + 5) = -1 := by
  simp only [pz_ro1, pu_wi_1]
  simp (disch := omega) [nl_feq]
theorem pz_sp_o {k : Nat} {st sd pc : Int32} {x j : Nat} (h2 : ¬ (39 ≤ x ∧ x ≤ 41 ∧ j = k)) : (pz_sp M k st sd pc).1 x j = M.1 x j := by
  unfold pz_sp
  rw [py_wi_o (by omega), py_wi_o (by omega), py_wi_o (by omega)]
theorem pz_sp_v {k : Nat} {st sd pc : Int32} : (pz_sp M k st sd pc).1 39 k = st ∧ (pz_sp M k st sd pc).1 40 k = sd ∧ (pz_sp M k st sd pc).1 41 k = pc := by
  simp [pz_sp, pu_wi_1]
theorem pz_ad_o {d : Nat} {so ov fr k p : Int32} {x j : Nat} (h1 : ¬ (x = 31 ∧ j = 0)) (h2 : ¬ (32 ≤ x ∧ x ≤ 38 ∧ j = d)) (h3 : ¬ (39 ≤ x ∧ x ≤ 41 ∧ (j = 2 * d ∨ j = 2 * d + 1))) : (pz_ad M d so ov fr k p).1 x j = M.1 x j := by
  unfold pz_ad
  rw [pz_sp_o (by omega), pz_sp_o (by omega), py_wi_o (by omega), py_wi_o (by omega), py_wi_o (by omega), py_wi_o (by omega), py_wi_o (by omega), py_wi_o (by omega), py_wi_o (by omega), py_wi_o (by omega)]
theorem pz_ad_v {d : Nat} {so ov fr k p : Int32} : (pz_ad M d so ov fr k p).1 31 0 = nI (d + 1) ∧ (pz_ad M d so ov fr k p).1 32 d = so ∧ (pz_ad M d so ov fr k p).1 33 d = ov ∧ (pz_ad M d so ov fr k p).1 34 d = fr ∧ (pz_ad M d so ov fr k p).1 35 d = k ∧ (pz_ad M d so ov fr k p).1 36 d = p ∧ (pz_ad M d so ov fr k p).1 37 d = -1 ∧ (pz_ad M d so ov fr k p).1 38 d = -1 ∧ ∀ x, 39 ≤ x → x ≤ 41 → (pz_ad M d so ov fr k p).1 x (2 * d) = -1 ∧ (pz_ad M d so ov fr k p).1 x (2 * d + 1) = -1 := by
  refine ⟨?_, ?_, ?_, ?_, ?_, ?_, ?_, ?_, fun x h1 h2 => ?_⟩
  rotate_right
  · have h3 : x = 39 ∨ x = 40 ∨ x = 41 := by omega
    rcases h3 with h3 | h3 | h3 <;> subst h3 <;> simp [pz_ad, pz_sp, pu_wi_1]
  all_goals simp only [pz_ad, pz_sp, pu_wi_1]
  all_goals simp
theorem pz_rm1_o {d : Nat} {so st sd pc k ov p : Int32} {x j : Nat} (h1 : ¬ (x = 72 ∧ j = 4)) (h2 : ¬ (x = 72 ∧ 9552 + 12 * d ≤ j ∧ j < 9552 + 12 * d + 12)) : (pz_rm1 M d so st sd pc k ov p).1 x j = M.1 x j := by
  unfold pz_rm1
  rw [py_wi_o (by omega), py_wi_o (by omega), py_wi_o (by omega), py_wi_o (by omega), py_wi_o (by omega), py_wi_o (by omega), py_wi_o (by omega), py_wi_o (by omega), py_wi_o (by omega), py_wi_o (by omega), py_wi_o (by omega), py_wi_o (by omega), py_wi_o (by omega)]
theorem pz_rm1_v {d : Nat} {so st sd pc k ov p : Int32} : (pz_rm1 M d so st sd pc k ov p).1 72 4 = nI (d + 1) ∧ (pz_rm1 M d so st sd pc k ov p).1 72 (9552 + 12 * d) = so ∧ (pz_rm1 M d so st sd pc k ov p).1 72 (9552 + 12 * d + 1) = st ∧ (pz_rm1 M d so st sd pc k ov p).1 72 (9552 + 12 * d + 2) = sd ∧ (pz_rm1 M d so st sd pc k ov p).1 72 (9552 + 12 * d + 3) = pc ∧ (pz_rm1 M d so st sd pc k ov p).1 72 (9552 + 12 * d + 4) = -1 ∧ (pz_rm1 M d so st sd pc k ov p).1 72 (9552 + 12 * d + 5) = -1 ∧ (pz_rm1 M d so st sd pc k ov p).1 72 (9552 + 12 * d + 6) = -1 ∧ (pz_rm1 M d so st sd pc k ov p).1 72 (9552 + 12 * d + 7) = k ∧ (pz_rm1 M d so st sd pc k ov p).1 72 (9552 + 12 * d + 8) = ov ∧ (pz_rm1 M d so st sd pc k ov p).1 72 (9552 + 12 * d + 9) = p ∧ (pz_rm1 M d so st sd pc k ov p).1 72 (9552 + 12 * d + 10) = -1 ∧ (pz_rm1 M d so st sd pc k ov p).1 72 (9552 + 12 * d + 11) = -1 := by
  simp only [pz_rm1, pu_wi_1]
  simp (disch := omega) [nl_feq]
end
/-- the office and the reference's scratch may have changed -/
theorem pu_Inv_all {M N : pu_M} (h : pu_Inv M) (e2 : N.2.2 = M.2.2) (hl : ∀ a j, 86 ≤ a → N.2.1 a j = M.2.1 a j) (h1 : ∀ a j, a < 5 ∨ (a = 71 ∧ (j = 4 ∨ j = 8)) ∨ a = 73 ∨ a = 74 ∨ a = 75 ∨ a = 77 ∨ 86 ≤ a → N.1 a j = M.1 a j) (hS : pu_St (pu_si N 5) (pu_sj N 5) (N.1 72)) : pu_Inv N := by
  refine pu_Inv_of h ?_ (by rw [e2]) (fun a j _ => by rw [e2]) (fun a j q => h1 a j (by omega)) hl (fun j => h1 _ j (by omega)) (fun j => h1 _ j (by omega)) (pu_tp_fr h.2.1 (h1 _ _ (by omega)) (h1 _ _ (by omega)) (fun j => h1 _ _ (by omega)) (fun j => h1 _ _ (by omega))) (pu_ou_fr h.2.2.1 (h1 _ _ (by omega)) (h1 _ _ (by omega)) (fun j => h1 _ _ (by omega)) (fun j => h1 _ _ (by omega))) hS
  intro a k r q
  rw [e2]
  exact h.1 a k r q
