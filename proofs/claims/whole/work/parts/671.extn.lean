/-! one more paper: names and streets -/
def pz_ne (I : Nat → Nat → Int32) (L : Nat → Nat → Int64) (J : Nat → Nat → Int32) (L' : Nat → Nat → Int64) : Prop := (∀ x, 20 ≤ x → x ≤ 22 → ∀ k, k < cN I → J x k = I x k) ∧ (∀ k, k < cN I → J 23 k = I 23 k ∨ (I 23 k = -1 ∧ J 23 k = nI (cP I))) ∧ cN I ≤ cN J ∧ (∀ k, cN I ≤ k → k < cN J → J 22 k = nI (cP I) ∧ J 23 k = -1) ∧ (∀ j, j < 3 * cN I → L' 24 j = L 24 j)
def pz_ke (I J : Nat → Nat → Int32) : Prop := (∀ k, k < cK I → J 28 k = I 28 k) ∧ cK I ≤ cK J ∧ cK J ≤ cK I + 1 ∧ (∀ k, cK I ≤ k → k < cK J → J 28 k = nI (cP I))
section
variable {I J : Nat → Nat → Int32} {L L' : Nat → Nat → Int64} {f a b ta tb ru : Int32}
theorem pz_ctc {q : Nat} (h : ∀ p, p < q → J 12 p = I 12 p) : ∀ t, pu_ct J q t = pu_ct I q t
  | 0 => rfl
  | t + 1 => by
    have e : (∃ p, p < q ∧ J 12 p = nI t) = (∃ p, p < q ∧ I 12 p = nI t) := by
      apply propext
      constructor
      · rintro ⟨p, p1, p2⟩
        rw [h p p1] at p2
        exact ⟨p, p1, p2⟩
      · rintro ⟨p, p1, p2⟩
        exact ⟨p, p1, by rw [h p p1]; exact p2⟩
    unfold pu_ct
    rw [pz_ctc h t]
    by_cases c : ∃ p, p < q ∧ I 12 p = nI t
    · rw [if_pos (show ∃ p, p < q ∧ J 12 p = nI t by rw [e]; exact c), if_pos c]
    · rw [if_neg (show ¬ ∃ p, p < q ∧ J 12 p = nI t by rw [e]; exact c), if_neg c]
theorem wn_ext (h : pz_pp I J f a b ta tb ru) (hw : pu_WF I L) (hP : cP I < 200) (hT : cT J = cT I) (hk : pz_ke I J) (hne : pz_ne I L J L')
    (hnew : ∀ k, cN I ≤ k → k < cN J → 0 ≤ (J 20 k).toInt ∧ (J 20 k).toInt < cK J ∧ 0 ≤ (J 21 k).toInt ∧ (J 21 k).toInt < cT I ∧ (a = J 20 k ∨ ta = J 21 k) ∧ k < cP I + 1 + 23 * pu_ct J (cP I + 1) 8)
    (hcl : ∀ k, k < cN I → I 23 k = -1 → J 23 k = nI (cP I) → (I 7 (I 22 k).toNatClampNeg).toInt ≤ f.toInt ∧ (a = I 20 k ∨ tb = I 21 k))
    (h3 : ∀ k, k < cK J → ∃ l, l < cN J ∧ J 23 l = -1 ∧ J 20 l = nI k)
    (h4 : ∀ k p, k < cN J → J 23 k = -1 → p < cP I + 1 → J 12 p ≠ J 21 k)
    (h6 : ∀ k l, k < l → cN I ≤ l → l < cN J → J 20 k = J 20 l → J 23 k ≠ -1 ∧ (J 7 (J 23 k).toNatClampNeg).toInt ≤ f.toInt)
    (h7 : ∀ k l, k < l → cN I ≤ l → l < cN J → J 21 k = J 21 l → (∀ w, w < 3 → L' 24 (3 * k + w) = L' 24 (3 * l + w)) → J 23 k ≠ -1 ∧ ((J 7 (J 23 k).toNatClampNeg).toInt ≤ f.toInt ∨ (J 7 (J 23 k).toNatClampNeg).toInt ≤ (J 7 (J 22 k).toNatClampNeg).toInt))
    (h8 : ∀ k l, k < l → cN I ≤ l → l < cN J → J 20 k = J 20 l → J 21 k = J 21 l ∨ ∃ p, p < cP I + 1 ∧ J 12 p = J 21 k) : w_n J L' := by
  have cJ := pz_cPJ h hP
  have tP := nl_n0 (a := cP I) (by omega)
  have nP : (nI (cP I)).toNatClampNeg = cP I := nl_cl _ (by omega)
  have m1 : (-1 : Int32).toInt = -1 := by decide
  obtain ⟨⟨g0, g1, g2⟩, G, g7, g8, g9, g10, g11, g12, g13⟩ := id h
  obtain ⟨N, N23, Nc, Nn, Nw⟩ := hne
  obtain ⟨K, K1, K2, K3⟩ := hk
  have S : ∀ k, k < cN J → k < cN I ∨ (cN I ≤ k ∧ k < cN J) := fun k hk => by omega
  have O : ∀ k, k < cN I → I 22 k = nI (I 22 k).toNatClampNeg ∧ (I 22 k).toNatClampNeg < cP I := fun k hk => pu_on ⟨(wx_no hw k hk).1, (wx_no hw k hk).2.1⟩
  have C : ∀ k, k < cN I → I 23 k ≠ -1 → (I 23 k).toNatClampNeg < cP I := fun k hk z => (pu_on (x := I 23 k) (n := cP I) ⟨pu_ne1 (wx_nc hw k hk).1 z, (wx_nc hw k hk).2.1⟩).2
  have st : ∀ k, k < cN I → (I 20 k).toNatClampNeg < cK I := fun k hk => (pu_on (x := I 20 k) (n := cK I) ⟨(wx_ns hw k hk).1, (wx_ns hw k hk).2⟩).2
  have oo : ∀ k, k < cN J → 0 ≤ (J 22 k).toInt ∧ (J 22 k).toInt < cP I + 1 := by
    intro k hk
    rcases S k hk with z | z
    · rw [N 22 (by omega) (by omega) k z]; have := wx_no hw k z; omega
    · rw [(Nn k z.1 z.2).1]; omega
  have oc : ∀ k, k < cN J → -1 ≤ (J 23 k).toInt ∧ (J 23 k).toInt < cP I + 1 := by
    intro k hk
    rcases S k hk with z | z
    · have y := wx_nc hw k z
      rcases N23 k z with v | ⟨_, v⟩
      · rw [v]; omega
      · rw [v]; omega
    · rw [(Nn k z.1 z.2).2]; omega
  have q1 : ∀ k q, k < cN J → q ≤ cP I → pu_oq (J 22 k) (J 23 k) q → k < cN I ∧ pu_oq (I 22 k) (I 23 k) q := by
    intro k q hk hq o
    rcases S k hk with z | z
    · refine ⟨z, ?_⟩
      rw [N 22 (by omega) (by omega) k z, pz_oq_o hP (wx_no hw k z).2.1 (wx_nc hw k z).2.1 (N23 k z) hq] at o
      exact o
    · rw [(Nn k z.1 z.2).1] at o
      exact (pz_oq_n hP hq o).elim
  have SQ : ∀ q, q ≤ cP I + 1 → q ≤ cP I ∨ q = cP I + 1 := fun q hq => by omega
  have old : ∀ k, k < cN I → I 23 k ≠ -1 → J 23 k = I 23 k := by
    intro k hk z
    rcases N23 k hk with v | ⟨v, _⟩
    · exact v
    · exact absurd v z
  unfold w_n
  rw [cJ, hT]
  refine ⟨fun k hk => ?_, fun k hk => ?_, fun k hk => ?_, fun k hk => ?_, fun k l r1 r2 => ?_, fun q k r hk o => ?_, fun q k p r hk o r2 => ?_, fun k hk => ?_, fun k l r hl e => ?_, fun k l r hl e e2 => ?_, fun k l r hl e => ?_, fun k hk e => ?_⟩
  · rcases S k hk with z | z
    · rw [N 20 (by omega) (by omega) k z]; have := wx_ns hw k z; omega
    · have := hnew k z.1 z.2; omega
  · rcases S k hk with z | z
    · rw [N 21 (by omega) (by omega) k z]; exact wx_nt hw k z
    · have := hnew k z.1 z.2; omega
  · rcases S k hk with z | z
    · have y := wx_no hw k z
      rw [N 20 (by omega) (by omega) k z, N 21 (by omega) (by omega) k z, N 22 (by omega) (by omega) k z, K _ (st k z), G 9 (by omega) (by omega) _ (O k z).2, G 11 (by omega) (by omega) _ (O k z).2]
      exact ⟨y.1, by omega, y.2.2⟩
    · have y := hnew k z.1 z.2
      have o2 := oo k hk
      have s2 := pu_on (x := J 20 k) (n := cK J) ⟨y.1, y.2.1⟩
      rw [(Nn k z.1 z.2).1, nP, g9, g11]
      refine ⟨by omega, by omega, ?_, y.2.2.2.2.1⟩
      by_cases v : (J 20 k).toNatClampNeg < cK I
      · rw [K _ v]; have := wx_ko hw _ v; omega
      · rw [K3 _ (by omega) s2.2]; exact Int.le_refl _
  · have c2 := oc k hk
    refine ⟨c2.1, c2.2, ?_⟩
    rcases S k hk with z | z
    · have y := wx_nc hw k z
      rw [N 22 (by omega) (by omega) k z, G 7 (by omega) (by omega) _ (O k z).2]
      rcases N23 k z with v | ⟨v1, v⟩
      · rw [v]
        rcases y.2.2 with t | t
        · exact Or.inl t
        · right
          by_cases u : I 23 k = -1
          · rw [u] at t; have := wx_no hw k z; omega
          · rw [G 7 (by omega) (by omega) _ (C k z u)]; exact t
      · rw [v, nP, g7]
        have := wx_no hw k z
        exact Or.inr ⟨by omega, (hcl k z v1 v).1⟩
    · exact Or.inl (Nn k z.1 z.2).2
  · rcases S l r2 with z | z
    · rw [N 22 (by omega) (by omega) k (by omega), N 22 (by omega) (by omega) l z]; exact wx_nm hw k l r1 z
    · rw [(Nn l z.1 z.2).1]
      have := oo k (by omega)
      omega
  · rcases SQ q r with z | z
    · by_cases v : k < cK I
      · rw [K k v] at o
        obtain ⟨l, l1, l2, l3⟩ := wx_n3 hw q k z v o
        refine ⟨l, by omega, ?_, by rw [N 20 (by omega) (by omega) l l1]; exact l3⟩
        rw [N 22 (by omega) (by omega) l l1, pz_oq_o hP (wx_no hw l l1).2.1 (wx_nc hw l l1).2.1 (N23 l l1) z]
        exact l2
      · rw [K3 k (by omega) hk] at o; omega
    · subst z
      obtain ⟨l, l1, l2, l3⟩ := h3 k hk
      exact ⟨l, l1, ⟨(oo l l1).2, Or.inl l2⟩, l3⟩
  · rcases SQ q r with z | z
    · have a1 := q1 k q hk z o
      rw [N 21 (by omega) (by omega) k a1.1, G 12 (by omega) (by omega) p (by omega)]
      exact wx_n4 hw q k p z a1.1 a1.2 r2
    · subst z
      rw [pz_oq_c (oo k hk).2 (oc k hk).2] at o
      exact h4 k p hk o r2
  · rcases S k hk with z | z
    · have y := wx_n5 hw k z
      have v := O k z
      rw [N 22 (by omega) (by omega) k z, pz_ctc (J := J) (I := I) (q := (I 22 k).toNatClampNeg + 1) (fun p hp => G 12 (by omega) (by omega) p (by omega))]
      exact y
    · rw [(Nn k z.1 z.2).1, nP]
      exact (hnew k z.1 z.2).2.2.2.2.2
  · rcases S l hl with z | z
    · rw [N 20 (by omega) (by omega) k (by omega), N 20 (by omega) (by omega) l z] at e
      have y := wx_n6 hw k l r z e
      have v := C k (by omega) y.1
      rw [old k (by omega) y.1, N 22 (by omega) (by omega) l z, G 7 (by omega) (by omega) _ v, G 7 (by omega) (by omega) _ (O l z).2]
      exact y
    · have y := h6 k l r z.1 z.2 e
      have c2 := oc k (by omega)
      rw [(Nn l z.1 z.2).1, nP, g7]
      exact ⟨y.1, by omega, y.2⟩
  · rcases S l hl with z | z
    · rw [N 21 (by omega) (by omega) k (by omega), N 21 (by omega) (by omega) l z] at e
      have y := wx_n7 hw k l r z e (fun w hw2 => by
        have := e2 w hw2
        rw [Nw _ (by omega), Nw _ (by omega)] at this
        exact this)
      have v := C k (by omega) y.1
      rw [old k (by omega) y.1, N 22 (by omega) (by omega) l z, N 22 (by omega) (by omega) k (by omega), G 7 (by omega) (by omega) _ v, G 7 (by omega) (by omega) _ (O l z).2, G 7 (by omega) (by omega) _ (O k (by omega)).2]
      exact y
    · have y := h7 k l r z.1 z.2 e e2
      have c2 := oc k (by omega)
      rw [(Nn l z.1 z.2).1, nP, g7]
      exact ⟨y.1, by omega, y.2⟩
  · rcases S l hl with z | z
    · rw [N 20 (by omega) (by omega) k (by omega), N 20 (by omega) (by omega) l z] at e
      rw [N 21 (by omega) (by omega) k (by omega), N 21 (by omega) (by omega) l z, N 22 (by omega) (by omega) l z]
      rcases wx_n8 hw k l r z e with y | ⟨p, p1, p2⟩
      · exact Or.inl y
      · have := (wx_no hw l z).2.1
        exact Or.inr ⟨p, p1, by rw [G 12 (by omega) (by omega) p (by omega)]; exact p2⟩
    · rw [(Nn l z.1 z.2).1]
      rcases h8 k l r z.1 z.2 e with y | ⟨p, p1, p2⟩
      · exact Or.inl y
      · exact Or.inr ⟨p, by omega, p2⟩
  · rcases S k hk with z | z
    · rw [N 20 (by omega) (by omega) k z, N 21 (by omega) (by omega) k z]
      rcases N23 k z with v | ⟨v1, v⟩
      · rw [v] at e ⊢
        rw [G 9 (by omega) (by omega) _ (C k z e), G 12 (by omega) (by omega) _ (C k z e)]
        exact wx_n9 hw k z e
      · rw [v, nP, g9, g12]
        exact (hcl k z v1 v).2
    · exact absurd (Nn k z.1 z.2).2 e
theorem wk_ext (h : pz_pp I J f a b ta tb ru) (hw : pu_WF I L) (hP : cP I < 200) (hT : cT J = cT I) (hk : pz_ke I J) (ht : ∀ j, j < 3 * cT I → L' 26 j = L 26 j) (hr : ∀ k, k < cK J → 0 ≤ (J 27 k).toInt ∧ (J 27 k).toInt ≤ 3) (hl : ∀ k, k < 2 * cK I → J 29 k = I 29 k) (hl2 : ∀ k, k < 2 * cK I * 100 → J 30 k = I 30 k) (hnew : ∀ k, cK I ≤ k → k < cK J → J 29 (2 * k) = -1 ∧ J 29 (2 * k + 1) = -1 ∧ a = nI k) : w_k J L' := by
  have cJ := pz_cPJ h hP
  have tP := nl_n0 (a := cP I) (by omega)
  have nP : (nI (cP I)).toNatClampNeg = cP I := nl_cl _ (by omega)
  have m1 : (-1 : Int32).toInt = -1 := by decide
  have bK := wx_bK hw
  obtain ⟨⟨g0, g1, g2⟩, G, g7, g8, g9, g10, g11, g12, g13⟩ := id h
  obtain ⟨K, K1, K2, K3⟩ := hk
  have n29 : ∀ k, 2 * cK I ≤ k → k < 2 * cK J → J 29 k = -1 := by
    intro k r1 r2
    have y := hnew (k / 2) (by omega) (by omega)
    rcases Nat.mod_two_eq_zero_or_one k with z | z
    · rw [show k = 2 * (k / 2) by omega]; exact y.1
    · rw [show k = 2 * (k / 2) + 1 by omega]; exact y.2.1
  unfold w_k
  rw [cJ, hT]
  refine ⟨fun k l r1 r2 e => ?_, hr, fun k hk => ?_, fun k l r1 r2 => ?_, fun k hk => ?_, fun k i hk hi hl3 => ?_, fun p k hp hk e => ?_⟩
  · refine wx_kt hw k l r1 r2 (fun w hw2 => ?_)
    have := e w hw2
    rw [ht _ (by omega), ht _ (by omega)] at this
    exact this
  · by_cases v : k < cK I
    · have o := wx_ko hw k v
      have o2 := pu_on (x := I 28 k) (n := cP I) ⟨o.1, o.2.1⟩
      rw [K k v, G 9 (by omega) (by omega) _ o2.2]
      exact ⟨o.1, by omega, o.2.2⟩
    · rw [K3 k (by omega) hk, nP, g9]
      exact ⟨by omega, by omega, (hnew k (by omega) hk).2.2⟩
  · by_cases v : l < cK I
    · rw [K k (by omega), K l v]; exact wx_km hw k l r1 v
    · rw [K3 l (by omega) r2, K k (by omega)]
      have := wx_ko hw k (by omega)
      omega
  · by_cases v : k < 2 * cK I
    · rw [hl k v]; exact wx_kl hw k v
    · rw [n29 k (by omega) hk]; omega
  · by_cases v : k < 2 * cK I
    · rw [hl k v] at hl3
      rw [hl2 _ (by omega)]
      exact wx_kw hw k i v hi hl3
    · rw [n29 k (by omega) hk, nl_n3 i (by omega)] at hl3
      exact hl3.elim
  · by_cases v : p < cP I
    · rw [pz_tcJ h v] at e
      by_cases u : k < cK I
      · rw [K k u]; exact wx_kp hw p k v u e
      · have e2 := nl_n0 (a := k) (by omega)
        rcases e with z | z
        · have := wx_pa hw p v; rw [z] at this; omega
        · have := wx_pb hw p v; rw [z] at this; omega
    · by_cases u : k < cK I
      · rw [K k u]; have := wx_ko hw k u; omega
      · rw [K3 k (by omega) hk]; omega
end
