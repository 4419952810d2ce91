/-! a street more -/
theorem py_ct_mono {I : Nat → Nat → Int32} {q r : Nat} (h : q ≤ r) : ∀ t, pu_ct I q t ≤ pu_ct I r t ∧ pu_ct I r t ≤ t
  | 0 => ⟨Nat.le_refl _, Nat.le_refl _⟩
  | t + 1 => by
    have ih := py_ct_mono (I := I) h t
    unfold pu_ct
    by_cases c : ∃ p, p < q ∧ I 12 p = nI t
    · have d : ∃ p, p < r ∧ I 12 p = nI t := by
        obtain ⟨p, p1, p2⟩ := c
        exact ⟨p, by omega, p2⟩
      rw [if_pos c, if_pos d]
      omega
    · rw [if_neg c]
      by_cases d : ∃ p, p < r ∧ I 12 p = nI t
      · rw [if_pos d]
        omega
      · rw [if_neg d]
        omega
theorem py_cn {I : Nat → Nat → Int32} {L : Nat → Nat → Int64} (hw : pu_WF I L) : cN I ≤ cP I + 23 * pu_ct I (cP I) 8 := by
  by_cases z : cN I = 0
  · omega
  · have y := wx_n5 hw (cN I - 1) (by omega)
    have o := wx_no hw (cN I - 1) (by omega)
    have t := pu_nnT o.1
    have m := (py_ct_mono (I := I) (q := (I 22 (cN I - 1)).toNatClampNeg + 1) (r := cP I) (by omega) 8).1
    omega
section
variable {I J : Nat → Nat → Int32} {L L' : Nat → Nat → Int64} {s s' : Nat → Int32} {f : Int32}
/-- one span of a name more, at the end on both sides -/
theorem rn_ext (hr : pu_Rel I L s) (hw : pu_WF I L) (hN : cN J = cN I + 1) (hP : cP I < 200) (R : ∀ j k, j < cN I → k < cN I → pz_nr I L s j k → pz_nr J L' s' j k) (hn : pz_nr J L' s' (cN I) (cN I)) (h22 : ∀ k, k < cN I → J 22 k = I 22 k) (n22 : J 22 (cN I) = nI (cP I)) (G3 : ∀ k, k < cN I → s' (7552 + 5 * k) = s (7552 + 5 * k) ∧ s' (7552 + 5 * k + 3) = s (7552 + 5 * k + 3)) : rl_n J L' s' := by
  unfold rl_n
  rw [hN]
  have S : ∀ k, k < cN I + 1 → k < cN I ∨ k = cN I := fun k hk => by omega
  have o3 : ∀ j, j < cN I → s' (7552 + 5 * j + 3) ≠ nI (cP I) := fun j hj q => by
    rw [(G3 j hj).2, rl_n3 hr j hj] at q
    have := (wx_no hw j hj).2.1
    rw [q, nl_n0 (by omega)] at this
    omega
  have n3 : s' (7552 + 5 * cN I + 3) = nI (cP I) := by rw [hn.2.2.1]; exact n22
  refine ⟨fun k hk => ?_, fun j hj => ?_, fun k hk => ?_, fun j l hj hl a c => ?_⟩
  · rcases S k hk with z | z
    · obtain ⟨j, j1, j2⟩ := rl_na hr k z
      exact ⟨j, by omega, R j k j1 z j2⟩
    · rw [z]
      exact ⟨cN I, by omega, hn⟩
  · rcases S j hj with z | z
    · obtain ⟨k, k1, k2⟩ := rl_nb hr j z
      exact ⟨k, by omega, R j k z k1 k2⟩
    · rw [z]
      exact ⟨cN I, by omega, hn⟩
  · rcases S k hk with z | z
    · rw [(G3 k z).2, h22 k z]; exact rl_n3 hr k z
    · rw [z, n3, n22]
  · rcases S j hj with z | z
    · rcases S l hl with y | y
      · rw [(G3 j z).1, (G3 l y).1] at a
        rw [(G3 j z).2, (G3 l y).2] at c
        exact rl_ni hr j l z y a c
      · rw [y, n3] at c
        exact absurd c (o3 j z)
    · rcases S l hl with y | y
      · rw [z, n3] at c
        exact absurd c.symm (o3 l y)
      · omega
theorem St_street (h : pu_St I L s) (hP : cP I < 200) (hK : cK I < 24) {t : Nat} {ru : Int32} {nm : Nat → Int64} (ht : t < cT I) (own : pu_own I t) (hru : 0 ≤ ru.toInt ∧ ru.toInt ≤ 3) (hf : 0 ≤ f.toInt ∧ f.toInt ≤ 109574) (hh : ¬ ∃ k, k < cN I ∧ py_hf I (fun k => py_lk (L 24) nm (3 * k) 0) (nI t) f k)
    (F : ∀ x j, ¬ (x = 6 ∧ j = 2) → ¬ (7 ≤ x ∧ x ≤ 13 ∧ j = cP I) → ¬ (x = 25 ∧ j = 1) → ¬ (27 ≤ x ∧ x ≤ 28 ∧ j = cK I) → ¬ (x = 29 ∧ (j = 2 * cK I ∨ j = 2 * cK I + 1)) → ¬ (x = 19 ∧ j = 0) → ¬ (20 ≤ x ∧ x ≤ 23 ∧ j = cN I) → J x j = I x j)
    (v6 : J 6 2 = nI (cP I + 1) ∧ J 7 (cP I) = f ∧ J 8 (cP I) = I 6 0 ∧ J 9 (cP I) = nI (cK I) ∧ J 10 (cP I) = -1 ∧ J 11 (cP I) = -1 ∧ J 12 (cP I) = -1 ∧ J 13 (cP I) = -1)
    (v25 : J 25 1 = nI (cK I + 1) ∧ J 27 (cK I) = ru ∧ J 28 (cK I) = nI (cP I) ∧ J 29 (2 * cK I) = -1 ∧ J 29 (2 * cK I + 1) = -1)
    (v19 : J 19 0 = nI (cN I + 1) ∧ J 20 (cN I) = nI (cK I) ∧ J 21 (cN I) = nI t ∧ J 22 (cN I) = nI (cP I) ∧ J 23 (cN I) = -1)
    (FL : ∀ x j, ¬ (x = 24 ∧ 3 * cN I ≤ j) → L' x j = L x j) (vL : ∀ w, w < 3 → L' 24 (3 * cN I + w) = nm w)
    (G : ∀ j, ¬ (j = 3 ∨ j = 5 ∨ j = 7) → ¬ (28752 + 7 * cP I ≤ j ∧ j < 28752 + 7 * cP I + 7) → j ≠ 7528 + cK I → ¬ (32 + 36 * (8 + cP I) ≤ j ∧ j < 32 + 36 * (8 + cP I) + 36) → ¬ (7552 + 5 * cN I ≤ j ∧ j < 7552 + 5 * cN I + 5) → ¬ (j = 30632 + 1202 * cK I ∨ j = 30632 + 601 * (2 * cK I + 1)) → s' j = s j)
    (g4 : s' 3 = nI (cK I + 1) ∧ s' 5 = nI (cP I + 1) ∧ s' 7 = nI (cN I + 1))
    (gp : s' (28752 + 7 * cP I) = I 6 0 ∧ s' (28752 + 7 * cP I + 1) = f ∧ s' (28752 + 7 * cP I + 2) = nI (cK I) ∧ s' (28752 + 7 * cP I + 3) = -1 ∧ s' (28752 + 7 * cP I + 4) = -1 ∧ s' (28752 + 7 * cP I + 5) = -1 ∧ s' (28752 + 7 * cP I + 6) = -1)
    (gk : s' (7528 + cK I) = ru ∧ s' (30632 + 1202 * cK I) = -1 ∧ s' (30632 + 601 * (2 * cK I + 1)) = -1)
    (gn : s' (7552 + 5 * cN I) = nI (cK I) ∧ s' (7552 + 5 * cN I + 1) = nI t ∧ s' (7552 + 5 * cN I + 2) = nI (8 + cP I) ∧ s' (7552 + 5 * cN I + 3) = nI (cP I) ∧ s' (7552 + 5 * cN I + 4) = -1)
    (gw : ∀ w, w < 3 → pu_Wd s' (32 + 36 * (8 + cP I) + 12 * w) (nm w)) : pu_St J L' s' := by
  obtain ⟨hw, hr⟩ := h
  have m1 : (-1 : Int32).toInt = -1 := by decide
  have bT := wx_bT hw
  have bF := wx_bF hw
  have bU := wx_bU hw
  have bD := wx_bD hw
  have cn := py_cn hw
  have cm := (py_ct_mono (I := I) (Nat.le_refl (cP I)) 8).2
  have tK := nl_n0 (a := cK I) (by omega)
  have tT := nl_n0 (a := t) (by omega)
  have tP := nl_n0 (a := cP I) (by omega)
  have nP : ¬ nI (cP I) = -1 := fun q => by rw [nl_n1 _ (by omega)] at q; exact q
  have pp : pz_pp I J f (nI (cK I)) (-1) (-1) (-1) (-1) := ⟨⟨F 6 0 (by omega) (by omega) (by omega) (by omega) (by omega) (by omega) (by omega), F 6 1 (by omega) (by omega) (by omega) (by omega) (by omega) (by omega) (by omega), v6.1⟩, fun x r1 r2 j hj => F x j (by omega) (by omega) (by omega) (by omega) (by omega) (by omega) (by omega), v6.2⟩
  have cPJ := pz_cPJ pp hP
  have X : ∀ x j, (14 ≤ x ∧ x ≤ 18) ∨ x = 30 ∨ 31 ≤ x → J x j = I x j := fun x j r => F x j (by omega) (by omega) (by omega) (by omega) (by omega) (by omega) (by omega)
  have cKJ : cK J = cK I + 1 := pz_cc v25.1 (by omega)
  have cNJ : cN J = cN I + 1 := pz_cc v19.1 (by omega)
  have cTJ : cT J = cT I := by
    unfold cT
    rw [F 25 0 (by omega) (by omega) (by omega) (by omega) (by omega) (by omega) (by omega)]
  have cUJ : cU J = cU I := by
    unfold cU
    rw [X 14 0 (by omega)]
  have cDJ : cD J = cD I := by
    unfold cD
    rw [X 31 0 (by omega)]
  have cFJ : cF J = cF I := by
    unfold cF
    rw [X 42 0 (by omega)]
  have N : ∀ x, 20 ≤ x → x ≤ 23 → ∀ k, k < cN I → J x k = I x k := fun x r1 r2 k hk => F x k (by omega) (by omega) (by omega) (by omega) (by omega) (by omega) (by omega)
  have K28 : ∀ k, k < cK I → J 28 k = I 28 k := fun k hk => F 28 k (by omega) (by omega) (by omega) (by omega) (by omega) (by omega) (by omega)
  have K27 : ∀ k, k < cK I → J 27 k = I 27 k := fun k hk => F 27 k (by omega) (by omega) (by omega) (by omega) (by omega) (by omega) (by omega)
  have ke : pz_ke I J := ⟨K28, by omega, by omega, fun k r1 r2 => by rw [show k = cK I by omega]; exact v25.2.2.1⟩
  have ne : pz_ne I L J L' := ⟨fun x r1 r2 k hk => N x r1 (by omega) k hk, fun k hk => Or.inl (N 23 (by omega) (by omega) k hk), by omega, fun k r1 r2 => by rw [show k = cN I by omega]; exact ⟨v19.2.2.2.1, v19.2.2.2.2⟩, fun j hj => FL 24 j (by omega)⟩
  have de : pz_de I J := ⟨fun x r1 r2 d hd => X x d (by omega), fun d hd => Or.inl (X 37 d (by omega)), fun d hd => Or.inl (X 38 d (by omega)), by omega, fun d r1 r2 => by omega⟩
  have stI : ∀ k, k < cN I → I 20 k ≠ nI (cK I) := fun k hk q => by
    have := (wx_ns hw k hk).2
    rw [q, tK] at this
    omega
  have C : ∀ k, k < cN I → I 23 k ≠ -1 → (I 23 k).toNatClampNeg < cP I := fun k hk z => (pu_on (x := I 23 k) (n := cP I) ⟨pu_ne1 (wx_nc hw k hk).1 z, (wx_nc hw k hk).2.1⟩).2
  have O : ∀ k, k < cN I → (I 22 k).toNatClampNeg < cP I := fun k hk => (pu_on (x := I 22 k) (n := cP I) ⟨(wx_no hw k hk).1, (wx_no hw k hk).2.1⟩).2
  have wp : w_p J := wp_ext pp hw hP hf cTJ (by omega) (by omega) (by omega) (by omega) (by omega) ⟨by omega, by omega, fun z => absurd rfl z⟩ (fun k p r1 r2 r3 r4 => by
    rcases r4 with z | z
    · rw [← z] at r3
      rcases r3 with q | q
      · have := (wx_pa hw p r2).2
        rw [q, tK] at this
        omega
      · have := (wx_pb hw p r2).2
        rw [q, tK] at this
        omega
    · exact absurd z.symm r1) (Or.inl rfl)
  have wu : w_u J := wu_same pp hw hP cUJ de (by omega) (fun x r1 r2 k hk => X x k (by omega)) (fun x r1 r2 j hj => X x j (by omega)) (fun d hd => X 37 d (by omega)) (fun d hd => X 38 d (by omega)) (fun d r1 r2 => by omega)
  have wn : w_n J L' := by
    refine wn_ext pp hw hP cTJ ke ne (fun k r1 r2 => ?_) (fun k hk e1 e2 => ?_) (fun k hk => ?_) (fun k p hk e hp => ?_) (fun k l r1 r2 r3 e => ?_) (fun k l r1 r2 r3 e e2 => ?_) (fun k l r1 r2 r3 e => ?_)
    · rw [show k = cN I by omega, v19.2.1, v19.2.2.1]
      refine ⟨by omega, by omega, by omega, by omega, Or.inl rfl, ?_⟩
      have mm := (py_ct_mono (I := J) (q := cP I) (r := cP I + 1) (by omega) 8).1
      rw [pz_ctc (J := J) (I := I) (q := cP I) (fun p hp => pp.2.1 12 (by omega) (by omega) p hp)] at mm
      omega
    · rw [N 23 (by omega) (by omega) k hk, e1] at e2
      exact absurd e2.symm nP
    · by_cases z : k < cK I
      · obtain ⟨l, l1, l2, l3⟩ := wx_n3 hw (cP I) k (Nat.le_refl _) z (by have := wx_ko hw k z; omega)
        rw [pu_opq hw l1] at l2
        exact ⟨l, by omega, by rw [N 23 (by omega) (by omega) l l1]; exact l2, by rw [N 20 (by omega) (by omega) l l1]; exact l3⟩
      · rw [show k = cK I by omega]
        exact ⟨cN I, by omega, v19.2.2.2.2, v19.2.1⟩
    · have pe : J 12 p = -1 ∨ (p < cP I ∧ J 12 p = I 12 p) := by
        by_cases z : p < cP I
        · exact Or.inr ⟨z, pp.2.1 12 (by omega) (by omega) p z⟩
        · rw [show p = cP I by omega]
          exact Or.inl v6.2.2.2.2.2.2.1
      by_cases z : k < cN I
      · rw [N 23 (by omega) (by omega) k z] at e
        rw [N 21 (by omega) (by omega) k z]
        rcases pe with y | ⟨y1, y2⟩
        · rw [y]
          intro q
          have := (wx_nt hw k z).1
          rw [← q] at this
          omega
        · rw [y2]
          exact wx_n4 hw (cP I) k p (Nat.le_refl _) z (by rw [pu_opq hw z]; exact e) y1
      · rw [show k = cN I by omega, v19.2.2.1]
        rcases pe with y | ⟨y1, y2⟩
        · rw [y]
          intro q
          rw [nl_n2 _ (by omega)] at q
          exact q
        · rw [y2]
          exact own p y1
    · rw [show l = cN I by omega, v19.2.1, N 20 (by omega) (by omega) k (by omega)] at e
      exact absurd e (stI k (by omega))
    · have lN : l = cN I := by omega
      have kN : k < cN I := by omega
      rw [lN, v19.2.2.1, N 21 (by omega) (by omega) k kN] at e
      have lk : py_lk (L 24) nm (3 * k) 0 := fun w hw2 => by
        have := e2 w hw2
        rw [FL 24 _ (by omega), lN, vL w hw2] at this
        rw [Nat.zero_add]
        exact this
      have no : ¬ py_hf I (fun k => py_lk (L 24) nm (3 * k) 0) (nI t) f k := fun z => hh ⟨k, kN, z⟩
      have c1 : I 23 k ≠ -1 := fun z => no ⟨⟨e, lk⟩, Or.inl z⟩
      rw [N 23 (by omega) (by omega) k kN, N 22 (by omega) (by omega) k kN, pp.2.1 7 (by omega) (by omega) _ (C k kN c1), pp.2.1 7 (by omega) (by omega) _ (O k kN)]
      refine ⟨c1, ?_⟩
      apply Classical.byContradiction
      intro z
      apply no
      refine ⟨⟨e, lk⟩, Or.inr ⟨Int32.lt_iff_toInt_lt.mpr ?_, Int32.lt_iff_toInt_lt.mpr ?_⟩⟩ <;> omega
    · rw [show l = cN I by omega, v19.2.1, N 20 (by omega) (by omega) k (by omega)] at e
      exact absurd e (stI k (by omega))
  have K29 : ∀ k, k < 2 * cK I → J 29 k = I 29 k := fun k hk => F 29 k (by omega) (by omega) (by omega) (by omega) (by omega) (by omega) (by omega)
  have wk : w_k J L' := wk_ext pp hw hP cTJ ke (fun j _ => FL 26 j (by omega)) (fun k hk => by
    by_cases z : k < cK I
    · rw [K27 k z]; exact wx_kr hw k z
    · rw [show k = cK I by omega, v25.2.1]; exact hru) K29 (fun k _ => X 30 k (by omega)) (fun k r1 r2 => by rw [show k = cK I by omega]; exact ⟨v25.2.2.2.1, v25.2.2.2.2, rfl⟩)
  have wd : w_d J := wd_same pp hw hP cDJ (by omega) (fun x r1 r2 d hd => X x d (by omega)) (fun x r1 r2 d hd => X x d (by omega))
  have GG : ∀ j, ¬ (j = 3 ∨ j = 5 ∨ j = 7) → ¬ (320 ≤ j ∧ j < 7520) → ¬ (7528 ≤ j ∧ j < 9552) → ¬ (28752 ≤ j ∧ j < 30152) → ¬ (30632 ≤ j ∧ j < 59480) → s' j = s j := fun j a b c d e => G j a (by omega) (by omega) (by omega) (by omega) (by omega)
  have GN : ∀ k i, k < cN I → i < 5 → s' (7552 + 5 * k + i) = s (7552 + 5 * k + i) := fun k i hk hi => G _ (by omega) (by omega) (by omega) (by omega) (by omega) (by omega)
  refine St_join ⟨by rw [cPJ]; exact v6.1, ?_, by rw [cNJ]; exact v19.1, ?_, by rw [cKJ]; exact v25.1, ?_, ?_⟩ ⟨by omega, by omega, by omega, by omega, by omega, by omega, by omega⟩ hw (fun x j r1 r2 => X x j (by omega)) cFJ (fun j _ => ⟨FL 43 j (by omega), FL 44 j (by omega)⟩) wp wu wn wk wd pp.1.1 pp.1.2.1 hr (fun j hj => GG j (by omega) (by omega) (by omega) (by omega) (by omega)) ⟨?_, by rw [cKJ]; exact g4.1, ?_, by rw [cPJ]; exact g4.2.1, ?_, by rw [cNJ]; exact g4.2.2⟩ (rp_ext pp hP (rg_p hr) (fun j r1 r2 => G j (by omega) (by omega) (by omega) (by omega) (by omega) (by omega)) gp.1 gp.2.1 gp.2.2.1 gp.2.2.2.1 gp.2.2.2.2.1 gp.2.2.2.2.2.1 gp.2.2.2.2.2.2) ?_ ?_ (rt_np pp hP cTJ bT (fun j _ => FL 26 j (by omega)) (rg_t hr) (fun j r1 r2 => GG j (by omega) (by omega) (by omega) (by omega) (by omega)) (fun j r1 r2 => GG j (by omega) (by omega) (by omega) (by omega) (by omega))) ?_ ?_ (fun j r1 r2 => GG j (by omega) (by omega) (by omega) (by omega) (by omega)) (fun j r1 r2 => GG j (by omega) (by omega) (by omega) (by omega) (by omega))
  · rw [cUJ, X 14 0 (by omega)]; exact wx_cU hw
  · rw [cTJ, F 25 0 (by omega) (by omega) (by omega) (by omega) (by omega) (by omega) (by omega)]; exact wx_cT hw
  · rw [cDJ, X 31 0 (by omega)]; exact wx_cD hw
  · rw [cFJ, X 42 0 (by omega)]; exact wx_cF hw
  · rw [cTJ, GG 2 (by omega) (by omega) (by omega) (by omega) (by omega)]; exact rl_h2 hr
  · rw [cDJ, GG 4 (by omega) (by omega) (by omega) (by omega) (by omega)]; exact rl_h4 hr
  · rw [cUJ, GG 6 (by omega) (by omega) (by omega) (by omega) (by omega)]; exact rl_h6 hr
  · exact ru_same cUJ (fun x _ _ k _ => X x k (by omega)) (fun k _ => X 39 _ (by omega)) (rf_u (rg_u hr) bU (fun j _ _ => GG j (by omega) (by omega) (by omega) (by omega) (by omega)))
  · refine rn_ext hr hw cNJ hP (fun j k hj hk q => ?_) ?_ (fun k hk => N 22 (by omega) (by omega) k hk) v19.2.2.2.1 (fun k hk => ⟨GN k 0 hk (by omega), GN k 3 hk (by omega)⟩)
    · obtain ⟨a1, a2, a3, a4, m, b1, b2, b3, b4, b5⟩ := q
      have ok := O k hk
      unfold pz_nr
      rw [N 20 (by omega) (by omega) k hk, N 21 (by omega) (by omega) k hk, N 22 (by omega) (by omega) k hk, N 23 (by omega) (by omega) k hk]
      refine ⟨(GN j 0 hj (by omega)).trans a1, (GN j 1 hj (by omega)).trans a2, (GN j 3 hj (by omega)).trans a3, (GN j 4 hj (by omega)).trans a4, m, b1, b2, b3, (GN j 2 hj (by omega)).trans b4, fun w hw2 => ?_⟩
      rw [FL 24 _ (by omega)]
      exact pu_Wd_fr (b5 w hw2) (fun i hi => G _ (by omega) (by omega) (by omega) (by omega) (by omega) (by omega))
    · unfold pz_nr
      rw [v19.2.1, v19.2.2.1, v19.2.2.2.1, v19.2.2.2.2, nl_cl _ (by omega)]
      exact ⟨gn.1, gn.2.1, gn.2.2.2.1, gn.2.2.2.2, 8 + cP I, by omega, by omega, by omega, gn.2.2.1, fun w hw2 => by rw [vL w hw2]; exact gw w hw2⟩
  · unfold rl_k
    rw [cKJ]
    refine ⟨fun k hk => ?_, fun k hk => ?_, fun k i hk hi hl => ?_⟩
    · by_cases z : k < cK I
      · rw [G _ (by omega) (by omega) (by omega) (by omega) (by omega) (by omega), K27 k z]; exact rl_k0 hr k z
      · rw [show k = cK I by omega, v25.2.1]; exact gk.1
    · by_cases z : k < 2 * cK I
      · rw [G _ (by omega) (by omega) (by omega) (by omega) (by omega) (by omega), K29 k z]; exact rl_k1 hr k z
      · by_cases y : k = 2 * cK I
        · rw [y, show 30632 + 601 * (2 * cK I) = 30632 + 1202 * cK I by omega, v25.2.2.2.1]; exact gk.2.1
        · rw [show k = 2 * cK I + 1 by omega, v25.2.2.2.2]; exact gk.2.2
    · by_cases z : k < 2 * cK I
      · rw [K29 k z] at hl
        rw [G _ (by omega) (by omega) (by omega) (by omega) (by omega) (by omega), X 30 _ (by omega)]
        exact rl_k2 hr k i z hi hl
      · exfalso
        by_cases y : k = 2 * cK I
        · rw [y, v25.2.2.2.1, nl_n3 i (by omega)] at hl
          exact hl
        · rw [show k = 2 * cK I + 1 by omega, v25.2.2.2.2, nl_n3 i (by omega)] at hl
          exact hl
  · exact rd_same cDJ (fun x _ _ k _ => X x k (by omega)) (fun x _ _ k _ => X x k (by omega)) (rf_d (rg_d hr) bD (fun j _ _ => GG j (by omega) (by omega) (by omega) (by omega) (by omega)))
end
