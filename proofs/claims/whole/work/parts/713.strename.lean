/-! a street renamed -/
section
variable {I J : Nat → Nat → Int32} {L L' : Nat → Nat → Int64} {s s' : Nat → Int32} {f : Int32}
theorem St_rename (h : pu_St I L s) (hP : cP I < 200) {st k0 j0 : Nat} {nm : Nat → Int64} (hst : st < cK I) (hk : pu_no I st k0) (hj0 : j0 < cN I) (hjk : pz_nr I L s j0 k0) (hf : 0 ≤ f.toInt ∧ f.toInt ≤ 109574) (hey : ¬ pu_ey I (nI st) (I 21 k0) f) (hh : ¬ ∃ k, k < cN I ∧ py_hf I (fun k => py_lk (L 24) nm (3 * k) 0) (I 21 k0) f k)
    (F : ∀ x j, ¬ (x = 6 ∧ j = 2) → ¬ (7 ≤ x ∧ x ≤ 13 ∧ j = cP I) → ¬ (x = 23 ∧ j = k0) → ¬ (x = 19 ∧ j = 0) → ¬ (20 ≤ x ∧ x ≤ 23 ∧ j = cN I) → J x j = I x j)
    (v6 : J 6 2 = nI (cP I + 1) ∧ J 7 (cP I) = f ∧ J 8 (cP I) = I 6 0 ∧ J 9 (cP I) = nI st ∧ J 10 (cP I) = -1 ∧ J 11 (cP I) = -1 ∧ J 12 (cP I) = -1 ∧ J 13 (cP I) = -1)
    (v23 : J 23 k0 = nI (cP I))
    (v19 : J 19 0 = nI (cN I + 1) ∧ J 20 (cN I) = nI st ∧ J 21 (cN I) = I 21 k0 ∧ J 22 (cN I) = nI (cP I) ∧ J 23 (cN I) = -1)
    (FL : ∀ x j, ¬ (x = 24 ∧ 3 * cN I ≤ j) → L' x j = L x j) (vL : ∀ w, w < 3 → L' 24 (3 * cN I + w) = nm w)
    (G : ∀ j, ¬ (j = 5 ∨ j = 7) → ¬ (28752 + 7 * cP I ≤ j ∧ j < 28752 + 7 * cP I + 7) → ¬ (32 + 36 * (8 + cP I) ≤ j ∧ j < 32 + 36 * (8 + cP I) + 36) → ¬ (7552 + 5 * cN I ≤ j ∧ j < 7552 + 5 * cN I + 5) → j ≠ 7552 + 5 * j0 + 4 → s' j = s j)
    (g4 : s' 5 = nI (cP I + 1) ∧ s' 7 = nI (cN I + 1))
    (gp : s' (28752 + 7 * cP I) = I 6 0 ∧ s' (28752 + 7 * cP I + 1) = f ∧ s' (28752 + 7 * cP I + 2) = nI st ∧ s' (28752 + 7 * cP I + 3) = -1 ∧ s' (28752 + 7 * cP I + 4) = -1 ∧ s' (28752 + 7 * cP I + 5) = -1 ∧ s' (28752 + 7 * cP I + 6) = -1)
    (gc : s' (7552 + 5 * j0 + 4) = nI (cP I))
    (gn : s' (7552 + 5 * cN I) = nI st ∧ s' (7552 + 5 * cN I + 1) = I 21 k0 ∧ s' (7552 + 5 * cN I + 2) = nI (8 + cP I) ∧ s' (7552 + 5 * cN I + 3) = nI (cP I) ∧ s' (7552 + 5 * cN I + 4) = -1)
    (gw : ∀ w, w < 3 → pu_Wd s' (32 + 36 * (8 + cP I) + 12 * w) (nm w)) : pu_St J L' s' := by
  obtain ⟨hw, hr⟩ := h
  obtain ⟨k1, k2, k3⟩ := id hk
  have m1 : (-1 : Int32).toInt = -1 := by decide
  have bT := wx_bT hw
  have bK := wx_bK hw
  have bF := wx_bF hw
  have bU := wx_bU hw
  have bD := wx_bD hw
  have cn := py_cn hw
  have cm := (py_ct_mono (I := I) (Nat.le_refl (cP I)) 8).2
  have tS := nl_n0 (a := st) (by omega)
  have tP := nl_n0 (a := cP I) (by omega)
  have nPc : (nI (cP I)).toNatClampNeg = cP I := nl_cl _ (by omega)
  have nP : ¬ nI (cP I) = -1 := fun q => by rw [nl_n1 _ (by omega)] at q; exact q
  have nS : ¬ nI st = -1 := fun q => by rw [nl_n1 _ (by omega)] at q; exact q
  have pp : pz_pp I J f (nI st) (-1) (-1) (-1) (-1) := ⟨⟨F 6 0 (by omega) (by omega) (by omega) (by omega) (by omega), F 6 1 (by omega) (by omega) (by omega) (by omega) (by omega), v6.1⟩, fun x r1 r2 j hj => F x j (by omega) (by omega) (by omega) (by omega) (by omega), v6.2⟩
  have cPJ := pz_cPJ pp hP
  have X : ∀ x j, (14 ≤ x ∧ x ≤ 18) ∨ 24 ≤ x → J x j = I x j := fun x j r => F x j (by omega) (by omega) (by omega) (by omega) (by omega)
  have cNJ : cN J = cN I + 1 := pz_cc v19.1 (by omega)
  have cKJ : cK J = cK I := by
    unfold cK
    rw [X 25 1 (by omega)]
  have cTJ : cT J = cT I := by
    unfold cT
    rw [X 25 0 (by omega)]
  have cUJ : cU J = cU I := by
    unfold cU
    rw [X 14 0 (by omega)]
  have cDJ : cD J = cD I := by
    unfold cD
    rw [X 31 0 (by omega)]
  have cFJ : cF J = cF I := by
    unfold cF
    rw [X 42 0 (by omega)]
  have N : ∀ x, 20 ≤ x → x ≤ 22 → ∀ k, k < cN I → J x k = I x k := fun x r1 r2 k hk => F x k (by omega) (by omega) (by omega) (by omega) (by omega)
  have N23 : ∀ k, k < cN I → k ≠ k0 → J 23 k = I 23 k := fun k hk ne => F 23 k (by omega) (by omega) (by omega) (by omega) (by omega)
  have ke : pz_ke I J := ⟨fun k hk => X 28 k (by omega), by omega, by omega, fun k r1 r2 => by omega⟩
  have ne : pz_ne I L J L' := ⟨N, fun k hk => by
    by_cases z : k = k0
    · rw [z]; exact Or.inr ⟨k3, v23⟩
    · exact Or.inl (N23 k hk z), by omega, fun k r1 r2 => by rw [show k = cN I by omega]; exact ⟨v19.2.2.2.1, v19.2.2.2.2⟩, fun j hj => FL 24 j (by omega)⟩
  have de : pz_de I J := ⟨fun x r1 r2 d hd => X x d (by omega), fun d hd => Or.inl (X 37 d (by omega)), fun d hd => Or.inl (X 38 d (by omega)), by omega, fun d r1 r2 => by omega⟩
  have C : ∀ k, k < cN I → I 23 k ≠ -1 → (I 23 k).toNatClampNeg < cP I := fun k hk z => (pu_on (x := I 23 k) (n := cP I) ⟨pu_ne1 (wx_nc hw k hk).1 z, (wx_nc hw k hk).2.1⟩).2
  have O : ∀ k, k < cN I → (I 22 k).toNatClampNeg < cP I := fun k hk => (pu_on (x := I 22 k) (n := cP I) ⟨(wx_no hw k hk).1, (wx_no hw k hk).2.1⟩).2
  -- the open name began no later than f
  have day0 : (I 7 (I 22 k0).toNatClampNeg).toInt ≤ f.toInt := by
    apply Int32.le_iff_toInt_le.mp
    apply Int32.not_lt.mp
    intro z
    refine hey ⟨_, O k0 k1, ?_, z⟩
    rcases (wx_no hw k0 k1).2.2.2 with y | y
    · exact Or.inl ⟨nS, Or.inl (by rw [y, k2])⟩
    · refine Or.inr ⟨fun q => ?_, Or.inl y⟩
      have := (wx_nt hw k0 k1).1
      rw [q] at this
      omega
  -- the street's other spans lie before it
  have bef : ∀ k, k < cN I → I 20 k = nI st → k ≠ k0 → k < k0 := fun k hk e z => by
    apply Classical.byContradiction
    intro y
    exact (wx_n6 hw k0 k (by omega) hk (by rw [k2, e])).1 k3
  have wp : w_p J := wp_ext pp hw hP hf cTJ (by omega) (by omega) (by omega) (by omega) (by omega) ⟨by omega, by omega, fun z => absurd rfl z⟩ (fun k p r1 r2 r3 r4 => by
    rcases r4 with z | z
    · rw [← z] at r3
      exact pz_ey_tc hw hst hey p r2 r3
    · exact absurd z.symm r1) (Or.inl rfl)
  have wu : w_u J := wu_same pp hw hP cUJ de (by omega) (fun x r1 r2 k hk => X x k (by omega)) (fun x r1 r2 j hj => X x j (by omega)) (fun d hd => X 37 d (by omega)) (fun d hd => X 38 d (by omega)) (fun d r1 r2 => by omega)
  have pe : ∀ p, p < cP I + 1 → J 12 p = -1 ∨ (p < cP I ∧ J 12 p = I 12 p) := fun p hp => by
    by_cases z : p < cP I
    · exact Or.inr ⟨z, pp.2.1 12 (by omega) (by omega) p z⟩
    · rw [show p = cP I by omega]
      exact Or.inl v6.2.2.2.2.2.2.1
  have own : ∀ k p, k < cN I → I 23 k = -1 → p < cP I + 1 → J 12 p ≠ I 21 k := fun k p hk e hp => by
    rcases pe p hp with y | ⟨y1, y2⟩
    · rw [y]
      intro q
      have := (wx_nt hw k hk).1
      rw [← q] at this
      omega
    · rw [y2]
      exact wx_n4 hw (cP I) k p (Nat.le_refl _) hk (by rw [pu_opq hw hk]; exact e) y1
  have wn : w_n J L' := by
    refine wn_ext pp hw hP cTJ ke ne (fun k r1 r2 => ?_) (fun k hk e1 e2 => ?_) (fun k hk => ?_) (fun k p hk e hp => ?_) (fun k l r1 r2 r3 e => ?_) (fun k l r1 r2 r3 e e2 => ?_) (fun k l r1 r2 r3 e => ?_)
    · rw [show k = cN I by omega, v19.2.1, v19.2.2.1]
      have mm := (py_ct_mono (I := J) (q := cP I) (r := cP I + 1) (by omega) 8).1
      rw [pz_ctc (J := J) (I := I) (q := cP I) (fun p hp => pp.2.1 12 (by omega) (by omega) p hp)] at mm
      have nt := wx_nt hw k0 k1
      exact ⟨by omega, by omega, nt.1, nt.2, Or.inl rfl, by omega⟩
    · have z : k = k0 := by
        apply Classical.byContradiction
        intro z
        rw [N23 k hk z, e1] at e2
        exact nP e2.symm
      rw [z]
      exact ⟨day0, Or.inl k2.symm⟩
    · by_cases z : k = st
      · rw [z]
        exact ⟨cN I, by omega, v19.2.2.2.2, v19.2.1⟩
      · obtain ⟨l, l1, l2, l3⟩ := wx_n3 hw (cP I) k (Nat.le_refl _) (by omega) (by have := wx_ko hw k (by omega); omega)
        rw [pu_opq hw l1] at l2
        have lk : l ≠ k0 := fun q => by
          rw [q, k2, nI_eq (by omega) (by omega)] at l3
          exact z l3.symm
        exact ⟨l, by omega, by rw [N23 l l1 lk]; exact l2, by rw [N 20 (by omega) (by omega) l l1]; exact l3⟩
    · by_cases z : k < cN I
      · have zk : k ≠ k0 := fun q => by
          rw [q, v23] at e
          exact nP e
        rw [N23 k z zk] at e
        rw [N 21 (by omega) (by omega) k z]
        exact own k p z e hp
      · rw [show k = cN I by omega, v19.2.2.1]
        exact own k0 p k1 k3 hp
    · have kN : k < cN I := by omega
      rw [show l = cN I by omega, v19.2.1, N 20 (by omega) (by omega) k kN] at e
      by_cases z : k = k0
      · rw [z, v23, nPc, v6.2.1]
        exact ⟨nP, Int.le_refl _⟩
      · have b := bef k kN e z
        have y := wx_n6 hw k k0 b k1 (by rw [e, k2])
        rw [N23 k kN z, pp.2.1 7 (by omega) (by omega) _ (C k kN y.1)]
        exact ⟨y.1, by omega⟩
    · have lN : l = cN I := by omega
      have kN : k < cN I := by omega
      rw [lN, v19.2.2.1, N 21 (by omega) (by omega) k kN] at e
      have lk : py_lk (L 24) nm (3 * k) 0 := fun w hw2 => by
        have := e2 w hw2
        rw [FL 24 _ (by omega), lN, vL w hw2] at this
        rw [Nat.zero_add]
        exact this
      have no : ¬ py_hf I (fun k => py_lk (L 24) nm (3 * k) 0) (I 21 k0) f k := fun z => hh ⟨k, kN, z⟩
      have c1 : I 23 k ≠ -1 := fun z => no ⟨⟨e, lk⟩, Or.inl z⟩
      have kk : k ≠ k0 := fun q => c1 (by rw [q]; exact k3)
      rw [N23 k kN kk, N 22 (by omega) (by omega) k kN, pp.2.1 7 (by omega) (by omega) _ (C k kN c1), pp.2.1 7 (by omega) (by omega) _ (O k kN)]
      refine ⟨c1, ?_⟩
      apply Classical.byContradiction
      intro z
      apply no
      refine ⟨⟨e, lk⟩, Or.inr ⟨Int32.lt_iff_toInt_lt.mpr ?_, Int32.lt_iff_toInt_lt.mpr ?_⟩⟩ <;> omega
    · have kN : k < cN I := by omega
      rw [show l = cN I by omega, v19.2.1, N 20 (by omega) (by omega) k kN] at e
      rw [show l = cN I by omega, v19.2.2.1, N 21 (by omega) (by omega) k kN]
      by_cases z : k = k0
      · rw [z]
        exact Or.inl rfl
      · have b := bef k kN e z
        rcases wx_n8 hw k k0 b k1 (by rw [e, k2]) with y | ⟨p, p1, p2⟩
        · exact Or.inl y
        · have o := (wx_no hw k0 k1).2.1
          have pl : p < cP I := by omega
          exact Or.inr ⟨p, by omega, by rw [pp.2.1 12 (by omega) (by omega) p pl]; exact p2⟩
  have wk : w_k J L' := wk_same pp hw hP cTJ cKJ (fun j _ => FL 26 j (by omega)) (fun k _ => X 28 k (by omega)) (fun k hk => by rw [X 27 k (by omega)]; exact wx_kr hw k hk) (fun k _ => X 29 k (by omega)) (fun k _ => X 30 k (by omega))
  have wd : w_d J := wd_same pp hw hP cDJ (by omega) (fun x r1 r2 d hd => X x d (by omega)) (fun x r1 r2 d hd => X x d (by omega))
  have GG : ∀ j, ¬ (j = 5 ∨ j = 7) → ¬ (320 ≤ j ∧ j < 7520) → ¬ (7552 ≤ j ∧ j < 9552) → ¬ (28752 ≤ j ∧ j < 30152) → s' j = s j := fun j a b c d => G j a (by omega) (by omega) (by omega) (by omega)
  have GN : ∀ k i, k < cN I → i < 4 → s' (7552 + 5 * k + i) = s (7552 + 5 * k + i) := fun k i hk hi => G _ (by omega) (by omega) (by omega) (by omega) (by omega)
  have GN4 : ∀ k, k < cN I → k ≠ j0 → s' (7552 + 5 * k + 4) = s (7552 + 5 * k + 4) := fun k hk hi => G _ (by omega) (by omega) (by omega) (by omega) (by omega)
  refine St_join ⟨by rw [cPJ]; exact v6.1, ?_, by rw [cNJ]; exact v19.1, ?_, ?_, ?_, ?_⟩ ⟨by omega, by omega, by omega, by omega, by omega, by omega, by omega⟩ hw (fun x j r1 r2 => X x j (by omega)) cFJ (fun j _ => ⟨FL 43 j (by omega), FL 44 j (by omega)⟩) wp wu wn wk wd pp.1.1 pp.1.2.1 hr (fun j hj => GG j (by omega) (by omega) (by omega) (by omega)) ⟨?_, ?_, ?_, by rw [cPJ]; exact g4.1, ?_, by rw [cNJ]; exact g4.2⟩ (rp_ext pp hP (rg_p hr) (fun j r1 r2 => G j (by omega) (by omega) (by omega) (by omega) (by omega)) gp.1 gp.2.1 gp.2.2.1 gp.2.2.2.1 gp.2.2.2.2.1 gp.2.2.2.2.2.1 gp.2.2.2.2.2.2) ?_ ?_ (rt_np pp hP cTJ bT (fun j _ => FL 26 j (by omega)) (rg_t hr) (fun j r1 r2 => GG j (by omega) (by omega) (by omega) (by omega)) (fun j r1 r2 => GG j (by omega) (by omega) (by omega) (by omega))) ?_ ?_ (fun j r1 r2 => GG j (by omega) (by omega) (by omega) (by omega)) (fun j r1 r2 => GG j (by omega) (by omega) (by omega) (by omega))
  · rw [cUJ, X 14 0 (by omega)]; exact wx_cU hw
  · rw [cTJ, X 25 0 (by omega)]; exact wx_cT hw
  · rw [cKJ, X 25 1 (by omega)]; exact wx_cK hw
  · rw [cDJ, X 31 0 (by omega)]; exact wx_cD hw
  · rw [cFJ, X 42 0 (by omega)]; exact wx_cF hw
  · rw [cTJ, GG 2 (by omega) (by omega) (by omega) (by omega)]; exact rl_h2 hr
  · rw [cKJ, GG 3 (by omega) (by omega) (by omega) (by omega)]; exact rl_h3 hr
  · rw [cDJ, GG 4 (by omega) (by omega) (by omega) (by omega)]; exact rl_h4 hr
  · rw [cUJ, GG 6 (by omega) (by omega) (by omega) (by omega)]; exact rl_h6 hr
  · exact ru_same cUJ (fun x _ _ k _ => X x k (by omega)) (fun k _ => X 39 _ (by omega)) (rf_u (rg_u hr) bU (fun j _ _ => GG j (by omega) (by omega) (by omega) (by omega)))
  · refine rn_ext hr hw cNJ hP (fun j k hj hk q => ?_) ?_ (fun k hk => N 22 (by omega) (by omega) k hk) v19.2.2.2.1 (fun k hk => ⟨GN k 0 hk (by omega), GN k 3 hk (by omega)⟩)
    · obtain ⟨a1, a2, a3, a4, m, b1, b2, b3, b4, b5⟩ := id q
      have ok := O k hk
      have c4 : s' (7552 + 5 * j + 4) = J 23 k := by
        by_cases z : k = k0
        · have : j = j0 := pz_nr_un hr hj hj0 q hjk (by rw [z]) (by rw [z])
          rw [z, v23, this]
          exact gc
        · rw [N23 k hk z, ← a4]
          refine GN4 j hj (fun y => z ?_)
          -- one reference span tells one class span
          rw [y] at q
          have b1 : I 20 k = I 20 k0 := q.1.symm.trans hjk.1
          have b2 : I 22 k = I 22 k0 := q.2.2.1.symm.trans hjk.2.2.1
          have b3 : I 23 k = I 23 k0 := q.2.2.2.1.symm.trans hjk.2.2.2.1
          have o0 := wx_no hw k0 k1
          exact wx_n1 hw (cP I) k k0 (Nat.le_refl _) hk k1 (by rw [pu_opq hw hk, b3]; exact k3) (by rw [pu_opq hw k1]; exact k3) b1
      unfold pz_nr
      rw [N 20 (by omega) (by omega) k hk, N 21 (by omega) (by omega) k hk, N 22 (by omega) (by omega) k hk]
      refine ⟨(GN j 0 hj (by omega)).trans a1, (GN j 1 hj (by omega)).trans a2, (GN j 3 hj (by omega)).trans a3, c4, m, b1, b2, b3, (GN j 2 hj (by omega)).trans b4, fun w hw2 => ?_⟩
      rw [FL 24 _ (by omega)]
      exact pu_Wd_fr (b5 w hw2) (fun i hi => G _ (by omega) (by omega) (by omega) (by omega) (by omega))
    · unfold pz_nr
      rw [v19.2.1, v19.2.2.1, v19.2.2.2.1, v19.2.2.2.2, nl_cl _ (by omega)]
      exact ⟨gn.1, gn.2.1, gn.2.2.2.1, gn.2.2.2.2, 8 + cP I, by omega, by omega, by omega, gn.2.2.1, fun w hw2 => by rw [vL w hw2]; exact gw w hw2⟩
  · unfold rl_k
    rw [cKJ]
    refine ⟨fun k hk => ?_, fun k hk => ?_, fun k i hk hi hl => ?_⟩
    · rw [GG _ (by omega) (by omega) (by omega) (by omega), X 27 k (by omega)]; exact rl_k0 hr k hk
    · rw [GG _ (by omega) (by omega) (by omega) (by omega), X 29 k (by omega)]; exact rl_k1 hr k hk
    · rw [X 29 k (by omega)] at hl
      rw [GG _ (by omega) (by omega) (by omega) (by omega), X 30 _ (by omega)]
      exact rl_k2 hr k i hk hi hl
  · exact rd_same cDJ (fun x _ _ k _ => X x k (by omega)) (fun x _ _ k _ => X x k (by omega)) (rf_d (rg_d hr) bD (fun j _ _ => GG j (by omega) (by omega) (by omega) (by omega)))
end
