/-! towns joined -/
theorem py_ct_b {I J : Nat → Nat → Int32} {q b : Nat} (h : ∀ p, p < q → J 12 p = I 12 p) (hb : J 12 q = nI b) (own : ∀ p, p < q → I 12 p ≠ nI b) (b8 : b < 8) : ∀ t, t ≤ 8 → pu_ct J (q + 1) t = pu_ct I q t + (if b < t then 1 else 0)
  | 0, _ => by simp [pu_ct]
  | t + 1, h8 => by
    have ih := py_ct_b h hb own b8 t (by omega)
    unfold pu_ct
    rw [ih]
    by_cases z : b = t
    · subst z
      rw [if_pos (show ∃ p, p < q + 1 ∧ J 12 p = nI b from ⟨q, by omega, hb⟩), if_neg (show ¬ ∃ p, p < q ∧ I 12 p = nI b from fun ⟨p, p1, p2⟩ => own p p1 p2), if_neg (Nat.lt_irrefl b), if_pos (Nat.lt_succ_self b)]
    · have e : (∃ p, p < q + 1 ∧ J 12 p = nI t) = (∃ p, p < q ∧ I 12 p = nI t) := by
        apply propext
        constructor
        · rintro ⟨p, p1, p2⟩
          by_cases y : p = q
          · rw [y, hb, nI_eq (by omega) (by omega)] at p2
            exact absurd p2 z
          · rw [h p (by omega)] at p2
            exact ⟨p, by omega, p2⟩
        · rintro ⟨p, p1, p2⟩
          exact ⟨p, by omega, by rw [h p p1]; exact p2⟩
      have hbt : (if b < t + 1 then 1 else 0) = (if b < t then 1 else 0) := by
        by_cases y : b < t
        · rw [if_pos y, if_pos (by omega)]
        · rw [if_neg y, if_neg (by omega)]
      rw [hbt]
      by_cases c : ∃ p, p < q ∧ I 12 p = nI t
      · rw [if_pos (show ∃ p, p < q + 1 ∧ J 12 p = nI t by rw [e]; exact c), if_pos c]
        omega
      · rw [if_neg (show ¬ ∃ p, p < q + 1 ∧ J 12 p = nI t by rw [e]; exact c), if_neg c]
        omega
section
variable {I J : Nat → Nat → Int32} {L L' : Nat → Nat → Int64} {s s' : Nat → Int32} {f : Int32}
set_option maxRecDepth 8000 in
theorem St_merge (h : pu_St I L s) (hP : cP I < 200) {a b : Nat} (ha : a < cT I) (hb : b < cT I) (hab : a ≠ b) (owa : pu_own I a) (owb : pu_own I b) (hf : 0 ≤ f.toInt ∧ f.toInt ≤ 109574) (hea : ¬ py_et I (nI a) f) (heb : ¬ py_et I (nI b) f) (hh : ¬ ∃ k, k < cN I ∧ (I 23 k = -1 ∧ I 21 k = nI a) ∧ ∃ l, l < cN I ∧ py_nl I L (nI b) k l)
    (F : ∀ x j, ¬ (x = 6 ∧ j = 2) → ¬ (7 ≤ x ∧ x ≤ 13 ∧ j = cP I) → ¬ (x = 19 ∧ j = 0) → ¬ (x = 23 ∧ j < cN I ∧ I 23 j = -1 ∧ I 21 j = nI b) → ¬ (20 ≤ x ∧ x ≤ 23 ∧ cN I ≤ j) → J x j = I x j)
    (v6 : J 6 2 = nI (cP I + 1) ∧ J 7 (cP I) = f ∧ J 8 (cP I) = I 6 0 ∧ J 9 (cP I) = -1 ∧ J 10 (cP I) = -1 ∧ J 11 (cP I) = nI a ∧ J 12 (cP I) = nI b ∧ J 13 (cP I) = -1)
    (v19 : J 19 0 = nI (cN I + py_mc (fun i => I 23 i = -1 ∧ I 21 i = nI b) (cN I)))
    (vN : ∀ i, i < cN I → I 23 i = -1 ∧ I 21 i = nI b → J 23 i = nI (cP I) ∧ J 20 (cN I + py_mc (fun i => I 23 i = -1 ∧ I 21 i = nI b) i) = I 20 i ∧ J 21 (cN I + py_mc (fun i => I 23 i = -1 ∧ I 21 i = nI b) i) = nI a ∧ J 22 (cN I + py_mc (fun i => I 23 i = -1 ∧ I 21 i = nI b) i) = nI (cP I) ∧ J 23 (cN I + py_mc (fun i => I 23 i = -1 ∧ I 21 i = nI b) i) = -1 ∧ ∀ w, w < 3 → L' 24 (3 * (cN I + py_mc (fun i => I 23 i = -1 ∧ I 21 i = nI b) i) + w) = L 24 (3 * i + w))
    (FL : ∀ x j, ¬ (x = 24 ∧ 3 * cN I ≤ j) → L' x j = L x j)
    (G : ∀ j, ¬ (j = 5 ∨ j = 7) → ¬ (28752 + 7 * cP I ≤ j ∧ j < 28752 + 7 * cP I + 7) → j ≠ 7520 + b → ¬ (7552 + 5 * cN I ≤ j ∧ j < 9552) → (∀ st l, st < cK I → py_in I (nI b) st → py_os I L s st l → j ≠ 7552 + 5 * l + 4) → s' j = s j)
    (g4 : s' 5 = nI (cP I + 1) ∧ s' 7 = nI (cN I + py_mc (py_in I (nI b)) (cK I)) ∧ s' (7520 + b) = nI (cP I))
    (gp : s' (28752 + 7 * cP I) = I 6 0 ∧ s' (28752 + 7 * cP I + 1) = f ∧ s' (28752 + 7 * cP I + 2) = -1 ∧ s' (28752 + 7 * cP I + 3) = -1 ∧ s' (28752 + 7 * cP I + 4) = nI a ∧ s' (28752 + 7 * cP I + 5) = nI b ∧ s' (28752 + 7 * cP I + 6) = -1)
    (gN : ∀ st j, st < cK I → py_in I (nI b) st → py_os I L s st j → s' (7552 + 5 * j + 4) = nI (cP I) ∧ s' (7552 + 5 * (cN I + py_mc (py_in I (nI b)) st)) = nI st ∧ s' (7552 + 5 * (cN I + py_mc (py_in I (nI b)) st) + 1) = nI a ∧ s' (7552 + 5 * (cN I + py_mc (py_in I (nI b)) st) + 2) = s (7552 + 5 * j + 2) ∧ s' (7552 + 5 * (cN I + py_mc (py_in I (nI b)) st) + 3) = nI (cP I) ∧ s' (7552 + 5 * (cN I + py_mc (py_in I (nI b)) st) + 4) = -1) : pu_St J L' s' := by
  obtain ⟨hw, hr⟩ := h
  have m1 : (-1 : Int32).toInt = -1 := by decide
  have bT := wx_bT hw
  have bK := wx_bK hw
  have bF := wx_bF hw
  have bU := wx_bU hw
  have bD := wx_bD hw
  have cn := py_cn hw
  have tA := nl_n0 (a := a) (by omega)
  have tB := nl_n0 (a := b) (by omega)
  have tP := nl_n0 (a := cP I) (by omega)
  have nPc : (nI (cP I)).toNatClampNeg = cP I := nl_cl _ (by omega)
  have nP : ¬ nI (cP I) = -1 := fun q => by rw [nl_n1 _ (by omega)] at q; exact q
  have nA : ¬ nI a = -1 := fun q => by rw [nl_n1 _ (by omega)] at q; exact q
  have nB : ¬ nI b = -1 := fun q => by rw [nl_n1 _ (by omega)] at q; exact q
  have nab : ¬ nI a = nI b := fun q => by rw [nI_eq (by omega) (by omega)] at q; exact hab q
  have hc := py_mcs hw (nI b)
  have hc24 := py_mcs_b hw (nI b)
  -- the words: P span moved, Q street moved
  generalize hPd : (fun i => I 23 i = -1 ∧ I 21 i = nI b) = P at *
  have Pd : ∀ i, P i ↔ (I 23 i = -1 ∧ I 21 i = nI b) := fun i => by rw [← hPd]
  have pp : pz_pp I J f (-1) (-1) (nI a) (nI b) (-1) := ⟨⟨F 6 0 (by omega) (by omega) (by omega) (by omega) (by omega), F 6 1 (by omega) (by omega) (by omega) (by omega) (by omega), v6.1⟩, fun x r1 r2 j hj => F x j (by omega) (by omega) (by omega) (by omega) (by omega), v6.2⟩
  have cPJ := pz_cPJ pp hP
  have ctJ := py_ct_b (I := I) (J := J) (q := cP I) (b := b) (fun p hp => pp.2.1 12 (by omega) (by omega) p hp) v6.2.2.2.2.2.2.1 owb (by omega) 8 (by omega)
  rw [if_pos (show b < 8 by omega)] at ctJ
  have cm := (py_ct_mono (I := J) (Nat.le_refl (cP I + 1)) 8).2
  have X : ∀ x j, (14 ≤ x ∧ x ≤ 18) ∨ 24 ≤ x → J x j = I x j := fun x j r => F x j (by omega) (by omega) (by omega) (by omega) (by omega)
  have cNJ : cN J = cN I + py_mc P (cN I) := pz_cc v19 (by omega)
  have cKJ : cK J = cK I := by
    unfold cK
    rw [X 25 1 (by omega)]
  have cTJ : cT J = cT I := by
    unfold cT
    rw [X 25 0 (by omega)]
  have cUJ : cU J = cU I := by
    unfold cU
    rw [X 14 0 (by omega)]
  have cDJ : cD J = cD I := by
    unfold cD
    rw [X 31 0 (by omega)]
  have cFJ : cF J = cF I := by
    unfold cF
    rw [X 42 0 (by omega)]
  have N : ∀ x, 20 ≤ x → x ≤ 22 → ∀ k, k < cN I → J x k = I x k := fun x r1 r2 k hk => F x k (by omega) (by omega) (by omega) (by omega) (by omega)
  have N23 : ∀ k, k < cN I → ¬ P k → J 23 k = I 23 k := fun k hk ne => F 23 k (by omega) (by omega) (by omega) (fun z => ne ((Pd k).mpr z.2.2)) (by omega)
  have vM : ∀ i, i < cN I → P i → J 23 i = nI (cP I) ∧ J 20 (cN I + py_mc P i) = I 20 i ∧ J 21 (cN I + py_mc P i) = nI a ∧ J 22 (cN I + py_mc P i) = nI (cP I) ∧ J 23 (cN I + py_mc P i) = -1 ∧ ∀ w, w < 3 → L' 24 (3 * (cN I + py_mc P i) + w) = L 24 (3 * i + w) := fun i hi hp => vN i hi ((Pd i).mp hp)
  -- a new span is a moved one
  have new : ∀ k, cN I ≤ k → k < cN J → ∃ i, i < cN I ∧ P i ∧ k = cN I + py_mc P i := fun k r1 r2 => by
    obtain ⟨i, i1, i2, i3⟩ := py_mc_on (P := P) (n := cN I) (c := k - cN I) (by omega)
    exact ⟨i, i1, i2, by omega⟩
  have pl : ∀ i, i < cN I → P i → cN I + py_mc P i < cN J := fun i hi hp => by
    have := py_mc_l (P := P) (i := i) (j := cN I) hi hp
    omega
  have ke : pz_ke I J := ⟨fun k hk => X 28 k (by omega), by omega, by omega, fun k r1 r2 => by omega⟩
  have ne : pz_ne I L J L' := ⟨N, fun k hk => by
    by_cases z : P k
    · exact Or.inr ⟨((Pd k).mp z).1, (vM k hk z).1⟩
    · exact Or.inl (N23 k hk z), by omega, fun k r1 r2 => by
      obtain ⟨i, i1, i2, i3⟩ := new k r1 r2
      rw [i3]
      exact ⟨(vM i i1 i2).2.2.2.1, (vM i i1 i2).2.2.2.2.1⟩, fun j hj => FL 24 j (by omega)⟩
  have de : pz_de I J := ⟨fun x r1 r2 d hd => X x d (by omega), fun d hd => Or.inl (X 37 d (by omega)), fun d hd => Or.inl (X 38 d (by omega)), by omega, fun d r1 r2 => by omega⟩
  have C : ∀ k, k < cN I → I 23 k ≠ -1 → (I 23 k).toNatClampNeg < cP I := fun k hk z => (pu_on (x := I 23 k) (n := cP I) ⟨pu_ne1 (wx_nc hw k hk).1 z, (wx_nc hw k hk).2.1⟩).2
  have O : ∀ k, k < cN I → (I 22 k).toNatClampNeg < cP I := fun k hk => (pu_on (x := I 22 k) (n := cP I) ⟨(wx_no hw k hk).1, (wx_no hw k hk).2.1⟩).2
  have ST : ∀ k, k < cN I → I 20 k = nI (I 20 k).toNatClampNeg ∧ (I 20 k).toNatClampNeg < cK I := fun k hk => pu_on (x := I 20 k) (n := cK I) ⟨(wx_ns hw k hk).1, (wx_ns hw k hk).2⟩
  -- papers on a street of a or b are from f or before
  have dayS : ∀ st p, st < cK I → (py_in I (nI a) st ∨ py_in I (nI b) st) → p < cP I → I 9 p = nI st → (I 7 p).toInt ≤ f.toInt := fun st p hst hin hp e => by
    apply Int32.le_iff_toInt_le.mp
    apply Int32.not_lt.mp
    intro z
    have nS : ¬ nI st = -1 := fun q => by rw [nl_n1 _ (by omega)] at q; exact q
    have ey : pu_ey I (nI st) (-1) f := ⟨p, hp, Or.inl ⟨nS, Or.inl e⟩, z⟩
    rcases hin with y | y
    · exact hea (Or.inr ⟨st, hst, y, ey⟩)
    · exact heb (Or.inr ⟨st, hst, y, ey⟩)
  have dayB : ∀ p, p < cP I → I 11 p = nI b → (I 7 p).toInt ≤ f.toInt := fun p hp e => by
    apply Int32.le_iff_toInt_le.mp
    apply Int32.not_lt.mp
    intro z
    exact heb (Or.inl ⟨p, hp, Or.inr ⟨nB, Or.inl e⟩, z⟩)
  have inP : ∀ k, k < cN I → P k → py_in I (nI b) (I 20 k).toNatClampNeg := fun k hk z => ⟨k, ⟨hk, (ST k hk).1, ((Pd k).mp z).1⟩, ((Pd k).mp z).2⟩
  have day0 : ∀ k, k < cN I → P k → (I 7 (I 22 k).toNatClampNeg).toInt ≤ f.toInt := fun k hk z => by
    rcases (wx_no hw k hk).2.2.2 with y | y
    · exact dayS _ _ (ST k hk).2 (Or.inr (inP k hk z)) (O k hk) (by rw [y]; exact (ST k hk).1)
    · exact dayB _ (O k hk) (by rw [y]; exact ((Pd k).mp z).2)
  -- a street's other spans lie before its open one
  have bef : ∀ k i, k < cN I → i < cN I → I 20 k = I 20 i → I 23 i = -1 → k ≠ i → k < i := fun k i hk hi e e2 z => by
    apply Classical.byContradiction
    intro y
    exact (wx_n6 hw i k (by omega) hk e.symm).1 e2
  have wp : w_p J := wp_ext pp hw hP hf cTJ (by omega) (by omega) (by omega) (by omega) (by omega) ⟨by omega, by omega, fun z => absurd rfl z⟩ (fun k p r1 r2 r3 r4 => by
    rcases r4 with z | z
    · exact absurd z.symm r1
    · exact absurd z.symm r1) (Or.inr owb)
  have wu : w_u J := wu_same pp hw hP cUJ de (by omega) (fun x r1 r2 k hk => X x k (by omega)) (fun x r1 r2 j hj => X x j (by omega)) (fun d hd => X 37 d (by omega)) (fun d hd => X 38 d (by omega)) (fun d r1 r2 => by omega)
  have pe : ∀ p, p < cP I + 1 → (p = cP I ∧ J 12 p = nI b) ∨ (p < cP I ∧ J 12 p = I 12 p) := fun p hp => by
    by_cases z : p < cP I
    · exact Or.inr ⟨z, pp.2.1 12 (by omega) (by omega) p z⟩
    · refine Or.inl ⟨by omega, ?_⟩
      rw [show p = cP I by omega]
      exact v6.2.2.2.2.2.2.1
  have wn : w_n J L' := by
    refine wn_ext pp hw hP cTJ ke ne (fun k r1 r2 => ?_) (fun k hk e1 e2 => ?_) (fun k hk => ?_) (fun k p hk e hp => ?_) (fun k l r1 r2 r3 e => ?_) (fun k l r1 r2 r3 e e2 => ?_) (fun k l r1 r2 r3 e => ?_)
    · obtain ⟨i, i1, i2, i3⟩ := new k r1 r2
      have y := vM i i1 i2
      rw [i3, y.2.1, y.2.2.1, cKJ]
      have ns := wx_ns hw i i1
      have mn := py_mc_m (P := P) (i := i) (j := cN I) (by omega)
      have ml := py_mc_l (P := P) (i := i) (j := cN I) i1 i2
      exact ⟨ns.1, ns.2, by omega, by omega, Or.inr rfl, by omega⟩
    · have z : P k := by
        apply Classical.byContradiction
        intro z
        rw [N23 k hk z, e1] at e2
        exact nP e2.symm
      exact ⟨day0 k hk z, Or.inr ((Pd k).mp z).2.symm⟩
    · obtain ⟨l, l1, l2, l3⟩ := pu_no_ex hw (st := k) (by omega)
      by_cases z : P l
      · have y := vM l l1 z
        exact ⟨cN I + py_mc P l, pl l l1 z, y.2.2.2.2.1, y.2.1.trans l2⟩
      · exact ⟨l, by omega, by rw [N23 l l1 z]; exact l3, by rw [N 20 (by omega) (by omega) l l1]; exact l2⟩
    · by_cases z : k < cN I
      · have zk : ¬ P k := fun q => by
          rw [(vM k z q).1] at e
          exact nP e
        rw [N23 k z zk] at e
        rw [N 21 (by omega) (by omega) k z]
        rcases pe p hp with ⟨y1, y2⟩ | ⟨y1, y2⟩
        · rw [y2]
          exact fun q => zk ((Pd k).mpr ⟨e, q.symm⟩)
        · rw [y2]
          exact wx_n4 hw (cP I) k p (Nat.le_refl _) z (by rw [pu_opq hw z]; exact e) y1
      · obtain ⟨i, i1, i2, i3⟩ := new k (by omega) hk
        rw [i3, (vM i i1 i2).2.2.1]
        rcases pe p hp with ⟨y1, y2⟩ | ⟨y1, y2⟩
        · rw [y2]
          exact fun q => nab q.symm
        · rw [y2]
          exact owa p y1
    · obtain ⟨i, i1, i2, i3⟩ := new l r2 r3
      rw [i3, (vM i i1 i2).2.1] at e
      by_cases kN : k < cN I
      · rw [N 20 (by omega) (by omega) k kN] at e
        by_cases z : k = i
        · rw [z, (vM i i1 i2).1, nPc, v6.2.1]
          exact ⟨nP, Int.le_refl _⟩
        · have b0 := bef k i kN i1 e ((Pd i).mp i2).1 z
          have y := wx_n6 hw k i b0 i1 e
          have zk : ¬ P k := fun q => y.1 ((Pd k).mp q).1
          have d0 := day0 i i1 i2
          rw [N23 k kN zk, pp.2.1 7 (by omega) (by omega) _ (C k kN y.1)]
          exact ⟨y.1, by omega⟩
      · obtain ⟨i', j1, j2, j3⟩ := new k (by omega) (by omega)
        rw [j3, (vM i' j1 j2).2.1] at e
        have q := pu_no_un hw (st := (I 20 i).toNatClampNeg) ⟨i1, (ST i i1).1, ((Pd i).mp i2).1⟩ ⟨j1, e.trans (ST i i1).1, ((Pd i').mp j2).1⟩
        subst q
        omega
    · obtain ⟨i, i1, i2, i3⟩ := new l r2 r3
      rw [i3, (vM i i1 i2).2.2.1] at e
      rw [i3] at e2
      by_cases kN : k < cN I
      · rw [N 21 (by omega) (by omega) k kN] at e
        have lk : py_lk (L 24) (L 24) (3 * i) (3 * k) := fun w hw2 => by
          have := e2 w hw2
          rw [FL 24 _ (by omega), (vM i i1 i2).2.2.2.2.2 w hw2] at this
          exact this.symm
        have c1 : I 23 k ≠ -1 := fun z => hh ⟨k, kN, ⟨z, e⟩, i, i1, (Pd i).mp i2, lk⟩
        have zk : ¬ P k := fun q => c1 ((Pd k).mp q).1
        rw [N23 k kN zk, pp.2.1 7 (by omega) (by omega) _ (C k kN c1)]
        refine ⟨c1, Or.inl ?_⟩
        -- its closing paper is on its street, and that lies in a
        rcases wx_n9 hw k kN c1 with y | y
        · obtain ⟨l0, l1, l2, l3⟩ := pu_no_ex hw (ST k kN).2
          have kl : k ≠ l0 := fun q => c1 (by rw [q]; exact l3)
          have b0 := bef k l0 kN l1 ((ST k kN).1.trans l2.symm) l3 kl
          have t0 : I 21 k = I 21 l0 := by
            rcases wx_n8 hw k l0 b0 l1 ((ST k kN).1.trans l2.symm) with z | ⟨p, p1, p2⟩
            · exact z
            · have o := (wx_no hw l0 l1).2.1
              exact absurd (p2.trans e) (owa p (by omega))
          exact dayS _ _ (ST k kN).2 (Or.inl ⟨l0, ⟨l1, l2, l3⟩, t0.symm.trans e⟩) (C k kN c1) (y.trans (ST k kN).1)
        · exact absurd (y.trans e) (owa _ (C k kN c1))
      · obtain ⟨i', j1, j2, j3⟩ := new k (by omega) (by omega)
        rw [j3] at e2
        have q := wx_n2 hw (cP I) i' i (Nat.le_refl _) j1 i1 (by rw [pu_opq hw j1]; exact ((Pd i').mp j2).1) (by rw [pu_opq hw i1]; exact ((Pd i).mp i2).1) (((Pd i').mp j2).2.trans ((Pd i).mp i2).2.symm) (fun w hw2 => by
          have := e2 w hw2
          rw [(vM i i1 i2).2.2.2.2.2 w hw2, (vM i' j1 j2).2.2.2.2.2 w hw2] at this
          exact this)
        subst q
        omega
    · obtain ⟨i, i1, i2, i3⟩ := new l r2 r3
      rw [i3, (vM i i1 i2).2.1] at e
      by_cases kN : k < cN I
      · rw [N 20 (by omega) (by omega) k kN] at e
        rw [N 21 (by omega) (by omega) k kN]
        by_cases z : k = i
        · rw [z]
          exact Or.inr ⟨cP I, by omega, v6.2.2.2.2.2.2.1.trans ((Pd i).mp i2).2.symm⟩
        · have b0 := bef k i kN i1 e ((Pd i).mp i2).1 z
          rcases wx_n8 hw k i b0 i1 e with y | ⟨p, p1, p2⟩
          · exact Or.inr ⟨cP I, by omega, v6.2.2.2.2.2.2.1.trans (y.trans ((Pd i).mp i2).2).symm⟩
          · have o := (wx_no hw i i1).2.1
            have pL : p < cP I := by omega
            exact Or.inr ⟨p, by omega, by rw [pp.2.1 12 (by omega) (by omega) p pL]; exact p2⟩
      · obtain ⟨i', j1, j2, j3⟩ := new k (by omega) (by omega)
        exact Or.inl (by rw [j3, i3, (vM i' j1 j2).2.2.1, (vM i i1 i2).2.2.1])
  have wk : w_k J L' := wk_same pp hw hP cTJ cKJ (fun j _ => FL 26 j (by omega)) (fun k _ => X 28 k (by omega)) (fun k hk => by rw [X 27 k (by omega)]; exact wx_kr hw k hk) (fun k _ => X 29 k (by omega)) (fun k _ => X 30 k (by omega))
  have wd : w_d J := wd_same pp hw hP cDJ (by omega) (fun x r1 r2 d hd => X x d (by omega)) (fun x r1 r2 d hd => X x d (by omega))
  have GG : ∀ j, ¬ (j = 5 ∨ j = 7) → ¬ (7520 ≤ j ∧ j < 7528) → ¬ (7552 ≤ j ∧ j < 9552) → ¬ (28752 ≤ j ∧ j < 30152) → s' j = s j := fun j a b c d => G j a (by omega) (by omega) (by omega) (fun st l _ _ e => by have := e.1; omega)
  have hn := rg_n hr
  -- the reference's spans
  have GN : ∀ k i, k < cN I → i < 4 → s' (7552 + 5 * k + i) = s (7552 + 5 * k + i) := fun k i hk hi => G _ (by omega) (by omega) (by omega) (by omega) (fun st l _ _ _ => by omega)
  have osP : ∀ j k, j < cN I → k < cN I → pz_nr I L s j k → P k → py_os I L s (I 20 k).toNatClampNeg j := fun j k hj hk q z => ⟨hj, k, ⟨hk, (ST k hk).1, ((Pd k).mp z).1⟩, q⟩
  have RR : ∀ j k, j < cN I → k < cN I → pz_nr I L s j k → pz_nr J L' s' j k := fun j k hj hk q => by
    obtain ⟨a1, a2, a3, a4, m, b1, b2, b3, b4, b5⟩ := id q
    have c4 : s' (7552 + 5 * j + 4) = J 23 k := by
      by_cases z : P k
      · rw [(vM k hk z).1]
        exact (gN _ j (ST k hk).2 (inP k hk z) (osP j k hj hk q z)).1
      · rw [N23 k hk z, ← a4]
        refine G _ (by omega) (by omega) (by omega) (by omega) (fun st l l1 l2 l3 e => ?_)
        have e2 : l = j := by omega
        subst e2
        obtain ⟨_, k', y1, y2⟩ := id l3
        have st20 : I 20 k = nI st := q.1.symm.trans (py_os_st l3).1
        have op : I 23 k = -1 := a4.symm.trans (py_os_st l3).2
        obtain ⟨l', q1, q2⟩ := l2
        have := pu_no_un hw q1 ⟨hk, st20, op⟩
        subst this
        exact z ((Pd _).mpr ⟨op, q2⟩)
    unfold pz_nr
    rw [N 20 (by omega) (by omega) k hk, N 21 (by omega) (by omega) k hk, N 22 (by omega) (by omega) k hk]
    refine ⟨(GN j 0 hj (by omega)).trans a1, (GN j 1 hj (by omega)).trans a2, (GN j 3 hj (by omega)).trans a3, c4, m, b1, b2, b3, (GN j 2 hj (by omega)).trans b4, fun w hw2 => ?_⟩
    rw [FL 24 _ (by omega)]
    exact pu_Wd_fr (b5 w hw2) (fun i hi => GG _ (by omega) (by omega) (by omega) (by omega))
  have RN : ∀ k, k < cN I → P k → pz_nr J L' s' (cN I + py_mc (py_in I (nI b)) (I 20 k).toNatClampNeg) (cN I + py_mc P k) := fun k hk z => by
    obtain ⟨j, j1, j2⟩ := hn.1 k hk
    have y := gN _ j (ST k hk).2 (inP k hk z) (osP j k j1 hk j2 z)
    have v := vM k hk z
    obtain ⟨a1, a2, a3, a4, m, b1, b2, b3, b4, b5⟩ := id j2
    have ok := O k hk
    unfold pz_nr
    rw [v.2.1, v.2.2.1, v.2.2.2.1, v.2.2.2.2.1, nPc]
    refine ⟨y.2.1.trans (ST k hk).1.symm, y.2.2.1, y.2.2.2.2.1, y.2.2.2.2.2, m, b1, b2, by omega, y.2.2.2.1.trans b4, fun w hw2 => ?_⟩
    rw [v.2.2.2.2.2 w hw2]
    exact pu_Wd_fr (b5 w hw2) (fun i hi => GG _ (by omega) (by omega) (by omega) (by omega))
  have newS : ∀ j, cN I ≤ j → j < cN J → ∃ st, st < cK I ∧ py_in I (nI b) st ∧ j = cN I + py_mc (py_in I (nI b)) st := fun j r1 r2 => by
    obtain ⟨i, i1, i2, i3⟩ := py_mc_on (P := py_in I (nI b)) (n := cK I) (c := j - cN I) (by omega)
    exact ⟨i, i1, i2, by omega⟩
  have o3 : ∀ j, j < cN I → s' (7552 + 5 * j + 3) ≠ nI (cP I) := fun j hj q => by
    rw [GN j 3 hj (by omega), rl_n3 hr j hj] at q
    have := (wx_no hw j hj).2.1
    rw [q, tP] at this
    omega
  have n3 : ∀ j, cN I ≤ j → j < cN J → s' (7552 + 5 * j + 3) = nI (cP I) := fun j r1 r2 => by
    obtain ⟨st, t1, t2, t3⟩ := newS j r1 r2
    obtain ⟨l, hl⟩ := py_os_ex hw hn t1
    rw [t3]
    exact (gN st l t1 t2 hl).2.2.2.2.1
  refine St_join ⟨by rw [cPJ]; exact v6.1, ?_, by rw [cNJ]; exact v19, ?_, ?_, ?_, ?_⟩ ⟨by omega, by omega, by omega, by omega, by omega, by omega, by omega⟩ hw (fun x j r1 r2 => X x j (by omega)) cFJ (fun j _ => ⟨FL 43 j (by omega), FL 44 j (by omega)⟩) wp wu wn wk wd pp.1.1 pp.1.2.1 hr (fun j hj => GG j (by omega) (by omega) (by omega) (by omega)) ⟨?_, ?_, ?_, by rw [cPJ]; exact g4.1, ?_, by rw [cNJ, ← hc]; exact g4.2.1⟩ (rp_ext pp hP (rg_p hr) (fun j r1 r2 => G j (by omega) (by omega) (by omega) (by omega) (fun st l _ _ e => by have := e.1; omega)) gp.1 gp.2.1 gp.2.2.1 gp.2.2.2.1 gp.2.2.2.2.1 gp.2.2.2.2.2.1 gp.2.2.2.2.2.2) ?_ ?_ ?_ ?_ ?_ (fun j r1 r2 => GG j (by omega) (by omega) (by omega) (by omega)) (fun j r1 r2 => GG j (by omega) (by omega) (by omega) (by omega))
  · rw [cUJ, X 14 0 (by omega)]; exact wx_cU hw
  · rw [cTJ, X 25 0 (by omega)]; exact wx_cT hw
  · rw [cKJ, X 25 1 (by omega)]; exact wx_cK hw
  · rw [cDJ, X 31 0 (by omega)]; exact wx_cD hw
  · rw [cFJ, X 42 0 (by omega)]; exact wx_cF hw
  · rw [cTJ, GG 2 (by omega) (by omega) (by omega) (by omega)]; exact rl_h2 hr
  · rw [cKJ, GG 3 (by omega) (by omega) (by omega) (by omega)]; exact rl_h3 hr
  · rw [cDJ, GG 4 (by omega) (by omega) (by omega) (by omega)]; exact rl_h4 hr
  · rw [cUJ, GG 6 (by omega) (by omega) (by omega) (by omega)]; exact rl_h6 hr
  · exact ru_same cUJ (fun x _ _ k _ => X x k (by omega)) (fun k _ => X 39 _ (by omega)) (rf_u (rg_u hr) bU (fun j _ _ => GG j (by omega) (by omega) (by omega) (by omega)))
  · refine ⟨fun k hk => ?_, fun j hj => ?_, fun k hk => ?_, fun j l hj hl e1 e2 => ?_⟩
    · by_cases z : k < cN I
      · obtain ⟨j, j1, j2⟩ := hn.1 k z
        exact ⟨j, by omega, RR j k j1 z j2⟩
      · obtain ⟨i, i1, i2, i3⟩ := new k (by omega) hk
        have := py_mc_l (P := py_in I (nI b)) (i := (I 20 i).toNatClampNeg) (j := cK I) (ST i i1).2 (inP i i1 i2)
        rw [i3]
        exact ⟨_, by omega, RN i i1 i2⟩
    · by_cases z : j < cN I
      · obtain ⟨k, k1, k2⟩ := hn.2.1 j z
        exact ⟨k, by omega, RR j k z k1 k2⟩
      · obtain ⟨st, t1, t2, t3⟩ := newS j (by omega) hj
        obtain ⟨i, ⟨i1, i2, i4⟩, i3⟩ := t2
        have ip := (Pd i).mpr ⟨i4, i3⟩
        have y := RN i i1 ip
        rw [i2, nl_cl _ (by omega), ← t3] at y
        exact ⟨_, pl i i1 ip, y⟩
    · by_cases z : k < cN I
      · rw [GN k 3 z (by omega), N 22 (by omega) (by omega) k z]; exact rl_n3 hr k z
      · obtain ⟨i, i1, i2, i3⟩ := new k (by omega) hk
        rw [n3 k (by omega) hk, i3]
        exact (vM i i1 i2).2.2.2.1.symm
    · by_cases z : j < cN I
      · by_cases y : l < cN I
        · rw [GN j 3 z (by omega), GN l 3 y (by omega)] at e2
          have g0 := GN j 0 z (by omega)
          have g1 := GN l 0 y (by omega)
          rw [Nat.add_zero] at g0 g1
          rw [g0, g1] at e1
          exact rl_ni hr j l z y e1 e2
        · rw [n3 l (by omega) hl] at e2
          exact absurd e2 (o3 j z)
      · by_cases y : l < cN I
        · rw [n3 j (by omega) hj] at e2
          exact absurd e2.symm (o3 l y)
        · obtain ⟨st, t1, t2, t3⟩ := newS j (by omega) hj
          obtain ⟨su, u1, u2, u3⟩ := newS l (by omega) hl
          obtain ⟨x1, x2⟩ := py_os_ex hw hn t1
          obtain ⟨y1, y2⟩ := py_os_ex hw hn u1
          rw [t3, u3, (gN st x1 t1 t2 x2).2.1, (gN su y1 u1 u2 y2).2.1, nI_eq (by omega) (by omega)] at e1
          subst e1
          omega
  · unfold rl_t
    rw [cPJ, cTJ]
    refine ⟨fun k hk w hw2 => ?_, fun k hk => ?_⟩
    · rw [FL 26 _ (by omega)]
      exact pu_Wd_fr (rl_tw hr k hk w hw2) (fun i hi => GG _ (by omega) (by omega) (by omega) (by omega))
    · by_cases z : k = b
      · subst z
        refine Or.inr ⟨cP I, by omega, g4.2.2, v6.2.2.2.2.2.2.1, fun q hq e => ?_⟩
        rcases pe q hq with ⟨y1, _⟩ | ⟨y1, y2⟩
        · exact y1
        · rw [y2] at e
          exact absurd e (owb q y1)
      · have nk : ¬ nI b = nI k := fun q => by rw [nI_eq (by omega) (by omega)] at q; exact z q.symm
        rw [G _ (by omega) (by omega) (by omega) (by omega) (fun st l _ _ e => by have := e.1; omega)]
        rcases rl_tj hr k hk with ⟨a1, a2⟩ | ⟨p, a1, a2, a3, a4⟩
        · refine Or.inl ⟨a1, fun p hp => ?_⟩
          rcases pe p hp with ⟨_, y2⟩ | ⟨y1, y2⟩
          · rw [y2]; exact nk
          · rw [y2]; exact a2 p y1
        · refine Or.inr ⟨p, by omega, a2, by rw [pp.2.1 12 (by omega) (by omega) p a1]; exact a3, fun q hq e => ?_⟩
          rcases pe q hq with ⟨_, y2⟩ | ⟨y1, y2⟩
          · rw [y2] at e; exact absurd e nk
          · rw [y2] at e; exact a4 q y1 e
  · unfold rl_k
    rw [cKJ]
    refine ⟨fun k hk => ?_, fun k hk => ?_, fun k i hk hi hl => ?_⟩
    · rw [GG _ (by omega) (by omega) (by omega) (by omega), X 27 k (by omega)]; exact rl_k0 hr k hk
    · rw [GG _ (by omega) (by omega) (by omega) (by omega), X 29 k (by omega)]; exact rl_k1 hr k hk
    · rw [X 29 k (by omega)] at hl
      rw [GG _ (by omega) (by omega) (by omega) (by omega), X 30 _ (by omega)]
      exact rl_k2 hr k i hk hi hl
  · exact rd_same cDJ (fun x _ _ k _ => X x k (by omega)) (fun x _ _ k _ => X x k (by omega)) (rf_d (rg_d hr) bD (fun j _ _ => GG j (by omega) (by omega) (by omega) (by omega)))
end
