/-! a street numbered anew -/
section
variable {I J : Nat → Nat → Int32} {L : Nat → Nat → Int64} {s s' : Nat → Int32} {f : Int32}
theorem St_renum (h : pu_St I L s) (hP : cP I < 200) {st ru n c : Nat} {V X : Nat → Nat} {W : Nat → Int32} (hst : st < cK I) (hru : ru < 4) (hV : ∀ a, a < n → py_osx I st (V a)) (hV2 : ∀ k, py_osx I st k → ∃ a, a < n ∧ V a = k) (iV : ∀ a b, a < n → b < n → V a = V b → a = b) (hW : ∀ a, a < n → 0 ≤ (W a).toInt ∧ (W a).toInt < 160000 ∧ ((W a).toInt = 0 ∨ 16 ≤ (W a).toInt)) (iW : ∀ a b, a < n → b < n → W a = W b → W a ≠ 0 → a = b) (hX : ∀ t, t < c → X t < n) (iX : ∀ t u, t < c → u < c → X t = X u → t = u) (hX2 : ∀ a, a < n → (∀ t, t < c → X t ≠ a) → W a = I 16 (V a)) (hU : cU I + c ≤ 3000) (hf : 0 ≤ f.toInt ∧ f.toInt ≤ 109574) (hy : ∀ p, p < cP I → pu_tc I p (nI st) → (I 7 p).toInt ≤ f.toInt)
    (F : ∀ x j, ¬ (x = 6 ∧ j = 2) → ¬ (7 ≤ x ∧ x ≤ 13 ∧ j = cP I) → ¬ (x = 14 ∧ j = 0) → ¬ (15 ≤ x ∧ x ≤ 18 ∧ cU I ≤ j) → ¬ (x = 18 ∧ ∃ t, t < c ∧ V (X t) = j) → ¬ (x = 27 ∧ j = st) → J x j = I x j)
    (v6 : J 6 2 = nI (cP I + 1) ∧ J 7 (cP I) = f ∧ J 8 (cP I) = I 6 0 ∧ J 9 (cP I) = nI st ∧ J 10 (cP I) = -1 ∧ J 11 (cP I) = -1 ∧ J 12 (cP I) = -1 ∧ J 13 (cP I) = I 27 st)
    (v14 : J 14 0 = nI (cU I + c)) (v15 : ∀ t, t < c → J 15 (cU I + t) = nI (pu_sl0 I (V (X t))) ∧ J 16 (cU I + t) = W (X t) ∧ J 17 (cU I + t) = nI (cP I) ∧ J 18 (cU I + t) = -1)
    (v18 : ∀ t, t < c → J 18 (V (X t)) = nI (cP I)) (v27 : J 27 st = nI ru)
    (G : ∀ j, ¬ (5 ≤ j ∧ j ≤ 6) → ¬ (28752 + 7 * cP I ≤ j ∧ j < 28752 + 7 * cP I + 7) → j ≠ 7528 + st → ¬ (10752 + 6 * cU I ≤ j ∧ j < 10752 + 6 * (cU I + c)) → (∀ t, t < c → j ≠ 10752 + 6 * V (X t) + 5) → s' j = s j)
    (g4 : s' 5 = nI (cP I + 1) ∧ s' 6 = nI (cU I + c))
    (gp : s' (28752 + 7 * cP I) = I 6 0 ∧ s' (28752 + 7 * cP I + 1) = f ∧ s' (28752 + 7 * cP I + 2) = nI st ∧ s' (28752 + 7 * cP I + 3) = -1 ∧ s' (28752 + 7 * cP I + 4) = -1 ∧ s' (28752 + 7 * cP I + 5) = -1 ∧ s' (28752 + 7 * cP I + 6) = I 27 st)
    (gk : s' (7528 + st) = nI ru)
    (gu : ∀ t, t < c → s' (10752 + 6 * (cU I + t)) = nI (pu_sl0 I (V (X t)) / 2) ∧ s' (10752 + 6 * (cU I + t) + 1) = nI (pu_sl0 I (V (X t)) % 2) ∧ s' (10752 + 6 * (cU I + t) + 2) = nI st ∧ s' (10752 + 6 * (cU I + t) + 3) = W (X t) ∧ s' (10752 + 6 * (cU I + t) + 4) = nI (cP I) ∧ s' (10752 + 6 * (cU I + t) + 5) = -1)
    (gc : ∀ t, t < c → s' (10752 + 6 * V (X t) + 5) = nI (cP I)) : pu_St J L s' := by
  obtain ⟨hw, hr⟩ := h
  have m1 : (-1 : Int32).toInt = -1 := by decide
  have bK := wx_bK hw
  have bT := wx_bT hw
  have bN := wx_bN hw
  have bF := wx_bF hw
  have bD := wx_bD hw
  have bU := wx_bU hw
  have tS := nl_n0 (a := st) (by omega)
  have cU' : ∀ t, t < c → V (X t) < cU I := fun t ht => (hV (X t) (hX t ht)).1
  have pp : pz_pp I J f (nI st) (-1) (-1) (-1) (I 27 st) := ⟨⟨F 6 0 (by omega) (by omega) (by omega) (by omega) (by omega) (by omega), F 6 1 (by omega) (by omega) (by omega) (by omega) (by omega) (by omega), v6.1⟩, fun x r1 r2 j hj => F x j (by omega) (by omega) (by omega) (by omega) (by omega) (by omega), v6.2⟩
  have cPJ := pz_cPJ pp hP
  have cUJ : cU J = cU I + c := pz_cc v14 (by omega)
  have X' : ∀ x j, (19 ≤ x ∧ x ≠ 27) → J x j = I x j := fun x j r => F x j (by omega) (by omega) (by omega) (by omega) (by omega) (by omega)
  have cDJ : cD J = cD I := by unfold cD; rw [X' 31 0 (by omega)]
  have cKJ : cK J = cK I := by unfold cK; rw [X' 25 1 (by omega)]
  have cTJ : cT J = cT I := by unfold cT; rw [X' 25 0 (by omega)]
  have cNJ : cN J = cN I := by unfold cN; rw [X' 19 0 (by omega)]
  have cFJ : cF J = cF I := by unfold cF; rw [X' 42 0 (by omega)]
  have U : ∀ x, 15 ≤ x → x ≤ 17 → ∀ k, k < cU I → J x k = I x k := fun x r1 r2 k hk => F x k (by omega) (by omega) (by omega) (by omega) (by omega) (by omega)
  have U8 : ∀ k, k < cU I → (∀ t, t < c → V (X t) ≠ k) → J 18 k = I 18 k := fun k hk no => F 18 k (by omega) (by omega) (by omega) (by omega) (fun z => by obtain ⟨_, t, t1, t2⟩ := z; exact no t t1 t2) (by omega)
  have CH : ∀ k, (∃ t, t < c ∧ V (X t) = k) ∨ ∀ t, t < c → V (X t) ≠ k := fun k => by
    by_cases z : ∃ t, t < c ∧ V (X t) = k
    · exact Or.inl z
    · exact Or.inr (fun t t1 t2 => z ⟨t, t1, t2⟩)
  have de : pz_de I J := ⟨fun x r1 r2 k hk => X' x k (by omega), fun k hk => Or.inl (X' 37 k (by omega)), fun k hk => Or.inl (X' 38 k (by omega)), by omega, fun k r1 r2 => by omega⟩
  have ue : pz_ue I J := ⟨fun x r1 r2 k hk => U x r1 (by omega) k hk, fun k hk => by
    rcases CH k with ⟨t, t1, t2⟩ | z
    · refine Or.inr ⟨?_, ?_⟩
      · rw [← t2]; exact (hV (X t) (hX t t1)).2.2
      · rw [← t2]; exact v18 t t1
    · exact Or.inl (U8 k hk z), by omega, fun k r1 r2 => by
    have := v15 (k - cU I) (by omega)
    rw [show cU I + (k - cU I) = k by omega] at this
    exact this.2.2, fun x r1 r2 k hk => X' x _ (by omega)⟩
  have S : ∀ k, k < cU I + c → k < cU I ∨ ∃ t, t < c ∧ k = cU I + t := fun k hk => by
    by_cases z : k < cU I
    · exact Or.inl z
    · exact Or.inr ⟨k - cU I, by omega, by omega⟩
  have sl2 : ∀ t, t < c → pu_sl0 I (V (X t)) < 200 := fun t ht => by have := (pu_sl_lt hw (cU' t ht)).1; omega
  have nsl : ∀ t, t < c → pu_sl0 J (cU I + t) = pu_sl0 I (V (X t)) := fun t ht => pz_cc (v15 t ht).1 (by have := sl2 t ht; omega)
  obtain ⟨c1, c2, c3, c4, c5⟩ := pz_uc_of hw
  -- an open span of J that is old
  have O : ∀ k, k < cU I → J 18 k = -1 → I 18 k = -1 ∧ ∀ t, t < c → V (X t) ≠ k := fun k hk e => by
    rcases CH k with ⟨t, t1, t2⟩ | z
    · rw [← t2, v18 t t1, nl_n1 _ (by omega)] at e
      exact e.elim
    · exact ⟨by rw [← U8 k hk z]; exact e, z⟩
  have OV : ∀ t, t < c → I 18 (V (X t)) = -1 := fun t ht => (hV (X t) (hX t ht)).2.2
  have OS : ∀ t, t < c → I 39 (pu_sl0 I (V (X t))) = nI st := fun t ht => (hV (X t) (hX t ht)).2.1
  have uc : pz_uc J := by
    unfold pz_uc
    rw [cUJ, cDJ]
    have C1 : ∀ k t, k < cU I → t < c → J 18 k = -1 → J 15 k = J 15 (cU I + t) → False := fun k t hk ht o e => by
      obtain ⟨o1, o2⟩ := O k hk o
      rw [U 15 (by omega) (by omega) k hk, (v15 t ht).1, ← (pu_sl_lt hw (cU' t ht)).2] at e
      exact o2 t ht (c1 k (V (X t)) hk (cU' t ht) o1 (OV t ht) e).symm
    have C1' : ∀ t u, t < c → u < c → J 15 (cU I + t) = J 15 (cU I + u) → t = u := fun t u ht hu e => by
      rw [(v15 t ht).1, (v15 u hu).1, ← (pu_sl_lt hw (cU' t ht)).2, ← (pu_sl_lt hw (cU' u hu)).2] at e
      have := c1 (V (X t)) (V (X u)) (cU' t ht) (cU' u hu) (OV t ht) (OV u hu) e
      exact iX t u ht hu (iV _ _ (hX t ht) (hX u hu) this)
    -- an old open span of the street has its place's number
    have OW : ∀ k, k < cU I → J 18 k = -1 → I 39 (pu_sl0 I k) = nI st → ∃ a, a < n ∧ V a = k ∧ I 16 k = W a := fun k hk o e => by
      obtain ⟨o1, o2⟩ := O k hk o
      obtain ⟨a, a1, a2⟩ := hV2 k ⟨hk, e, o1⟩
      refine ⟨a, a1, a2, ?_⟩
      rw [hX2 a a1 (fun t ht z => o2 t ht (by rw [z]; exact a2)), a2]
    have C2 : ∀ k t, k < cU I → t < c → J 18 k = -1 → J 39 (pu_sl0 J k) = J 39 (pu_sl0 J (cU I + t)) → J 16 k = J 16 (cU I + t) → J 16 k ≠ 0 → False := fun k t hk ht o e e2 e3 => by
      rw [pz_slJ ue hk, nsl t ht, X' 39 _ (by omega), X' 39 _ (by omega), OS t ht] at e
      rw [U 16 (by omega) (by omega) k hk] at e2 e3
      obtain ⟨a, a1, a2, a3⟩ := OW k hk o e
      rw [(v15 t ht).2.1] at e2
      rw [a3] at e2 e3
      have := iW a (X t) a1 (hX t ht) e2 e3
      exact (O k hk o).2 t ht (by rw [← this]; exact a2)
    have C3 : ∀ k t, k < cU I → t < c → J 18 k = -1 → J 39 (pu_sl0 J k) = J 39 (pu_sl0 J (cU I + t)) → J 40 (pu_sl0 J k) = J 40 (pu_sl0 J (cU I + t)) → J 41 (pu_sl0 J k) = J 41 (pu_sl0 J (cU I + t)) → False := fun k t hk ht o e e2 e3 => by
      rw [pz_slJ ue hk, nsl t ht, X' 39 _ (by omega), X' 39 _ (by omega)] at e
      rw [pz_slJ ue hk, nsl t ht, X' 40 _ (by omega), X' 40 _ (by omega)] at e2
      rw [pz_slJ ue hk, nsl t ht, X' 41 _ (by omega), X' 41 _ (by omega)] at e3
      obtain ⟨o1, o2⟩ := O k hk o
      exact o2 t ht (c3 k (V (X t)) hk (cU' t ht) o1 (OV t ht) e e2 e3).symm
    refine ⟨fun k l hk hl o1 o2 e => ?_, fun k l hk hl o1 o2 e e2 e3 => ?_, fun k l hk hl o1 o2 e e2 e3 => ?_, fun k hk o => ?_, fun d w hd2 e1 e2 e3 => ?_⟩
    · rcases S k hk with z | ⟨t, t1, t2⟩
      · rcases S l hl with y | ⟨u, u1, u2⟩
        · rw [U 15 (by omega) (by omega) k z, U 15 (by omega) (by omega) l y] at e
          exact c1 k l z y (O k z o1).1 (O l y o2).1 e
        · rw [u2] at e
          exact (C1 k u z u1 o1 e).elim
      · rcases S l hl with y | ⟨u, u1, u2⟩
        · rw [t2] at e
          exact (C1 l t y t1 o2 e.symm).elim
        · rw [t2, u2] at e
          rw [t2, u2, C1' t u t1 u1 e]
    · rcases S k hk with z | ⟨t, t1, t2⟩
      · rcases S l hl with y | ⟨u, u1, u2⟩
        · rw [pz_slJ ue z, pz_slJ ue y, X' 39 _ (by omega), X' 39 _ (by omega)] at e
          rw [U 16 (by omega) (by omega) k z] at e2 e3
          rw [U 16 (by omega) (by omega) l y] at e2
          exact c2 k l z y (O k z o1).1 (O l y o2).1 e e2 e3
        · rw [u2] at e e2
          exact (C2 k u z u1 o1 e e2 e3).elim
      · rcases S l hl with y | ⟨u, u1, u2⟩
        · rw [t2] at e e2 e3
          exact (C2 l t y t1 o2 e.symm e2.symm (by rw [← e2]; exact e3)).elim
        · rw [t2, u2] at e2
          rw [t2] at e3
          rw [(v15 t t1).2.1, (v15 u u1).2.1] at e2
          rw [(v15 t t1).2.1] at e3
          have := iW (X t) (X u) (hX t t1) (hX u u1) e2 e3
          rw [t2, u2, iX t u t1 u1 this]
    · rcases S k hk with z | ⟨t, t1, t2⟩
      · rcases S l hl with y | ⟨u, u1, u2⟩
        · rw [pz_slJ ue z, pz_slJ ue y, X' 39 _ (by omega), X' 39 _ (by omega)] at e
          rw [pz_slJ ue z, pz_slJ ue y, X' 40 _ (by omega), X' 40 _ (by omega)] at e2
          rw [pz_slJ ue z, pz_slJ ue y, X' 41 _ (by omega), X' 41 _ (by omega)] at e3
          exact c3 k l z y (O k z o1).1 (O l y o2).1 e e2 e3
        · rw [u2] at e e2 e3
          exact (C3 k u z u1 o1 e e2 e3).elim
      · rcases S l hl with y | ⟨u, u1, u2⟩
        · rw [t2] at e e2 e3
          exact (C3 l t y t1 o2 e.symm e2.symm e3.symm).elim
        · rw [t2, u2, nsl t t1, nsl u u1, X' 39 _ (by omega), X' 39 _ (by omega)] at e
          rw [t2, u2, nsl t t1, nsl u u1, X' 40 _ (by omega), X' 40 _ (by omega)] at e2
          rw [t2, u2, nsl t t1, nsl u u1, X' 41 _ (by omega), X' 41 _ (by omega)] at e3
          have := c3 (V (X t)) (V (X u)) (cU' t t1) (cU' u u1) (OV t t1) (OV u u1) e e2 e3
          rw [t2, u2, iX t u t1 u1 (iV _ _ (hX t t1) (hX u u1) this)]
    · rcases S k hk with z | ⟨t, t1, t2⟩
      · rw [pz_slJ ue z, X' 37 _ (by omega), X' 32 _ (by omega), X' 38 _ (by omega)]
        exact c4 k z (O k z o).1
      · rw [t2, nsl t t1, X' 37 _ (by omega), X' 32 _ (by omega), X' 38 _ (by omega)]
        exact c4 (V (X t)) (cU' t t1) (OV t t1)
    · rw [X' 32 _ (by omega)] at e1
      rw [X' 37 _ (by omega)] at e2
      rw [X' 38 _ (by omega)] at e3
      obtain ⟨k, k1, k2, k3⟩ := c5 d w hd2 e1 e2 e3
      rcases CH k with ⟨t, t1, t2⟩ | z
      · refine ⟨cU I + t, by omega, (v15 t t1).2.2.2, ?_⟩
        rw [(v15 t t1).1, ← (pu_sl_lt hw (cU' t t1)).2, t2]
        exact k3
      · exact ⟨k, by omega, by rw [U8 k k1 z]; exact k2, by rw [U 15 (by omega) (by omega) k k1]; exact k3⟩
  have wp : w_p J := wp_ext pp hw hP hf cTJ (by omega) (by omega) (by omega) (by omega) (by omega) ⟨by have := (wx_kr hw st hst).1; omega, (wx_kr hw st hst).2, fun _ => by omega⟩ (fun k p r1 r2 r3 r4 => by
    rcases r4 with z | z
    · rw [← z] at r3
      exact hy p r2 r3
    · exact absurd z.symm r1) (Or.inl rfl)
  have wu : w_u J := wu_ext pp hw hP de ue (by omega) (fun k r1 r2 => by
    obtain ⟨t, t1, t2⟩ : ∃ t, t < c ∧ k = cU I + t := ⟨k - cU I, by omega, by omega⟩
    have q := v15 t t1
    have sl := sl2 t t1
    have ll := (pu_sl_lt hw (cU' t t1)).1
    have tsl := nl_n0 (a := pu_sl0 I (V (X t))) (by omega)
    have w := hW (X t) (hX t t1)
    rw [t2, nsl t t1, q.1, q.2.1, X' 39 _ (by omega), OS t t1]
    exact ⟨by omega, by omega, w.1, ⟨w.2.1, w.2.2⟩, by omega, by omega, Or.inl rfl⟩) (fun k hk e1 e2 => by
    rcases CH k with ⟨t, t1, t2⟩ | z
    · rw [← t2, OS t t1]
      exact Or.inl rfl
    · rw [U8 k hk z, e1, nl_n2 _ (by omega)] at e2
      exact e2.elim) uc
  have wn : w_n J L := wn_same pp hw hP cTJ cKJ cNJ (fun x r1 r2 k hk => X' x k (by omega)) (fun j _ => rfl) (fun k hk => X' 28 k (by omega))
  have wk : w_k J L := wk_same pp hw hP cTJ cKJ (fun j _ => rfl) (fun k hk => X' 28 k (by omega)) (fun k hk => by
    by_cases z : k = st
    · have := nl_n0 (a := ru) (by omega)
      rw [z, v27, this]
      omega
    · rw [F 27 k (by omega) (by omega) (by omega) (by omega) (by omega) (by omega)]; exact wx_kr hw k hk) (fun k hk => X' 29 k (by omega)) (fun k hk => X' 30 k (by omega))
  have wd : w_d J := wd_same pp hw hP cDJ (by omega) (fun x r1 r2 k hk => X' x k (by omega)) (fun x r1 r2 k hk => X' x k (by omega))
  have GG : ∀ j, j < 5 ∨ (7 ≤ j ∧ j < 7528) ∨ (7552 ≤ j ∧ j < 10752) ∨ (28752 ≤ j ∧ j < 28752 + 7 * cP I) ∨ 30152 ≤ j → s' j = s j := fun j hj => G j (by omega) (by omega) (by omega) (by omega) (fun t ht => by have := cU' t ht; omega)
  have Gu : ∀ k i, k < cU I → i < 5 → s' (10752 + 6 * k + i) = s (10752 + 6 * k + i) := fun k i hk hi => G _ (by omega) (by omega) (by omega) (by omega) (fun t ht => by omega)
  have Gu5 : ∀ k, k < cU I → (∀ t, t < c → V (X t) ≠ k) → s' (10752 + 6 * k + 5) = s (10752 + 6 * k + 5) := fun k hk no => G _ (by omega) (by omega) (by omega) (by omega) (fun t ht z => no t ht (by omega))
  refine St_join ⟨by rw [cPJ]; exact v6.1, by rw [cUJ]; exact v14, ?_, ?_, ?_, ?_, ?_⟩ ⟨by omega, by omega, by omega, by omega, by omega, by omega, by omega⟩ hw (fun x j r1 r2 => X' x j (by omega)) cFJ (fun j _ => ⟨rfl, rfl⟩) wp wu wn wk wd pp.1.1 pp.1.2.1 hr (fun j hj => GG j (by omega)) ⟨?_, ?_, ?_, by rw [cPJ]; exact g4.1, by rw [cUJ]; exact g4.2, ?_⟩ (rp_ext pp hP (rg_p hr) (fun j r1 r2 => GG j (by omega)) gp.1 gp.2.1 gp.2.2.1 gp.2.2.2.1 gp.2.2.2.2.1 gp.2.2.2.2.2.1 gp.2.2.2.2.2.2) ?_ ?_ (rt_np pp hP cTJ bT (fun j _ => rfl) (rg_t hr) (fun j r1 r2 => GG j (by omega)) (fun j r1 r2 => GG j (by omega))) ?_ ?_ (fun j r1 r2 => GG j (by omega)) (fun j r1 r2 => GG j (by omega))
  · rw [cNJ, X' 19 0 (by omega)]; exact wx_cN hw
  · rw [cTJ, X' 25 0 (by omega)]; exact wx_cT hw
  · rw [cKJ, X' 25 1 (by omega)]; exact wx_cK hw
  · rw [cDJ, X' 31 0 (by omega)]; exact wx_cD hw
  · rw [cFJ, X' 42 0 (by omega)]; exact wx_cF hw
  · rw [cTJ, GG 2 (by omega)]; exact rl_h2 hr
  · rw [cKJ, GG 3 (by omega)]; exact rl_h3 hr
  · rw [cDJ, GG 4 (by omega)]; exact rl_h4 hr
  · rw [cNJ, GG 7 (by omega)]; exact rl_h7 hr
  · unfold rl_u
    rw [cUJ]
    refine ⟨fun k hk => ?_, fun k hk => ?_, fun k hk => ?_, fun k hk => ?_, fun k hk => ?_, fun k hk => ?_⟩
    · rcases S k hk with z | ⟨t, t1, t2⟩
      · rw [U 15 (by omega) (by omega) k z, show 10752 + 6 * k = 10752 + 6 * k + 0 from rfl, Gu k 0 z (by omega)]; exact rl_u0 hr k z
      · have := sl2 t t1
        rw [t2, (v15 t t1).1, nl_cl _ (by omega)]; exact (gu t t1).1
    · rcases S k hk with z | ⟨t, t1, t2⟩
      · rw [U 15 (by omega) (by omega) k z, Gu k 1 z (by omega)]; exact rl_u1 hr k z
      · have := sl2 t t1
        rw [t2, (v15 t t1).1, nl_cl _ (by omega)]; exact (gu t t1).2.1
    · rcases S k hk with z | ⟨t, t1, t2⟩
      · rw [U 15 (by omega) (by omega) k z, Gu k 2 z (by omega), X' 39 _ (by omega)]; exact rl_u2 hr k z
      · have := sl2 t t1
        rw [t2, (v15 t t1).1, nl_cl _ (by omega), X' 39 _ (by omega), OS t t1]; exact (gu t t1).2.2.1
    · rcases S k hk with z | ⟨t, t1, t2⟩
      · rw [U 16 (by omega) (by omega) k z, Gu k 3 z (by omega)]; exact rl_u3 hr k z
      · rw [t2, (v15 t t1).2.1]; exact (gu t t1).2.2.2.1
    · rcases S k hk with z | ⟨t, t1, t2⟩
      · rw [U 17 (by omega) (by omega) k z, Gu k 4 z (by omega)]; exact rl_u4 hr k z
      · rw [t2, (v15 t t1).2.2.1]; exact (gu t t1).2.2.2.2.1
    · rcases S k hk with z | ⟨t, t1, t2⟩
      · rcases CH k with ⟨t, t1, t2⟩ | y
        · rw [← t2, v18 t t1]; exact gc t t1
        · rw [U8 k z y, Gu5 k z y]; exact rl_u5 hr k z
      · rw [t2, (v15 t t1).2.2.2]; exact (gu t t1).2.2.2.2.2
  · exact rn_same cNJ (fun x r1 r2 k hk => X' x k (by omega)) (fun j _ => rfl) (rf_n (rg_n hr) ⟨bN, by omega⟩ (fun j r1 r2 => GG j (by omega)) (fun j r1 r2 => GG j (by omega)))
  · unfold rl_k
    rw [cKJ, show J 29 = I 29 from funext (fun j => X' 29 j (by omega)), show J 30 = I 30 from funext (fun j => X' 30 j (by omega))]
    refine ⟨fun k hk => ?_, fun k hk => ?_, fun k i hk hi hh => ?_⟩
    · by_cases z : k = st
      · rw [z, v27]; exact gk
      · rw [F 27 k (by omega) (by omega) (by omega) (by omega) (by omega) (by omega), G _ (by omega) (by omega) (by omega) (by omega) (fun t ht => by omega)]
        exact rl_k0 hr k hk
    · rw [GG _ (by omega)]; exact rl_k1 hr k hk
    · rw [GG _ (by omega)]; exact rl_k2 hr k i hk hi hh
  · exact rd_same cDJ (fun x _ _ k _ => X' x k (by omega)) (fun x _ _ k _ => X' x k (by omega)) (rf_d (rg_d hr) bD (fun j _ _ => GG j (by omega)))
end
