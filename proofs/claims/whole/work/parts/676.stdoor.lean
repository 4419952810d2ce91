/-! a door more -/
section
variable {I J : Nat → Nat → Int32} {L : Nat → Nat → Int64} {s s' : Nat → Int32} {f : Int32}
theorem pz_cc {x : Int32} {n : Nat} (h : x = nI n) (hn : n < 2147483648) : x.toNatClampNeg = n := by
  rw [h]
  exact nl_cl n hn
theorem St_door (h : pu_St I L s) (hP : cP I < 200) (hD : cD I < 100) (hU : cU I < 3000) {st sd pc v : Nat} (hst : st < cK I) (hsd : sd < 2) (hpc : pc < 10000) (hv : v < 160000 ∧ 16 ≤ v) (hf : 0 ≤ f.toInt ∧ f.toInt ≤ 109574) (hy : ∀ p, p < cP I → pu_tc I p (nI st) → (I 7 p).toInt ≤ f.toInt) (hus : ¬ pz_us I st (nI v) 0) (hoc : ¬ pz_oc I st (nI sd) (nI pc) 0)
    (F : ∀ x j, ¬ (x = 6 ∧ j = 2) → ¬ (7 ≤ x ∧ x ≤ 13 ∧ j = cP I) → ¬ (x = 14 ∧ j = 0) → ¬ (15 ≤ x ∧ x ≤ 18 ∧ j = cU I) → ¬ (x = 31 ∧ j = 0) → ¬ (32 ≤ x ∧ x ≤ 38 ∧ j = cD I) → ¬ (39 ≤ x ∧ x ≤ 41 ∧ (j = 2 * cD I ∨ j = 2 * cD I + 1)) → J x j = I x j)
    (v6 : J 6 2 = nI (cP I + 1) ∧ J 7 (cP I) = f ∧ J 8 (cP I) = I 6 0 ∧ J 9 (cP I) = nI st ∧ J 10 (cP I) = -1 ∧ J 11 (cP I) = -1 ∧ J 12 (cP I) = -1 ∧ J 13 (cP I) = -1)
    (v14 : J 14 0 = nI (cU I + 1) ∧ J 15 (cU I) = nI (2 * cD I) ∧ J 16 (cU I) = nI v ∧ J 17 (cU I) = nI (cP I) ∧ J 18 (cU I) = -1)
    (v31 : J 31 0 = nI (cD I + 1) ∧ J 32 (cD I) = 0 ∧ J 33 (cD I) = -1 ∧ J 34 (cD I) = nI (cD I) ∧ J 35 (cD I) = 0 ∧ J 36 (cD I) = nI (cP I) ∧ J 37 (cD I) = -1 ∧ J 38 (cD I) = -1)
    (v39 : J 39 (2 * cD I) = nI st ∧ J 40 (2 * cD I) = nI sd ∧ J 41 (2 * cD I) = nI pc ∧ J 39 (2 * cD I + 1) = -1 ∧ J 40 (2 * cD I + 1) = -1 ∧ J 41 (2 * cD I + 1) = -1)
    (G : ∀ j, ¬ (4 ≤ j ∧ j ≤ 6) → ¬ (28752 + 7 * cP I ≤ j ∧ j < 28752 + 7 * cP I + 7) → ¬ (9552 + 12 * cD I ≤ j ∧ j < 9552 + 12 * cD I + 12) → ¬ (10752 + 6 * cU I ≤ j ∧ j < 10752 + 6 * cU I + 6) → s' j = s j)
    (g4 : s' 4 = nI (cD I + 1) ∧ s' 5 = nI (cP I + 1) ∧ s' 6 = nI (cU I + 1))
    (gp : s' (28752 + 7 * cP I) = I 6 0 ∧ s' (28752 + 7 * cP I + 1) = f ∧ s' (28752 + 7 * cP I + 2) = nI st ∧ s' (28752 + 7 * cP I + 3) = -1 ∧ s' (28752 + 7 * cP I + 4) = -1 ∧ s' (28752 + 7 * cP I + 5) = -1 ∧ s' (28752 + 7 * cP I + 6) = -1)
    (gd : s' (9552 + 12 * cD I) = 0 ∧ s' (9552 + 12 * cD I + 1) = nI st ∧ s' (9552 + 12 * cD I + 2) = nI sd ∧ s' (9552 + 12 * cD I + 3) = nI pc ∧ s' (9552 + 12 * cD I + 4) = -1 ∧ s' (9552 + 12 * cD I + 5) = -1 ∧ s' (9552 + 12 * cD I + 6) = -1 ∧ s' (9552 + 12 * cD I + 7) = 0 ∧ s' (9552 + 12 * cD I + 8) = -1 ∧ s' (9552 + 12 * cD I + 9) = nI (cP I) ∧ s' (9552 + 12 * cD I + 10) = -1 ∧ s' (9552 + 12 * cD I + 11) = -1)
    (gu : s' (10752 + 6 * cU I) = nI (cD I) ∧ s' (10752 + 6 * cU I + 1) = nI 0 ∧ s' (10752 + 6 * cU I + 2) = nI st ∧ s' (10752 + 6 * cU I + 3) = nI v ∧ s' (10752 + 6 * cU I + 4) = nI (cP I) ∧ s' (10752 + 6 * cU I + 5) = -1) : pu_St J L s' := by
  obtain ⟨hw, hr⟩ := h
  have m1 : (-1 : Int32).toInt = -1 := by decide
  have bK := wx_bK hw
  have tS := nl_n0 (a := st) (by omega)
  have tD := nl_n0 (a := sd) (by omega)
  have tC := nl_n0 (a := pc) (by omega)
  have tV := nl_n0 (a := v) (by omega)
  have bT := wx_bT hw
  have bN := wx_bN hw
  have bF := wx_bF hw
  have t2 := nl_n0 (a := 2 * cD I) (by omega)
  have pp : pz_pp I J f (nI st) (-1) (-1) (-1) (-1) := ⟨⟨F 6 0 (by omega) (by omega) (by omega) (by omega) (by omega) (by omega) (by omega), F 6 1 (by omega) (by omega) (by omega) (by omega) (by omega) (by omega) (by omega), v6.1⟩, fun x r1 r2 j hj => F x j (by omega) (by omega) (by omega) (by omega) (by omega) (by omega) (by omega), v6.2⟩
  have cPJ := pz_cPJ pp hP
  have cUJ : cU J = cU I + 1 := pz_cc v14.1 (by omega)
  have cDJ : cD J = cD I + 1 := pz_cc v31.1 (by omega)
  have cKJ : cK J = cK I := by
    unfold cK
    rw [F 25 1 (by omega) (by omega) (by omega) (by omega) (by omega) (by omega) (by omega)]
  have cTJ : cT J = cT I := by
    unfold cT
    rw [F 25 0 (by omega) (by omega) (by omega) (by omega) (by omega) (by omega) (by omega)]
  have cNJ : cN J = cN I := by
    unfold cN
    rw [F 19 0 (by omega) (by omega) (by omega) (by omega) (by omega) (by omega) (by omega)]
  have cFJ : cF J = cF I := by
    unfold cF
    rw [F 42 0 (by omega) (by omega) (by omega) (by omega) (by omega) (by omega) (by omega)]
  have s2 : ∀ k, k < cU I → pu_sl0 I k < 2 * cD I := fun k hk => (pu_sl_lt hw hk).1
  have U : ∀ x, 15 ≤ x → x ≤ 18 → ∀ k, k < cU I → J x k = I x k := fun x r1 r2 k hk => F x k (by omega) (by omega) (by omega) (by omega) (by omega) (by omega) (by omega)
  have D : ∀ x, 32 ≤ x → x ≤ 38 → ∀ k, k < cD I → J x k = I x k := fun x r1 r2 k hk => F x k (by omega) (by omega) (by omega) (by omega) (by omega) (by omega) (by omega)
  have E : ∀ x, 39 ≤ x → x ≤ 41 → ∀ j, j < 2 * cD I → J x j = I x j := fun x r1 r2 k hk => F x k (by omega) (by omega) (by omega) (by omega) (by omega) (by omega) (by omega)
  have X : ∀ x j, (19 ≤ x ∧ x ≤ 30) ∨ 42 ≤ x → J x j = I x j := fun x j r => F x j (by omega) (by omega) (by omega) (by omega) (by omega) (by omega) (by omega)
  have de : pz_de I J := ⟨fun x r1 r2 d hd => D x r1 (by omega) d hd, fun d hd => Or.inl (D 37 (by omega) (by omega) d hd), fun d hd => Or.inl (D 38 (by omega) (by omega) d hd), by omega, fun d r1 r2 => by
    rw [show d = cD I by omega]
    exact ⟨v31.2.2.2.2.2.1, v31.2.2.2.2.2.2.1, v31.2.2.2.2.2.2.2⟩⟩
  have ue : pz_ue I J := ⟨fun x r1 r2 k hk => U x r1 (by omega) k hk, fun k hk => Or.inl (U 18 (by omega) (by omega) k hk), by omega, fun k r1 r2 => by
    rw [show k = cU I by omega]
    exact ⟨v14.2.2.2.1, v14.2.2.2.2⟩, fun x r1 r2 k hk => E x r1 r2 _ (s2 k hk)⟩
  have nsl : pu_sl0 J (cU I) = 2 * cD I := pz_cc v14.2.1 (by omega)
  obtain ⟨c1, c2, c3, c4, c5⟩ := pz_uc_of hw
  have O : ∀ k, k < cU I → J 18 k = -1 → I 18 k = -1 := fun k hk e => by rw [U 18 (by omega) (by omega) k hk] at e; exact e
  have S : ∀ k, k < cU I + 1 → k < cU I ∨ k = cU I := fun k hk => by omega
  have no1 : ∀ k, k < cU I → J 15 k ≠ J 15 (cU I) := fun k hk e => by
    rw [U 15 (by omega) (by omega) k hk, v14.2.1, (pu_sl_lt hw hk).2, nI_eq (by have := s2 k hk; omega) (by omega)] at e
    have := s2 k hk
    omega
  have no2 : ∀ k, k < cU I → J 18 k = -1 → J 39 (pu_sl0 J k) = J 39 (pu_sl0 J (cU I)) → J 16 k ≠ J 16 (cU I) := fun k hk o e e2 => by
    rw [pz_slJ ue hk, E 39 (by omega) (by omega) _ (s2 k hk), nsl, v39.1] at e
    rw [U 16 (by omega) (by omega) k hk, v14.2.2.1] at e2
    exact hus ⟨k, hk, e, O k hk o, e2, by omega⟩
  have no3 : ∀ k, k < cU I → J 18 k = -1 → J 39 (pu_sl0 J k) = J 39 (pu_sl0 J (cU I)) → J 40 (pu_sl0 J k) = J 40 (pu_sl0 J (cU I)) → J 41 (pu_sl0 J k) ≠ J 41 (pu_sl0 J (cU I)) := fun k hk o e e2 e3 => by
    rw [pz_slJ ue hk, nsl] at e e2 e3
    rw [E 39 (by omega) (by omega) _ (s2 k hk), v39.1] at e
    rw [E 40 (by omega) (by omega) _ (s2 k hk), v39.2.1] at e2
    rw [E 41 (by omega) (by omega) _ (s2 k hk), v39.2.2.1] at e3
    exact hoc ⟨k, hk, e, O k hk o, e2, e3, by omega⟩
  have uc : pz_uc J := by
    unfold pz_uc
    rw [cUJ, cDJ]
    refine ⟨fun k l hk hl o1 o2 e => ?_, fun k l hk hl o1 o2 e e2 e3 => ?_, fun k l hk hl o1 o2 e e2 e3 => ?_, fun k hk o => ?_, fun d w hd2 e1 e2 e3 => ?_⟩
    · rcases S k hk with z | z
      · rcases S l hl with y | y
        · rw [U 15 (by omega) (by omega) k z, U 15 (by omega) (by omega) l y] at e
          exact c1 k l z y (O k z o1) (O l y o2) e
        · subst y
          exact absurd e (no1 k z)
      · rcases S l hl with y | y
        · subst z
          exact absurd e.symm (no1 l y)
        · omega
    · rcases S k hk with z | z
      · rcases S l hl with y | y
        · rw [pz_slJ ue z, pz_slJ ue y, E 39 (by omega) (by omega) _ (s2 k z), E 39 (by omega) (by omega) _ (s2 l y)] at e
          rw [U 16 (by omega) (by omega) k z] at e2 e3
          rw [U 16 (by omega) (by omega) l y] at e2
          exact c2 k l z y (O k z o1) (O l y o2) e e2 e3
        · subst y
          exact absurd e2 (no2 k z o1 e)
      · rcases S l hl with y | y
        · subst z
          exact absurd e2.symm (no2 l y o2 e.symm)
        · omega
    · rcases S k hk with z | z
      · rcases S l hl with y | y
        · rw [pz_slJ ue z, pz_slJ ue y] at e e2 e3
          rw [E 39 (by omega) (by omega) _ (s2 k z), E 39 (by omega) (by omega) _ (s2 l y)] at e
          rw [E 40 (by omega) (by omega) _ (s2 k z), E 40 (by omega) (by omega) _ (s2 l y)] at e2
          rw [E 41 (by omega) (by omega) _ (s2 k z), E 41 (by omega) (by omega) _ (s2 l y)] at e3
          exact c3 k l z y (O k z o1) (O l y o2) e e2 e3
        · subst y
          exact absurd e3 (no3 k z o1 e e2)
      · rcases S l hl with y | y
        · subst z
          exact absurd e3.symm (no3 l y o2 e.symm e2.symm)
        · omega
    · rcases S k hk with z | z
      · have y := c4 k z (O k z o)
        have s3 := s2 k z
        rw [pz_slJ ue z, D 37 (by omega) (by omega) _ (by omega), D 38 (by omega) (by omega) _ (by omega), D 32 (by omega) (by omega) _ (by omega)]
        exact y
      · subst z
        rw [nsl, show 2 * cD I / 2 = cD I by omega]
        exact ⟨v31.2.2.2.2.2.2.1, v31.2.1, fun z => by omega⟩
    · by_cases z : d < cD I
      · rw [D 32 (by omega) (by omega) d z] at e1
        rw [D 37 (by omega) (by omega) d z] at e2
        rw [D 38 (by omega) (by omega) d z] at e3
        obtain ⟨k, k1, k2, k3⟩ := c5 d w z e1 e2 e3
        exact ⟨k, by omega, by rw [U 18 (by omega) (by omega) k k1]; exact k2, by rw [U 15 (by omega) (by omega) k k1]; exact k3⟩
      · have dd : d = cD I := by omega
        subst dd
        refine ⟨cU I, by omega, v14.2.2.2.2, ?_⟩
        rcases e3 with y | ⟨_, y⟩
        · rw [y]
          exact v14.2.1
        · exact absurd v31.2.2.2.2.2.2.2 y
  have hn39 : ∀ k, cU I ≤ k → k < cU J → k = cU I := fun k r1 r2 => by omega
  have wp : w_p J := wp_ext pp hw hP hf cTJ (by omega) (by omega) (by omega) (by omega) (by omega) ⟨by omega, by omega, fun z => absurd rfl z⟩ (fun k p r1 r2 r3 r4 => by
    rcases r4 with z | z
    · rw [← z] at r3
      exact hy p r2 r3
    · exact absurd z.symm r1) (Or.inl rfl)
  have wu : w_u J := wu_ext pp hw hP de ue (by omega) (fun k r1 r2 => by
    rw [hn39 k r1 r2, nsl, v14.2.1, v14.2.2.1, v39.1]
    exact ⟨by omega, by omega, by omega, ⟨by omega, by omega⟩, by omega, by omega, Or.inl rfl⟩) (fun k hk e1 e2 => by
    rw [U 18 (by omega) (by omega) k hk, e1, nl_n2 _ (by omega)] at e2
    exact e2.elim) uc
  have wn : w_n J L := wn_same pp hw hP cTJ cKJ cNJ (fun x r1 r2 k hk => X x k (by omega)) (fun j _ => rfl) (fun k hk => X 28 k (by omega))
  have wk : w_k J L := wk_same pp hw hP cTJ cKJ (fun j _ => rfl) (fun k hk => X 28 k (by omega)) (fun k hk => by rw [X 27 k (by omega)]; exact wx_kr hw k hk) (fun k hk => X 29 k (by omega)) (fun k hk => X 30 k (by omega))
  have wd : w_d J := by
    refine wd_ext pp hw hP de (by omega) (by omega) (fun x r1 r2 d hd => E x r1 r2 _ (by omega)) (fun x r1 r2 d hd _ => E x r1 r2 _ (by omega)) (fun d hd e1 e2 => ?_) (fun d hd e1 e2 => ?_) (fun d r1 r2 => ?_) (fun d hd e => ?_)
    · rw [D 37 (by omega) (by omega) d hd, e1, nl_n2 _ (by omega)] at e2
      exact e2.elim
    · rw [D 38 (by omega) (by omega) d hd, e1, nl_n2 _ (by omega)] at e2
      exact e2.elim
    · rw [show d = cD I by omega, v31.2.1, v31.2.2.1, v31.2.2.2.1, v31.2.2.2.2.1, v39.1, v39.2.1, v39.2.2.1]
      exact ⟨v39.2.2.2, Or.inl ⟨rfl, rfl, rfl, rfl, by omega, by omega, by omega, by omega, by omega, by omega, Or.inl rfl⟩⟩
    · by_cases z : d < cD I
      · rw [D 37 (by omega) (by omega) d z] at e
        have y := pz_dcur hw z e
        have x := wx_df hw d z
        have v := pu_on (x := I 34 d) (n := d + 1) ⟨x.1, by omega⟩
        rw [D 32 (by omega) (by omega) d z, D 33 (by omega) (by omega) d z, D 34 (by omega) (by omega) d z, D 37 (by omega) (by omega) _ (show (I 34 d).toNatClampNeg < cD I by omega)]
        refine ⟨fun z2 => ?_, y.2⟩
        have x2 := wx_d2 hw d z z2
        have v2 := pu_on (x := I 33 d) (n := d) ⟨x2.1, x2.2.1⟩
        rw [D 37 (by omega) (by omega) _ (show (I 33 d).toNatClampNeg < cD I by omega)]
        exact y.1 z2
      · have dd : d = cD I := by omega
        subst dd
        rw [v31.2.2.2.1, nl_cl _ (by omega)]
        exact ⟨fun z2 => absurd v31.2.1 z2, e⟩
  have Gu : ∀ k i, k < cU I → i < 6 → s' (10752 + 6 * k + i) = s (10752 + 6 * k + i) := fun k i hk hi => G _ (by omega) (by omega) (by omega) (by omega)
  have Gd : ∀ k i, k < cD I → i < 12 → s' (9552 + 12 * k + i) = s (9552 + 12 * k + i) := fun k i hk hi => G _ (by omega) (by omega) (by omega) (by omega)
  refine St_join ⟨by rw [cPJ]; exact v6.1, by rw [cUJ]; exact v14.1, ?_, ?_, ?_, by rw [cDJ]; exact v31.1, ?_⟩ ⟨by omega, by omega, by omega, by omega, by omega, by omega, by omega⟩ hw (fun x j r1 r2 => X x j (by omega)) cFJ (fun j _ => ⟨rfl, rfl⟩) wp wu wn wk wd pp.1.1 pp.1.2.1 hr (fun j hj => G j (by omega) (by omega) (by omega) (by omega)) ⟨?_, ?_, by rw [cDJ]; exact g4.1, by rw [cPJ]; exact g4.2.1, by rw [cUJ]; exact g4.2.2, ?_⟩ (rp_ext pp hP (rg_p hr) (fun j r1 r2 => G j (by omega) (by omega) (by omega) (by omega)) gp.1 gp.2.1 gp.2.2.1 gp.2.2.2.1 gp.2.2.2.2.1 gp.2.2.2.2.2.1 gp.2.2.2.2.2.2) ?_ ?_ (rt_np pp hP cTJ bT (fun j _ => rfl) (rg_t hr) (fun j r1 r2 => G j (by omega) (by omega) (by omega) (by omega)) (fun j r1 r2 => G j (by omega) (by omega) (by omega) (by omega))) ?_ ?_ (fun j r1 r2 => G j (by omega) (by omega) (by omega) (by omega)) (fun j r1 r2 => G j (by omega) (by omega) (by omega) (by omega))
  · rw [cNJ, X 19 0 (by omega)]; exact wx_cN hw
  · rw [cTJ, X 25 0 (by omega)]; exact wx_cT hw
  · rw [cKJ, X 25 1 (by omega)]; exact wx_cK hw
  · rw [cFJ, X 42 0 (by omega)]; exact wx_cF hw
  · rw [cTJ, G 2 (by omega) (by omega) (by omega) (by omega)]; exact rl_h2 hr
  · rw [cKJ, G 3 (by omega) (by omega) (by omega) (by omega)]; exact rl_h3 hr
  · rw [cNJ, G 7 (by omega) (by omega) (by omega) (by omega)]; exact rl_h7 hr
  · unfold rl_u
    rw [cUJ]
    refine ⟨fun k hk => ?_, fun k hk => ?_, fun k hk => ?_, fun k hk => ?_, fun k hk => ?_, fun k hk => ?_⟩
    · rcases S k hk with z | z
      · rw [U 15 (by omega) (by omega) k z, show 10752 + 6 * k = 10752 + 6 * k + 0 from rfl, Gu k 0 z (by omega)]; exact rl_u0 hr k z
      · rw [z, v14.2.1, nl_cl _ (by omega), show 2 * cD I / 2 = cD I by omega]; exact gu.1
    · rcases S k hk with z | z
      · rw [U 15 (by omega) (by omega) k z, Gu k 1 z (by omega)]; exact rl_u1 hr k z
      · rw [z, v14.2.1, nl_cl _ (by omega), show 2 * cD I % 2 = 0 by omega]; exact gu.2.1
    · rcases S k hk with z | z
      · rw [U 15 (by omega) (by omega) k z, Gu k 2 z (by omega), E 39 (by omega) (by omega) (I 15 k).toNatClampNeg (s2 k z)]; exact rl_u2 hr k z
      · rw [z, v14.2.1, nl_cl _ (by omega), v39.1]; exact gu.2.2.1
    · rcases S k hk with z | z
      · rw [U 16 (by omega) (by omega) k z, Gu k 3 z (by omega)]; exact rl_u3 hr k z
      · rw [z, v14.2.2.1]; exact gu.2.2.2.1
    · rcases S k hk with z | z
      · rw [U 17 (by omega) (by omega) k z, Gu k 4 z (by omega)]; exact rl_u4 hr k z
      · rw [z, v14.2.2.2.1]; exact gu.2.2.2.2.1
    · rcases S k hk with z | z
      · rw [U 18 (by omega) (by omega) k z, Gu k 5 z (by omega)]; exact rl_u5 hr k z
      · rw [z, v14.2.2.2.2]; exact gu.2.2.2.2.2
  · exact rn_same cNJ (fun x r1 r2 k hk => X x k (by omega)) (fun j _ => rfl) (rf_n (rg_n hr) ⟨bN, by omega⟩ (fun j r1 r2 => G j (by omega) (by omega) (by omega) (by omega)) (fun j r1 r2 => G j (by omega) (by omega) (by omega) (by omega)))
  · have T := rf_k (rg_k hr) bK (s' := s') (fun j r1 r2 => G j (by omega) (by omega) (by omega) (by omega)) (fun j r1 r2 => G j (by omega) (by omega) (by omega) (by omega))
    unfold rl_k
    rw [cKJ, show J 27 = I 27 from funext (fun j => X 27 j (by omega)), show J 29 = I 29 from funext (fun j => X 29 j (by omega)), show J 30 = I 30 from funext (fun j => X 30 j (by omega))]
    exact T
  · have Sd : ∀ k, k < cD I + 1 → k < cD I ∨ k = cD I := fun k hk => by omega
    unfold rl_d
    rw [cDJ]
    refine ⟨fun k hk => ?_, fun k hk => ?_, fun k hk => ?_, fun k hk => ?_, fun k hk => ?_, fun k hk => ?_, fun k hk => ?_, fun k hk => ?_, fun k hk => ?_, fun k hk => ?_, fun k hk => ?_, fun k hk => ?_⟩
    · rcases Sd k hk with z | z
      · rw [D 38 (by omega) (by omega) k z, D 32 (by omega) (by omega) k z, show 9552 + 12 * k = 9552 + 12 * k + 0 from rfl, Gd k 0 z (by omega)]; exact rl_d0 hr k z
      · rw [z, v31.2.2.2.2.2.2.2, v31.2.1, if_pos rfl]; exact gd.1
    · rcases Sd k hk with z | z
      · rw [E 39 (by omega) (by omega) _ (by omega), Gd k 1 z (by omega)]; exact rl_d1 hr k z
      · rw [z, v39.1]; exact gd.2.1
    · rcases Sd k hk with z | z
      · rw [E 40 (by omega) (by omega) _ (by omega), Gd k 2 z (by omega)]; exact rl_d2 hr k z
      · rw [z, v39.2.1]; exact gd.2.2.1
    · rcases Sd k hk with z | z
      · rw [E 41 (by omega) (by omega) _ (by omega), Gd k 3 z (by omega)]; exact rl_d3 hr k z
      · rw [z, v39.2.2.1]; exact gd.2.2.2.1
    · rcases Sd k hk with z | z
      · rw [E 39 (by omega) (by omega) _ (by omega), Gd k 4 z (by omega)]; exact rl_d4 hr k z
      · rw [z, v39.2.2.2.1]; exact gd.2.2.2.2.1
    · rcases Sd k hk with z | z
      · rw [E 40 (by omega) (by omega) _ (by omega), Gd k 5 z (by omega)]; exact rl_d5 hr k z
      · rw [z, v39.2.2.2.2.1]; exact gd.2.2.2.2.2.1
    · rcases Sd k hk with z | z
      · rw [E 41 (by omega) (by omega) _ (by omega), Gd k 6 z (by omega)]; exact rl_d6 hr k z
      · rw [z, v39.2.2.2.2.2]; exact gd.2.2.2.2.2.2.1
    · rcases Sd k hk with z | z
      · rw [D 35 (by omega) (by omega) k z, Gd k 7 z (by omega)]; exact rl_d7 hr k z
      · rw [z, v31.2.2.2.2.1]; exact gd.2.2.2.2.2.2.2.1
    · rcases Sd k hk with z | z
      · rw [D 33 (by omega) (by omega) k z, Gd k 8 z (by omega)]; exact rl_d8 hr k z
      · rw [z, v31.2.2.1]; exact gd.2.2.2.2.2.2.2.2.1
    · rcases Sd k hk with z | z
      · rw [D 36 (by omega) (by omega) k z, Gd k 9 z (by omega)]; exact rl_d9 hr k z
      · rw [z, v31.2.2.2.2.2.1]; exact gd.2.2.2.2.2.2.2.2.2.1
    · rcases Sd k hk with z | z
      · rw [D 37 (by omega) (by omega) k z, Gd k 10 z (by omega)]; exact rl_d10 hr k z
      · rw [z, v31.2.2.2.2.2.2.1]; exact gd.2.2.2.2.2.2.2.2.2.2.1
    · rcases Sd k hk with z | z
      · rw [D 38 (by omega) (by omega) k z, Gd k 11 z (by omega)]; exact rl_d11 hr k z
      · rw [z, v31.2.2.2.2.2.2.2]; exact gd.2.2.2.2.2.2.2.2.2.2.2
end
