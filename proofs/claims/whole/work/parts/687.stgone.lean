/-! doors gone -/
section
variable {I J : Nat → Nat → Int32} {L : Nat → Nat → Int64} {s s' : Nat → Int32} {f : Int32}
theorem St_gone (h : pu_St I L s) (hP : cP I < 200) {top g : Nat} (ht : top < cD I) (t37 : I 37 top = -1) (hg : g = py_fr I top) (hf : 0 ≤ f.toInt ∧ f.toInt ≤ 109574) (hy : ∀ p, p < cP I → pu_tc I p (I 39 (2 * g)) → (I 7 p).toInt ≤ f.toInt) (hy2 : I 38 g ≠ -1 → ∀ p, p < cP I → pu_tc I p (I 39 (2 * g + 1)) → (I 7 p).toInt ≤ f.toInt)
    (F : ∀ x j, ¬ (x = 6 ∧ j = 2) → ¬ (7 ≤ x ∧ x ≤ 13 ∧ j = cP I) → x ≠ 18 → x ≠ 37 → J x j = I x j)
    (v6 : J 6 2 = nI (cP I + 1) ∧ J 7 (cP I) = f ∧ J 8 (cP I) = I 6 0 ∧ J 9 (cP I) = I 39 (2 * g) ∧ J 10 (cP I) = I 39 (2 * g + 1) ∧ J 11 (cP I) = -1 ∧ J 12 (cP I) = -1 ∧ J 13 (cP I) = -1)
    (v37 : ∀ d, d < cD I → (py_S I top d → J 37 d = nI (cP I)) ∧ (¬ py_S I top d → J 37 d = I 37 d))
    (v18 : ∀ k, k < cU I → (py_T I top k → J 18 k = nI (cP I)) ∧ (¬ py_T I top k → J 18 k = I 18 k))
    (G : ∀ j, ¬ (j = 5) → ¬ (28752 + 7 * cP I ≤ j ∧ j < 28752 + 7 * cP I + 7) → (∀ e, e < cD I → py_S I top e → j ≠ 9552 + 12 * e + 10) → (∀ k, k < cU I → py_T I top k → j ≠ 10752 + 6 * k + 5) → s' j = s j)
    (g4 : s' 5 = nI (cP I + 1))
    (gp : s' (28752 + 7 * cP I) = I 6 0 ∧ s' (28752 + 7 * cP I + 1) = f ∧ s' (28752 + 7 * cP I + 2) = I 39 (2 * g) ∧ s' (28752 + 7 * cP I + 3) = I 39 (2 * g + 1) ∧ s' (28752 + 7 * cP I + 4) = -1 ∧ s' (28752 + 7 * cP I + 5) = -1 ∧ s' (28752 + 7 * cP I + 6) = -1)
    (gd : ∀ e, e < cD I → py_S I top e → s' (9552 + 12 * e + 10) = nI (cP I))
    (gu : ∀ k, k < cU I → py_T I top k → s' (10752 + 6 * k + 5) = nI (cP I)) : pu_St J L s' := by
  obtain ⟨hw, hr⟩ := h
  have m1 : (-1 : Int32).toInt = -1 := by decide
  have bK := wx_bK hw
  have bT := wx_bT hw
  have bN := wx_bN hw
  have bF := wx_bF hw
  have bU := wx_bU hw
  have bD := wx_bD hw
  obtain ⟨fg1, fg2, fg3⟩ := py_fr_lt hw ht
  rw [← hg] at fg1 fg2 fg3
  have a0 := py_st0 hw fg1 fg3
  have y0 := wx_d0 hw g fg1 fg3
  have b0 : -1 ≤ (I 39 (2 * g + 1)).toInt ∧ (I 39 (2 * g + 1)).toInt < cK I := by
    by_cases c : I 38 g = -1
    · rw [(wx_dn hw g fg1 c).1]
      omega
    · have := wx_d1 hw g fg1 c
      omega
  have X : ∀ x j, 14 ≤ x → x ≠ 18 → x ≠ 37 → J x j = I x j := fun x j r1 r2 r3 => F x j (by omega) (by omega) r2 r3
  have pp : pz_pp I J f (I 39 (2 * g)) (I 39 (2 * g + 1)) (-1) (-1) (-1) := ⟨⟨F 6 0 (by omega) (by omega) (by omega) (by omega), F 6 1 (by omega) (by omega) (by omega) (by omega), v6.1⟩, fun x r1 r2 j hj => F x j (by omega) (by omega) (by omega) (by omega), v6.2⟩
  have cPJ := pz_cPJ pp hP
  have cDJ : cD J = cD I := by
    unfold cD
    rw [X 31 0 (by omega) (by omega) (by omega)]
  have cUJ : cU J = cU I := by
    unfold cU
    rw [X 14 0 (by omega) (by omega) (by omega)]
  have cKJ : cK J = cK I := by
    unfold cK
    rw [X 25 1 (by omega) (by omega) (by omega)]
  have cTJ : cT J = cT I := by
    unfold cT
    rw [X 25 0 (by omega) (by omega) (by omega)]
  have cNJ : cN J = cN I := by
    unfold cN
    rw [X 19 0 (by omega) (by omega) (by omega)]
  have cFJ : cF J = cF I := by
    unfold cF
    rw [X 42 0 (by omega) (by omega) (by omega)]
  have s2 : ∀ k, k < cU I → pu_sl0 I k < 2 * cD I := fun k hk => (pu_sl_lt hw hk).1
  have sl : ∀ k, pu_sl0 J k = pu_sl0 I k := fun k => by
    unfold pu_sl0
    rw [X 15 k (by omega) (by omega) (by omega)]
  have nP : ¬ nI (cP I) = -1 := fun q => by rw [nl_n1 _ (by omega)] at q; exact q
  obtain ⟨c1, c2, c3, c4, c5⟩ := pz_uc_of hw
  -- what is open now was open, and not closed by this
  have O : ∀ k, k < cU I → J 18 k = -1 → I 18 k = -1 ∧ pu_sl0 I k / 2 ≠ top := fun k hk e => by
    by_cases z : py_T I top k
    · rw [(v18 k hk).1 z] at e
      exact absurd e nP
    · rw [(v18 k hk).2 z] at e
      exact ⟨e, fun q => z ⟨e, q⟩⟩
  have OD : ∀ d, d < cD I → J 37 d = -1 → I 37 d = -1 ∧ ¬ py_S I top d := fun d hd e => by
    by_cases z : py_S I top d
    · rw [(v37 d hd).1 z] at e
      exact absurd e nP
    · rw [(v37 d hd).2 z] at e
      exact ⟨e, z⟩
  have T0 : ∀ k, k < cU I → py_T I top k → I 32 top = 0 ∧ g = top := fun k hk hT => by
    have z := c4 k hk hT.1
    rw [hT.2] at z
    refine ⟨z.2.1, ?_⟩
    have y := (wx_d0 hw top ht z.2.1).2.2.1
    rw [hg]
    unfold py_fr
    rw [y, nl_cl _ (by omega)]
  have st : py_S I top top := ⟨t37, (py_iu_s hw top ht).mpr (Or.inl rfl)⟩
  have de : pz_de I J := ⟨fun x r1 r2 d hd => X x d (by omega) (by omega) (by omega), fun d hd => by
    by_cases z : py_S I top d
    · exact Or.inr ⟨z.1, (v37 d hd).1 z⟩
    · exact Or.inl ((v37 d hd).2 z), fun d hd => Or.inl (X 38 d (by omega) (by omega) (by omega)), by omega, fun d r1 r2 => by omega⟩
  have ue : pz_ue I J := ⟨fun x r1 r2 k hk => X x k (by omega) (by omega) (by omega), fun k hk => by
    by_cases z : py_T I top k
    · exact Or.inr ⟨z.1, (v18 k hk).1 z⟩
    · exact Or.inl ((v18 k hk).2 z), by omega, fun k r1 r2 => by omega, fun x r1 r2 k hk => X x _ (by omega) (by omega) (by omega)⟩
  have uc : pz_uc J := by
    unfold pz_uc
    rw [cUJ, cDJ]
    refine ⟨fun k l hk hl o1 o2 e => ?_, fun k l hk hl o1 o2 e e2 e3 => ?_, fun k l hk hl o1 o2 e e2 e3 => ?_, fun k hk o => ?_, fun d w hd2 e1 e2 e3 => ?_⟩
    · rw [X 15 _ (by omega) (by omega) (by omega), X 15 _ (by omega) (by omega) (by omega)] at e
      exact c1 k l hk hl (O k hk o1).1 (O l hl o2).1 e
    · rw [sl, sl, X 39 _ (by omega) (by omega) (by omega), X 39 _ (by omega) (by omega) (by omega)] at e
      rw [X 16 k (by omega) (by omega) (by omega)] at e2 e3
      rw [X 16 l (by omega) (by omega) (by omega)] at e2
      exact c2 k l hk hl (O k hk o1).1 (O l hl o2).1 e e2 e3
    · rw [sl, sl] at e e2 e3
      rw [X 39 _ (by omega) (by omega) (by omega), X 39 _ (by omega) (by omega) (by omega)] at e
      rw [X 40 _ (by omega) (by omega) (by omega), X 40 _ (by omega) (by omega) (by omega)] at e2
      rw [X 41 _ (by omega) (by omega) (by omega), X 41 _ (by omega) (by omega) (by omega)] at e3
      exact c3 k l hk hl (O k hk o1).1 (O l hl o2).1 e e2 e3
    · have y := O k hk o
      have z := c4 k hk y.1
      have s3 := s2 k hk
      rw [sl, X 32 _ (by omega) (by omega) (by omega), X 38 _ (by omega) (by omega) (by omega), (v37 _ (by omega)).2 (fun q => y.2 (py_S0 hw (by omega) q z.2.1))]
      exact z
    · rw [X 32 _ (by omega) (by omega) (by omega)] at e1
      rw [X 38 _ (by omega) (by omega) (by omega)] at e3
      have y := OD d hd2 e2
      obtain ⟨k, k1, k2, k3⟩ := c5 d w hd2 e1 y.1 e3
      refine ⟨k, k1, ?_, by rw [X 15 _ (by omega) (by omega) (by omega)]; exact k3⟩
      rw [(v18 k k1).2 (fun q => y.2 ?_)]
      · exact k2
      · have w2 : w < 2 := by
          rcases e3 with q | q
          · omega
          · omega
        have z := q.2
        have sk : pu_sl0 I k = 2 * d + w := pz_cc k3 (by omega)
        have dt : d = top := by omega
        rw [dt]
        exact st
  have wp : w_p J := wp_ext pp hw hP hf cTJ (by omega) ⟨by omega, by omega⟩ (by omega) (by omega) (by omega) ⟨by omega, by omega, fun z => absurd rfl z⟩ (fun k p r1 r2 r3 r4 => by
    rcases r4 with z | z
    · rw [← z] at r3
      exact hy p r2 r3
    · rw [← z] at r3 r1
      refine hy2 (fun c => ?_) p r2 r3
      exact r1 (wx_dn hw g fg1 c).1) (Or.inl rfl)
  have wu : w_u J := wu_ext pp hw hP de ue (by omega) (fun k r1 r2 => by omega) (fun k hk e1 e2 => by
    by_cases z : py_T I top k
    · have y := T0 k hk z
      rw [y.2]
      have w := z.2
      rcases Nat.mod_two_eq_zero_or_one (pu_sl0 I k) with q | q
      · left
        rw [show pu_sl0 I k = 2 * top by omega]
      · right
        rw [show pu_sl0 I k = 2 * top + 1 by omega]
    · rw [(v18 k hk).2 z, e1] at e2
      exact absurd e2.symm nP) uc
  have wn : w_n J L := wn_same pp hw hP cTJ cKJ cNJ (fun x r1 r2 k hk => X x k (by omega) (by omega) (by omega)) (fun j _ => rfl) (fun k hk => X 28 k (by omega) (by omega) (by omega))
  have wk : w_k J L := wk_same pp hw hP cTJ cKJ (fun j _ => rfl) (fun k hk => X 28 k (by omega) (by omega) (by omega)) (fun k hk => by rw [X 27 k (by omega) (by omega) (by omega)]; exact wx_kr hw k hk) (fun k hk => X 29 k (by omega) (by omega) (by omega)) (fun k hk => X 30 k (by omega) (by omega) (by omega))
  have wd : w_d J := by
    refine wd_ext pp hw hP de (by omega) (by omega) (fun x r1 r2 d hd => X x _ (by omega) (by omega) (by omega)) (fun x r1 r2 d hd _ => X x _ (by omega) (by omega) (by omega)) (fun d hd e1 e2 e3 => ?_) (fun d hd e1 e2 => ?_) (fun d r1 r2 => by omega) (fun d hd e => ?_)
    · by_cases z : py_S I top d
      · have dt := py_S0 hw hd z e3
        have gt : g = top := by
          rw [hg]
          unfold py_fr
          rw [← dt, (wx_d0 hw d hd e3).2.2.1, nl_cl _ (by omega)]
        rw [gt, dt, X 39 _ (by omega) (by omega) (by omega)]
        exact ⟨Or.inl rfl, fun _ => Or.inr rfl⟩
      · rw [(v37 d hd).2 z, e1] at e2
        exact absurd e2.symm nP
    · rw [X 38 d (by omega) (by omega) (by omega), e1] at e2
      exact absurd e2.symm nP
    · rw [cDJ] at hd
      have y := OD d hd e
      have z := pz_dcur hw hd y.1
      have x := wx_df hw d hd
      have v := pu_on (x := I 34 d) (n := d + 1) ⟨x.1, by omega⟩
      rw [X 32 d (by omega) (by omega) (by omega), X 33 d (by omega) (by omega) (by omega), X 34 d (by omega) (by omega) (by omega)]
      refine ⟨fun z2 => ?_, ?_⟩
      · have o := py_ov hw hd z2
        rw [(v37 _ (by omega)).2 (fun q => y.2 ⟨y.1, (py_iu_s hw top hd).mpr (Or.inr ⟨z2, q.2⟩)⟩)]
        exact z.1 z2
      · rw [(v37 _ (show (I 34 d).toNatClampNeg < cD I by omega)).2 (fun q => y.2 ⟨y.1, ?_⟩)]
        · exact z.2
        · have dt := py_S0 hw (by omega) q x.2.2.1
          have w := py_iu_f hw (d + 1) d (by omega) hd
          rw [show py_fr I d = top from dt] at w
          exact w
  have Gd : ∀ k i, k < cD I → i < 12 → i ≠ 10 → s' (9552 + 12 * k + i) = s (9552 + 12 * k + i) := fun k i hk hi hn => G _ (by omega) (by omega) (fun e he _ => by omega) (fun e he _ => by omega)
  have Gu : ∀ k i, k < cU I → i < 5 → s' (10752 + 6 * k + i) = s (10752 + 6 * k + i) := fun k i hk hi => G _ (by omega) (by omega) (fun e he _ => by omega) (fun e he _ => by omega)
  have GG : ∀ j, ¬ (j = 5) → ¬ (28752 ≤ j ∧ j < 30152) → ¬ (9552 ≤ j ∧ j < 28752) → s' j = s j := fun j r1 r2 r3 => G j r1 (by omega) (fun e he _ => by omega) (fun e he _ => by omega)
  refine St_join ⟨by rw [cPJ]; exact v6.1, ?_, ?_, ?_, ?_, ?_, ?_⟩ ⟨by omega, by omega, by omega, by omega, by omega, by omega, by omega⟩ hw (fun x j r1 r2 => X x j (by omega) (by omega) (by omega)) cFJ (fun j _ => ⟨rfl, rfl⟩) wp wu wn wk wd pp.1.1 pp.1.2.1 hr (fun j hj => GG j (by omega) (by omega) (by omega)) ⟨?_, ?_, ?_, by rw [cPJ]; exact g4, ?_, ?_⟩ (rp_ext pp hP (rg_p hr) (fun j r1 r2 => G j (by omega) (by omega) (fun e he _ => by omega) (fun e he _ => by omega)) gp.1 gp.2.1 gp.2.2.1 gp.2.2.2.1 gp.2.2.2.2.1 gp.2.2.2.2.2.1 gp.2.2.2.2.2.2) ?_ ?_ (rt_np pp hP cTJ bT (fun j _ => rfl) (rg_t hr) (fun j r1 r2 => GG j (by omega) (by omega) (by omega)) (fun j r1 r2 => GG j (by omega) (by omega) (by omega))) ?_ ?_ (fun j r1 r2 => GG j (by omega) (by omega) (by omega)) (fun j r1 r2 => GG j (by omega) (by omega) (by omega))
  · rw [cUJ, X 14 0 (by omega) (by omega) (by omega)]; exact wx_cU hw
  · rw [cNJ, X 19 0 (by omega) (by omega) (by omega)]; exact wx_cN hw
  · rw [cTJ, X 25 0 (by omega) (by omega) (by omega)]; exact wx_cT hw
  · rw [cKJ, X 25 1 (by omega) (by omega) (by omega)]; exact wx_cK hw
  · rw [cDJ, X 31 0 (by omega) (by omega) (by omega)]; exact wx_cD hw
  · rw [cFJ, X 42 0 (by omega) (by omega) (by omega)]; exact wx_cF hw
  · rw [cTJ, GG 2 (by omega) (by omega) (by omega)]; exact rl_h2 hr
  · rw [cKJ, GG 3 (by omega) (by omega) (by omega)]; exact rl_h3 hr
  · rw [cDJ, GG 4 (by omega) (by omega) (by omega)]; exact rl_h4 hr
  · rw [cUJ, GG 6 (by omega) (by omega) (by omega)]; exact rl_h6 hr
  · rw [cNJ, GG 7 (by omega) (by omega) (by omega)]; exact rl_h7 hr
  · unfold rl_u
    rw [cUJ, show J 15 = I 15 from funext (fun j => X 15 j (by omega) (by omega) (by omega)), show J 16 = I 16 from funext (fun j => X 16 j (by omega) (by omega) (by omega)), show J 17 = I 17 from funext (fun j => X 17 j (by omega) (by omega) (by omega)), show J 39 = I 39 from funext (fun j => X 39 j (by omega) (by omega) (by omega))]
    refine ⟨fun k hk => ?_, fun k hk => ?_, fun k hk => ?_, fun k hk => ?_, fun k hk => ?_, fun k hk => ?_⟩
    · rw [show 10752 + 6 * k = 10752 + 6 * k + 0 from rfl, Gu k 0 hk (by omega)]; exact rl_u0 hr k hk
    · rw [Gu k 1 hk (by omega)]; exact rl_u1 hr k hk
    · rw [Gu k 2 hk (by omega)]; exact rl_u2 hr k hk
    · rw [Gu k 3 hk (by omega)]; exact rl_u3 hr k hk
    · rw [Gu k 4 hk (by omega)]; exact rl_u4 hr k hk
    · by_cases z : py_T I top k
      · rw [(v18 k hk).1 z]; exact gu k hk z
      · rw [(v18 k hk).2 z, G _ (by omega) (by omega) (fun e he _ => by omega) (fun e he y q => z (by rw [show k = e by omega]; exact y))]
        exact rl_u5 hr k hk
  · exact rn_same cNJ (fun x r1 r2 k hk => X x k (by omega) (by omega) (by omega)) (fun j _ => rfl) (rf_n (rg_n hr) ⟨bN, by omega⟩ (fun j r1 r2 => GG j (by omega) (by omega) (by omega)) (fun j r1 r2 => GG j (by omega) (by omega) (by omega)))
  · have T := rf_k (rg_k hr) bK (s' := s') (fun j r1 r2 => GG j (by omega) (by omega) (by omega)) (fun j r1 r2 => GG j (by omega) (by omega) (by omega))
    unfold rl_k
    rw [cKJ, show J 27 = I 27 from funext (fun j => X 27 j (by omega) (by omega) (by omega)), show J 29 = I 29 from funext (fun j => X 29 j (by omega) (by omega) (by omega)), show J 30 = I 30 from funext (fun j => X 30 j (by omega) (by omega) (by omega))]
    exact T
  · unfold rl_d
    have Y : ∀ x, 14 ≤ x → x ≠ 18 → x ≠ 37 → J x = I x := fun x a b c => funext (fun j => X x j a b c)
    rw [cDJ, Y 38 (by omega) (by omega) (by omega), Y 32 (by omega) (by omega) (by omega), Y 39 (by omega) (by omega) (by omega), Y 40 (by omega) (by omega) (by omega), Y 41 (by omega) (by omega) (by omega), Y 35 (by omega) (by omega) (by omega), Y 33 (by omega) (by omega) (by omega), Y 36 (by omega) (by omega) (by omega)]
    refine ⟨fun k hk => ?_, fun k hk => ?_, fun k hk => ?_, fun k hk => ?_, fun k hk => ?_, fun k hk => ?_, fun k hk => ?_, fun k hk => ?_, fun k hk => ?_, fun k hk => ?_, fun k hk => ?_, fun k hk => ?_⟩
    · rw [show 9552 + 12 * k = 9552 + 12 * k + 0 from rfl, Gd k 0 hk (by omega) (by omega)]; exact rl_d0 hr k hk
    · rw [Gd k 1 hk (by omega) (by omega)]; exact rl_d1 hr k hk
    · rw [Gd k 2 hk (by omega) (by omega)]; exact rl_d2 hr k hk
    · rw [Gd k 3 hk (by omega) (by omega)]; exact rl_d3 hr k hk
    · rw [Gd k 4 hk (by omega) (by omega)]; exact rl_d4 hr k hk
    · rw [Gd k 5 hk (by omega) (by omega)]; exact rl_d5 hr k hk
    · rw [Gd k 6 hk (by omega) (by omega)]; exact rl_d6 hr k hk
    · rw [Gd k 7 hk (by omega) (by omega)]; exact rl_d7 hr k hk
    · rw [Gd k 8 hk (by omega) (by omega)]; exact rl_d8 hr k hk
    · rw [Gd k 9 hk (by omega) (by omega)]; exact rl_d9 hr k hk
    · by_cases z : py_S I top k
      · rw [(v37 k hk).1 z]; exact gd k hk z
      · rw [(v37 k hk).2 z, G _ (by omega) (by omega) (fun e he y q => z (by rw [show k = e by omega]; exact y)) (fun e he _ => by omega)]
        exact rl_d10 hr k hk
    · rw [Gd k 11 hk (by omega) (by omega)]; exact rl_d11 hr k hk
end
