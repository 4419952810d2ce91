/-! a door more under another -/
section
variable {I J : Nat → Nat → Int32} {L : Nat → Nat → Int64} {s s' : Nat → Int32} {f so kk : Int32}
theorem St_under (h : pu_St I L s) (hP : cP I < 200) (hD : cD I < 100) {o g : Nat} (ho : o < cD I) (o37 : I 37 o = -1) (hg : g = py_fr I o) (hso : 2 ≤ so.toInt ∧ so.toInt ≤ 4) (hs3 : so = 3 → I 32 o = 2) (hs4 : so ≠ 3 → I 32 o = 0) (hk : 0 ≤ kk.toInt ∧ kk.toInt ≤ 99) (hk0 : so = 2 → kk = 0) (hk1 : so ≠ 2 → kk ≠ 0) (hf : 0 ≤ f.toInt ∧ f.toInt ≤ 109574) (hy : ∀ p, p < cP I → pu_tc I p (I 39 (2 * g)) → (I 7 p).toInt ≤ f.toInt) (hy2 : I 38 g ≠ -1 → ∀ p, p < cP I → pu_tc I p (I 39 (2 * g + 1)) → (I 7 p).toInt ≤ f.toInt)
    (F : ∀ x j, ¬ (x = 6 ∧ j = 2) → ¬ (7 ≤ x ∧ x ≤ 13 ∧ j = cP I) → ¬ (x = 31 ∧ j = 0) → ¬ (32 ≤ x ∧ x ≤ 38 ∧ j = cD I) → ¬ (39 ≤ x ∧ x ≤ 41 ∧ (j = 2 * cD I ∨ j = 2 * cD I + 1)) → J x j = I x j)
    (v6 : J 6 2 = nI (cP I + 1) ∧ J 7 (cP I) = f ∧ J 8 (cP I) = I 6 0 ∧ J 9 (cP I) = I 39 (2 * g) ∧ J 10 (cP I) = I 39 (2 * g + 1) ∧ J 11 (cP I) = -1 ∧ J 12 (cP I) = -1 ∧ J 13 (cP I) = -1)
    (v31 : J 31 0 = nI (cD I + 1) ∧ J 32 (cD I) = so ∧ J 33 (cD I) = nI o ∧ J 34 (cD I) = I 34 o ∧ J 35 (cD I) = kk ∧ J 36 (cD I) = nI (cP I) ∧ J 37 (cD I) = -1 ∧ J 38 (cD I) = -1)
    (v39 : ∀ x, 39 ≤ x → x ≤ 41 → J x (2 * cD I) = -1 ∧ J x (2 * cD I + 1) = -1)
    (G : ∀ j, ¬ (4 ≤ j ∧ j ≤ 5) → ¬ (28752 + 7 * cP I ≤ j ∧ j < 28752 + 7 * cP I + 7) → ¬ (9552 + 12 * cD I ≤ j ∧ j < 9552 + 12 * cD I + 12) → s' j = s j)
    (g4 : s' 4 = nI (cD I + 1) ∧ s' 5 = nI (cP I + 1))
    (gp : s' (28752 + 7 * cP I) = I 6 0 ∧ s' (28752 + 7 * cP I + 1) = f ∧ s' (28752 + 7 * cP I + 2) = I 39 (2 * g) ∧ s' (28752 + 7 * cP I + 3) = I 39 (2 * g + 1) ∧ s' (28752 + 7 * cP I + 4) = -1 ∧ s' (28752 + 7 * cP I + 5) = -1 ∧ s' (28752 + 7 * cP I + 6) = -1)
    (gd : s' (9552 + 12 * cD I) = so ∧ s' (9552 + 12 * cD I + 1) = -1 ∧ s' (9552 + 12 * cD I + 2) = -1 ∧ s' (9552 + 12 * cD I + 3) = -1 ∧ s' (9552 + 12 * cD I + 4) = -1 ∧ s' (9552 + 12 * cD I + 5) = -1 ∧ s' (9552 + 12 * cD I + 6) = -1 ∧ s' (9552 + 12 * cD I + 7) = kk ∧ s' (9552 + 12 * cD I + 8) = nI o ∧ s' (9552 + 12 * cD I + 9) = nI (cP I) ∧ s' (9552 + 12 * cD I + 10) = -1 ∧ s' (9552 + 12 * cD I + 11) = -1) : pu_St J L s' := by
  obtain ⟨hw, hr⟩ := h
  have m1 : (-1 : Int32).toInt = -1 := by decide
  have m0 : (0 : Int32).toInt = 0 := by decide
  have bK := wx_bK hw
  have bT := wx_bT hw
  have bN := wx_bN hw
  have bF := wx_bF hw
  have bU := wx_bU hw
  have tO := nl_n0 (a := o) (by omega)
  obtain ⟨fg1, fg2, fg3⟩ := py_fr_lt hw ho
  rw [← hg] at fg1 fg2 fg3
  have a0 := py_st0 hw fg1 fg3
  have y0 := wx_d0 hw g fg1 fg3
  have b0 : -1 ≤ (I 39 (2 * g + 1)).toInt ∧ (I 39 (2 * g + 1)).toInt < cK I := by
    by_cases c : I 38 g = -1
    · rw [(wx_dn hw g fg1 c).1]
      omega
    · have := wx_d1 hw g fg1 c
      omega
  have X : ∀ x j, (14 ≤ x ∧ x ≤ 30) ∨ 42 ≤ x → J x j = I x j := fun x j r => F x j (by omega) (by omega) (by omega) (by omega) (by omega)
  have pp : pz_pp I J f (I 39 (2 * g)) (I 39 (2 * g + 1)) (-1) (-1) (-1) := ⟨⟨F 6 0 (by omega) (by omega) (by omega) (by omega) (by omega), F 6 1 (by omega) (by omega) (by omega) (by omega) (by omega), v6.1⟩, fun x r1 r2 j hj => F x j (by omega) (by omega) (by omega) (by omega) (by omega), v6.2⟩
  have cPJ := pz_cPJ pp hP
  have cDJ : cD J = cD I + 1 := pz_cc v31.1 (by omega)
  have cUJ : cU J = cU I := by
    unfold cU
    rw [X 14 0 (by omega)]
  have cKJ : cK J = cK I := by
    unfold cK
    rw [X 25 1 (by omega)]
  have cTJ : cT J = cT I := by
    unfold cT
    rw [X 25 0 (by omega)]
  have cNJ : cN J = cN I := by
    unfold cN
    rw [X 19 0 (by omega)]
  have cFJ : cF J = cF I := by
    unfold cF
    rw [X 42 0 (by omega)]
  have s2 : ∀ k, k < cU I → pu_sl0 I k < 2 * cD I := fun k hk => (pu_sl_lt hw hk).1
  have D : ∀ x, 32 ≤ x → x ≤ 38 → ∀ k, k < cD I → J x k = I x k := fun x r1 r2 k hk => F x k (by omega) (by omega) (by omega) (by omega) (by omega)
  have E : ∀ x, 39 ≤ x → x ≤ 41 → ∀ j, j < 2 * cD I → J x j = I x j := fun x r1 r2 k hk => F x k (by omega) (by omega) (by omega) (by omega) (by omega)
  have so0 : so ≠ 0 := fun z => by
    rw [z] at hso
    omega
  have de : pz_de I J := ⟨fun x r1 r2 d hd => D x r1 (by omega) d hd, fun d hd => Or.inl (D 37 (by omega) (by omega) d hd), fun d hd => Or.inl (D 38 (by omega) (by omega) d hd), by omega, fun d r1 r2 => by
    rw [show d = cD I by omega]
    exact ⟨v31.2.2.2.2.2.1, v31.2.2.2.2.2.2.1, v31.2.2.2.2.2.2.2⟩⟩
  have wp : w_p J := wp_ext pp hw hP hf cTJ (by omega) ⟨by omega, by omega⟩ (by omega) (by omega) (by omega) ⟨by omega, by omega, fun z => absurd rfl z⟩ (fun k p r1 r2 r3 r4 => by
    rcases r4 with z | z
    · rw [← z] at r3
      exact hy p r2 r3
    · rw [← z] at r3 r1
      refine hy2 (fun c => ?_) p r2 r3
      exact r1 (wx_dn hw g fg1 c).1) (Or.inl rfl)
  have wu : w_u J := wu_same pp hw hP cUJ de (by omega) (fun x r1 r2 k hk => X x k (by omega)) E (fun d hd => D 37 (by omega) (by omega) d hd) (fun d hd => D 38 (by omega) (by omega) d hd) (fun d r1 r2 => by
    rw [show d = cD I by omega, v31.2.1]
    exact so0)
  have wn : w_n J L := wn_same pp hw hP cTJ cKJ cNJ (fun x r1 r2 k hk => X x k (by omega)) (fun j _ => rfl) (fun k hk => X 28 k (by omega))
  have wk : w_k J L := wk_same pp hw hP cTJ cKJ (fun j _ => rfl) (fun k hk => X 28 k (by omega)) (fun k hk => by rw [X 27 k (by omega)]; exact wx_kr hw k hk) (fun k hk => X 29 k (by omega)) (fun k hk => X 30 k (by omega))
  have wd : w_d J := by
    refine wd_ext pp hw hP de (by omega) (by omega) (fun x r1 r2 d hd => E x r1 r2 _ (by omega)) (fun x r1 r2 d hd _ => E x r1 r2 _ (by omega)) (fun d hd e1 e2 => ?_) (fun d hd e1 e2 => ?_) (fun d r1 r2 => ?_) (fun d hd e => ?_)
    · rw [D 37 (by omega) (by omega) d hd, e1, nl_n2 _ (by omega)] at e2
      exact e2.elim
    · rw [D 38 (by omega) (by omega) d hd, e1, nl_n2 _ (by omega)] at e2
      exact e2.elim
    · rw [show d = cD I by omega, v31.2.1, v31.2.2.1, v31.2.2.2.1, v31.2.2.2.2.1, nl_cl _ (by omega)]
      exact ⟨⟨(v39 39 (by omega) (by omega)).2, (v39 40 (by omega) (by omega)).2, (v39 41 (by omega) (by omega)).2⟩, Or.inr ⟨hso, by omega, by omega, hs3, hs4, rfl, (v39 39 (by omega) (by omega)).1, (v39 40 (by omega) (by omega)).1, (v39 41 (by omega) (by omega)).1, hk.1, hk.2, hk0, hk1⟩⟩
    · by_cases z : d < cD I
      · rw [D 37 (by omega) (by omega) d z] at e
        have y := pz_dcur hw z e
        have x := wx_df hw d z
        have v := pu_on (x := I 34 d) (n := d + 1) ⟨x.1, by omega⟩
        rw [D 32 (by omega) (by omega) d z, D 33 (by omega) (by omega) d z, D 34 (by omega) (by omega) d z, D 37 (by omega) (by omega) _ (show (I 34 d).toNatClampNeg < cD I by omega)]
        refine ⟨fun z2 => ?_, y.2⟩
        have x2 := wx_d2 hw d z z2
        have v2 := pu_on (x := I 33 d) (n := d) ⟨x2.1, x2.2.1⟩
        rw [D 37 (by omega) (by omega) _ (show (I 33 d).toNatClampNeg < cD I by omega)]
        exact y.1 z2
      · have dd : d = cD I := by omega
        subst dd
        have y := pz_dcur hw ho o37
        have x := wx_df hw o ho
        have v := pu_on (x := I 34 o) (n := o + 1) ⟨x.1, by omega⟩
        rw [v31.2.2.2.1, v31.2.2.1, nl_cl _ (by omega), D 37 (by omega) (by omega) _ (show (I 34 o).toNatClampNeg < cD I by omega), D 37 (by omega) (by omega) _ ho]
        exact ⟨fun _ => o37, y.2⟩
  have Gd : ∀ k i, k < cD I → i < 12 → s' (9552 + 12 * k + i) = s (9552 + 12 * k + i) := fun k i hk hi => G _ (by omega) (by omega) (by omega)
  refine St_join ⟨by rw [cPJ]; exact v6.1, ?_, ?_, ?_, ?_, by rw [cDJ]; exact v31.1, ?_⟩ ⟨by omega, by omega, by omega, by omega, by omega, by omega, by omega⟩ hw (fun x j r1 r2 => X x j (by omega)) cFJ (fun j _ => ⟨rfl, rfl⟩) wp wu wn wk wd pp.1.1 pp.1.2.1 hr (fun j hj => G j (by omega) (by omega) (by omega)) ⟨?_, ?_, by rw [cDJ]; exact g4.1, by rw [cPJ]; exact g4.2, ?_, ?_⟩ (rp_ext pp hP (rg_p hr) (fun j r1 r2 => G j (by omega) (by omega) (by omega)) gp.1 gp.2.1 gp.2.2.1 gp.2.2.2.1 gp.2.2.2.2.1 gp.2.2.2.2.2.1 gp.2.2.2.2.2.2) ?_ ?_ (rt_np pp hP cTJ bT (fun j _ => rfl) (rg_t hr) (fun j r1 r2 => G j (by omega) (by omega) (by omega)) (fun j r1 r2 => G j (by omega) (by omega) (by omega))) ?_ ?_ (fun j r1 r2 => G j (by omega) (by omega) (by omega)) (fun j r1 r2 => G j (by omega) (by omega) (by omega))
  · rw [cUJ, X 14 0 (by omega)]; exact wx_cU hw
  · rw [cNJ, X 19 0 (by omega)]; exact wx_cN hw
  · rw [cTJ, X 25 0 (by omega)]; exact wx_cT hw
  · rw [cKJ, X 25 1 (by omega)]; exact wx_cK hw
  · rw [cFJ, X 42 0 (by omega)]; exact wx_cF hw
  · rw [cTJ, G 2 (by omega) (by omega) (by omega)]; exact rl_h2 hr
  · rw [cKJ, G 3 (by omega) (by omega) (by omega)]; exact rl_h3 hr
  · rw [cUJ, G 6 (by omega) (by omega) (by omega)]; exact rl_h6 hr
  · rw [cNJ, G 7 (by omega) (by omega) (by omega)]; exact rl_h7 hr
  · exact ru_same cUJ (fun x r1 r2 k hk => X x k (by omega)) (fun k hk => E 39 (by omega) (by omega) _ (s2 k hk)) (rf_u (rg_u hr) bU (fun j r1 r2 => G j (by omega) (by omega) (by omega)))
  · exact rn_same cNJ (fun x r1 r2 k hk => X x k (by omega)) (fun j _ => rfl) (rf_n (rg_n hr) ⟨bN, by omega⟩ (fun j r1 r2 => G j (by omega) (by omega) (by omega)) (fun j r1 r2 => G j (by omega) (by omega) (by omega)))
  · have T := rf_k (rg_k hr) bK (s' := s') (fun j r1 r2 => G j (by omega) (by omega) (by omega)) (fun j r1 r2 => G j (by omega) (by omega) (by omega))
    unfold rl_k
    rw [cKJ, show J 27 = I 27 from funext (fun j => X 27 j (by omega)), show J 29 = I 29 from funext (fun j => X 29 j (by omega)), show J 30 = I 30 from funext (fun j => X 30 j (by omega))]
    exact T
  · have Sd : ∀ k, k < cD I + 1 → k < cD I ∨ k = cD I := fun k hk => by omega
    unfold rl_d
    rw [cDJ]
    refine ⟨fun k hk => ?_, fun k hk => ?_, fun k hk => ?_, fun k hk => ?_, fun k hk => ?_, fun k hk => ?_, fun k hk => ?_, fun k hk => ?_, fun k hk => ?_, fun k hk => ?_, fun k hk => ?_, fun k hk => ?_⟩
    · rcases Sd k hk with z | z
      · rw [D 38 (by omega) (by omega) k z, D 32 (by omega) (by omega) k z, show 9552 + 12 * k = 9552 + 12 * k + 0 from rfl, Gd k 0 z (by omega)]; exact rl_d0 hr k z
      · rw [z, v31.2.2.2.2.2.2.2, v31.2.1, if_pos rfl]; exact gd.1
    · rcases Sd k hk with z | z
      · rw [E 39 (by omega) (by omega) _ (by omega), Gd k 1 z (by omega)]; exact rl_d1 hr k z
      · rw [z, (v39 39 (by omega) (by omega)).1]; exact gd.2.1
    · rcases Sd k hk with z | z
      · rw [E 40 (by omega) (by omega) _ (by omega), Gd k 2 z (by omega)]; exact rl_d2 hr k z
      · rw [z, (v39 40 (by omega) (by omega)).1]; exact gd.2.2.1
    · rcases Sd k hk with z | z
      · rw [E 41 (by omega) (by omega) _ (by omega), Gd k 3 z (by omega)]; exact rl_d3 hr k z
      · rw [z, (v39 41 (by omega) (by omega)).1]; exact gd.2.2.2.1
    · rcases Sd k hk with z | z
      · rw [E 39 (by omega) (by omega) _ (by omega), Gd k 4 z (by omega)]; exact rl_d4 hr k z
      · rw [z, (v39 39 (by omega) (by omega)).2]; exact gd.2.2.2.2.1
    · rcases Sd k hk with z | z
      · rw [E 40 (by omega) (by omega) _ (by omega), Gd k 5 z (by omega)]; exact rl_d5 hr k z
      · rw [z, (v39 40 (by omega) (by omega)).2]; exact gd.2.2.2.2.2.1
    · rcases Sd k hk with z | z
      · rw [E 41 (by omega) (by omega) _ (by omega), Gd k 6 z (by omega)]; exact rl_d6 hr k z
      · rw [z, (v39 41 (by omega) (by omega)).2]; exact gd.2.2.2.2.2.2.1
    · rcases Sd k hk with z | z
      · rw [D 35 (by omega) (by omega) k z, Gd k 7 z (by omega)]; exact rl_d7 hr k z
      · rw [z, v31.2.2.2.2.1]; exact gd.2.2.2.2.2.2.2.1
    · rcases Sd k hk with z | z
      · rw [D 33 (by omega) (by omega) k z, Gd k 8 z (by omega)]; exact rl_d8 hr k z
      · rw [z, v31.2.2.1]; exact gd.2.2.2.2.2.2.2.2.1
    · rcases Sd k hk with z | z
      · rw [D 36 (by omega) (by omega) k z, Gd k 9 z (by omega)]; exact rl_d9 hr k z
      · rw [z, v31.2.2.2.2.2.1]; exact gd.2.2.2.2.2.2.2.2.2.1
    · rcases Sd k hk with z | z
      · rw [D 37 (by omega) (by omega) k z, Gd k 10 z (by omega)]; exact rl_d10 hr k z
      · rw [z, v31.2.2.2.2.2.2.1]; exact gd.2.2.2.2.2.2.2.2.2.2.1
    · rcases Sd k hk with z | z
      · rw [D 38 (by omega) (by omega) k z, Gd k 11 z (by omega)]; exact rl_d11 hr k z
      · rw [z, v31.2.2.2.2.2.2.2]; exact gd.2.2.2.2.2.2.2.2.2.2.2
end
