/-! likely doors, on the reference's side -/
section
variable {I J : Nat → Nat → Int32} {L : Nat → Nat → Int64} {s s' : Nat → Int32}
theorem St_found (h : pu_St I L s) {c : Nat} (hc : c ≤ 100) (F : ∀ x j, ¬ (46 ≤ x ∧ x ≤ 48) → ¬ (x = 45 ∧ j = 2) → J x j = I x j) (v2 : J 45 2 = nI c) (G : ∀ j, j ≠ 11 → ¬ (59588 ≤ j ∧ j < 59788) → s' j = s j) (g11 : s' 11 = nI c) (g : ∀ k, k < c → s' (59588 + 2 * k) = J 46 k ∧ s' (59588 + 2 * k + 1) = J 47 k) : pu_St J L s' := by
  have hw := h.1
  have hr := h.2
  have bR := wx_bR hw
  have bS := wx_bS hw
  have bW := wx_bW hw
  have bO := wx_bO hw
  have bE := wx_bE hw
  have cQ' : cQ J = c := pz_cc v2 (by omega)
  have cE' : cE J = cE I := by unfold cE; rw [F 45 6 (by omega) (by omega)]
  have cR' : cR J = cR I := by unfold cR; rw [F 45 3 (by omega) (by omega)]
  have cS' : cS J = cS I := by unfold cS; rw [F 45 4 (by omega) (by omega)]
  have cW' : cW J = cW I := by unfold cW; rw [F 45 5 (by omega) (by omega)]
  have cO' : cO J = cO I := by unfold cO; rw [F 45 7 (by omega) (by omega)]
  rw [pu_dk_e (I := I) (I' := J) (fun a j ha => F a j (by omega) (by omega))]
  refine St_desk h (fun j hj => G j (by omega) (by omega)) ⟨⟨?_, ?_, ?_, ?_, ?_, ?_⟩, ⟨by omega, by omega, by omega, by omega, by omega, by omega⟩, fun k hk => ?_, fun a b hab hb => ?_⟩ ⟨?_, ?_, ?_, ?_, ?_, ?_, ?_, ?_⟩ ⟨fun k hk => ?_, fun k hk => ?_, fun k hk => ?_, fun k hk => ?_, fun k hk => ?_, fun k hk => ?_, fun k hk => ?_, fun k hk => ?_, fun k hk => ?_, fun k hk => ?_⟩
  · rw [cQ']; exact v2
  · rw [F 45 3 (by omega) (by omega), cR']; exact wx_cR hw
  · rw [F 45 4 (by omega) (by omega), cS']; exact wx_cS hw
  · rw [F 45 5 (by omega) (by omega), cW']; exact wx_cW hw
  · rw [F 45 6 (by omega) (by omega), cE']; exact wx_cE hw
  · rw [F 45 7 (by omega) (by omega), cO']; exact wx_cO hw
  · rw [cS'] at hk
    rw [F 53 k (by omega) (by omega)]; exact wx_es hw k hk
  · rw [cW'] at hb
    rw [F 54 a (by omega) (by omega), F 54 b (by omega) (by omega)]; exact wx_ew hw a b hab hb
  · rw [G 9 (by omega) (by omega), cS']; exact rl_h9 hr
  · rw [G 10 (by omega) (by omega), cE']; exact rl_h10 hr
  · rw [cQ']; exact g11
  · rw [G 12 (by omega) (by omega), cW']; exact rl_h12 hr
  · rw [G 13 (by omega) (by omega), cO']; exact rl_h13 hr
  · rw [G 14 (by omega) (by omega), cR']; exact rl_h14 hr
  · rw [G 15 (by omega) (by omega), F 45 0 (by omega) (by omega)]; exact rl_h15 hr
  · rw [G 16 (by omega) (by omega), F 45 1 (by omega) (by omega)]; exact rl_h16 hr
  · rw [cS'] at hk
    rw [G _ (by omega) (by omega), F 52 k (by omega) (by omega)]; exact rl_eS0 hr k hk
  · rw [cS'] at hk
    rw [G _ (by omega) (by omega), F 53 k (by omega) (by omega)]; exact rl_eS1 hr k hk
  · rw [cE'] at hk
    rw [G _ (by omega) (by omega), F 55 k (by omega) (by omega)]; exact rl_eE hr k hk
  · rw [cQ'] at hk
    exact (g k hk).1
  · rw [cQ'] at hk
    exact (g k hk).2
  · rw [cW'] at hk
    rw [G _ (by omega) (by omega), F 54 k (by omega) (by omega)]; exact rl_eW hr k hk
  · rw [cO'] at hk
    rw [G _ (by omega) (by omega), F 56 k (by omega) (by omega)]; exact rl_eO0 hr k hk
  · rw [cO'] at hk
    rw [G _ (by omega) (by omega), F 57 k (by omega) (by omega)]; exact rl_eO1 hr k hk
  · rw [cR'] at hk
    rw [G _ (by omega) (by omega), F 49 k (by omega) (by omega)]; exact rl_eR0 hr k hk
  · rw [cR'] at hk
    rw [G _ (by omega) (by omega), F 50 k (by omega) (by omega)]; exact rl_eR1 hr k hk
end
/-- only the rows of likely doors and their gaps have changed -/
def py_lf (M N : pu_M) : Prop := N.2 = M.2 ∧ ∀ c j, c ≠ 83 → c ≠ 84 → ¬ (c = 71 ∧ j = 22) → N.1 c j = M.1 c j
theorem py_lf_t {M N P : pu_M} (a : py_lf M N) (b : py_lf N P) : py_lf M P := ⟨b.1.trans a.1, fun c j h1 h2 h3 => by rw [b.2 c j h1 h2 h3, a.2 c j h1 h2 h3]⟩
theorem py_lf_r (M : pu_M) : py_lf M M := ⟨rfl, fun _ _ _ _ _ => rfl⟩
section
variable {M : pu_M} {I : Nat → Nat → Int32} {L : Nat → Nat → Int64} {st : Nat} {y : Int32}
def py_lkw (N : pu_M) (I : Nat → Nat → Int32) (st : Nat) (y : Int32) (W : Nat → Nat) (n : Nat) : Prop := ∀ j, j < n → N.1 83 j = nI (W j) ∧ N.1 84 j = nI (py_gp I st y (W j))
theorem r_lk_l (hw : pu_WF I L) (hst : st < 2147483648) {W : Nat → Nat} {n k : Nat} (hn : n ≤ 100) (hW : ∀ j, j < n → W j < cU I ∧ I 39 (pu_sl0 I (W j)) = nI st ∧ pu_tn I y (W j)) (hk : k < cU I) (hk2 : I 39 (pu_sl0 I k) = nI st) (hk3 : pu_tn I y k) (kx : Int32) (hkx : kx = 100000 * I 40 (pu_sl0 I k) + I 41 (pu_sl0 I k)) (ne : ∀ j, j < n → W j ≠ k) : ∀ (a : Nat) (N : pu_M), a ≤ n → pu_fx N → pu_Rel I L (N.1 72) → N.1 71 22 = nI (py_gp I st y k) → (∀ j, j < a → N.1 83 j = nI (W j) ∧ N.1 84 j = nI (py_gp I st y (W j))) → (∀ j, a < j → j ≤ n → N.1 83 j = nI (W (j - 1)) ∧ N.1 84 j = nI (py_gp I st y (W (j - 1)))) →
    ∃ b N1, b ≤ a ∧ py_lf N N1 ∧ N1.1 71 22 = N.1 71 22 ∧ (∀ j, j < b → N1.1 83 j = nI (W j) ∧ N1.1 84 j = nI (py_gp I st y (W j))) ∧ (∀ j, b < j → j ≤ n → N1.1 83 j = nI (W (j - 1)) ∧ N1.1 84 j = nI (py_gp I st y (W (j - 1)))) ∧ (∀ j, b ≤ j → j < a → py_ky I st y k < py_ky I st y (W j)) ∧ (b = 0 ∨ py_ky I st y (W (b - 1)) < py_ky I st y k) ∧
      pu_r 502 [some (.ref 71), some (.int (nI st)), some (.int y), some (.int (nI n)), some (.int (nI k)), some (.int (nI a)), some (.int kx)] [] N = kX12_likelyOn_192 pu_r [some (.ref 71), some (.int (nI st)), some (.int y), some (.int (nI n)), some (.int (nI k)), some (.int (nI b)), some (.int kx)] [] N1
  | 0, N, _, hx, hr, g22, h1, h2 => by
    refine ⟨0, N, Nat.le_refl _, py_lf_r N, rfl, h1, h2, fun j a b => by omega, Or.inl rfl, ?_⟩
    rw [qX12_likelyOn_82]
    simp [bX12_likelyOn_82, a_ild, a_ifle, nI_0]
  | a + 1, N, hle, hx, hr, g22, h1, h2 => by
    have bU := wx_bU hw
    have e : nI (a + 1) - 1 = nI a := nI_pred a
    have e2 : nI (a + 1) + (-1) = nI a := pk_m1 a
    have p0 : ¬ nI (a + 1) ≤ 0 := nI_nle (by omega) (by omega)
    have a1 : a < 200 := by omega
    have a2 : a + 1 < 200 := by omega
    obtain ⟨v83, v84⟩ := h1 a (by omega)
    obtain ⟨w1, w2, w3⟩ := hW a (by omega)
    obtain ⟨gb, s, p, s2, p2, es, ep, ek⟩ := py_ky_b hw hst hk hk2 hk3
    obtain ⟨gb', s', p', s2', p2', es', ep', ek'⟩ := py_ky_b hw hst w1 w2 w3
    have f1 := r_sideOf hx hr hw (W a) w1
    have f2 := r_pacesOf hx hr hw (W a) w1
    rw [es'] at f1
    rw [ep'] at f2
    have hkx2 : kx = nI (100000 * s + p) := by rw [hkx, es, ep, show (100000 : Int32) = nI 100000 from rfl, pk_mul, nI_add]
    have kyne : py_ky I st y (W a) ≠ py_ky I st y k := fun z => ne a (by omega) (py_ky_i hw hst w1 w2 w3 hk hk2 hk3 z)
    have h100 : (100000 : Int32) * nI s' + nI p' = nI (100000 * s' + p') := by rw [show (100000 : Int32) = nI 100000 from rfl, pk_mul, nI_add]
    have wl : W a < 2147483648 := by omega
    by_cases c : py_ky I st y k < py_ky I st y (W a)
    · -- move it up
      obtain ⟨Q, hQ⟩ : ∃ Q, pu_wi (pu_wi N 83 (a + 1) (nI (W a))) 84 (a + 1) (nI (py_gp I st y (W a))) = Q := ⟨_, rfl⟩
      have q83 : ∀ j, Q.1 83 j = if j = a + 1 then nI (W a) else N.1 83 j := fun j => by
        rw [← hQ, py_wi_o (by omega)]
        by_cases z : j = a + 1
        · rw [if_pos z, z]; simp [pu_wi_1]
        · rw [if_neg z, py_wi_o (by omega)]
      have q84 : ∀ j, Q.1 84 j = if j = a + 1 then nI (py_gp I st y (W a)) else N.1 84 j := fun j => by
        rw [← hQ]
        by_cases z : j = a + 1
        · rw [if_pos z, z]; simp [pu_wi_1]
        · rw [if_neg z, py_wi_o (by omega), py_wi_o (by omega)]
      have Qo : ∀ c j, c ≠ 83 → c ≠ 84 → Q.1 c j = N.1 c j := fun c j z1 z2 => by rw [← hQ, py_wi_o (by omega), py_wi_o (by omega)]
      have v1 : py_lf N Q := ⟨by rw [← hQ]; rfl, fun c j z1 z2 _ => Qo c j z1 z2⟩
      obtain ⟨b, N1, b1, b2, b3, b4, b5, b6, b7, b8⟩ := r_lk_l hw hst hn hW hk hk2 hk3 kx hkx ne a Q (by omega) (pz_fx_of hx v1.1) (by rw [show Q.1 72 = N.1 72 from funext (fun j => Qo 72 j (by omega) (by omega))]; exact hr) (by rw [Qo 71 22 (by omega) (by omega)]; exact g22) (fun j hj => by
        rw [q83, q84, if_neg (by omega), if_neg (by omega)]
        exact h1 j (by omega)) (fun j hj1 hj2 => by
        rw [q83, q84]
        by_cases z : j = a + 1
        · rw [if_pos z, if_pos z, z]
          exact ⟨rfl, rfl⟩
        · rw [if_neg z, if_neg z]
          exact h2 j (by omega) hj2)
      refine ⟨b, N1, by omega, py_lf_t v1 b2, b3.trans (Qo 71 22 (by omega) (by omega)), b4, b5, fun j z1 z2 => ?_, b7, ?_⟩
      · by_cases z : j = a
        · rw [z]; exact c
        · exact b6 j z1 (by omega)
      · rw [← b8]
        have g84 : (pu_wi N 83 (a + 1) (nI (W a))).1 84 a = nI (py_gp I st y (W a)) := by rw [py_wi_o (by omega)]; exact v84
        have gf : (pu_wi N 83 (a + 1) (nI (W a))).2.2.1 71 24 = some 84 := fx_71_24 hx
        have gf2 : (pu_wi N 83 (a + 1) (nI (W a))).2.2.1 71 23 = some 83 := fx_71_23 hx
        have F23 := fx_71_23 hx
        have F24 := fx_71_24 hx
        rw [qX12_likelyOn_82]
        generalize py_gp I st y (W a) = g' at *
        generalize py_gp I st y k = g at *
        by_cases d : g < g'
        · have d1 : ¬ nI g' ≤ nI g := nI_ge d (by omega)
          have d2 : nI g < nI g' := nI_lt d (by omega)
          generalize nI (W a) = wv at *
          generalize hN2 : pu_wi N 83 (a + 1) wv = N2 at *
          generalize nI g' = gv' at *
          generalize nI g = gv at *
          simp [bX12_likelyOn_82, bX12_likelyOn_154, bX12_likelyOn_126, a_ai, a_ald, a_cv, a_gi, a_gr, a_iadd, a_icgt, a_icle, a_icne, a_ifle, a_ild, a_imul, a_inc, a_isub, a_push, a_wi, sh_71, sh_83, sh_84, pu_rv, pu_as, Value.category, pu_bk, pu_kl, List.replicate, pu_wi_1, pu_wi_2, nl_add, nl_ladd, nl_aa, nl_mul, nl_rmul, nl_mm, pu_qe0, pu_qe1, p0, e, e2, a1, a2, v83, v84, g22, d1, d2, F23, F24, gf, gf2, g84, hN2, hQ, sh_83, sh_84]
          all_goals try simp (maxSteps := 400000) (disch := omega) [nl_tle, nl_fle, nl_tlt, nl_flt, nl_teq, nl_feq, nl_sub, nl_ss, nl_lt, nl_llt, nl_ltt, nl_le, nl_lle, nl_lee, nl_eq, nl_leq, nl_ee, nl_div, nl_rem, nl_cl, nl_n1, nl_n2, nl_n3, nl_n4, nl_add, nl_ladd, nl_aa, nl_mul, nl_rmul, nl_mm, pu_wi_1, pu_wi_2, bX12_likelyOn_82, bX12_likelyOn_154, bX12_likelyOn_126, a_ai, a_ald, a_cv, a_gi, a_gr, a_iadd, a_icgt, a_icle, a_icne, a_ifle, a_ild, a_imul, a_inc, a_isub, a_push, a_wi, sh_71, sh_83, sh_84, pu_rv, pu_as, Value.category, pu_bk, pu_kl, pu_qe0, pu_qe1, p0, e, e2, a1, a2, v83, v84, g22, d1, d2, F23, F24, gf, gf2, g84, hN2, hQ, sh_83, sh_84]
          all_goals try simp [bX12_likelyOn_82, bX12_likelyOn_154, bX12_likelyOn_126, a_ai, a_ald, a_cv, a_gi, a_gr, a_iadd, a_icgt, a_icle, a_icne, a_ifle, a_ild, a_imul, a_inc, a_isub, a_push, a_wi, sh_71, sh_83, sh_84, pu_rv, pu_as, Value.category, pu_bk, pu_kl, List.replicate, pu_wi_1, pu_wi_2, nl_add, nl_ladd, nl_aa, nl_mul, nl_rmul, nl_mm, pu_qe0, pu_qe1, p0, e, e2, a1, a2, v83, v84, g22, d1, d2, F23, F24, gf, gf2, g84, hN2, hQ, sh_83, sh_84]
          all_goals try simp (maxSteps := 400000) (disch := omega) [nl_tle, nl_fle, nl_tlt, nl_flt, nl_teq, nl_feq, nl_sub, nl_ss, nl_lt, nl_llt, nl_ltt, nl_le, nl_lle, nl_lee, nl_eq, nl_leq, nl_ee, nl_div, nl_rem, nl_cl, nl_n1, nl_n2, nl_n3, nl_n4, nl_add, nl_ladd, nl_aa, nl_mul, nl_rmul, nl_mm, pu_wi_1, pu_wi_2, bX12_likelyOn_82, bX12_likelyOn_154, bX12_likelyOn_126, a_ai, a_ald, a_cv, a_gi, a_gr, a_iadd, a_icgt, a_icle, a_icne, a_ifle, a_ild, a_imul, a_inc, a_isub, a_push, a_wi, sh_71, sh_83, sh_84, pu_rv, pu_as, Value.category, pu_bk, pu_kl, pu_qe0, pu_qe1, p0, e, e2, a1, a2, v83, v84, g22, d1, d2, F23, F24, gf, gf2, g84, hN2, hQ, sh_83, sh_84]
          all_goals try simp [bX12_likelyOn_82, bX12_likelyOn_154, bX12_likelyOn_126, a_ai, a_ald, a_cv, a_gi, a_gr, a_iadd, a_icgt, a_icle, a_icne, a_ifle, a_ild, a_imul, a_inc, a_isub, a_push, a_wi, sh_71, sh_83, sh_84, pu_rv, pu_as, Value.category, pu_bk, pu_kl, List.replicate, pu_wi_1, pu_wi_2, nl_add, nl_ladd, nl_aa, nl_mul, nl_rmul, nl_mm, pu_qe0, pu_qe1, p0, e, e2, a1, a2, v83, v84, g22, d1, d2, F23, F24, gf, gf2, g84, hN2, hQ, sh_83, sh_84]
          all_goals try simp (maxSteps := 400000) (disch := omega) [nl_tle, nl_fle, nl_tlt, nl_flt, nl_teq, nl_feq, nl_sub, nl_ss, nl_lt, nl_llt, nl_ltt, nl_le, nl_lle, nl_lee, nl_eq, nl_leq, nl_ee, nl_div, nl_rem, nl_cl, nl_n1, nl_n2, nl_n3, nl_n4, nl_add, nl_ladd, nl_aa, nl_mul, nl_rmul, nl_mm, pu_wi_1, pu_wi_2, bX12_likelyOn_82, bX12_likelyOn_154, bX12_likelyOn_126, a_ai, a_ald, a_cv, a_gi, a_gr, a_iadd, a_icgt, a_icle, a_icne, a_ifle, a_ild, a_imul, a_inc, a_isub, a_push, a_wi, sh_71, sh_83, sh_84, pu_rv, pu_as, Value.category, pu_bk, pu_kl, pu_qe0, pu_qe1, p0, e, e2, a1, a2, v83, v84, g22, d1, d2, F23, F24, gf, gf2, g84, hN2, hQ, sh_83, sh_84]
          all_goals try simp [bX12_likelyOn_82, bX12_likelyOn_154, bX12_likelyOn_126, a_ai, a_ald, a_cv, a_gi, a_gr, a_iadd, a_icgt, a_icle, a_icne, a_ifle, a_ild, a_imul, a_inc, a_isub, a_push, a_wi, sh_71, sh_83, sh_84, pu_rv, pu_as, Value.category, pu_bk, pu_kl, List.replicate, pu_wi_1, pu_wi_2, nl_add, nl_ladd, nl_aa, nl_mul, nl_rmul, nl_mm, pu_qe0, pu_qe1, p0, e, e2, a1, a2, v83, v84, g22, d1, d2, F23, F24, gf, gf2, g84, hN2, hQ, sh_83, sh_84]
        · have d0 : g = g' := by omega
          have d3 : ¬ 100000 * s' + p' ≤ 100000 * s + p := by omega
          have d4 : ¬ nI (100000 * s' + p') ≤ nI (100000 * s + p) := nI_ge (by omega) (by omega)
          have d5 : ¬ nI g < nI g := fun z => by rw [nI_ltI (by omega) (by omega)] at z; omega
          have d6 : nI g ≤ nI g := nI_le (by omega) (by omega)
          rw [← hkx2] at d4
          rw [← d0] at v84 g84 hQ
          generalize nI (W a) = wv at *
          generalize hN2 : pu_wi N 83 (a + 1) wv = N2 at *
          generalize nI g = gv at *
          simp [bX12_likelyOn_82, bX12_likelyOn_154, bX12_likelyOn_126, a_ai, a_ald, a_cv, a_gi, a_gr, a_iadd, a_icgt, a_icle, a_icne, a_ifle, a_ild, a_imul, a_inc, a_isub, a_push, a_wi, sh_71, sh_83, sh_84, pu_rv, pu_as, Value.category, pu_bk, pu_kl, List.replicate, pu_wi_1, pu_wi_2, nl_add, nl_ladd, nl_aa, nl_mul, nl_rmul, nl_mm, pu_qe0, pu_qe1, p0, e, e2, a1, a2, v83, v84, g22, d5, d6, F23, F24, gf, gf2, g84, hN2, hQ, f1, f2, d4, Int32.not_le.mp d4, sh_83, sh_84]
          all_goals try simp (maxSteps := 400000) (disch := omega) [nl_tle, nl_fle, nl_tlt, nl_flt, nl_teq, nl_feq, nl_sub, nl_ss, nl_lt, nl_llt, nl_ltt, nl_le, nl_lle, nl_lee, nl_eq, nl_leq, nl_ee, nl_div, nl_rem, nl_cl, nl_n1, nl_n2, nl_n3, nl_n4, nl_add, nl_ladd, nl_aa, nl_mul, nl_rmul, nl_mm, pu_wi_1, pu_wi_2, bX12_likelyOn_82, bX12_likelyOn_154, bX12_likelyOn_126, a_ai, a_ald, a_cv, a_gi, a_gr, a_iadd, a_icgt, a_icle, a_icne, a_ifle, a_ild, a_imul, a_inc, a_isub, a_push, a_wi, sh_71, sh_83, sh_84, pu_rv, pu_as, Value.category, pu_bk, pu_kl, pu_qe0, pu_qe1, p0, e, e2, a1, a2, v83, v84, g22, d5, d6, F23, F24, gf, gf2, g84, hN2, hQ, f1, f2, d4, Int32.not_le.mp d4, sh_83, sh_84]
          all_goals try simp [bX12_likelyOn_82, bX12_likelyOn_154, bX12_likelyOn_126, a_ai, a_ald, a_cv, a_gi, a_gr, a_iadd, a_icgt, a_icle, a_icne, a_ifle, a_ild, a_imul, a_inc, a_isub, a_push, a_wi, sh_71, sh_83, sh_84, pu_rv, pu_as, Value.category, pu_bk, pu_kl, List.replicate, pu_wi_1, pu_wi_2, nl_add, nl_ladd, nl_aa, nl_mul, nl_rmul, nl_mm, pu_qe0, pu_qe1, p0, e, e2, a1, a2, v83, v84, g22, d5, d6, F23, F24, gf, gf2, g84, hN2, hQ, f1, f2, d4, Int32.not_le.mp d4, sh_83, sh_84]
          all_goals try simp (maxSteps := 400000) (disch := omega) [nl_tle, nl_fle, nl_tlt, nl_flt, nl_teq, nl_feq, nl_sub, nl_ss, nl_lt, nl_llt, nl_ltt, nl_le, nl_lle, nl_lee, nl_eq, nl_leq, nl_ee, nl_div, nl_rem, nl_cl, nl_n1, nl_n2, nl_n3, nl_n4, nl_add, nl_ladd, nl_aa, nl_mul, nl_rmul, nl_mm, pu_wi_1, pu_wi_2, bX12_likelyOn_82, bX12_likelyOn_154, bX12_likelyOn_126, a_ai, a_ald, a_cv, a_gi, a_gr, a_iadd, a_icgt, a_icle, a_icne, a_ifle, a_ild, a_imul, a_inc, a_isub, a_push, a_wi, sh_71, sh_83, sh_84, pu_rv, pu_as, Value.category, pu_bk, pu_kl, pu_qe0, pu_qe1, p0, e, e2, a1, a2, v83, v84, g22, d5, d6, F23, F24, gf, gf2, g84, hN2, hQ, f1, f2, d4, Int32.not_le.mp d4, sh_83, sh_84]
          all_goals try simp [bX12_likelyOn_82, bX12_likelyOn_154, bX12_likelyOn_126, a_ai, a_ald, a_cv, a_gi, a_gr, a_iadd, a_icgt, a_icle, a_icne, a_ifle, a_ild, a_imul, a_inc, a_isub, a_push, a_wi, sh_71, sh_83, sh_84, pu_rv, pu_as, Value.category, pu_bk, pu_kl, List.replicate, pu_wi_1, pu_wi_2, nl_add, nl_ladd, nl_aa, nl_mul, nl_rmul, nl_mm, pu_qe0, pu_qe1, p0, e, e2, a1, a2, v83, v84, g22, d5, d6, F23, F24, gf, gf2, g84, hN2, hQ, f1, f2, d4, Int32.not_le.mp d4, sh_83, sh_84]
          all_goals try simp (maxSteps := 400000) (disch := omega) [nl_tle, nl_fle, nl_tlt, nl_flt, nl_teq, nl_feq, nl_sub, nl_ss, nl_lt, nl_llt, nl_ltt, nl_le, nl_lle, nl_lee, nl_eq, nl_leq, nl_ee, nl_div, nl_rem, nl_cl, nl_n1, nl_n2, nl_n3, nl_n4, nl_add, nl_ladd, nl_aa, nl_mul, nl_rmul, nl_mm, pu_wi_1, pu_wi_2, bX12_likelyOn_82, bX12_likelyOn_154, bX12_likelyOn_126, a_ai, a_ald, a_cv, a_gi, a_gr, a_iadd, a_icgt, a_icle, a_icne, a_ifle, a_ild, a_imul, a_inc, a_isub, a_push, a_wi, sh_71, sh_83, sh_84, pu_rv, pu_as, Value.category, pu_bk, pu_kl, pu_qe0, pu_qe1, p0, e, e2, a1, a2, v83, v84, g22, d5, d6, F23, F24, gf, gf2, g84, hN2, hQ, f1, f2, d4, Int32.not_le.mp d4, sh_83, sh_84]
          all_goals try simp [bX12_likelyOn_82, bX12_likelyOn_154, bX12_likelyOn_126, a_ai, a_ald, a_cv, a_gi, a_gr, a_iadd, a_icgt, a_icle, a_icne, a_ifle, a_ild, a_imul, a_inc, a_isub, a_push, a_wi, sh_71, sh_83, sh_84, pu_rv, pu_as, Value.category, pu_bk, pu_kl, List.replicate, pu_wi_1, pu_wi_2, nl_add, nl_ladd, nl_aa, nl_mul, nl_rmul, nl_mm, pu_qe0, pu_qe1, p0, e, e2, a1, a2, v83, v84, g22, d5, d6, F23, F24, gf, gf2, g84, hN2, hQ, f1, f2, d4, Int32.not_le.mp d4, sh_83, sh_84]
    · have c9 : py_ky I st y (W a) < py_ky I st y k := by omega
      refine ⟨a + 1, N, by omega, py_lf_r N, rfl, h1, h2, fun j z1 z2 => by omega, Or.inr c9, ?_⟩
      have F23 := fx_71_23 hx
      have F24 := fx_71_24 hx
      rw [qX12_likelyOn_82]
      generalize py_gp I st y (W a) = g' at *
      generalize py_gp I st y k = g at *
      by_cases d : g' < g
      · have d1 : nI g' ≤ nI g := nI_le (by omega) (by omega)
        have d2 : ¬ nI g < nI g' := fun z => by rw [nI_ltI (by omega) (by omega)] at z; omega
        have d3 : ¬ nI g' = nI g := fun z => by rw [nI_eq (by omega) (by omega)] at z; omega
        generalize nI g' = gv' at *
        generalize nI g = gv at *
        simp [bX12_likelyOn_82, bX12_likelyOn_154, bX12_likelyOn_126, a_ai, a_ald, a_cv, a_gi, a_gr, a_iadd, a_icgt, a_icle, a_icne, a_ifle, a_ild, a_imul, a_inc, a_isub, a_push, a_wi, sh_71, sh_83, sh_84, pu_rv, pu_as, Value.category, pu_bk, pu_kl, List.replicate, pu_wi_1, pu_wi_2, nl_add, nl_ladd, nl_aa, nl_mul, nl_rmul, nl_mm, pu_qe0, pu_qe1, p0, e, a1, v84, g22, d1, d2, d3, F24, sh_84]
        all_goals try simp (maxSteps := 400000) (disch := omega) [nl_tle, nl_fle, nl_tlt, nl_flt, nl_teq, nl_feq, nl_sub, nl_ss, nl_lt, nl_llt, nl_ltt, nl_le, nl_lle, nl_lee, nl_eq, nl_leq, nl_ee, nl_div, nl_rem, nl_cl, nl_n1, nl_n2, nl_n3, nl_n4, nl_add, nl_ladd, nl_aa, nl_mul, nl_rmul, nl_mm, pu_wi_1, pu_wi_2, bX12_likelyOn_82, bX12_likelyOn_154, bX12_likelyOn_126, a_ai, a_ald, a_cv, a_gi, a_gr, a_iadd, a_icgt, a_icle, a_icne, a_ifle, a_ild, a_imul, a_inc, a_isub, a_push, a_wi, sh_71, sh_83, sh_84, pu_rv, pu_as, Value.category, pu_bk, pu_kl, pu_qe0, pu_qe1, p0, e, a1, v84, g22, d1, d2, d3, F24, sh_84]
        all_goals try simp [bX12_likelyOn_82, bX12_likelyOn_154, bX12_likelyOn_126, a_ai, a_ald, a_cv, a_gi, a_gr, a_iadd, a_icgt, a_icle, a_icne, a_ifle, a_ild, a_imul, a_inc, a_isub, a_push, a_wi, sh_71, sh_83, sh_84, pu_rv, pu_as, Value.category, pu_bk, pu_kl, List.replicate, pu_wi_1, pu_wi_2, nl_add, nl_ladd, nl_aa, nl_mul, nl_rmul, nl_mm, pu_qe0, pu_qe1, p0, e, a1, v84, g22, d1, d2, d3, F24, sh_84]
        all_goals try simp (maxSteps := 400000) (disch := omega) [nl_tle, nl_fle, nl_tlt, nl_flt, nl_teq, nl_feq, nl_sub, nl_ss, nl_lt, nl_llt, nl_ltt, nl_le, nl_lle, nl_lee, nl_eq, nl_leq, nl_ee, nl_div, nl_rem, nl_cl, nl_n1, nl_n2, nl_n3, nl_n4, nl_add, nl_ladd, nl_aa, nl_mul, nl_rmul, nl_mm, pu_wi_1, pu_wi_2, bX12_likelyOn_82, bX12_likelyOn_154, bX12_likelyOn_126, a_ai, a_ald, a_cv, a_gi, a_gr, a_iadd, a_icgt, a_icle, a_icne, a_ifle, a_ild, a_imul, a_inc, a_isub, a_push, a_wi, sh_71, sh_83, sh_84, pu_rv, pu_as, Value.category, pu_bk, pu_kl, pu_qe0, pu_qe1, p0, e, a1, v84, g22, d1, d2, d3, F24, sh_84]
        all_goals try simp [bX12_likelyOn_82, bX12_likelyOn_154, bX12_likelyOn_126, a_ai, a_ald, a_cv, a_gi, a_gr, a_iadd, a_icgt, a_icle, a_icne, a_ifle, a_ild, a_imul, a_inc, a_isub, a_push, a_wi, sh_71, sh_83, sh_84, pu_rv, pu_as, Value.category, pu_bk, pu_kl, List.replicate, pu_wi_1, pu_wi_2, nl_add, nl_ladd, nl_aa, nl_mul, nl_rmul, nl_mm, pu_qe0, pu_qe1, p0, e, a1, v84, g22, d1, d2, d3, F24, sh_84]
        all_goals try simp (maxSteps := 400000) (disch := omega) [nl_tle, nl_fle, nl_tlt, nl_flt, nl_teq, nl_feq, nl_sub, nl_ss, nl_lt, nl_llt, nl_ltt, nl_le, nl_lle, nl_lee, nl_eq, nl_leq, nl_ee, nl_div, nl_rem, nl_cl, nl_n1, nl_n2, nl_n3, nl_n4, nl_add, nl_ladd, nl_aa, nl_mul, nl_rmul, nl_mm, pu_wi_1, pu_wi_2, bX12_likelyOn_82, bX12_likelyOn_154, bX12_likelyOn_126, a_ai, a_ald, a_cv, a_gi, a_gr, a_iadd, a_icgt, a_icle, a_icne, a_ifle, a_ild, a_imul, a_inc, a_isub, a_push, a_wi, sh_71, sh_83, sh_84, pu_rv, pu_as, Value.category, pu_bk, pu_kl, pu_qe0, pu_qe1, p0, e, a1, v84, g22, d1, d2, d3, F24, sh_84]
        all_goals try simp [bX12_likelyOn_82, bX12_likelyOn_154, bX12_likelyOn_126, a_ai, a_ald, a_cv, a_gi, a_gr, a_iadd, a_icgt, a_icle, a_icne, a_ifle, a_ild, a_imul, a_inc, a_isub, a_push, a_wi, sh_71, sh_83, sh_84, pu_rv, pu_as, Value.category, pu_bk, pu_kl, List.replicate, pu_wi_1, pu_wi_2, nl_add, nl_ladd, nl_aa, nl_mul, nl_rmul, nl_mm, pu_qe0, pu_qe1, p0, e, a1, v84, g22, d1, d2, d3, F24, sh_84]
      · have d0 : g = g' := by omega
        have d3 : 100000 * s' + p' ≤ 100000 * s + p := by omega
        have d4 : nI (100000 * s' + p') ≤ nI (100000 * s + p) := nI_le d3 (by omega)
        have d5 : ¬ nI g < nI g := fun z => by rw [nI_ltI (by omega) (by omega)] at z; omega
        have d6 : nI g ≤ nI g := nI_le (by omega) (by omega)
        rw [← hkx2] at d4
        rw [← d0] at v84
        generalize nI (W a) = wv at *
        generalize nI g = gv at *
        simp [bX12_likelyOn_82, bX12_likelyOn_154, bX12_likelyOn_126, a_ai, a_ald, a_cv, a_gi, a_gr, a_iadd, a_icgt, a_icle, a_icne, a_ifle, a_ild, a_imul, a_inc, a_isub, a_push, a_wi, sh_71, sh_83, sh_84, pu_rv, pu_as, Value.category, pu_bk, pu_kl, List.replicate, pu_wi_1, pu_wi_2, nl_add, nl_ladd, nl_aa, nl_mul, nl_rmul, nl_mm, pu_qe0, pu_qe1, p0, e, a1, v83, v84, g22, d5, d6, F23, F24, f1, f2, d4, Int32.not_lt.mpr d4, sh_83, sh_84]
        all_goals try simp (maxSteps := 400000) (disch := omega) [nl_tle, nl_fle, nl_tlt, nl_flt, nl_teq, nl_feq, nl_sub, nl_ss, nl_lt, nl_llt, nl_ltt, nl_le, nl_lle, nl_lee, nl_eq, nl_leq, nl_ee, nl_div, nl_rem, nl_cl, nl_n1, nl_n2, nl_n3, nl_n4, nl_add, nl_ladd, nl_aa, nl_mul, nl_rmul, nl_mm, pu_wi_1, pu_wi_2, bX12_likelyOn_82, bX12_likelyOn_154, bX12_likelyOn_126, a_ai, a_ald, a_cv, a_gi, a_gr, a_iadd, a_icgt, a_icle, a_icne, a_ifle, a_ild, a_imul, a_inc, a_isub, a_push, a_wi, sh_71, sh_83, sh_84, pu_rv, pu_as, Value.category, pu_bk, pu_kl, pu_qe0, pu_qe1, p0, e, a1, v83, v84, g22, d5, d6, F23, F24, f1, f2, d4, Int32.not_lt.mpr d4, sh_83, sh_84]
        all_goals try simp [bX12_likelyOn_82, bX12_likelyOn_154, bX12_likelyOn_126, a_ai, a_ald, a_cv, a_gi, a_gr, a_iadd, a_icgt, a_icle, a_icne, a_ifle, a_ild, a_imul, a_inc, a_isub, a_push, a_wi, sh_71, sh_83, sh_84, pu_rv, pu_as, Value.category, pu_bk, pu_kl, List.replicate, pu_wi_1, pu_wi_2, nl_add, nl_ladd, nl_aa, nl_mul, nl_rmul, nl_mm, pu_qe0, pu_qe1, p0, e, a1, v83, v84, g22, d5, d6, F23, F24, f1, f2, d4, Int32.not_lt.mpr d4, sh_83, sh_84]
        all_goals try simp (maxSteps := 400000) (disch := omega) [nl_tle, nl_fle, nl_tlt, nl_flt, nl_teq, nl_feq, nl_sub, nl_ss, nl_lt, nl_llt, nl_ltt, nl_le, nl_lle, nl_lee, nl_eq, nl_leq, nl_ee, nl_div, nl_rem, nl_cl, nl_n1, nl_n2, nl_n3, nl_n4, nl_add, nl_ladd, nl_aa, nl_mul, nl_rmul, nl_mm, pu_wi_1, pu_wi_2, bX12_likelyOn_82, bX12_likelyOn_154, bX12_likelyOn_126, a_ai, a_ald, a_cv, a_gi, a_gr, a_iadd, a_icgt, a_icle, a_icne, a_ifle, a_ild, a_imul, a_inc, a_isub, a_push, a_wi, sh_71, sh_83, sh_84, pu_rv, pu_as, Value.category, pu_bk, pu_kl, pu_qe0, pu_qe1, p0, e, a1, v83, v84, g22, d5, d6, F23, F24, f1, f2, d4, Int32.not_lt.mpr d4, sh_83, sh_84]
        all_goals try simp [bX12_likelyOn_82, bX12_likelyOn_154, bX12_likelyOn_126, a_ai, a_ald, a_cv, a_gi, a_gr, a_iadd, a_icgt, a_icle, a_icne, a_ifle, a_ild, a_imul, a_inc, a_isub, a_push, a_wi, sh_71, sh_83, sh_84, pu_rv, pu_as, Value.category, pu_bk, pu_kl, List.replicate, pu_wi_1, pu_wi_2, nl_add, nl_ladd, nl_aa, nl_mul, nl_rmul, nl_mm, pu_qe0, pu_qe1, p0, e, a1, v83, v84, g22, d5, d6, F23, F24, f1, f2, d4, Int32.not_lt.mpr d4, sh_83, sh_84]
        all_goals try simp (maxSteps := 400000) (disch := omega) [nl_tle, nl_fle, nl_tlt, nl_flt, nl_teq, nl_feq, nl_sub, nl_ss, nl_lt, nl_llt, nl_ltt, nl_le, nl_lle, nl_lee, nl_eq, nl_leq, nl_ee, nl_div, nl_rem, nl_cl, nl_n1, nl_n2, nl_n3, nl_n4, nl_add, nl_ladd, nl_aa, nl_mul, nl_rmul, nl_mm, pu_wi_1, pu_wi_2, bX12_likelyOn_82, bX12_likelyOn_154, bX12_likelyOn_126, a_ai, a_ald, a_cv, a_gi, a_gr, a_iadd, a_icgt, a_icle, a_icne, a_ifle, a_ild, a_imul, a_inc, a_isub, a_push, a_wi, sh_71, sh_83, sh_84, pu_rv, pu_as, Value.category, pu_bk, pu_kl, pu_qe0, pu_qe1, p0, e, a1, v83, v84, g22, d5, d6, F23, F24, f1, f2, d4, Int32.not_lt.mpr d4, sh_83, sh_84]
        all_goals try simp [bX12_likelyOn_82, bX12_likelyOn_154, bX12_likelyOn_126, a_ai, a_ald, a_cv, a_gi, a_gr, a_iadd, a_icgt, a_icle, a_icne, a_ifle, a_ild, a_imul, a_inc, a_isub, a_push, a_wi, sh_71, sh_83, sh_84, pu_rv, pu_as, Value.category, pu_bk, pu_kl, List.replicate, pu_wi_1, pu_wi_2, nl_add, nl_ladd, nl_aa, nl_mul, nl_rmul, nl_mm, pu_qe0, pu_qe1, p0, e, a1, v83, v84, g22, d5, d6, F23, F24, f1, f2, d4, Int32.not_lt.mpr d4, sh_83, sh_84]
/-- the likely spans below i -/
def py_ls (I : Nat → Nat → Int32) (st w : Nat) (y : Int32) (i k : Nat) : Prop := k < i ∧ I 16 k = 0 ∧ (I 39 (pu_sl0 I k) = nI st ∧ pu_sh1 I y k) ∧ py_mh I st w y k
theorem py_ls_n (hw : pu_WF I L) (hst : st < 2147483648) (hy : ¬ y < 0) {w i n : Nat} {W : Nat → Nat} (hi : i ≤ cU I) (h : py_SL (py_ky I st y) (py_ls I st w y i) W n) : n ≤ 100 := by
  have bD := wx_bD hw
  have C : ∀ a, a < n → W a < cU I ∧ pu_cf I st y (W a) := fun a ha => by
    obtain ⟨q1, _, q3, _⟩ := h.1 a ha
    exact ⟨by omega, (py_cf_sh hy (W a)).mpr q3⟩
  have := pu_pig (cD I) n (fun a => pu_sl0 I (W a) / 2) (fun a ha => by
    have := (pu_sl_lt hw (C a ha).1).1
    show pu_sl0 I (W a) / 2 < cD I
    omega) (fun a b hab hb => pu_inj hw st hst y (W a) (W b) (C a (by omega)).1 (C b hb).1 (C a (by omega)).2 (C b hb).2 (fun e => by
    have := h.2.2 a b hab hb
    rw [e] at this
    omega))
  omega
theorem r_lo_l (hw : pu_WF I L) (hst : st < cK I) {w : Nat} (hwl : w < 160000) (hy : ¬ y < 0) : ∀ (m i : Nat) (N : pu_M) (W : Nat → Nat) (n : Nat) (t5 t6 : Option Value), i + m = cU I → pu_fx N → pu_Rel I L (N.1 72) → N.1 71 17 = nI w → py_lkw N I st y W n → py_SL (py_ky I st y) (py_ls I st w y i) W n → ∃ N1 W1 n1, n1 ≤ 100 ∧ py_lf N N1 ∧ py_lkw N1 I st y W1 n1 ∧ py_SL (py_ky I st y) (py_ls I st w y (cU I)) W1 n1 ∧ pu_r 501 [some (.ref 71), some (.int (nI st)), some (.int y), some (.int (nI n)), some (.int (nI i)), t5, t6] [] N = some (some (.int (nI n1)), N1)
  | 0, i, N, W, n, t5, t6, hi, hx, hr, h17, lw, sl => by
    have bU := wx_bU hw
    have bK := wx_bK hw
    have h6 := rl_h6 hr
    have e : i = cU I := by omega
    have hc : nI (cU I) ≤ nI (cU I) := nI_le (by omega) (by omega)
    refine ⟨N, W, n, py_ls_n hw (by omega) hy (by omega) sl, py_lf_r N, lw, by rw [← e]; exact sl, ?_⟩
    rw [e]
    rw [qX12_likelyOn_5]
    simp [bX12_likelyOn_5, bX12_likelyOn_221, bX12_likelyOn_215, bX12_likelyOn_48, bX12_likelyOn_61, a_ai, a_ald, a_cv, a_gr, a_iadd, a_icge, a_ifeq, a_ifne, a_ild, a_imul, a_inc, a_iret, a_ist, a_push, fx_71_0 hx, sh_71, sh_72, pu_rv, pu_as, Value.category, pu_bk, pu_kl, List.replicate, pu_wi_1, pu_wi_2, nl_add, nl_ladd, nl_aa, nl_mul, nl_rmul, nl_mm, pu_qe0, pu_qe1, h6, hc]
    all_goals try simp (maxSteps := 400000) (disch := omega) [nl_tle, nl_fle, nl_tlt, nl_flt, nl_teq, nl_feq, nl_sub, nl_ss, nl_lt, nl_llt, nl_ltt, nl_le, nl_lle, nl_lee, nl_eq, nl_leq, nl_ee, nl_div, nl_rem, nl_cl, nl_n1, nl_n2, nl_n3, nl_n4, nl_add, nl_ladd, nl_aa, nl_mul, nl_rmul, nl_mm, pu_wi_1, pu_wi_2, bX12_likelyOn_5, bX12_likelyOn_221, bX12_likelyOn_215, bX12_likelyOn_48, bX12_likelyOn_61, a_ai, a_ald, a_cv, a_gr, a_iadd, a_icge, a_ifeq, a_ifne, a_ild, a_imul, a_inc, a_iret, a_ist, a_push, fx_71_0 hx, sh_71, sh_72, pu_rv, pu_as, Value.category, pu_bk, pu_kl, pu_qe0, pu_qe1, h6, hc]
    all_goals try simp [bX12_likelyOn_5, bX12_likelyOn_221, bX12_likelyOn_215, bX12_likelyOn_48, bX12_likelyOn_61, a_ai, a_ald, a_cv, a_gr, a_iadd, a_icge, a_ifeq, a_ifne, a_ild, a_imul, a_inc, a_iret, a_ist, a_push, fx_71_0 hx, sh_71, sh_72, pu_rv, pu_as, Value.category, pu_bk, pu_kl, List.replicate, pu_wi_1, pu_wi_2, nl_add, nl_ladd, nl_aa, nl_mul, nl_rmul, nl_mm, pu_qe0, pu_qe1, h6, hc]
    all_goals try simp (maxSteps := 400000) (disch := omega) [nl_tle, nl_fle, nl_tlt, nl_flt, nl_teq, nl_feq, nl_sub, nl_ss, nl_lt, nl_llt, nl_ltt, nl_le, nl_lle, nl_lee, nl_eq, nl_leq, nl_ee, nl_div, nl_rem, nl_cl, nl_n1, nl_n2, nl_n3, nl_n4, nl_add, nl_ladd, nl_aa, nl_mul, nl_rmul, nl_mm, pu_wi_1, pu_wi_2, bX12_likelyOn_5, bX12_likelyOn_221, bX12_likelyOn_215, bX12_likelyOn_48, bX12_likelyOn_61, a_ai, a_ald, a_cv, a_gr, a_iadd, a_icge, a_ifeq, a_ifne, a_ild, a_imul, a_inc, a_iret, a_ist, a_push, fx_71_0 hx, sh_71, sh_72, pu_rv, pu_as, Value.category, pu_bk, pu_kl, pu_qe0, pu_qe1, h6, hc]
    all_goals try simp [bX12_likelyOn_5, bX12_likelyOn_221, bX12_likelyOn_215, bX12_likelyOn_48, bX12_likelyOn_61, a_ai, a_ald, a_cv, a_gr, a_iadd, a_icge, a_ifeq, a_ifne, a_ild, a_imul, a_inc, a_iret, a_ist, a_push, fx_71_0 hx, sh_71, sh_72, pu_rv, pu_as, Value.category, pu_bk, pu_kl, List.replicate, pu_wi_1, pu_wi_2, nl_add, nl_ladd, nl_aa, nl_mul, nl_rmul, nl_mm, pu_qe0, pu_qe1, h6, hc]
    all_goals try simp (maxSteps := 400000) (disch := omega) [nl_tle, nl_fle, nl_tlt, nl_flt, nl_teq, nl_feq, nl_sub, nl_ss, nl_lt, nl_llt, nl_ltt, nl_le, nl_lle, nl_lee, nl_eq, nl_leq, nl_ee, nl_div, nl_rem, nl_cl, nl_n1, nl_n2, nl_n3, nl_n4, nl_add, nl_ladd, nl_aa, nl_mul, nl_rmul, nl_mm, pu_wi_1, pu_wi_2, bX12_likelyOn_5, bX12_likelyOn_221, bX12_likelyOn_215, bX12_likelyOn_48, bX12_likelyOn_61, a_ai, a_ald, a_cv, a_gr, a_iadd, a_icge, a_ifeq, a_ifne, a_ild, a_imul, a_inc, a_iret, a_ist, a_push, fx_71_0 hx, sh_71, sh_72, pu_rv, pu_as, Value.category, pu_bk, pu_kl, pu_qe0, pu_qe1, h6, hc]
    all_goals try simp [bX12_likelyOn_5, bX12_likelyOn_221, bX12_likelyOn_215, bX12_likelyOn_48, bX12_likelyOn_61, a_ai, a_ald, a_cv, a_gr, a_iadd, a_icge, a_ifeq, a_ifne, a_ild, a_imul, a_inc, a_iret, a_ist, a_push, fx_71_0 hx, sh_71, sh_72, pu_rv, pu_as, Value.category, pu_bk, pu_kl, List.replicate, pu_wi_1, pu_wi_2, nl_add, nl_ladd, nl_aa, nl_mul, nl_rmul, nl_mm, pu_qe0, pu_qe1, h6, hc]
  | m + 1, i, N, W, n, t5, t6, hi, hx, hr, h17, lw, sl => by
    have bU := wx_bU hw
    have bK := wx_bK hw
    have hstL : st < 2147483648 := by omega
    have h6 := rl_h6 hr
    have ii : i < cU I := by omega
    have i3 : i < 3000 := by omega
    have hc : ¬ nI (cU I) ≤ nI i := nI_ge (by omega) (by omega)
    have u3 := rl_u3 hr i ii
    have e1 := r_isOn hx hr hw i ii (nI st) y
    have SK : ∀ N2 : pu_M, py_lf N N2 → (∀ c j, c = 83 ∨ c = 84 → N2.1 c j = N.1 c j) → ¬ (I 16 i = 0 ∧ (I 39 (pu_sl0 I i) = nI st ∧ pu_sh1 I y i) ∧ py_mh I st w y i) → pu_r 501 [some (.ref 71), some (.int (nI st)), some (.int y), some (.int (nI n)), some (.int (nI i)), t5, t6] [] N = pu_r 501 [some (.ref 71), some (.int (nI st)), some (.int y), some (.int (nI n)), some (.int (nI (i + 1))), t5, t6] [] N2 → ∃ N1 W1 n1, n1 ≤ 100 ∧ py_lf N N1 ∧ py_lkw N1 I st y W1 n1 ∧ py_SL (py_ky I st y) (py_ls I st w y (cU I)) W1 n1 ∧ pu_r 501 [some (.ref 71), some (.int (nI st)), some (.int y), some (.int (nI n)), some (.int (nI i)), t5, t6] [] N = some (some (.int (nI n1)), N1) := fun N2 l2 l3 no e => by
      obtain ⟨N1, W1, n1, x1, x2, x3, x4, x5⟩ := r_lo_l hw hst hwl hy m (i + 1) N2 W n t5 t6 (by omega) (pz_fx_of hx l2.1) (by rw [show N2.1 72 = N.1 72 from funext (fun j => l2.2 72 j (by omega) (by omega) (by omega))]; exact hr) (by rw [l2.2 71 17 (by omega) (by omega) (by omega)]; exact h17) (fun j hj => by rw [l3 83 j (Or.inl rfl), l3 84 j (Or.inr rfl)]; exact lw j hj) (py_SL_c sl (fun k => by
        constructor
        · rintro ⟨k1, k2⟩
          exact ⟨by omega, k2⟩
        · rintro ⟨k1, k2⟩
          by_cases z : k = i
          · rw [z] at k2
            exact absurd k2 no
          · exact ⟨by omega, k2⟩))
      exact ⟨N1, W1, n1, x1, py_lf_t l2 x2, x3, x4, e.trans x5⟩
    by_cases c1 : I 16 i = 0
    rotate_left
    · refine SK N (py_lf_r N) (fun _ _ _ => rfl) (fun z => c1 z.1) ?_
      generalize I 16 i = v at *
      rw [qX12_likelyOn_5]
      simp [bX12_likelyOn_5, bX12_likelyOn_221, bX12_likelyOn_215, bX12_likelyOn_48, bX12_likelyOn_61, a_ai, a_ald, a_cv, a_gr, a_iadd, a_icge, a_ifeq, a_ifne, a_ild, a_imul, a_inc, a_iret, a_ist, a_push, fx_71_0 hx, sh_71, sh_72, pu_rv, pu_as, Value.category, pu_bk, pu_kl, List.replicate, pu_wi_1, pu_wi_2, nl_add, nl_ladd, nl_aa, nl_mul, nl_rmul, nl_mm, pu_qe0, pu_qe1, h6, hc, i3, u3, c1]
      all_goals try simp (maxSteps := 400000) (disch := omega) [nl_tle, nl_fle, nl_tlt, nl_flt, nl_teq, nl_feq, nl_sub, nl_ss, nl_lt, nl_llt, nl_ltt, nl_le, nl_lle, nl_lee, nl_eq, nl_leq, nl_ee, nl_div, nl_rem, nl_cl, nl_n1, nl_n2, nl_n3, nl_n4, nl_add, nl_ladd, nl_aa, nl_mul, nl_rmul, nl_mm, pu_wi_1, pu_wi_2, bX12_likelyOn_5, bX12_likelyOn_221, bX12_likelyOn_215, bX12_likelyOn_48, bX12_likelyOn_61, a_ai, a_ald, a_cv, a_gr, a_iadd, a_icge, a_ifeq, a_ifne, a_ild, a_imul, a_inc, a_iret, a_ist, a_push, fx_71_0 hx, sh_71, sh_72, pu_rv, pu_as, Value.category, pu_bk, pu_kl, pu_qe0, pu_qe1, h6, hc, i3, u3, c1]
      all_goals try simp [bX12_likelyOn_5, bX12_likelyOn_221, bX12_likelyOn_215, bX12_likelyOn_48, bX12_likelyOn_61, a_ai, a_ald, a_cv, a_gr, a_iadd, a_icge, a_ifeq, a_ifne, a_ild, a_imul, a_inc, a_iret, a_ist, a_push, fx_71_0 hx, sh_71, sh_72, pu_rv, pu_as, Value.category, pu_bk, pu_kl, List.replicate, pu_wi_1, pu_wi_2, nl_add, nl_ladd, nl_aa, nl_mul, nl_rmul, nl_mm, pu_qe0, pu_qe1, h6, hc, i3, u3, c1]
      all_goals try simp (maxSteps := 400000) (disch := omega) [nl_tle, nl_fle, nl_tlt, nl_flt, nl_teq, nl_feq, nl_sub, nl_ss, nl_lt, nl_llt, nl_ltt, nl_le, nl_lle, nl_lee, nl_eq, nl_leq, nl_ee, nl_div, nl_rem, nl_cl, nl_n1, nl_n2, nl_n3, nl_n4, nl_add, nl_ladd, nl_aa, nl_mul, nl_rmul, nl_mm, pu_wi_1, pu_wi_2, bX12_likelyOn_5, bX12_likelyOn_221, bX12_likelyOn_215, bX12_likelyOn_48, bX12_likelyOn_61, a_ai, a_ald, a_cv, a_gr, a_iadd, a_icge, a_ifeq, a_ifne, a_ild, a_imul, a_inc, a_iret, a_ist, a_push, fx_71_0 hx, sh_71, sh_72, pu_rv, pu_as, Value.category, pu_bk, pu_kl, pu_qe0, pu_qe1, h6, hc, i3, u3, c1]
      all_goals try simp [bX12_likelyOn_5, bX12_likelyOn_221, bX12_likelyOn_215, bX12_likelyOn_48, bX12_likelyOn_61, a_ai, a_ald, a_cv, a_gr, a_iadd, a_icge, a_ifeq, a_ifne, a_ild, a_imul, a_inc, a_iret, a_ist, a_push, fx_71_0 hx, sh_71, sh_72, pu_rv, pu_as, Value.category, pu_bk, pu_kl, List.replicate, pu_wi_1, pu_wi_2, nl_add, nl_ladd, nl_aa, nl_mul, nl_rmul, nl_mm, pu_qe0, pu_qe1, h6, hc, i3, u3, c1]
      all_goals try simp (maxSteps := 400000) (disch := omega) [nl_tle, nl_fle, nl_tlt, nl_flt, nl_teq, nl_feq, nl_sub, nl_ss, nl_lt, nl_llt, nl_ltt, nl_le, nl_lle, nl_lee, nl_eq, nl_leq, nl_ee, nl_div, nl_rem, nl_cl, nl_n1, nl_n2, nl_n3, nl_n4, nl_add, nl_ladd, nl_aa, nl_mul, nl_rmul, nl_mm, pu_wi_1, pu_wi_2, bX12_likelyOn_5, bX12_likelyOn_221, bX12_likelyOn_215, bX12_likelyOn_48, bX12_likelyOn_61, a_ai, a_ald, a_cv, a_gr, a_iadd, a_icge, a_ifeq, a_ifne, a_ild, a_imul, a_inc, a_iret, a_ist, a_push, fx_71_0 hx, sh_71, sh_72, pu_rv, pu_as, Value.category, pu_bk, pu_kl, pu_qe0, pu_qe1, h6, hc, i3, u3, c1]
      all_goals try simp [bX12_likelyOn_5, bX12_likelyOn_221, bX12_likelyOn_215, bX12_likelyOn_48, bX12_likelyOn_61, a_ai, a_ald, a_cv, a_gr, a_iadd, a_icge, a_ifeq, a_ifne, a_ild, a_imul, a_inc, a_iret, a_ist, a_push, fx_71_0 hx, sh_71, sh_72, pu_rv, pu_as, Value.category, pu_bk, pu_kl, List.replicate, pu_wi_1, pu_wi_2, nl_add, nl_ladd, nl_aa, nl_mul, nl_rmul, nl_mm, pu_qe0, pu_qe1, h6, hc, i3, u3, c1]
    rw [c1] at u3
    by_cases c2 : I 39 (pu_sl0 I i) = nI st ∧ pu_sh1 I y i
    rotate_left
    · rw [pu_q0 c2] at e1
      refine SK N (py_lf_r N) (fun _ _ _ => rfl) (fun z => c2 z.2.1) ?_
      rw [qX12_likelyOn_5]
      simp [bX12_likelyOn_5, bX12_likelyOn_221, bX12_likelyOn_215, bX12_likelyOn_48, bX12_likelyOn_61, a_ai, a_ald, a_cv, a_gr, a_iadd, a_icge, a_ifeq, a_ifne, a_ild, a_imul, a_inc, a_iret, a_ist, a_push, fx_71_0 hx, sh_71, sh_72, pu_rv, pu_as, Value.category, pu_bk, pu_kl, List.replicate, pu_wi_1, pu_wi_2, nl_add, nl_ladd, nl_aa, nl_mul, nl_rmul, nl_mm, pu_qe0, pu_qe1, h6, hc, i3, u3, e1]
      all_goals try simp (maxSteps := 400000) (disch := omega) [nl_tle, nl_fle, nl_tlt, nl_flt, nl_teq, nl_feq, nl_sub, nl_ss, nl_lt, nl_llt, nl_ltt, nl_le, nl_lle, nl_lee, nl_eq, nl_leq, nl_ee, nl_div, nl_rem, nl_cl, nl_n1, nl_n2, nl_n3, nl_n4, nl_add, nl_ladd, nl_aa, nl_mul, nl_rmul, nl_mm, pu_wi_1, pu_wi_2, bX12_likelyOn_5, bX12_likelyOn_221, bX12_likelyOn_215, bX12_likelyOn_48, bX12_likelyOn_61, a_ai, a_ald, a_cv, a_gr, a_iadd, a_icge, a_ifeq, a_ifne, a_ild, a_imul, a_inc, a_iret, a_ist, a_push, fx_71_0 hx, sh_71, sh_72, pu_rv, pu_as, Value.category, pu_bk, pu_kl, pu_qe0, pu_qe1, h6, hc, i3, u3, e1]
      all_goals try simp [bX12_likelyOn_5, bX12_likelyOn_221, bX12_likelyOn_215, bX12_likelyOn_48, bX12_likelyOn_61, a_ai, a_ald, a_cv, a_gr, a_iadd, a_icge, a_ifeq, a_ifne, a_ild, a_imul, a_inc, a_iret, a_ist, a_push, fx_71_0 hx, sh_71, sh_72, pu_rv, pu_as, Value.category, pu_bk, pu_kl, List.replicate, pu_wi_1, pu_wi_2, nl_add, nl_ladd, nl_aa, nl_mul, nl_rmul, nl_mm, pu_qe0, pu_qe1, h6, hc, i3, u3, e1]
      all_goals try simp (maxSteps := 400000) (disch := omega) [nl_tle, nl_fle, nl_tlt, nl_flt, nl_teq, nl_feq, nl_sub, nl_ss, nl_lt, nl_llt, nl_ltt, nl_le, nl_lle, nl_lee, nl_eq, nl_leq, nl_ee, nl_div, nl_rem, nl_cl, nl_n1, nl_n2, nl_n3, nl_n4, nl_add, nl_ladd, nl_aa, nl_mul, nl_rmul, nl_mm, pu_wi_1, pu_wi_2, bX12_likelyOn_5, bX12_likelyOn_221, bX12_likelyOn_215, bX12_likelyOn_48, bX12_likelyOn_61, a_ai, a_ald, a_cv, a_gr, a_iadd, a_icge, a_ifeq, a_ifne, a_ild, a_imul, a_inc, a_iret, a_ist, a_push, fx_71_0 hx, sh_71, sh_72, pu_rv, pu_as, Value.category, pu_bk, pu_kl, pu_qe0, pu_qe1, h6, hc, i3, u3, e1]
      all_goals try simp [bX12_likelyOn_5, bX12_likelyOn_221, bX12_likelyOn_215, bX12_likelyOn_48, bX12_likelyOn_61, a_ai, a_ald, a_cv, a_gr, a_iadd, a_icge, a_ifeq, a_ifne, a_ild, a_imul, a_inc, a_iret, a_ist, a_push, fx_71_0 hx, sh_71, sh_72, pu_rv, pu_as, Value.category, pu_bk, pu_kl, List.replicate, pu_wi_1, pu_wi_2, nl_add, nl_ladd, nl_aa, nl_mul, nl_rmul, nl_mm, pu_qe0, pu_qe1, h6, hc, i3, u3, e1]
      all_goals try simp (maxSteps := 400000) (disch := omega) [nl_tle, nl_fle, nl_tlt, nl_flt, nl_teq, nl_feq, nl_sub, nl_ss, nl_lt, nl_llt, nl_ltt, nl_le, nl_lle, nl_lee, nl_eq, nl_leq, nl_ee, nl_div, nl_rem, nl_cl, nl_n1, nl_n2, nl_n3, nl_n4, nl_add, nl_ladd, nl_aa, nl_mul, nl_rmul, nl_mm, pu_wi_1, pu_wi_2, bX12_likelyOn_5, bX12_likelyOn_221, bX12_likelyOn_215, bX12_likelyOn_48, bX12_likelyOn_61, a_ai, a_ald, a_cv, a_gr, a_iadd, a_icge, a_ifeq, a_ifne, a_ild, a_imul, a_inc, a_iret, a_ist, a_push, fx_71_0 hx, sh_71, sh_72, pu_rv, pu_as, Value.category, pu_bk, pu_kl, pu_qe0, pu_qe1, h6, hc, i3, u3, e1]
      all_goals try simp [bX12_likelyOn_5, bX12_likelyOn_221, bX12_likelyOn_215, bX12_likelyOn_48, bX12_likelyOn_61, a_ai, a_ald, a_cv, a_gr, a_iadd, a_icge, a_ifeq, a_ifne, a_ild, a_imul, a_inc, a_iret, a_ist, a_push, fx_71_0 hx, sh_71, sh_72, pu_rv, pu_as, Value.category, pu_bk, pu_kl, List.replicate, pu_wi_1, pu_wi_2, nl_add, nl_ladd, nl_aa, nl_mul, nl_rmul, nl_mm, pu_qe0, pu_qe1, h6, hc, i3, u3, e1]
    rw [pu_q1 c2] at e1
    obtain ⟨v, v1, e2⟩ := r_may hx hr hw st w hst hwl hy h17 i ii c2.1 c2.2
    obtain ⟨P, hP⟩ : ∃ P, pu_wi N 71 22 v = P := ⟨_, rfl⟩
    have P22 : P.1 71 22 = v := by rw [← hP]; simp [pu_wi_1]
    have Po : ∀ c j, ¬ (c = 71 ∧ j = 22) → P.1 c j = N.1 c j := fun c j z => by rw [← hP, py_wi_o z]
    have lP : py_lf N P := ⟨by rw [← hP]; rfl, fun c j _ _ z => Po c j z⟩
    rw [hP] at e2
    have hxP : pu_fx P := pz_fx_of hx lP.1
    have hrP : pu_Rel I L (P.1 72) := by rw [show P.1 72 = N.1 72 from funext (fun j => Po 72 j (by omega))]; exact hr
    by_cases c3 : py_mh I st w y i
    rotate_left
    · rw [pu_q0 c3] at e2
      refine SK P lP (fun c j z => Po c j (by omega)) (fun z => c3 z.2.2) ?_
      rw [qX12_likelyOn_5]
      simp [bX12_likelyOn_5, bX12_likelyOn_221, bX12_likelyOn_215, bX12_likelyOn_48, bX12_likelyOn_61, a_ai, a_ald, a_cv, a_gr, a_iadd, a_icge, a_ifeq, a_ifne, a_ild, a_imul, a_inc, a_iret, a_ist, a_push, fx_71_0 hx, sh_71, sh_72, pu_rv, pu_as, Value.category, pu_bk, pu_kl, List.replicate, pu_wi_1, pu_wi_2, nl_add, nl_ladd, nl_aa, nl_mul, nl_rmul, nl_mm, pu_qe0, pu_qe1, h6, hc, i3, u3, e1, e2]
      all_goals try simp (maxSteps := 400000) (disch := omega) [nl_tle, nl_fle, nl_tlt, nl_flt, nl_teq, nl_feq, nl_sub, nl_ss, nl_lt, nl_llt, nl_ltt, nl_le, nl_lle, nl_lee, nl_eq, nl_leq, nl_ee, nl_div, nl_rem, nl_cl, nl_n1, nl_n2, nl_n3, nl_n4, nl_add, nl_ladd, nl_aa, nl_mul, nl_rmul, nl_mm, pu_wi_1, pu_wi_2, bX12_likelyOn_5, bX12_likelyOn_221, bX12_likelyOn_215, bX12_likelyOn_48, bX12_likelyOn_61, a_ai, a_ald, a_cv, a_gr, a_iadd, a_icge, a_ifeq, a_ifne, a_ild, a_imul, a_inc, a_iret, a_ist, a_push, fx_71_0 hx, sh_71, sh_72, pu_rv, pu_as, Value.category, pu_bk, pu_kl, pu_qe0, pu_qe1, h6, hc, i3, u3, e1, e2]
      all_goals try simp [bX12_likelyOn_5, bX12_likelyOn_221, bX12_likelyOn_215, bX12_likelyOn_48, bX12_likelyOn_61, a_ai, a_ald, a_cv, a_gr, a_iadd, a_icge, a_ifeq, a_ifne, a_ild, a_imul, a_inc, a_iret, a_ist, a_push, fx_71_0 hx, sh_71, sh_72, pu_rv, pu_as, Value.category, pu_bk, pu_kl, List.replicate, pu_wi_1, pu_wi_2, nl_add, nl_ladd, nl_aa, nl_mul, nl_rmul, nl_mm, pu_qe0, pu_qe1, h6, hc, i3, u3, e1, e2]
      all_goals try simp (maxSteps := 400000) (disch := omega) [nl_tle, nl_fle, nl_tlt, nl_flt, nl_teq, nl_feq, nl_sub, nl_ss, nl_lt, nl_llt, nl_ltt, nl_le, nl_lle, nl_lee, nl_eq, nl_leq, nl_ee, nl_div, nl_rem, nl_cl, nl_n1, nl_n2, nl_n3, nl_n4, nl_add, nl_ladd, nl_aa, nl_mul, nl_rmul, nl_mm, pu_wi_1, pu_wi_2, bX12_likelyOn_5, bX12_likelyOn_221, bX12_likelyOn_215, bX12_likelyOn_48, bX12_likelyOn_61, a_ai, a_ald, a_cv, a_gr, a_iadd, a_icge, a_ifeq, a_ifne, a_ild, a_imul, a_inc, a_iret, a_ist, a_push, fx_71_0 hx, sh_71, sh_72, pu_rv, pu_as, Value.category, pu_bk, pu_kl, pu_qe0, pu_qe1, h6, hc, i3, u3, e1, e2]
      all_goals try simp [bX12_likelyOn_5, bX12_likelyOn_221, bX12_likelyOn_215, bX12_likelyOn_48, bX12_likelyOn_61, a_ai, a_ald, a_cv, a_gr, a_iadd, a_icge, a_ifeq, a_ifne, a_ild, a_imul, a_inc, a_iret, a_ist, a_push, fx_71_0 hx, sh_71, sh_72, pu_rv, pu_as, Value.category, pu_bk, pu_kl, List.replicate, pu_wi_1, pu_wi_2, nl_add, nl_ladd, nl_aa, nl_mul, nl_rmul, nl_mm, pu_qe0, pu_qe1, h6, hc, i3, u3, e1, e2]
      all_goals try simp (maxSteps := 400000) (disch := omega) [nl_tle, nl_fle, nl_tlt, nl_flt, nl_teq, nl_feq, nl_sub, nl_ss, nl_lt, nl_llt, nl_ltt, nl_le, nl_lle, nl_lee, nl_eq, nl_leq, nl_ee, nl_div, nl_rem, nl_cl, nl_n1, nl_n2, nl_n3, nl_n4, nl_add, nl_ladd, nl_aa, nl_mul, nl_rmul, nl_mm, pu_wi_1, pu_wi_2, bX12_likelyOn_5, bX12_likelyOn_221, bX12_likelyOn_215, bX12_likelyOn_48, bX12_likelyOn_61, a_ai, a_ald, a_cv, a_gr, a_iadd, a_icge, a_ifeq, a_ifne, a_ild, a_imul, a_inc, a_iret, a_ist, a_push, fx_71_0 hx, sh_71, sh_72, pu_rv, pu_as, Value.category, pu_bk, pu_kl, pu_qe0, pu_qe1, h6, hc, i3, u3, e1, e2]
      all_goals try simp [bX12_likelyOn_5, bX12_likelyOn_221, bX12_likelyOn_215, bX12_likelyOn_48, bX12_likelyOn_61, a_ai, a_ald, a_cv, a_gr, a_iadd, a_icge, a_ifeq, a_ifne, a_ild, a_imul, a_inc, a_iret, a_ist, a_push, fx_71_0 hx, sh_71, sh_72, pu_rv, pu_as, Value.category, pu_bk, pu_kl, List.replicate, pu_wi_1, pu_wi_2, nl_add, nl_ladd, nl_aa, nl_mul, nl_rmul, nl_mm, pu_qe0, pu_qe1, h6, hc, i3, u3, e1, e2]
    rw [pu_q1 c3] at e2
    have tn : pu_tn I y i := by rw [py_tn_e hy]; exact c2.2
    have CW : ∀ j, j < n → W j < cU I ∧ I 39 (pu_sl0 I (W j)) = nI st ∧ pu_tn I y (W j) := fun j hj => by
      obtain ⟨q1, _, q3, _⟩ := sl.1 j hj
      exact ⟨by omega, q3.1, by rw [py_tn_e hy]; exact q3.2⟩
    have hn := py_ls_n hw hstL hy (by omega) sl
    obtain ⟨kx, hkx⟩ : ∃ kx : Int32, kx = 100000 * I 40 (pu_sl0 I i) + I 41 (pu_sl0 I i) := ⟨_, rfl⟩
    obtain ⟨b, Q, b1, b2, b3, b4, b5, b6, b7, b8⟩ := r_lk_l hw hstL (n := n) (k := i) hn CW ii c2.1 tn kx hkx (fun j hj e => by
      have := (sl.1 j hj).1
      omega) n P (Nat.le_refl _) hxP hrP (by rw [P22]; exact v1 c3) (fun j hj => by rw [Po 83 j (by omega), Po 84 j (by omega)]; exact lw j hj) (fun j z1 z2 => by omega)
    have f1 := r_sideOf hxP hrP hw i ii
    have f2 := r_pacesOf hxP hrP hw i ii
    have hxQ : pu_fx Q := pz_fx_of hxP b2.1
    have Q22 : Q.1 71 22 = nI (py_gp I st y i) := by rw [b3, P22]; exact v1 c3
    have bl : b < 200 := by omega
    have F23 := fx_71_23 hxQ
    have F24 := fx_71_24 hxQ
    obtain ⟨T, hT⟩ : ∃ T, pu_wi (pu_wi Q 83 b (nI i)) 84 b (nI (py_gp I st y i)) = T := ⟨_, rfl⟩
    have t83 : ∀ j, T.1 83 j = if j = b then nI i else Q.1 83 j := fun j => by
      rw [← hT, py_wi_o (by omega)]
      by_cases z : j = b
      · rw [if_pos z, z]; simp [pu_wi_1]
      · rw [if_neg z, py_wi_o (by omega)]
    have t84 : ∀ j, T.1 84 j = if j = b then nI (py_gp I st y i) else Q.1 84 j := fun j => by
      rw [← hT]
      by_cases z : j = b
      · rw [if_pos z, z]; simp [pu_wi_1]
      · rw [if_neg z, py_wi_o (by omega), py_wi_o (by omega)]
    have To : ∀ c j, c ≠ 83 → c ≠ 84 → T.1 c j = Q.1 c j := fun c j z1 z2 => by rw [← hT, py_wi_o (by omega), py_wi_o (by omega)]
    have lT : py_lf N T := py_lf_t lP (py_lf_t b2 ⟨by rw [← hT]; rfl, fun c j z1 z2 _ => To c j z1 z2⟩)
    have K : pu_r 502 [some (.ref 71), some (.int (nI st)), some (.int y), some (.int (nI n)), some (.int (nI i)), some (.int (nI n)), some (.int kx)] [] P = pu_r 501 [some (.ref 71), some (.int (nI st)), some (.int y), some (.int (nI (n + 1))), some (.int (nI (i + 1))), some (.int (nI b)), some (.int kx)] [] T := by
      rw [b8]
      have g1 : (pu_wi Q 83 b (nI i)).2.2.1 71 24 = some 84 := F24
      have g2 : (pu_wi Q 83 b (nI i)).1 71 22 = nI (py_gp I st y i) := by rw [py_wi_o (by omega)]; exact Q22
      generalize nI (py_gp I st y i) = gv at *
      generalize hQ2 : pu_wi Q 83 b (nI i) = Q2 at *
      simp [bX12_likelyOn_192, bX12_likelyOn_215, a_ald, a_gi, a_gr, a_ild, a_inc, a_wi, sh_71, sh_83, sh_84, pu_rv, pu_as, Value.category, pu_bk, pu_kl, List.replicate, pu_wi_1, pu_wi_2, nl_add, nl_ladd, nl_aa, nl_mul, nl_rmul, nl_mm, pu_qe0, pu_qe1, bl, F23, F24, Q22, g1, g2, hQ2, hT, sh_83, sh_84]
      all_goals try simp (maxSteps := 400000) (disch := omega) [nl_tle, nl_fle, nl_tlt, nl_flt, nl_teq, nl_feq, nl_sub, nl_ss, nl_lt, nl_llt, nl_ltt, nl_le, nl_lle, nl_lee, nl_eq, nl_leq, nl_ee, nl_div, nl_rem, nl_cl, nl_n1, nl_n2, nl_n3, nl_n4, nl_add, nl_ladd, nl_aa, nl_mul, nl_rmul, nl_mm, pu_wi_1, pu_wi_2, bX12_likelyOn_192, bX12_likelyOn_215, a_ald, a_gi, a_gr, a_ild, a_inc, a_wi, sh_71, sh_83, sh_84, pu_rv, pu_as, Value.category, pu_bk, pu_kl, pu_qe0, pu_qe1, bl, F23, F24, Q22, g1, g2, hQ2, hT, sh_83, sh_84]
      all_goals try simp [bX12_likelyOn_192, bX12_likelyOn_215, a_ald, a_gi, a_gr, a_ild, a_inc, a_wi, sh_71, sh_83, sh_84, pu_rv, pu_as, Value.category, pu_bk, pu_kl, List.replicate, pu_wi_1, pu_wi_2, nl_add, nl_ladd, nl_aa, nl_mul, nl_rmul, nl_mm, pu_qe0, pu_qe1, bl, F23, F24, Q22, g1, g2, hQ2, hT, sh_83, sh_84]
      all_goals try simp (maxSteps := 400000) (disch := omega) [nl_tle, nl_fle, nl_tlt, nl_flt, nl_teq, nl_feq, nl_sub, nl_ss, nl_lt, nl_llt, nl_ltt, nl_le, nl_lle, nl_lee, nl_eq, nl_leq, nl_ee, nl_div, nl_rem, nl_cl, nl_n1, nl_n2, nl_n3, nl_n4, nl_add, nl_ladd, nl_aa, nl_mul, nl_rmul, nl_mm, pu_wi_1, pu_wi_2, bX12_likelyOn_192, bX12_likelyOn_215, a_ald, a_gi, a_gr, a_ild, a_inc, a_wi, sh_71, sh_83, sh_84, pu_rv, pu_as, Value.category, pu_bk, pu_kl, pu_qe0, pu_qe1, bl, F23, F24, Q22, g1, g2, hQ2, hT, sh_83, sh_84]
      all_goals try simp [bX12_likelyOn_192, bX12_likelyOn_215, a_ald, a_gi, a_gr, a_ild, a_inc, a_wi, sh_71, sh_83, sh_84, pu_rv, pu_as, Value.category, pu_bk, pu_kl, List.replicate, pu_wi_1, pu_wi_2, nl_add, nl_ladd, nl_aa, nl_mul, nl_rmul, nl_mm, pu_qe0, pu_qe1, bl, F23, F24, Q22, g1, g2, hQ2, hT, sh_83, sh_84]
      all_goals try simp (maxSteps := 400000) (disch := omega) [nl_tle, nl_fle, nl_tlt, nl_flt, nl_teq, nl_feq, nl_sub, nl_ss, nl_lt, nl_llt, nl_ltt, nl_le, nl_lle, nl_lee, nl_eq, nl_leq, nl_ee, nl_div, nl_rem, nl_cl, nl_n1, nl_n2, nl_n3, nl_n4, nl_add, nl_ladd, nl_aa, nl_mul, nl_rmul, nl_mm, pu_wi_1, pu_wi_2, bX12_likelyOn_192, bX12_likelyOn_215, a_ald, a_gi, a_gr, a_ild, a_inc, a_wi, sh_71, sh_83, sh_84, pu_rv, pu_as, Value.category, pu_bk, pu_kl, pu_qe0, pu_qe1, bl, F23, F24, Q22, g1, g2, hQ2, hT, sh_83, sh_84]
      all_goals try simp [bX12_likelyOn_192, bX12_likelyOn_215, a_ald, a_gi, a_gr, a_ild, a_inc, a_wi, sh_71, sh_83, sh_84, pu_rv, pu_as, Value.category, pu_bk, pu_kl, List.replicate, pu_wi_1, pu_wi_2, nl_add, nl_ladd, nl_aa, nl_mul, nl_rmul, nl_mm, pu_qe0, pu_qe1, bl, F23, F24, Q22, g1, g2, hQ2, hT, sh_83, sh_84]
    have ST : pu_r 501 [some (.ref 71), some (.int (nI st)), some (.int y), some (.int (nI n)), some (.int (nI i)), t5, t6] [] N = pu_r 501 [some (.ref 71), some (.int (nI st)), some (.int y), some (.int (nI (n + 1))), some (.int (nI (i + 1))), some (.int (nI b)), some (.int kx)] [] T := by
      rw [← K]
      generalize I 40 (pu_sl0 I i) = v40 at *
      generalize I 41 (pu_sl0 I i) = v41 at *
      rw [qX12_likelyOn_5]
      simp [bX12_likelyOn_5, bX12_likelyOn_221, bX12_likelyOn_215, bX12_likelyOn_48, bX12_likelyOn_61, a_ai, a_ald, a_cv, a_gr, a_iadd, a_icge, a_ifeq, a_ifne, a_ild, a_imul, a_inc, a_iret, a_ist, a_push, fx_71_0 hx, sh_71, sh_72, pu_rv, pu_as, Value.category, pu_bk, pu_kl, List.replicate, pu_wi_1, pu_wi_2, nl_add, nl_ladd, nl_aa, nl_mul, nl_rmul, nl_mm, pu_qe0, pu_qe1, h6, hc, i3, u3, e1, e2, f1, f2, hkx]
      all_goals try simp (maxSteps := 400000) (disch := omega) [nl_tle, nl_fle, nl_tlt, nl_flt, nl_teq, nl_feq, nl_sub, nl_ss, nl_lt, nl_llt, nl_ltt, nl_le, nl_lle, nl_lee, nl_eq, nl_leq, nl_ee, nl_div, nl_rem, nl_cl, nl_n1, nl_n2, nl_n3, nl_n4, nl_add, nl_ladd, nl_aa, nl_mul, nl_rmul, nl_mm, pu_wi_1, pu_wi_2, bX12_likelyOn_5, bX12_likelyOn_221, bX12_likelyOn_215, bX12_likelyOn_48, bX12_likelyOn_61, a_ai, a_ald, a_cv, a_gr, a_iadd, a_icge, a_ifeq, a_ifne, a_ild, a_imul, a_inc, a_iret, a_ist, a_push, fx_71_0 hx, sh_71, sh_72, pu_rv, pu_as, Value.category, pu_bk, pu_kl, pu_qe0, pu_qe1, h6, hc, i3, u3, e1, e2, f1, f2, hkx]
      all_goals try simp [bX12_likelyOn_5, bX12_likelyOn_221, bX12_likelyOn_215, bX12_likelyOn_48, bX12_likelyOn_61, a_ai, a_ald, a_cv, a_gr, a_iadd, a_icge, a_ifeq, a_ifne, a_ild, a_imul, a_inc, a_iret, a_ist, a_push, fx_71_0 hx, sh_71, sh_72, pu_rv, pu_as, Value.category, pu_bk, pu_kl, List.replicate, pu_wi_1, pu_wi_2, nl_add, nl_ladd, nl_aa, nl_mul, nl_rmul, nl_mm, pu_qe0, pu_qe1, h6, hc, i3, u3, e1, e2, f1, f2, hkx]
      all_goals try simp (maxSteps := 400000) (disch := omega) [nl_tle, nl_fle, nl_tlt, nl_flt, nl_teq, nl_feq, nl_sub, nl_ss, nl_lt, nl_llt, nl_ltt, nl_le, nl_lle, nl_lee, nl_eq, nl_leq, nl_ee, nl_div, nl_rem, nl_cl, nl_n1, nl_n2, nl_n3, nl_n4, nl_add, nl_ladd, nl_aa, nl_mul, nl_rmul, nl_mm, pu_wi_1, pu_wi_2, bX12_likelyOn_5, bX12_likelyOn_221, bX12_likelyOn_215, bX12_likelyOn_48, bX12_likelyOn_61, a_ai, a_ald, a_cv, a_gr, a_iadd, a_icge, a_ifeq, a_ifne, a_ild, a_imul, a_inc, a_iret, a_ist, a_push, fx_71_0 hx, sh_71, sh_72, pu_rv, pu_as, Value.category, pu_bk, pu_kl, pu_qe0, pu_qe1, h6, hc, i3, u3, e1, e2, f1, f2, hkx]
      all_goals try simp [bX12_likelyOn_5, bX12_likelyOn_221, bX12_likelyOn_215, bX12_likelyOn_48, bX12_likelyOn_61, a_ai, a_ald, a_cv, a_gr, a_iadd, a_icge, a_ifeq, a_ifne, a_ild, a_imul, a_inc, a_iret, a_ist, a_push, fx_71_0 hx, sh_71, sh_72, pu_rv, pu_as, Value.category, pu_bk, pu_kl, List.replicate, pu_wi_1, pu_wi_2, nl_add, nl_ladd, nl_aa, nl_mul, nl_rmul, nl_mm, pu_qe0, pu_qe1, h6, hc, i3, u3, e1, e2, f1, f2, hkx]
      all_goals try simp (maxSteps := 400000) (disch := omega) [nl_tle, nl_fle, nl_tlt, nl_flt, nl_teq, nl_feq, nl_sub, nl_ss, nl_lt, nl_llt, nl_ltt, nl_le, nl_lle, nl_lee, nl_eq, nl_leq, nl_ee, nl_div, nl_rem, nl_cl, nl_n1, nl_n2, nl_n3, nl_n4, nl_add, nl_ladd, nl_aa, nl_mul, nl_rmul, nl_mm, pu_wi_1, pu_wi_2, bX12_likelyOn_5, bX12_likelyOn_221, bX12_likelyOn_215, bX12_likelyOn_48, bX12_likelyOn_61, a_ai, a_ald, a_cv, a_gr, a_iadd, a_icge, a_ifeq, a_ifne, a_ild, a_imul, a_inc, a_iret, a_ist, a_push, fx_71_0 hx, sh_71, sh_72, pu_rv, pu_as, Value.category, pu_bk, pu_kl, pu_qe0, pu_qe1, h6, hc, i3, u3, e1, e2, f1, f2, hkx]
      all_goals try simp [bX12_likelyOn_5, bX12_likelyOn_221, bX12_likelyOn_215, bX12_likelyOn_48, bX12_likelyOn_61, a_ai, a_ald, a_cv, a_gr, a_iadd, a_icge, a_ifeq, a_ifne, a_ild, a_imul, a_inc, a_iret, a_ist, a_push, fx_71_0 hx, sh_71, sh_72, pu_rv, pu_as, Value.category, pu_bk, pu_kl, List.replicate, pu_wi_1, pu_wi_2, nl_add, nl_ladd, nl_aa, nl_mul, nl_rmul, nl_mm, pu_qe0, pu_qe1, h6, hc, i3, u3, e1, e2, f1, f2, hkx]
    rw [ST]
    obtain ⟨N1, W1, n1, x1, x2, x3, x4, x5⟩ := r_lo_l hw hst hwl hy m (i + 1) T (pu_vi W b i) (n + 1) (some (.int (nI b))) (some (.int kx)) (by omega) (pz_fx_of hx lT.1) (by rw [show T.1 72 = N.1 72 from funext (fun j => lT.2 72 j (by omega) (by omega) (by omega))]; exact hr) (by rw [lT.2 71 17 (by omega) (by omega) (by omega)]; exact h17) (fun j hj => by
      rw [t83, t84]
      unfold pu_vi
      by_cases z : j = b
      · rw [if_pos z, if_pos z, if_neg (by omega), if_pos z]
        exact ⟨rfl, rfl⟩
      · simp only [if_neg z]
        by_cases z2 : j < b
        · simp only [if_pos z2]
          exact b4 j z2
        · simp only [if_neg z2]
          exact b5 j (by omega) (by omega)) (py_SL_c (py_SL_add sl b1 b6 b7) (fun k => by
      constructor
      · rintro (⟨k1, k2⟩ | k)
        · exact ⟨by omega, k2⟩
        · rw [k]
          exact ⟨by omega, c1, c2, c3⟩
      · rintro ⟨k1, k2⟩
        by_cases z : k = i
        · exact Or.inr z
        · exact Or.inl ⟨by omega, k2⟩))
    exact ⟨N1, W1, n1, x1, py_lf_t lT x2, x3, x4, x5⟩
theorem r_likelyOn (hx : pu_fx M) (hr : pu_Rel I L (M.1 72)) (hw : pu_WF I L) (hst : st < cK I) {w : Nat} (hwl : w < 160000) (hy : ¬ y < 0) (h17 : M.1 71 17 = nI w) : ∃ N W n, n ≤ 100 ∧ py_lf M N ∧ py_lkw N I st y W n ∧ py_SL (py_ky I st y) (py_ls I st w y (cU I)) W n ∧ pu_r 323 [some (.ref 71), some (.int (nI st)), some (.int y)] [] M = some (some (.int (nI n)), N) := by
  obtain ⟨N, W, n, x1, x2, x3, x4, x5⟩ := r_lo_l hw hst hwl hy (cU I) 0 M (fun _ => 0) 0 none none (by omega) hx hr h17 (fun j hj => by omega) ⟨fun a ha => by omega, fun k hk => by have := hk.1; omega, fun a b _ hb => by omega⟩
  refine ⟨N, W, n, x1, x2, x3, x4, ?_⟩
  rw [nI_0] at x5
  rw [qX12_likelyOn]
  simp [a_ent, bX12_likelyOn_0, a_ist, a_push, pu_rv, pu_as, Value.category, pu_bk, pu_kl, List.replicate, pu_wi_1, pu_wi_2, nl_add, nl_ladd, nl_aa, nl_mul, nl_rmul, nl_mm, pu_qe0, pu_qe1, x5]
  all_goals try simp (maxSteps := 400000) (disch := omega) [nl_tle, nl_fle, nl_tlt, nl_flt, nl_teq, nl_feq, nl_sub, nl_ss, nl_lt, nl_llt, nl_ltt, nl_le, nl_lle, nl_lee, nl_eq, nl_leq, nl_ee, nl_div, nl_rem, nl_cl, nl_n1, nl_n2, nl_n3, nl_n4, nl_add, nl_ladd, nl_aa, nl_mul, nl_rmul, nl_mm, pu_wi_1, pu_wi_2, bX12_likelyOn_0, a_ist, a_push, pu_rv, pu_as, Value.category, pu_bk, pu_kl, pu_qe0, pu_qe1, x5]
  all_goals try simp [bX12_likelyOn_0, a_ist, a_push, pu_rv, pu_as, Value.category, pu_bk, pu_kl, List.replicate, pu_wi_1, pu_wi_2, nl_add, nl_ladd, nl_aa, nl_mul, nl_rmul, nl_mm, pu_qe0, pu_qe1, x5]
  all_goals try simp (maxSteps := 400000) (disch := omega) [nl_tle, nl_fle, nl_tlt, nl_flt, nl_teq, nl_feq, nl_sub, nl_ss, nl_lt, nl_llt, nl_ltt, nl_le, nl_lle, nl_lee, nl_eq, nl_leq, nl_ee, nl_div, nl_rem, nl_cl, nl_n1, nl_n2, nl_n3, nl_n4, nl_add, nl_ladd, nl_aa, nl_mul, nl_rmul, nl_mm, pu_wi_1, pu_wi_2, bX12_likelyOn_0, a_ist, a_push, pu_rv, pu_as, Value.category, pu_bk, pu_kl, pu_qe0, pu_qe1, x5]
  all_goals try simp [bX12_likelyOn_0, a_ist, a_push, pu_rv, pu_as, Value.category, pu_bk, pu_kl, List.replicate, pu_wi_1, pu_wi_2, nl_add, nl_ladd, nl_aa, nl_mul, nl_rmul, nl_mm, pu_qe0, pu_qe1, x5]
  all_goals try simp (maxSteps := 400000) (disch := omega) [nl_tle, nl_fle, nl_tlt, nl_flt, nl_teq, nl_feq, nl_sub, nl_ss, nl_lt, nl_llt, nl_ltt, nl_le, nl_lle, nl_lee, nl_eq, nl_leq, nl_ee, nl_div, nl_rem, nl_cl, nl_n1, nl_n2, nl_n3, nl_n4, nl_add, nl_ladd, nl_aa, nl_mul, nl_rmul, nl_mm, pu_wi_1, pu_wi_2, bX12_likelyOn_0, a_ist, a_push, pu_rv, pu_as, Value.category, pu_bk, pu_kl, pu_qe0, pu_qe1, x5]
  all_goals try simp [bX12_likelyOn_0, a_ist, a_push, pu_rv, pu_as, Value.category, pu_bk, pu_kl, List.replicate, pu_wi_1, pu_wi_2, nl_add, nl_ladd, nl_aa, nl_mul, nl_rmul, nl_mm, pu_qe0, pu_qe1, x5]
end
