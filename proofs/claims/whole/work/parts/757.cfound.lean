/-! found doors, on the class's side -/
theorem WF_desk {I K : Nat → Nat → Int32} {L : Nat → Nat → Int64} (hw : pu_WF I L) (hk : w_dk K) : pu_WF (pu_dk I K) L := by
  obtain ⟨k1, k2, k3⟩ := hk
  exact ⟨⟨(wx_cP hw :), (wx_cU hw :), (wx_cN hw :), (wx_cT hw :), (wx_cK hw :), (wx_cD hw :), (wx_cF hw :), (k1.1 :), (k1.2.1 :), (k1.2.2.1 :), (k1.2.2.2.1 :), (k1.2.2.2.2.1 :), (k1.2.2.2.2.2 :)⟩, ⟨(wx_bP hw :), (wx_bU hw :), (wx_bN hw :), (wx_bT hw :), (wx_bK hw :), (wx_bD hw :), (wx_bF hw :), (k2.1 :), (k2.2.1 :), (k2.2.2.1 :), (k2.2.2.2.1 :), (k2.2.2.2.2.1 :), (k2.2.2.2.2.2 :)⟩, (wg_p hw :), (wg_u hw :), (wg_n hw :), (wg_k hw :), (wg_d hw :), ⟨(k3.1 :), (wx_ef hw :), (k3.2 :)⟩⟩
/-- only the found doors have changed -/
def py_fq (M N : pu_M) : Prop := N.2 = M.2 ∧ ∀ c j, ¬ (46 ≤ c ∧ c ≤ 48) → ¬ (c = 45 ∧ j = 2) → N.1 c j = M.1 c j
theorem py_fq_t {M N P : pu_M} (a : py_fq M N) (b : py_fq N P) : py_fq M P := ⟨b.1.trans a.1, fun c j h1 h2 => by rw [b.2 c j h1 h2, a.2 c j h1 h2]⟩
theorem py_fq_r (M : pu_M) : py_fq M M := ⟨rfl, fun _ _ _ _ => rfl⟩
/-- the found doors: a row W of spans, doors D, sure or not, ranks by a key -/
def py_fw (N : pu_M) (D : Nat → Int32) (sv : Int32) (key W : Nat → Nat) (n : Nat) : Prop := ∀ j, j < n → N.1 46 j = D (W j) ∧ N.1 47 j = sv ∧ N.1 48 j = nI (key (W j))
section
variable {M : pu_M} {I : Nat → Nat → Int32} {L : Nat → Nat → Int64} {st o n : Nat} {y : Int32} {V : Nat → Nat}
theorem py_wdk {N : pu_M} {c : Nat} (hw : pu_WF I L) (hI : pu_ag M I) (ff : py_fq M N) (hc : c ≤ 100) (h2 : N.1 45 2 = nI c) : w_dk N.1 ∧ pu_ag N (pu_dk I N.1) := by
  have e : ∀ a j, 45 ≤ a → a < 58 → ¬ (46 ≤ a ∧ a ≤ 48) → ¬ (a = 45 ∧ j = 2) → N.1 a j = I a j := fun a j h1 h2 h3 h4 => by rw [ff.2 a j h3 h4]; exact hI a j (by omega) h2
  have cQ' : cQ N.1 = c := pz_cc h2 (by omega)
  have cR' : cR N.1 = cR I := by unfold cR; rw [e 45 3 (by omega) (by omega) (by omega) (by omega)]
  have cS' : cS N.1 = cS I := by unfold cS; rw [e 45 4 (by omega) (by omega) (by omega) (by omega)]
  have cW' : cW N.1 = cW I := by unfold cW; rw [e 45 5 (by omega) (by omega) (by omega) (by omega)]
  have cE' : cE N.1 = cE I := by unfold cE; rw [e 45 6 (by omega) (by omega) (by omega) (by omega)]
  have cO' : cO N.1 = cO I := by unfold cO; rw [e 45 7 (by omega) (by omega) (by omega) (by omega)]
  refine ⟨⟨⟨by rw [cQ']; exact h2, ?_, ?_, ?_, ?_, ?_⟩, ⟨by omega, by rw [cR']; exact wx_bR hw, by rw [cS']; exact wx_bS hw, by rw [cW']; exact wx_bW hw, by rw [cE']; exact wx_bE hw, by rw [cO']; exact wx_bO hw⟩, fun k hk => ?_, fun a b hab hb => ?_⟩, fun a j h1 h3 => ?_⟩
  · rw [e 45 3 (by omega) (by omega) (by omega) (by omega), cR']; exact wx_cR hw
  · rw [e 45 4 (by omega) (by omega) (by omega) (by omega), cS']; exact wx_cS hw
  · rw [e 45 5 (by omega) (by omega) (by omega) (by omega), cW']; exact wx_cW hw
  · rw [e 45 6 (by omega) (by omega) (by omega) (by omega), cE']; exact wx_cE hw
  · rw [e 45 7 (by omega) (by omega) (by omega) (by omega), cO']; exact wx_cO hw
  · rw [cS'] at hk
    rw [e 53 k (by omega) (by omega) (by omega) (by omega)]; exact wx_es hw k hk
  · rw [cW'] at hb
    rw [e 54 a (by omega) (by omega) (by omega) (by omega), e 54 b (by omega) (by omega) (by omega) (by omega)]; exact wx_ew hw a b hab hb
  · unfold pu_dk
    by_cases z : a < 45
    · rw [if_pos z, ff.2 a j (by omega) (by omega)]
      exact hI a j h1 h3
    · rw [if_neg z]
theorem py_dk_td {K : Nat → Nat → Int32} (x k f : Nat) (y : Int32) : py_td (pu_dk I K) x k f y = py_td I x k f y := rfl
theorem c_af_l (D : Nat → Int32) (sv : Int32) (key W : Nat → Nat) {n k : Nat} (hn : n < 100) (hb : ∀ j, j < n → key (W j) < 200000000) (hk : key k < 200000000) (dr ss : Int32) : ∀ (a : Nat) (N : pu_M), a ≤ n → pu_fx N → (∀ j, j < a → N.1 46 j = D (W j) ∧ N.1 47 j = sv ∧ N.1 48 j = nI (key (W j))) → (∀ j, a < j → j ≤ n → N.1 46 j = D (W (j - 1)) ∧ N.1 47 j = sv ∧ N.1 48 j = nI (key (W (j - 1)))) →
    ∃ b N1, b ≤ a ∧ py_fq N N1 ∧ N1.1 45 2 = N.1 45 2 ∧ (∀ j, j < b → N1.1 46 j = D (W j) ∧ N1.1 47 j = sv ∧ N1.1 48 j = nI (key (W j))) ∧ (∀ j, b < j → j ≤ n → N1.1 46 j = D (W (j - 1)) ∧ N1.1 47 j = sv ∧ N1.1 48 j = nI (key (W (j - 1)))) ∧ (∀ j, b ≤ j → j < a → key k < key (W j)) ∧ (b = 0 ∨ ¬ key k < key (W (b - 1))) ∧
      pu_r 406 [some (.ref 45), some (.int dr), some (.int ss), some (.int (nI (key k))), some (.int (nI a))] [] N = kX1_addFound_88 pu_r [some (.ref 45), some (.int dr), some (.int ss), some (.int (nI (key k))), some (.int (nI b))] [] N1
  | 0, N, _, hx, h1, h2 => by
    refine ⟨0, N, Nat.le_refl _, py_fq_r N, rfl, h1, h2, fun j a b => by omega, Or.inl rfl, ?_⟩
    rw [qX1_addFound_16]
    simp [bX1_addFound_16, a_ild, a_ifle, nI_0]
  | a + 1, N, hle, hx, h1, h2 => by
    have e : nI (a + 1) - 1 = nI a := nI_pred a
    have e2 : nI (a + 1) + (-1) = nI a := pk_m1 a
    have p0 : ¬ nI (a + 1) ≤ 0 := nI_nle (by omega) (by omega)
    have a1 : a < 100 := by omega
    have a2 : a + 1 < 100 := by omega
    obtain ⟨v46, v47, v48⟩ := h1 a (by omega)
    have kb := hb a (by omega)
    by_cases c : key k < key (W a)
    · have c2 : ¬ nI (key (W a)) ≤ nI (key k) := nI_ge c (by omega)
      obtain ⟨Q, hQ⟩ : ∃ Q, pu_wi (pu_wi (pu_wi N 46 (a + 1) (D (W a))) 47 (a + 1) sv) 48 (a + 1) (nI (key (W a))) = Q := ⟨_, rfl⟩
      have q46 : ∀ j, Q.1 46 j = if j = a + 1 then D (W a) else N.1 46 j := fun j => by
        rw [← hQ, py_wi_o (by omega), py_wi_o (by omega)]
        by_cases z : j = a + 1
        · rw [if_pos z, z]; simp [pu_wi_1]
        · rw [if_neg z, py_wi_o (by omega)]
      have q47 : ∀ j, Q.1 47 j = if j = a + 1 then sv else N.1 47 j := fun j => by
        rw [← hQ, py_wi_o (by omega)]
        by_cases z : j = a + 1
        · rw [if_pos z, z]; simp [pu_wi_1]
        · rw [if_neg z, py_wi_o (by omega), py_wi_o (by omega)]
      have q48 : ∀ j, Q.1 48 j = if j = a + 1 then nI (key (W a)) else N.1 48 j := fun j => by
        rw [← hQ]
        by_cases z : j = a + 1
        · rw [if_pos z, z]; simp [pu_wi_1]
        · rw [if_neg z, py_wi_o (by omega), py_wi_o (by omega), py_wi_o (by omega)]
      have v1 : py_fq N Q := ⟨by rw [← hQ]; rfl, fun c j z1 z2 => by rw [← hQ, py_wi_o (by omega), py_wi_o (by omega), py_wi_o (by omega)]⟩
      have q2 : Q.1 45 2 = N.1 45 2 := by rw [← hQ, py_wi_o (by omega), py_wi_o (by omega), py_wi_o (by omega)]
      obtain ⟨b, N1, b1, b2, b3, b4, b5, b6, b7, b8⟩ := c_af_l D sv key W hn hb hk dr ss a Q (by omega) (pz_fx_of hx v1.1) (fun j hj => by
        rw [q46, q47, q48, if_neg (by omega), if_neg (by omega), if_neg (by omega)]
        exact h1 j (by omega)) (fun j hj1 hj2 => by
        rw [q46, q47, q48]
        by_cases z : j = a + 1
        · rw [if_pos z, if_pos z, if_pos z, z]
          exact ⟨rfl, rfl, rfl⟩
        · rw [if_neg z, if_neg z, if_neg z]
          exact h2 j (by omega) hj2)
      refine ⟨b, N1, by omega, py_fq_t v1 b2, b3.trans q2, b4, b5, fun j z1 z2 => ?_, b7, ?_⟩
      · by_cases z : j = a
        · rw [z]; exact c
        · exact b6 j z1 (by omega)
      · rw [← b8, qX1_addFound_16]
        have r47 : (pu_wi N 46 (a + 1) (D (W a))).1 47 a = sv := by rw [py_wi_o (by omega)]; exact v47
        have r48 : (pu_wi (pu_wi N 46 (a + 1) (D (W a))) 47 (a + 1) sv).1 48 a = nI (key (W a)) := by rw [py_wi_o (by omega), py_wi_o (by omega)]; exact v48
        have g1 := fx_45_8 hx
        have g2 := fx_45_9 hx
        have g3 := fx_45_10 hx
        have g4 : (pu_wi N 46 (a + 1) (D (W a))).2.2.1 45 9 = some 47 := g2
        have g5 : (pu_wi (pu_wi N 46 (a + 1) (D (W a))) 47 (a + 1) sv).2.2.1 45 10 = some 48 := g3
        generalize nI (key (W a)) = kw at *
        generalize D (W a) = dw at *
        generalize hN2 : pu_wi N 46 (a + 1) dw = N2 at *
        generalize hN3 : pu_wi N2 47 (a + 1) sv = N3 at *
        generalize nI (key k) = kk at *
        simp [bX1_addFound_16, bX1_addFound_57, a_ai, a_ald, a_gr, a_icle, a_ifle, a_ild, a_inc, a_isub, a_push, a_wi, sh_45, sh_46, sh_47, sh_48, pu_rv, pu_as, Value.category, pu_bk, pu_kl, List.replicate, pu_wi_1, pu_wi_2, nl_add, nl_ladd, nl_aa, nl_mul, nl_rmul, nl_mm, pu_qe0, pu_qe1, p0, e, e2, a1, a2, v46, v47, v48, c2, g1, g2, g3, g4, g5, r47, r48, hN2, hN3, hQ, sh_46, sh_47, sh_48]
        all_goals try simp (maxSteps := 400000) (disch := omega) [nl_tle, nl_fle, nl_tlt, nl_flt, nl_teq, nl_feq, nl_sub, nl_ss, nl_lt, nl_llt, nl_ltt, nl_le, nl_lle, nl_lee, nl_eq, nl_leq, nl_ee, nl_div, nl_rem, nl_cl, nl_n1, nl_n2, nl_n3, nl_n4, nl_add, nl_ladd, nl_aa, nl_mul, nl_rmul, nl_mm, pu_wi_1, pu_wi_2, bX1_addFound_16, bX1_addFound_57, a_ai, a_ald, a_gr, a_icle, a_ifle, a_ild, a_inc, a_isub, a_push, a_wi, sh_45, sh_46, sh_47, sh_48, pu_rv, pu_as, Value.category, pu_bk, pu_kl, pu_qe0, pu_qe1, p0, e, e2, a1, a2, v46, v47, v48, c2, g1, g2, g3, g4, g5, r47, r48, hN2, hN3, hQ, sh_46, sh_47, sh_48]
        all_goals try simp [bX1_addFound_16, bX1_addFound_57, a_ai, a_ald, a_gr, a_icle, a_ifle, a_ild, a_inc, a_isub, a_push, a_wi, sh_45, sh_46, sh_47, sh_48, pu_rv, pu_as, Value.category, pu_bk, pu_kl, List.replicate, pu_wi_1, pu_wi_2, nl_add, nl_ladd, nl_aa, nl_mul, nl_rmul, nl_mm, pu_qe0, pu_qe1, p0, e, e2, a1, a2, v46, v47, v48, c2, g1, g2, g3, g4, g5, r47, r48, hN2, hN3, hQ, sh_46, sh_47, sh_48]
        all_goals try simp (maxSteps := 400000) (disch := omega) [nl_tle, nl_fle, nl_tlt, nl_flt, nl_teq, nl_feq, nl_sub, nl_ss, nl_lt, nl_llt, nl_ltt, nl_le, nl_lle, nl_lee, nl_eq, nl_leq, nl_ee, nl_div, nl_rem, nl_cl, nl_n1, nl_n2, nl_n3, nl_n4, nl_add, nl_ladd, nl_aa, nl_mul, nl_rmul, nl_mm, pu_wi_1, pu_wi_2, bX1_addFound_16, bX1_addFound_57, a_ai, a_ald, a_gr, a_icle, a_ifle, a_ild, a_inc, a_isub, a_push, a_wi, sh_45, sh_46, sh_47, sh_48, pu_rv, pu_as, Value.category, pu_bk, pu_kl, pu_qe0, pu_qe1, p0, e, e2, a1, a2, v46, v47, v48, c2, g1, g2, g3, g4, g5, r47, r48, hN2, hN3, hQ, sh_46, sh_47, sh_48]
        all_goals try simp [bX1_addFound_16, bX1_addFound_57, a_ai, a_ald, a_gr, a_icle, a_ifle, a_ild, a_inc, a_isub, a_push, a_wi, sh_45, sh_46, sh_47, sh_48, pu_rv, pu_as, Value.category, pu_bk, pu_kl, List.replicate, pu_wi_1, pu_wi_2, nl_add, nl_ladd, nl_aa, nl_mul, nl_rmul, nl_mm, pu_qe0, pu_qe1, p0, e, e2, a1, a2, v46, v47, v48, c2, g1, g2, g3, g4, g5, r47, r48, hN2, hN3, hQ, sh_46, sh_47, sh_48]
        all_goals try simp (maxSteps := 400000) (disch := omega) [nl_tle, nl_fle, nl_tlt, nl_flt, nl_teq, nl_feq, nl_sub, nl_ss, nl_lt, nl_llt, nl_ltt, nl_le, nl_lle, nl_lee, nl_eq, nl_leq, nl_ee, nl_div, nl_rem, nl_cl, nl_n1, nl_n2, nl_n3, nl_n4, nl_add, nl_ladd, nl_aa, nl_mul, nl_rmul, nl_mm, pu_wi_1, pu_wi_2, bX1_addFound_16, bX1_addFound_57, a_ai, a_ald, a_gr, a_icle, a_ifle, a_ild, a_inc, a_isub, a_push, a_wi, sh_45, sh_46, sh_47, sh_48, pu_rv, pu_as, Value.category, pu_bk, pu_kl, pu_qe0, pu_qe1, p0, e, e2, a1, a2, v46, v47, v48, c2, g1, g2, g3, g4, g5, r47, r48, hN2, hN3, hQ, sh_46, sh_47, sh_48]
        all_goals try simp [bX1_addFound_16, bX1_addFound_57, a_ai, a_ald, a_gr, a_icle, a_ifle, a_ild, a_inc, a_isub, a_push, a_wi, sh_45, sh_46, sh_47, sh_48, pu_rv, pu_as, Value.category, pu_bk, pu_kl, List.replicate, pu_wi_1, pu_wi_2, nl_add, nl_ladd, nl_aa, nl_mul, nl_rmul, nl_mm, pu_qe0, pu_qe1, p0, e, e2, a1, a2, v46, v47, v48, c2, g1, g2, g3, g4, g5, r47, r48, hN2, hN3, hQ, sh_46, sh_47, sh_48]
    · have c2 : nI (key (W a)) ≤ nI (key k) := nI_le (by omega) (by omega)
      refine ⟨a + 1, N, by omega, py_fq_r N, rfl, h1, h2, fun j z1 z2 => by omega, Or.inr c, ?_⟩
      rw [qX1_addFound_16]
      have g3 := fx_45_10 hx
      generalize nI (key (W a)) = kw at *
      generalize nI (key k) = kk at *
      simp [bX1_addFound_16, bX1_addFound_57, a_ai, a_ald, a_gr, a_icle, a_ifle, a_ild, a_inc, a_isub, a_push, a_wi, sh_45, sh_46, sh_47, sh_48, pu_rv, pu_as, Value.category, pu_bk, pu_kl, List.replicate, pu_wi_1, pu_wi_2, nl_add, nl_ladd, nl_aa, nl_mul, nl_rmul, nl_mm, pu_qe0, pu_qe1, p0, e, a1, v48, c2, g3, sh_48]
      all_goals try simp (maxSteps := 400000) (disch := omega) [nl_tle, nl_fle, nl_tlt, nl_flt, nl_teq, nl_feq, nl_sub, nl_ss, nl_lt, nl_llt, nl_ltt, nl_le, nl_lle, nl_lee, nl_eq, nl_leq, nl_ee, nl_div, nl_rem, nl_cl, nl_n1, nl_n2, nl_n3, nl_n4, nl_add, nl_ladd, nl_aa, nl_mul, nl_rmul, nl_mm, pu_wi_1, pu_wi_2, bX1_addFound_16, bX1_addFound_57, a_ai, a_ald, a_gr, a_icle, a_ifle, a_ild, a_inc, a_isub, a_push, a_wi, sh_45, sh_46, sh_47, sh_48, pu_rv, pu_as, Value.category, pu_bk, pu_kl, pu_qe0, pu_qe1, p0, e, a1, v48, c2, g3, sh_48]
      all_goals try simp [bX1_addFound_16, bX1_addFound_57, a_ai, a_ald, a_gr, a_icle, a_ifle, a_ild, a_inc, a_isub, a_push, a_wi, sh_45, sh_46, sh_47, sh_48, pu_rv, pu_as, Value.category, pu_bk, pu_kl, List.replicate, pu_wi_1, pu_wi_2, nl_add, nl_ladd, nl_aa, nl_mul, nl_rmul, nl_mm, pu_qe0, pu_qe1, p0, e, a1, v48, c2, g3, sh_48]
      all_goals try simp (maxSteps := 400000) (disch := omega) [nl_tle, nl_fle, nl_tlt, nl_flt, nl_teq, nl_feq, nl_sub, nl_ss, nl_lt, nl_llt, nl_ltt, nl_le, nl_lle, nl_lee, nl_eq, nl_leq, nl_ee, nl_div, nl_rem, nl_cl, nl_n1, nl_n2, nl_n3, nl_n4, nl_add, nl_ladd, nl_aa, nl_mul, nl_rmul, nl_mm, pu_wi_1, pu_wi_2, bX1_addFound_16, bX1_addFound_57, a_ai, a_ald, a_gr, a_icle, a_ifle, a_ild, a_inc, a_isub, a_push, a_wi, sh_45, sh_46, sh_47, sh_48, pu_rv, pu_as, Value.category, pu_bk, pu_kl, pu_qe0, pu_qe1, p0, e, a1, v48, c2, g3, sh_48]
      all_goals try simp [bX1_addFound_16, bX1_addFound_57, a_ai, a_ald, a_gr, a_icle, a_ifle, a_ild, a_inc, a_isub, a_push, a_wi, sh_45, sh_46, sh_47, sh_48, pu_rv, pu_as, Value.category, pu_bk, pu_kl, List.replicate, pu_wi_1, pu_wi_2, nl_add, nl_ladd, nl_aa, nl_mul, nl_rmul, nl_mm, pu_qe0, pu_qe1, p0, e, a1, v48, c2, g3, sh_48]
      all_goals try simp (maxSteps := 400000) (disch := omega) [nl_tle, nl_fle, nl_tlt, nl_flt, nl_teq, nl_feq, nl_sub, nl_ss, nl_lt, nl_llt, nl_ltt, nl_le, nl_lle, nl_lee, nl_eq, nl_leq, nl_ee, nl_div, nl_rem, nl_cl, nl_n1, nl_n2, nl_n3, nl_n4, nl_add, nl_ladd, nl_aa, nl_mul, nl_rmul, nl_mm, pu_wi_1, pu_wi_2, bX1_addFound_16, bX1_addFound_57, a_ai, a_ald, a_gr, a_icle, a_ifle, a_ild, a_inc, a_isub, a_push, a_wi, sh_45, sh_46, sh_47, sh_48, pu_rv, pu_as, Value.category, pu_bk, pu_kl, pu_qe0, pu_qe1, p0, e, a1, v48, c2, g3, sh_48]
      all_goals try simp [bX1_addFound_16, bX1_addFound_57, a_ai, a_ald, a_gr, a_icle, a_ifle, a_ild, a_inc, a_isub, a_push, a_wi, sh_45, sh_46, sh_47, sh_48, pu_rv, pu_as, Value.category, pu_bk, pu_kl, List.replicate, pu_wi_1, pu_wi_2, nl_add, nl_ladd, nl_aa, nl_mul, nl_rmul, nl_mm, pu_qe0, pu_qe1, p0, e, a1, v48, c2, g3, sh_48]
theorem c_addFound {N : pu_M} (hx : pu_fx N) (D : Nat → Int32) (sv : Int32) (key W : Nat → Nat) {n k : Nat} (hn : n < 100) (hb : ∀ j, j < n → key (W j) < 200000000) (hk : key k < 200000000) (h2 : N.1 45 2 = nI n) (hf : py_fw N D sv key W n) : ∃ b N1, b ≤ n ∧ py_fq N N1 ∧ N1.1 45 2 = nI (n + 1) ∧ py_fw N1 D sv key (pu_vi W b k) (n + 1) ∧ (∀ j, b ≤ j → j < n → key k < key (W j)) ∧ (b = 0 ∨ ¬ key k < key (W (b - 1))) ∧ pu_r 180 [some (.ref 45), some (.int (D k)), some (.int sv), some (.int (nI (key k)))] [] N = some (none, N1) := by
  obtain ⟨b, P, b1, b2, b3, b4, b5, b6, b7, b8⟩ := c_af_l D sv key W hn hb hk (D k) sv n N (Nat.le_refl _) hx hf (fun j z1 z2 => by omega)
  have hxP : pu_fx P := pz_fx_of hx b2.1
  have bl : b < 100 := by omega
  have P2 : P.1 45 2 = nI n := b3.trans h2
  obtain ⟨Q, hQ⟩ : ∃ Q, pu_wi (pu_wi (pu_wi P 46 b (D k)) 47 b sv) 48 b (nI (key k)) = Q := ⟨_, rfl⟩
  have q46 : ∀ j, Q.1 46 j = if j = b then D k else P.1 46 j := fun j => by
    rw [← hQ, py_wi_o (by omega), py_wi_o (by omega)]
    by_cases z : j = b
    · rw [if_pos z, z]; simp [pu_wi_1]
    · rw [if_neg z, py_wi_o (by omega)]
  have q47 : ∀ j, Q.1 47 j = if j = b then sv else P.1 47 j := fun j => by
    rw [← hQ, py_wi_o (by omega)]
    by_cases z : j = b
    · rw [if_pos z, z]; simp [pu_wi_1]
    · rw [if_neg z, py_wi_o (by omega), py_wi_o (by omega)]
  have q48 : ∀ j, Q.1 48 j = if j = b then nI (key k) else P.1 48 j := fun j => by
    rw [← hQ]
    by_cases z : j = b
    · rw [if_pos z, z]; simp [pu_wi_1]
    · rw [if_neg z, py_wi_o (by omega), py_wi_o (by omega), py_wi_o (by omega)]
  have Qo : ∀ c j, ¬ (46 ≤ c ∧ c ≤ 48) → Q.1 c j = P.1 c j := fun c j z => by rw [← hQ, py_wi_o (by omega), py_wi_o (by omega), py_wi_o (by omega)]
  have Q2 : Q.2 = P.2 := by rw [← hQ]; rfl
  have To : ∀ c j, ¬ (c = 45 ∧ j = 2) → (pu_wi Q 45 2 (nI (n + 1))).1 c j = Q.1 c j := fun c j z => py_wi_o z
  refine ⟨b, pu_wi Q 45 2 (nI (n + 1)), b1, ⟨by show Q.2 = _; rw [Q2, b2.1], fun c j z1 z2 => by rw [To c j z2, Qo c j z1, b2.2 c j z1 z2]⟩, by simp [pu_wi_1], fun j hj => ?_, b6, b7, ?_⟩
  · rw [To 46 j (by omega), To 47 j (by omega), To 48 j (by omega), q46, q47, q48]
    unfold pu_vi
    by_cases z : j = b
    · rw [if_pos z, if_pos z, if_pos z, if_neg (by omega), if_pos z]
      exact ⟨rfl, rfl, rfl⟩
    · simp only [if_neg z]
      by_cases z2 : j < b
      · simp only [if_pos z2]
        exact b4 j z2
      · simp only [if_neg z2]
        exact b5 j (by omega) (by omega)
  · have n1 : nI n < 100 := nI_lt (b := 100) hn (by omega)
    have g1 := fx_45_8 hxP
    have g2 : (pu_wi P 46 b (D k)).2.2.1 45 9 = some 47 := fx_45_9 hxP
    have g3 : (pu_wi (pu_wi P 46 b (D k)) 47 b sv).2.2.1 45 10 = some 48 := fx_45_10 hxP
    have g4 : Q.1 45 2 = nI n := by rw [Qo 45 2 (by omega)]; exact P2
    have K : pu_r 406 [some (.ref 45), some (.int (D k)), some (.int sv), some (.int (nI (key k))), some (.int (nI n))] [] N = some (none, pu_wi Q 45 2 (nI (n + 1))) := by
      rw [b8]
      generalize D k = dk at *
      generalize nI (key k) = kk at *
      generalize hN2 : pu_wi P 46 b dk = N2 at *
      generalize hN3 : pu_wi N2 47 b sv = N3 at *
      simp [bX1_addFound_88, a_ald, a_dup, a_gi, a_gr, a_iadd, a_ild, a_pi, a_push, a_vret, a_wi, sh_45, sh_46, sh_47, sh_48, pu_rv, pu_as, Value.category, pu_bk, pu_kl, List.replicate, pu_wi_1, pu_wi_2, nl_add, nl_ladd, nl_aa, nl_mul, nl_rmul, nl_mm, pu_qe0, pu_qe1, bl, fx_45_9 hxP, fx_45_10 hxP, P2, g1, g2, g3, g4, hN2, hN3, hQ, sh_46, sh_47, sh_48]
      all_goals try simp (maxSteps := 400000) (disch := omega) [nl_tle, nl_fle, nl_tlt, nl_flt, nl_teq, nl_feq, nl_sub, nl_ss, nl_lt, nl_llt, nl_ltt, nl_le, nl_lle, nl_lee, nl_eq, nl_leq, nl_ee, nl_div, nl_rem, nl_cl, nl_n1, nl_n2, nl_n3, nl_n4, nl_add, nl_ladd, nl_aa, nl_mul, nl_rmul, nl_mm, pu_wi_1, pu_wi_2, bX1_addFound_88, a_ald, a_dup, a_gi, a_gr, a_iadd, a_ild, a_pi, a_push, a_vret, a_wi, sh_45, sh_46, sh_47, sh_48, pu_rv, pu_as, Value.category, pu_bk, pu_kl, pu_qe0, pu_qe1, bl, fx_45_9 hxP, fx_45_10 hxP, P2, g1, g2, g3, g4, hN2, hN3, hQ, sh_46, sh_47, sh_48]
      all_goals try simp [bX1_addFound_88, a_ald, a_dup, a_gi, a_gr, a_iadd, a_ild, a_pi, a_push, a_vret, a_wi, sh_45, sh_46, sh_47, sh_48, pu_rv, pu_as, Value.category, pu_bk, pu_kl, List.replicate, pu_wi_1, pu_wi_2, nl_add, nl_ladd, nl_aa, nl_mul, nl_rmul, nl_mm, pu_qe0, pu_qe1, bl, fx_45_9 hxP, fx_45_10 hxP, P2, g1, g2, g3, g4, hN2, hN3, hQ, sh_46, sh_47, sh_48]
      all_goals try simp (maxSteps := 400000) (disch := omega) [nl_tle, nl_fle, nl_tlt, nl_flt, nl_teq, nl_feq, nl_sub, nl_ss, nl_lt, nl_llt, nl_ltt, nl_le, nl_lle, nl_lee, nl_eq, nl_leq, nl_ee, nl_div, nl_rem, nl_cl, nl_n1, nl_n2, nl_n3, nl_n4, nl_add, nl_ladd, nl_aa, nl_mul, nl_rmul, nl_mm, pu_wi_1, pu_wi_2, bX1_addFound_88, a_ald, a_dup, a_gi, a_gr, a_iadd, a_ild, a_pi, a_push, a_vret, a_wi, sh_45, sh_46, sh_47, sh_48, pu_rv, pu_as, Value.category, pu_bk, pu_kl, pu_qe0, pu_qe1, bl, fx_45_9 hxP, fx_45_10 hxP, P2, g1, g2, g3, g4, hN2, hN3, hQ, sh_46, sh_47, sh_48]
      all_goals try simp [bX1_addFound_88, a_ald, a_dup, a_gi, a_gr, a_iadd, a_ild, a_pi, a_push, a_vret, a_wi, sh_45, sh_46, sh_47, sh_48, pu_rv, pu_as, Value.category, pu_bk, pu_kl, List.replicate, pu_wi_1, pu_wi_2, nl_add, nl_ladd, nl_aa, nl_mul, nl_rmul, nl_mm, pu_qe0, pu_qe1, bl, fx_45_9 hxP, fx_45_10 hxP, P2, g1, g2, g3, g4, hN2, hN3, hQ, sh_46, sh_47, sh_48]
      all_goals try simp (maxSteps := 400000) (disch := omega) [nl_tle, nl_fle, nl_tlt, nl_flt, nl_teq, nl_feq, nl_sub, nl_ss, nl_lt, nl_llt, nl_ltt, nl_le, nl_lle, nl_lee, nl_eq, nl_leq, nl_ee, nl_div, nl_rem, nl_cl, nl_n1, nl_n2, nl_n3, nl_n4, nl_add, nl_ladd, nl_aa, nl_mul, nl_rmul, nl_mm, pu_wi_1, pu_wi_2, bX1_addFound_88, a_ald, a_dup, a_gi, a_gr, a_iadd, a_ild, a_pi, a_push, a_vret, a_wi, sh_45, sh_46, sh_47, sh_48, pu_rv, pu_as, Value.category, pu_bk, pu_kl, pu_qe0, pu_qe1, bl, fx_45_9 hxP, fx_45_10 hxP, P2, g1, g2, g3, g4, hN2, hN3, hQ, sh_46, sh_47, sh_48]
      all_goals try simp [bX1_addFound_88, a_ald, a_dup, a_gi, a_gr, a_iadd, a_ild, a_pi, a_push, a_vret, a_wi, sh_45, sh_46, sh_47, sh_48, pu_rv, pu_as, Value.category, pu_bk, pu_kl, List.replicate, pu_wi_1, pu_wi_2, nl_add, nl_ladd, nl_aa, nl_mul, nl_rmul, nl_mm, pu_qe0, pu_qe1, bl, fx_45_9 hxP, fx_45_10 hxP, P2, g1, g2, g3, g4, hN2, hN3, hQ, sh_46, sh_47, sh_48]
    generalize D k = dk at *
    generalize nI (key k) = kk at *
    rw [qX1_addFound]
    simp [a_ent, bX1_addFound_0, bX1_addFound_10, a_ald, a_gi, a_iclt, a_ist, a_push, a_vret, sh_45, pu_rv, pu_as, Value.category, pu_bk, pu_kl, List.replicate, pu_wi_1, pu_wi_2, nl_add, nl_ladd, nl_aa, nl_mul, nl_rmul, nl_mm, pu_qe0, pu_qe1, h2, n1, hn, K]
    all_goals try simp (maxSteps := 400000) (disch := omega) [nl_tle, nl_fle, nl_tlt, nl_flt, nl_teq, nl_feq, nl_sub, nl_ss, nl_lt, nl_llt, nl_ltt, nl_le, nl_lle, nl_lee, nl_eq, nl_leq, nl_ee, nl_div, nl_rem, nl_cl, nl_n1, nl_n2, nl_n3, nl_n4, nl_add, nl_ladd, nl_aa, nl_mul, nl_rmul, nl_mm, pu_wi_1, pu_wi_2, bX1_addFound_0, bX1_addFound_10, a_ald, a_gi, a_iclt, a_ist, a_push, a_vret, sh_45, pu_rv, pu_as, Value.category, pu_bk, pu_kl, pu_qe0, pu_qe1, h2, n1, hn, K]
    all_goals try simp [bX1_addFound_0, bX1_addFound_10, a_ald, a_gi, a_iclt, a_ist, a_push, a_vret, sh_45, pu_rv, pu_as, Value.category, pu_bk, pu_kl, List.replicate, pu_wi_1, pu_wi_2, nl_add, nl_ladd, nl_aa, nl_mul, nl_rmul, nl_mm, pu_qe0, pu_qe1, h2, n1, hn, K]
    all_goals try simp (maxSteps := 400000) (disch := omega) [nl_tle, nl_fle, nl_tlt, nl_flt, nl_teq, nl_feq, nl_sub, nl_ss, nl_lt, nl_llt, nl_ltt, nl_le, nl_lle, nl_lee, nl_eq, nl_leq, nl_ee, nl_div, nl_rem, nl_cl, nl_n1, nl_n2, nl_n3, nl_n4, nl_add, nl_ladd, nl_aa, nl_mul, nl_rmul, nl_mm, pu_wi_1, pu_wi_2, bX1_addFound_0, bX1_addFound_10, a_ald, a_gi, a_iclt, a_ist, a_push, a_vret, sh_45, pu_rv, pu_as, Value.category, pu_bk, pu_kl, pu_qe0, pu_qe1, h2, n1, hn, K]
    all_goals try simp [bX1_addFound_0, bX1_addFound_10, a_ald, a_gi, a_iclt, a_ist, a_push, a_vret, sh_45, pu_rv, pu_as, Value.category, pu_bk, pu_kl, List.replicate, pu_wi_1, pu_wi_2, nl_add, nl_ladd, nl_aa, nl_mul, nl_rmul, nl_mm, pu_qe0, pu_qe1, h2, n1, hn, K]
    all_goals try simp (maxSteps := 400000) (disch := omega) [nl_tle, nl_fle, nl_tlt, nl_flt, nl_teq, nl_feq, nl_sub, nl_ss, nl_lt, nl_llt, nl_ltt, nl_le, nl_lle, nl_lee, nl_eq, nl_leq, nl_ee, nl_div, nl_rem, nl_cl, nl_n1, nl_n2, nl_n3, nl_n4, nl_add, nl_ladd, nl_aa, nl_mul, nl_rmul, nl_mm, pu_wi_1, pu_wi_2, bX1_addFound_0, bX1_addFound_10, a_ald, a_gi, a_iclt, a_ist, a_push, a_vret, sh_45, pu_rv, pu_as, Value.category, pu_bk, pu_kl, pu_qe0, pu_qe1, h2, n1, hn, K]
    all_goals try simp [bX1_addFound_0, bX1_addFound_10, a_ald, a_gi, a_iclt, a_ist, a_push, a_vret, sh_45, pu_rv, pu_as, Value.category, pu_bk, pu_kl, List.replicate, pu_wi_1, pu_wi_2, nl_add, nl_ladd, nl_aa, nl_mul, nl_rmul, nl_mm, pu_qe0, pu_qe1, h2, n1, hn, K]
/-- what stands in the view, could have the number, and has a told door -/
def py_fs (I : Nat → Nat → Int32) (st w : Nat) (y : Int32) (V : Nat → Nat) (D : Nat → Int32) (i k : Nat) : Prop := ∃ a, a < i ∧ V a = k ∧ I 16 k = 0 ∧ py_mh I st w y k ∧ D k ≠ -1
theorem py_vd_f {N : pu_M} (h : py_vd M I st y o V n) (e : ∀ c j, 62 ≤ c → c ≤ 68 → N.1 c j = M.1 c j) : py_vd N I st y o V n := by
  obtain ⟨h1, h2, h3, h4, h5, h6⟩ := h
  exact ⟨h1, by rw [e 62 1 (by omega) (by omega)]; exact h2, by rw [e 62 2 (by omega) (by omega)]; exact h3, ⟨by rw [e 62 0 (by omega) (by omega)]; exact h4.1, fun c j q1 q2 q3 => by rw [e c j (by omega) q2]; exact h4.2 c j q1 q2 q3⟩, h5, h6⟩
theorem c_findOne {N : pu_M} (hx : pu_fx N) {f : Nat} {y sv rk d : Int32} (td : pu_r 179 [some (.ref 0), some (.int (nI f)), some (.int y)] [] N = some (some (.int d), N)) (N1 : pu_M) (e1 : d = -1 → N1 = N) (e2 : d ≠ -1 → pu_r 180 [some (.ref 45), some (.int d), some (.int sv), some (.int rk)] [] N = some (none, N1)) : pu_r 181 [some (.ref 0), some (.int (nI f)), some (.int y), some (.int sv), some (.int rk)] [] N = some (none, N1) := by
  by_cases c : d = -1
  · rw [e1 c]
    rw [c] at td
    rw [qX11_findOne]
    simp [a_ent, bX11_findOne_0, bX11_findOne_29, a_ald, a_cv, a_gr, a_iceq, a_ild, a_ist, a_push, a_vret, fx_0_2 hx, fx_5_6 hx, sh_0, sh_45, sh_5, pu_rv, pu_as, Value.category, pu_bk, pu_kl, List.replicate, pu_wi_1, pu_wi_2, nl_add, nl_ladd, nl_aa, nl_mul, nl_rmul, nl_mm, pu_qe0, pu_qe1, td]
    all_goals try simp (maxSteps := 400000) (disch := omega) [nl_tle, nl_fle, nl_tlt, nl_flt, nl_teq, nl_feq, nl_sub, nl_ss, nl_lt, nl_llt, nl_ltt, nl_le, nl_lle, nl_lee, nl_eq, nl_leq, nl_ee, nl_div, nl_rem, nl_cl, nl_n1, nl_n2, nl_n3, nl_n4, nl_add, nl_ladd, nl_aa, nl_mul, nl_rmul, nl_mm, pu_wi_1, pu_wi_2, bX11_findOne_0, bX11_findOne_29, a_ald, a_cv, a_gr, a_iceq, a_ild, a_ist, a_push, a_vret, fx_0_2 hx, fx_5_6 hx, sh_0, sh_45, sh_5, pu_rv, pu_as, Value.category, pu_bk, pu_kl, pu_qe0, pu_qe1, td]
    all_goals try simp [bX11_findOne_0, bX11_findOne_29, a_ald, a_cv, a_gr, a_iceq, a_ild, a_ist, a_push, a_vret, fx_0_2 hx, fx_5_6 hx, sh_0, sh_45, sh_5, pu_rv, pu_as, Value.category, pu_bk, pu_kl, List.replicate, pu_wi_1, pu_wi_2, nl_add, nl_ladd, nl_aa, nl_mul, nl_rmul, nl_mm, pu_qe0, pu_qe1, td]
    all_goals try simp (maxSteps := 400000) (disch := omega) [nl_tle, nl_fle, nl_tlt, nl_flt, nl_teq, nl_feq, nl_sub, nl_ss, nl_lt, nl_llt, nl_ltt, nl_le, nl_lle, nl_lee, nl_eq, nl_leq, nl_ee, nl_div, nl_rem, nl_cl, nl_n1, nl_n2, nl_n3, nl_n4, nl_add, nl_ladd, nl_aa, nl_mul, nl_rmul, nl_mm, pu_wi_1, pu_wi_2, bX11_findOne_0, bX11_findOne_29, a_ald, a_cv, a_gr, a_iceq, a_ild, a_ist, a_push, a_vret, fx_0_2 hx, fx_5_6 hx, sh_0, sh_45, sh_5, pu_rv, pu_as, Value.category, pu_bk, pu_kl, pu_qe0, pu_qe1, td]
    all_goals try simp [bX11_findOne_0, bX11_findOne_29, a_ald, a_cv, a_gr, a_iceq, a_ild, a_ist, a_push, a_vret, fx_0_2 hx, fx_5_6 hx, sh_0, sh_45, sh_5, pu_rv, pu_as, Value.category, pu_bk, pu_kl, List.replicate, pu_wi_1, pu_wi_2, nl_add, nl_ladd, nl_aa, nl_mul, nl_rmul, nl_mm, pu_qe0, pu_qe1, td]
    all_goals try simp (maxSteps := 400000) (disch := omega) [nl_tle, nl_fle, nl_tlt, nl_flt, nl_teq, nl_feq, nl_sub, nl_ss, nl_lt, nl_llt, nl_ltt, nl_le, nl_lle, nl_lee, nl_eq, nl_leq, nl_ee, nl_div, nl_rem, nl_cl, nl_n1, nl_n2, nl_n3, nl_n4, nl_add, nl_ladd, nl_aa, nl_mul, nl_rmul, nl_mm, pu_wi_1, pu_wi_2, bX11_findOne_0, bX11_findOne_29, a_ald, a_cv, a_gr, a_iceq, a_ild, a_ist, a_push, a_vret, fx_0_2 hx, fx_5_6 hx, sh_0, sh_45, sh_5, pu_rv, pu_as, Value.category, pu_bk, pu_kl, pu_qe0, pu_qe1, td]
    all_goals try simp [bX11_findOne_0, bX11_findOne_29, a_ald, a_cv, a_gr, a_iceq, a_ild, a_ist, a_push, a_vret, fx_0_2 hx, fx_5_6 hx, sh_0, sh_45, sh_5, pu_rv, pu_as, Value.category, pu_bk, pu_kl, List.replicate, pu_wi_1, pu_wi_2, nl_add, nl_ladd, nl_aa, nl_mul, nl_rmul, nl_mm, pu_qe0, pu_qe1, td]
  · have e := e2 c
    rw [qX11_findOne]
    simp [a_ent, bX11_findOne_0, bX11_findOne_29, a_ald, a_cv, a_gr, a_iceq, a_ild, a_ist, a_push, a_vret, fx_0_2 hx, fx_5_6 hx, sh_0, sh_45, sh_5, pu_rv, pu_as, Value.category, pu_bk, pu_kl, List.replicate, pu_wi_1, pu_wi_2, nl_add, nl_ladd, nl_aa, nl_mul, nl_rmul, nl_mm, pu_qe0, pu_qe1, td, c, e, sh_45]
    all_goals try simp (maxSteps := 400000) (disch := omega) [nl_tle, nl_fle, nl_tlt, nl_flt, nl_teq, nl_feq, nl_sub, nl_ss, nl_lt, nl_llt, nl_ltt, nl_le, nl_lle, nl_lee, nl_eq, nl_leq, nl_ee, nl_div, nl_rem, nl_cl, nl_n1, nl_n2, nl_n3, nl_n4, nl_add, nl_ladd, nl_aa, nl_mul, nl_rmul, nl_mm, pu_wi_1, pu_wi_2, bX11_findOne_0, bX11_findOne_29, a_ald, a_cv, a_gr, a_iceq, a_ild, a_ist, a_push, a_vret, fx_0_2 hx, fx_5_6 hx, sh_0, sh_45, sh_5, pu_rv, pu_as, Value.category, pu_bk, pu_kl, pu_qe0, pu_qe1, td, c, e, sh_45]
    all_goals try simp [bX11_findOne_0, bX11_findOne_29, a_ald, a_cv, a_gr, a_iceq, a_ild, a_ist, a_push, a_vret, fx_0_2 hx, fx_5_6 hx, sh_0, sh_45, sh_5, pu_rv, pu_as, Value.category, pu_bk, pu_kl, List.replicate, pu_wi_1, pu_wi_2, nl_add, nl_ladd, nl_aa, nl_mul, nl_rmul, nl_mm, pu_qe0, pu_qe1, td, c, e, sh_45]
    all_goals try simp (maxSteps := 400000) (disch := omega) [nl_tle, nl_fle, nl_tlt, nl_flt, nl_teq, nl_feq, nl_sub, nl_ss, nl_lt, nl_llt, nl_ltt, nl_le, nl_lle, nl_lee, nl_eq, nl_leq, nl_ee, nl_div, nl_rem, nl_cl, nl_n1, nl_n2, nl_n3, nl_n4, nl_add, nl_ladd, nl_aa, nl_mul, nl_rmul, nl_mm, pu_wi_1, pu_wi_2, bX11_findOne_0, bX11_findOne_29, a_ald, a_cv, a_gr, a_iceq, a_ild, a_ist, a_push, a_vret, fx_0_2 hx, fx_5_6 hx, sh_0, sh_45, sh_5, pu_rv, pu_as, Value.category, pu_bk, pu_kl, pu_qe0, pu_qe1, td, c, e, sh_45]
    all_goals try simp [bX11_findOne_0, bX11_findOne_29, a_ald, a_cv, a_gr, a_iceq, a_ild, a_ist, a_push, a_vret, fx_0_2 hx, fx_5_6 hx, sh_0, sh_45, sh_5, pu_rv, pu_as, Value.category, pu_bk, pu_kl, List.replicate, pu_wi_1, pu_wi_2, nl_add, nl_ladd, nl_aa, nl_mul, nl_rmul, nl_mm, pu_qe0, pu_qe1, td, c, e, sh_45]
    all_goals try simp (maxSteps := 400000) (disch := omega) [nl_tle, nl_fle, nl_tlt, nl_flt, nl_teq, nl_feq, nl_sub, nl_ss, nl_lt, nl_llt, nl_ltt, nl_le, nl_lle, nl_lee, nl_eq, nl_leq, nl_ee, nl_div, nl_rem, nl_cl, nl_n1, nl_n2, nl_n3, nl_n4, nl_add, nl_ladd, nl_aa, nl_mul, nl_rmul, nl_mm, pu_wi_1, pu_wi_2, bX11_findOne_0, bX11_findOne_29, a_ald, a_cv, a_gr, a_iceq, a_ild, a_ist, a_push, a_vret, fx_0_2 hx, fx_5_6 hx, sh_0, sh_45, sh_5, pu_rv, pu_as, Value.category, pu_bk, pu_kl, pu_qe0, pu_qe1, td, c, e, sh_45]
    all_goals try simp [bX11_findOne_0, bX11_findOne_29, a_ald, a_cv, a_gr, a_iceq, a_ild, a_ist, a_push, a_vret, fx_0_2 hx, fx_5_6 hx, sh_0, sh_45, sh_5, pu_rv, pu_as, Value.category, pu_bk, pu_kl, List.replicate, pu_wi_1, pu_wi_2, nl_add, nl_ladd, nl_aa, nl_mul, nl_rmul, nl_mm, pu_qe0, pu_qe1, td, c, e, sh_45]
theorem c_fl_i {N : pu_M} (hx : pu_fx N) {i f w : Nat} {y g rk sl : Int32} (hi : i < n) (hn : n ≤ 100) (h0 : N.1 62 0 = nI n) (h2 : N.1 59 2 = nI w) (N1 : pu_M) (hs : N.1 64 i = nI sl.toNatClampNeg) (hf : f = sl.toNatClampNeg / 2) (hsl : sl.toNatClampNeg < 200) (ec : pu_r 174 [some (.ref 62), some (.int (nI i)), some (.int (nI w))] [] N = some (some (.int g), N)) (e1 : g = 0 → N1 = N) (e2 : g ≠ 0 → g = 1 ∧ pu_r 177 [some (.ref 62), some (.int (nI i))] [] N = some (some (.int rk), N) ∧ pu_r 181 [some (.ref 0), some (.int (nI f)), some (.int y), some (.int 0), some (.int rk)] [] N = some (none, N1)) : pu_r 407 [some (.ref 0), some (.int y), some (.int (nI i))] [] N = pu_r 407 [some (.ref 0), some (.int y), some (.int (nI (i + 1)))] [] N1 := by
  have hc : ¬ nI n ≤ nI i := nI_ge (by omega) (by omega)
  have i1 : i < 100 := by omega
  generalize hR : pu_r 407 [some (.ref 0), some (.int y), some (.int (nI (i + 1)))] [] N1 = R
  by_cases c : g = 0
  · rw [e1 c] at hR
    rw [c] at ec
    rw [qX11_findLikely_2]
    simp [bX11_findLikely_2, bX11_findLikely_62, bX11_findLikely_56, bX11_findLikely_46, a_ai, a_ald, a_cv, a_gi, a_gr, a_icge, a_idiv, a_ifeq, a_ild, a_inc, a_push, a_vret, fx_0_4 hx, fx_0_5 hx, fx_62_4 hx, sh_0, sh_59, sh_62, sh_64, pu_rv, pu_as, Value.category, pu_bk, pu_kl, List.replicate, pu_wi_1, pu_wi_2, nl_add, nl_ladd, nl_aa, nl_mul, nl_rmul, nl_mm, pu_qe0, pu_qe1, h0, hc, h2, ec, hR]
    all_goals try simp (maxSteps := 400000) (disch := omega) [nl_tle, nl_fle, nl_tlt, nl_flt, nl_teq, nl_feq, nl_sub, nl_ss, nl_lt, nl_llt, nl_ltt, nl_le, nl_lle, nl_lee, nl_eq, nl_leq, nl_ee, nl_div, nl_rem, nl_cl, nl_n1, nl_n2, nl_n3, nl_n4, nl_add, nl_ladd, nl_aa, nl_mul, nl_rmul, nl_mm, pu_wi_1, pu_wi_2, bX11_findLikely_2, bX11_findLikely_62, bX11_findLikely_56, bX11_findLikely_46, a_ai, a_ald, a_cv, a_gi, a_gr, a_icge, a_idiv, a_ifeq, a_ild, a_inc, a_push, a_vret, fx_0_4 hx, fx_0_5 hx, fx_62_4 hx, sh_0, sh_59, sh_62, sh_64, pu_rv, pu_as, Value.category, pu_bk, pu_kl, pu_qe0, pu_qe1, h0, hc, h2, ec, hR]
    all_goals try simp [bX11_findLikely_2, bX11_findLikely_62, bX11_findLikely_56, bX11_findLikely_46, a_ai, a_ald, a_cv, a_gi, a_gr, a_icge, a_idiv, a_ifeq, a_ild, a_inc, a_push, a_vret, fx_0_4 hx, fx_0_5 hx, fx_62_4 hx, sh_0, sh_59, sh_62, sh_64, pu_rv, pu_as, Value.category, pu_bk, pu_kl, List.replicate, pu_wi_1, pu_wi_2, nl_add, nl_ladd, nl_aa, nl_mul, nl_rmul, nl_mm, pu_qe0, pu_qe1, h0, hc, h2, ec, hR]
    all_goals try simp (maxSteps := 400000) (disch := omega) [nl_tle, nl_fle, nl_tlt, nl_flt, nl_teq, nl_feq, nl_sub, nl_ss, nl_lt, nl_llt, nl_ltt, nl_le, nl_lle, nl_lee, nl_eq, nl_leq, nl_ee, nl_div, nl_rem, nl_cl, nl_n1, nl_n2, nl_n3, nl_n4, nl_add, nl_ladd, nl_aa, nl_mul, nl_rmul, nl_mm, pu_wi_1, pu_wi_2, bX11_findLikely_2, bX11_findLikely_62, bX11_findLikely_56, bX11_findLikely_46, a_ai, a_ald, a_cv, a_gi, a_gr, a_icge, a_idiv, a_ifeq, a_ild, a_inc, a_push, a_vret, fx_0_4 hx, fx_0_5 hx, fx_62_4 hx, sh_0, sh_59, sh_62, sh_64, pu_rv, pu_as, Value.category, pu_bk, pu_kl, pu_qe0, pu_qe1, h0, hc, h2, ec, hR]
    all_goals try simp [bX11_findLikely_2, bX11_findLikely_62, bX11_findLikely_56, bX11_findLikely_46, a_ai, a_ald, a_cv, a_gi, a_gr, a_icge, a_idiv, a_ifeq, a_ild, a_inc, a_push, a_vret, fx_0_4 hx, fx_0_5 hx, fx_62_4 hx, sh_0, sh_59, sh_62, sh_64, pu_rv, pu_as, Value.category, pu_bk, pu_kl, List.replicate, pu_wi_1, pu_wi_2, nl_add, nl_ladd, nl_aa, nl_mul, nl_rmul, nl_mm, pu_qe0, pu_qe1, h0, hc, h2, ec, hR]
    all_goals try simp (maxSteps := 400000) (disch := omega) [nl_tle, nl_fle, nl_tlt, nl_flt, nl_teq, nl_feq, nl_sub, nl_ss, nl_lt, nl_llt, nl_ltt, nl_le, nl_lle, nl_lee, nl_eq, nl_leq, nl_ee, nl_div, nl_rem, nl_cl, nl_n1, nl_n2, nl_n3, nl_n4, nl_add, nl_ladd, nl_aa, nl_mul, nl_rmul, nl_mm, pu_wi_1, pu_wi_2, bX11_findLikely_2, bX11_findLikely_62, bX11_findLikely_56, bX11_findLikely_46, a_ai, a_ald, a_cv, a_gi, a_gr, a_icge, a_idiv, a_ifeq, a_ild, a_inc, a_push, a_vret, fx_0_4 hx, fx_0_5 hx, fx_62_4 hx, sh_0, sh_59, sh_62, sh_64, pu_rv, pu_as, Value.category, pu_bk, pu_kl, pu_qe0, pu_qe1, h0, hc, h2, ec, hR]
    all_goals try simp [bX11_findLikely_2, bX11_findLikely_62, bX11_findLikely_56, bX11_findLikely_46, a_ai, a_ald, a_cv, a_gi, a_gr, a_icge, a_idiv, a_ifeq, a_ild, a_inc, a_push, a_vret, fx_0_4 hx, fx_0_5 hx, fx_62_4 hx, sh_0, sh_59, sh_62, sh_64, pu_rv, pu_as, Value.category, pu_bk, pu_kl, List.replicate, pu_wi_1, pu_wi_2, nl_add, nl_ladd, nl_aa, nl_mul, nl_rmul, nl_mm, pu_qe0, pu_qe1, h0, hc, h2, ec, hR]
  · obtain ⟨g1, g2, g3⟩ := e2 c
    rw [g1] at ec
    rw [hf] at g3
    generalize sl.toNatClampNeg = s at *
    rw [qX11_findLikely_2]
    simp [bX11_findLikely_2, bX11_findLikely_62, bX11_findLikely_56, bX11_findLikely_46, a_ai, a_ald, a_cv, a_gi, a_gr, a_icge, a_idiv, a_ifeq, a_ild, a_inc, a_push, a_vret, fx_0_4 hx, fx_0_5 hx, fx_62_4 hx, sh_0, sh_59, sh_62, sh_64, pu_rv, pu_as, Value.category, pu_bk, pu_kl, List.replicate, pu_wi_1, pu_wi_2, nl_add, nl_ladd, nl_aa, nl_mul, nl_rmul, nl_mm, pu_qe0, pu_qe1, h0, hc, h2, ec, i1, hs, hsl, g2, g3, hR]
    all_goals try simp (maxSteps := 400000) (disch := omega) [nl_tle, nl_fle, nl_tlt, nl_flt, nl_teq, nl_feq, nl_sub, nl_ss, nl_lt, nl_llt, nl_ltt, nl_le, nl_lle, nl_lee, nl_eq, nl_leq, nl_ee, nl_div, nl_rem, nl_cl, nl_n1, nl_n2, nl_n3, nl_n4, nl_add, nl_ladd, nl_aa, nl_mul, nl_rmul, nl_mm, pu_wi_1, pu_wi_2, bX11_findLikely_2, bX11_findLikely_62, bX11_findLikely_56, bX11_findLikely_46, a_ai, a_ald, a_cv, a_gi, a_gr, a_icge, a_idiv, a_ifeq, a_ild, a_inc, a_push, a_vret, fx_0_4 hx, fx_0_5 hx, fx_62_4 hx, sh_0, sh_59, sh_62, sh_64, pu_rv, pu_as, Value.category, pu_bk, pu_kl, pu_qe0, pu_qe1, h0, hc, h2, ec, i1, hs, hsl, g2, g3, hR]
    all_goals try simp [bX11_findLikely_2, bX11_findLikely_62, bX11_findLikely_56, bX11_findLikely_46, a_ai, a_ald, a_cv, a_gi, a_gr, a_icge, a_idiv, a_ifeq, a_ild, a_inc, a_push, a_vret, fx_0_4 hx, fx_0_5 hx, fx_62_4 hx, sh_0, sh_59, sh_62, sh_64, pu_rv, pu_as, Value.category, pu_bk, pu_kl, List.replicate, pu_wi_1, pu_wi_2, nl_add, nl_ladd, nl_aa, nl_mul, nl_rmul, nl_mm, pu_qe0, pu_qe1, h0, hc, h2, ec, i1, hs, hsl, g2, g3, hR]
    all_goals try simp (maxSteps := 400000) (disch := omega) [nl_tle, nl_fle, nl_tlt, nl_flt, nl_teq, nl_feq, nl_sub, nl_ss, nl_lt, nl_llt, nl_ltt, nl_le, nl_lle, nl_lee, nl_eq, nl_leq, nl_ee, nl_div, nl_rem, nl_cl, nl_n1, nl_n2, nl_n3, nl_n4, nl_add, nl_ladd, nl_aa, nl_mul, nl_rmul, nl_mm, pu_wi_1, pu_wi_2, bX11_findLikely_2, bX11_findLikely_62, bX11_findLikely_56, bX11_findLikely_46, a_ai, a_ald, a_cv, a_gi, a_gr, a_icge, a_idiv, a_ifeq, a_ild, a_inc, a_push, a_vret, fx_0_4 hx, fx_0_5 hx, fx_62_4 hx, sh_0, sh_59, sh_62, sh_64, pu_rv, pu_as, Value.category, pu_bk, pu_kl, pu_qe0, pu_qe1, h0, hc, h2, ec, i1, hs, hsl, g2, g3, hR]
    all_goals try simp [bX11_findLikely_2, bX11_findLikely_62, bX11_findLikely_56, bX11_findLikely_46, a_ai, a_ald, a_cv, a_gi, a_gr, a_icge, a_idiv, a_ifeq, a_ild, a_inc, a_push, a_vret, fx_0_4 hx, fx_0_5 hx, fx_62_4 hx, sh_0, sh_59, sh_62, sh_64, pu_rv, pu_as, Value.category, pu_bk, pu_kl, List.replicate, pu_wi_1, pu_wi_2, nl_add, nl_ladd, nl_aa, nl_mul, nl_rmul, nl_mm, pu_qe0, pu_qe1, h0, hc, h2, ec, i1, hs, hsl, g2, g3, hR]
    all_goals try simp (maxSteps := 400000) (disch := omega) [nl_tle, nl_fle, nl_tlt, nl_flt, nl_teq, nl_feq, nl_sub, nl_ss, nl_lt, nl_llt, nl_ltt, nl_le, nl_lle, nl_lee, nl_eq, nl_leq, nl_ee, nl_div, nl_rem, nl_cl, nl_n1, nl_n2, nl_n3, nl_n4, nl_add, nl_ladd, nl_aa, nl_mul, nl_rmul, nl_mm, pu_wi_1, pu_wi_2, bX11_findLikely_2, bX11_findLikely_62, bX11_findLikely_56, bX11_findLikely_46, a_ai, a_ald, a_cv, a_gi, a_gr, a_icge, a_idiv, a_ifeq, a_ild, a_inc, a_push, a_vret, fx_0_4 hx, fx_0_5 hx, fx_62_4 hx, sh_0, sh_59, sh_62, sh_64, pu_rv, pu_as, Value.category, pu_bk, pu_kl, pu_qe0, pu_qe1, h0, hc, h2, ec, i1, hs, hsl, g2, g3, hR]
    all_goals try simp [bX11_findLikely_2, bX11_findLikely_62, bX11_findLikely_56, bX11_findLikely_46, a_ai, a_ald, a_cv, a_gi, a_gr, a_icge, a_idiv, a_ifeq, a_ild, a_inc, a_push, a_vret, fx_0_4 hx, fx_0_5 hx, fx_62_4 hx, sh_0, sh_59, sh_62, sh_64, pu_rv, pu_as, Value.category, pu_bk, pu_kl, List.replicate, pu_wi_1, pu_wi_2, nl_add, nl_ladd, nl_aa, nl_mul, nl_rmul, nl_mm, pu_qe0, pu_qe1, h0, hc, h2, ec, i1, hs, hsl, g2, g3, hR]
theorem c_fl_l (hw : pu_WF I L) (hI : pu_ag M I) (hxM : pu_fx M) (hy : ¬ y < 0) (h : py_vd M I st y o V n) {w x kk : Nat} (hwl : w < 160000) (hxl : x < 5) (hkk : kk < 100) (h2 : M.1 59 2 = nI w) (h3 : M.1 59 3 = (if x = 0 then -1 else nI x)) (h4 : M.1 59 4 = nI kk) : ∀ (m i : Nat) (N : pu_M) (W : Nat → Nat) (c : Nat), i + m = n → c ≤ i → py_fq M N → N.1 45 2 = nI c → py_fw N (fun k => py_td I x kk (pu_sl0 I k / 2) y) 0 (py_ky I st y) W c → py_SL (py_ky I st y) (py_fs I st w y V (fun k => py_td I x kk (pu_sl0 I k / 2) y) i) W c → ∃ N1 W1 c1, c1 ≤ n ∧ py_fq M N1 ∧ N1.1 45 2 = nI c1 ∧ py_fw N1 (fun k => py_td I x kk (pu_sl0 I k / 2) y) 0 (py_ky I st y) W1 c1 ∧ py_SL (py_ky I st y) (py_fs I st w y V (fun k => py_td I x kk (pu_sl0 I k / 2) y) n) W1 c1 ∧ pu_r 407 [some (.ref 0), some (.int y), some (.int (nI i))] [] N = some (none, N1)
  | 0, i, N, W, c, hi, hc, ff, f2, fw, sl => by
    have hx : pu_fx N := pz_fx_of hxM ff.1
    have hn := h.1
    have h' := py_vd_f h (N := N) (fun c j q1 q2 => ff.2 c j (by omega) (by omega))
    have v0 := h'.2.2.2.1.1
    have e : i = n := by omega
    have hcc : nI n ≤ nI n := nI_le (by omega) (by omega)
    refine ⟨N, W, c, by omega, ff, f2, fw, by rw [← e]; exact sl, ?_⟩
    rw [e]
    rw [qX11_findLikely_2]
    simp [bX11_findLikely_2, bX11_findLikely_62, bX11_findLikely_56, bX11_findLikely_46, a_ai, a_ald, a_cv, a_gi, a_gr, a_icge, a_idiv, a_ifeq, a_ild, a_inc, a_push, a_vret, fx_0_4 hx, fx_0_5 hx, fx_62_4 hx, sh_0, sh_59, sh_62, sh_64, pu_rv, pu_as, Value.category, pu_bk, pu_kl, List.replicate, pu_wi_1, pu_wi_2, nl_add, nl_ladd, nl_aa, nl_mul, nl_rmul, nl_mm, pu_qe0, pu_qe1, v0, hcc]
    all_goals try simp (maxSteps := 400000) (disch := omega) [nl_tle, nl_fle, nl_tlt, nl_flt, nl_teq, nl_feq, nl_sub, nl_ss, nl_lt, nl_llt, nl_ltt, nl_le, nl_lle, nl_lee, nl_eq, nl_leq, nl_ee, nl_div, nl_rem, nl_cl, nl_n1, nl_n2, nl_n3, nl_n4, nl_add, nl_ladd, nl_aa, nl_mul, nl_rmul, nl_mm, pu_wi_1, pu_wi_2, bX11_findLikely_2, bX11_findLikely_62, bX11_findLikely_56, bX11_findLikely_46, a_ai, a_ald, a_cv, a_gi, a_gr, a_icge, a_idiv, a_ifeq, a_ild, a_inc, a_push, a_vret, fx_0_4 hx, fx_0_5 hx, fx_62_4 hx, sh_0, sh_59, sh_62, sh_64, pu_rv, pu_as, Value.category, pu_bk, pu_kl, pu_qe0, pu_qe1, v0, hcc]
    all_goals try simp [bX11_findLikely_2, bX11_findLikely_62, bX11_findLikely_56, bX11_findLikely_46, a_ai, a_ald, a_cv, a_gi, a_gr, a_icge, a_idiv, a_ifeq, a_ild, a_inc, a_push, a_vret, fx_0_4 hx, fx_0_5 hx, fx_62_4 hx, sh_0, sh_59, sh_62, sh_64, pu_rv, pu_as, Value.category, pu_bk, pu_kl, List.replicate, pu_wi_1, pu_wi_2, nl_add, nl_ladd, nl_aa, nl_mul, nl_rmul, nl_mm, pu_qe0, pu_qe1, v0, hcc]
    all_goals try simp (maxSteps := 400000) (disch := omega) [nl_tle, nl_fle, nl_tlt, nl_flt, nl_teq, nl_feq, nl_sub, nl_ss, nl_lt, nl_llt, nl_ltt, nl_le, nl_lle, nl_lee, nl_eq, nl_leq, nl_ee, nl_div, nl_rem, nl_cl, nl_n1, nl_n2, nl_n3, nl_n4, nl_add, nl_ladd, nl_aa, nl_mul, nl_rmul, nl_mm, pu_wi_1, pu_wi_2, bX11_findLikely_2, bX11_findLikely_62, bX11_findLikely_56, bX11_findLikely_46, a_ai, a_ald, a_cv, a_gi, a_gr, a_icge, a_idiv, a_ifeq, a_ild, a_inc, a_push, a_vret, fx_0_4 hx, fx_0_5 hx, fx_62_4 hx, sh_0, sh_59, sh_62, sh_64, pu_rv, pu_as, Value.category, pu_bk, pu_kl, pu_qe0, pu_qe1, v0, hcc]
    all_goals try simp [bX11_findLikely_2, bX11_findLikely_62, bX11_findLikely_56, bX11_findLikely_46, a_ai, a_ald, a_cv, a_gi, a_gr, a_icge, a_idiv, a_ifeq, a_ild, a_inc, a_push, a_vret, fx_0_4 hx, fx_0_5 hx, fx_62_4 hx, sh_0, sh_59, sh_62, sh_64, pu_rv, pu_as, Value.category, pu_bk, pu_kl, List.replicate, pu_wi_1, pu_wi_2, nl_add, nl_ladd, nl_aa, nl_mul, nl_rmul, nl_mm, pu_qe0, pu_qe1, v0, hcc]
    all_goals try simp (maxSteps := 400000) (disch := omega) [nl_tle, nl_fle, nl_tlt, nl_flt, nl_teq, nl_feq, nl_sub, nl_ss, nl_lt, nl_llt, nl_ltt, nl_le, nl_lle, nl_lee, nl_eq, nl_leq, nl_ee, nl_div, nl_rem, nl_cl, nl_n1, nl_n2, nl_n3, nl_n4, nl_add, nl_ladd, nl_aa, nl_mul, nl_rmul, nl_mm, pu_wi_1, pu_wi_2, bX11_findLikely_2, bX11_findLikely_62, bX11_findLikely_56, bX11_findLikely_46, a_ai, a_ald, a_cv, a_gi, a_gr, a_icge, a_idiv, a_ifeq, a_ild, a_inc, a_push, a_vret, fx_0_4 hx, fx_0_5 hx, fx_62_4 hx, sh_0, sh_59, sh_62, sh_64, pu_rv, pu_as, Value.category, pu_bk, pu_kl, pu_qe0, pu_qe1, v0, hcc]
    all_goals try simp [bX11_findLikely_2, bX11_findLikely_62, bX11_findLikely_56, bX11_findLikely_46, a_ai, a_ald, a_cv, a_gi, a_gr, a_icge, a_idiv, a_ifeq, a_ild, a_inc, a_push, a_vret, fx_0_4 hx, fx_0_5 hx, fx_62_4 hx, sh_0, sh_59, sh_62, sh_64, pu_rv, pu_as, Value.category, pu_bk, pu_kl, List.replicate, pu_wi_1, pu_wi_2, nl_add, nl_ladd, nl_aa, nl_mul, nl_rmul, nl_mm, pu_qe0, pu_qe1, v0, hcc]
  | m + 1, i, N, W, c, hi, hc, ff, f2, fw, sl => by
    have hx : pu_fx N := pz_fx_of hxM ff.1
    have hn := h.1
    have hst := h.2.2.2.2.2.2
    have VI := h.2.2.2.2.1
    have h' := py_vd_f h (N := N) (fun c j q1 q2 => ff.2 c j (by omega) (by omega))
    have inn : i < n := by omega
    have m0 := py_vd_m h inn
    have sv := pu_sl_lt hw m0.1
    have bD := wx_bD hw
    obtain ⟨wd, agJ⟩ := py_wdk hw hI ff (show c ≤ 100 by omega) f2
    have WJ := WF_desk hw wd
    have n3 : N.1 59 3 = (if x = 0 then -1 else nI x) := by rw [ff.2 59 3 (by omega) (by omega)]; exact h3
    have n4 : N.1 59 4 = nI kk := by rw [ff.2 59 4 (by omega) (by omega)]; exact h4
    have n2 : N.1 59 2 = nI w := by rw [ff.2 59 2 (by omega) (by omega)]; exact h2
    have td := c_toldOf hx agJ WJ hxl hkk n3 n4 (pu_sl0 I (V i) / 2) (by omega) y
    rw [py_dk_td] at td
    have ec := c_couldHave hx hw h' hwl inn
    have s64 : N.1 64 i = nI (pu_sl0 I (V i)) := by rw [(py_vd_c h' inn).1]; exact sv.2
    have scl : (nI (pu_sl0 I (V i))).toNatClampNeg = pu_sl0 I (V i) := nl_cl _ (by omega)
    -- nothing found at i
    have SKIP : ¬ (I 16 (V i) = 0 ∧ py_mh I st w y (V i) ∧ py_td I x kk (pu_sl0 I (V i) / 2) y ≠ -1) → py_SL (py_ky I st y) (py_fs I st w y V (fun k => py_td I x kk (pu_sl0 I k / 2) y) (i + 1)) W c := fun no => py_SL_c sl (fun k => by
      constructor
      · rintro ⟨a, a1, a2⟩
        exact ⟨a, by omega, a2⟩
      · rintro ⟨a, a1, a2, a3⟩
        by_cases z : a = i
        · rw [z] at a2
          rw [← a2] at a3
          exact absurd a3 no
        · exact ⟨a, by omega, a2, a3⟩)
    by_cases c1 : I 16 (V i) = 0 ∧ py_mh I st w y (V i)
    rotate_left
    · rw [pu_q0 c1] at ec
      rw [c_fl_i (rk := 0) (f := pu_sl0 I (V i) / 2) (sl := nI (pu_sl0 I (V i))) hx inn hn h'.2.2.2.1.1 n2 N (by rw [scl]; exact s64) (by rw [scl]) (by rw [scl]; omega) ec (fun _ => rfl) (fun z => absurd rfl z)]
      exact c_fl_l hw hI hxM hy h hwl hxl hkk h2 h3 h4 m (i + 1) N W c (by omega) (by omega) ff f2 fw (SKIP (fun z => c1 ⟨z.1, z.2.1⟩))
    rw [pu_q1 c1] at ec
    have er := c_likelyRank hx hw hy h' inn c1.1
    by_cases c2 : py_td I x kk (pu_sl0 I (V i) / 2) y = -1
    · have ef := c_findOne hx (sv := 0) (rk := nI (py_ky I st y (V i))) td N (fun _ => rfl) (fun z => absurd c2 z)
      rw [c_fl_i (rk := nI (py_ky I st y (V i))) (f := pu_sl0 I (V i) / 2) (sl := nI (pu_sl0 I (V i))) hx inn hn h'.2.2.2.1.1 n2 N (by rw [scl]; exact s64) (by rw [scl]) (by rw [scl]; omega) ec (fun _ => rfl) (fun _ => ⟨rfl, er, ef⟩)]
      exact c_fl_l hw hI hxM hy h hwl hxl hkk h2 h3 h4 m (i + 1) N W c (by omega) (by omega) ff f2 fw (SKIP (fun z => z.2.2 c2))
    have KB : ∀ k, k < cU I → I 39 (pu_sl0 I k) = nI st → pu_tn I y k → py_ky I st y k < 200000000 := fun k k1 k2 k3 => by
      obtain ⟨gb, s, p, s2, p2, _, _, ek⟩ := py_ky_b hw hst k1 k2 k3
      rw [ek]
      omega
    have WM : ∀ j, j < c → ∃ a, a < i ∧ V a = W j := fun j hj => by
      obtain ⟨a, a1, a2, _⟩ := sl.1 j hj
      exact ⟨a, a1, a2⟩
    obtain ⟨b, N1, b1, b2, b3, b4, b5, b6, b7⟩ := c_addFound hx (fun k => py_td I x kk (pu_sl0 I k / 2) y) 0 (py_ky I st y) W (n := c) (k := V i) (by omega) (fun j hj => by
      obtain ⟨a, a1, a2⟩ := WM j hj
      have ma := py_vd_m h (a := a) (by omega)
      rw [← a2]
      exact KB _ ma.1 ma.2.1 ma.2.2) (KB _ m0.1 m0.2.1 m0.2.2) f2 fw
    have ef := c_findOne hx (sv := 0) (rk := nI (py_ky I st y (V i))) td N1 (fun z => absurd z c2) (fun _ => b7)
    rw [c_fl_i (rk := nI (py_ky I st y (V i))) (f := pu_sl0 I (V i) / 2) (sl := nI (pu_sl0 I (V i))) hx inn hn h'.2.2.2.1.1 n2 N1 (by rw [scl]; exact s64) (by rw [scl]) (by rw [scl]; omega) ec (fun z => absurd z (by decide)) (fun _ => ⟨rfl, er, ef⟩)]
    refine c_fl_l hw hI hxM hy h hwl hxl hkk h2 h3 h4 m (i + 1) N1 (pu_vi W b (V i)) (c + 1) (by omega) (by omega) (py_fq_t ff b2) b3 b4 (py_SL_c (py_SL_add sl b1 b5 ?_) (fun k => ?_))
    · rcases b6 with z | z
      · exact Or.inl z
      · by_cases b0 : b = 0
        · exact Or.inl b0
        · refine Or.inr ?_
          obtain ⟨a, a1, a2⟩ := WM (b - 1) (by omega)
          have ma := py_vd_m h (a := a) (by omega)
          have ne : py_ky I st y (W (b - 1)) ≠ py_ky I st y (V i) := fun e => by
            rw [← a2] at e
            have := py_ky_i hw hst ma.1 ma.2.1 ma.2.2 m0.1 m0.2.1 m0.2.2 e
            exact (VI.2.2 a i a1 inn).1 this
          omega
    · constructor
      · rintro (⟨a, a1, a2⟩ | a)
        · exact ⟨a, by omega, a2⟩
        · rw [a]
          exact ⟨i, by omega, rfl, c1.1, c1.2, c2⟩
      · rintro ⟨a, a1, a2, a3⟩
        by_cases z : a = i
        · right
          rw [← a2, z]
        · exact Or.inl ⟨a, by omega, a2, a3⟩
end
