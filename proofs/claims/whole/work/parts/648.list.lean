/-! list -/
/-- the span of slot j on day y, -1 for none -/
noncomputable def pz_ks (I : Nat → Nat → Int32) (y : Int32) (j : Nat) : Int32 := pu_f1 (fun k => I 15 k = nI j ∧ pu_sh1 I y k) (cU I) 0
noncomputable def pz_rc (I : Nat → Nat → Int32) (y : Int32) (j : Nat) : List Int32 := @ite _ (pz_ks I y j = -1) (Classical.propDecidable _) [] [nI (j / 2), I 39 j, nI (j % 2), I 16 (pz_ks I y j).toNatClampNeg >>> 16, I 16 (pz_ks I y j).toNatClampNeg >>> 8, I 16 (pz_ks I y j).toNatClampNeg]
noncomputable def pz_zl (I : Nat → Nat → Int32) (y : Int32) : Nat → Nat → List Int32
  | 0, _ => []
  | m + 1, j => pz_rc I y j ++ pz_zl I y m (j + 1)
theorem pz_rc_l (I : Nat → Nat → Int32) (y : Int32) (j : Nat) : (pz_rc I y j).length ≤ 6 := by
  unfold pz_rc
  by_cases c : pz_ks I y j = -1
  · rw [if_pos c]
    simp
  · rw [if_neg c]
    simp
theorem pz_zl_l (I : Nat → Nat → Int32) (y : Int32) : ∀ m j, (pz_zl I y m j).length ≤ 6 * m
  | 0, j => by simp [pz_zl]
  | m + 1, j => by
    have := pz_zl_l I y m (j + 1)
    have := pz_rc_l I y j
    rw [pz_zl, List.length_append]
    omega
section
variable {M : pu_M} {I : Nat → Nat → Int32} {L : Nat → Nat → Int64}
theorem pz_ks_s (hw : pu_WF I L) (y : Int32) (j : Nat) (hj : j < 200) : (pz_ks I y j = -1 ∧ ∀ k, k < cU I → pu_sh1 I y k → pu_sl0 I k ≠ j) ∨ ∃ k, k < cU I ∧ pu_sh1 I y k ∧ pu_sl0 I k = j ∧ pz_ks I y j = nI k := by
  unfold pz_ks
  rcases pu_f1_spec (fun k => I 15 k = nI j ∧ pu_sh1 I y k) (cU I) 0 with ⟨q, q2⟩ | ⟨k, _, k1, q, q2, _⟩
  · refine Or.inl ⟨q, fun k hk hs he => q2 k (by omega) (by omega) ⟨?_, hs⟩⟩
    rw [(pu_sl_lt hw hk).2, he]
  · refine Or.inr ⟨k, by omega, q2.2, ?_, q⟩
    show (I 15 k).toNatClampNeg = j
    rw [q2.1, nI_clamp (by omega)]
theorem c_putRecord (hx : pu_fx M) (hI : pu_ag M I) (hw : pu_WF I L) (n j : Nat) (v : Int32) (hn : M.1 3 0 = nI n) (hl : n + 6 ≤ 1200) (hj : j < 2 * cD I) (hv : M.1 70 j = v) : pu_r 220 [some (.ref 0), some (.int (nI j))] [] M = some (none, pz_cw M n [nI (j / 2), I 39 j, nI (j % 2), v >>> 16, v >>> 8, v]) := by
  have hD := wx_bD hw
  have dv : nI j / 2 = nI (j / 2) := pk_div (d := 2) (by omega) (by omega) (by omega)
  have rem : nI j - nI (j / 2) * 2 = nI (j % 2) := by
    have := pk_rem (a := j) (d := 2) (by omega) (by omega) (by omega)
    rw [show (nI 2 : Int32) = 2 from rfl, dv] at this
    exact this
  have x1 : ∀ (N : pu_M) (k : Nat) (u : Int32), pu_fx N → pu_fx (pz_cp N k u) := fun N k u h => h
  have o1 : ∀ (N : pu_M) (k : Nat) (u : Int32), N.1 70 j = v → (pz_cp N k u).1 70 j = v := fun N k u h => by rw [pz_cp_o _ _ _ _ _ (by decide) (by decide)]; exact h
  have gI : ∀ (N : pu_M) (k : Nat) (u : Int32), pu_ag N I → pu_ag (pz_cp N k u) I := fun N k u h a b q1 q2 => by rw [pz_cp_o _ _ _ _ _ (by omega) (by omega)]; exact h a b q1 q2
  obtain ⟨M1, h1⟩ : ∃ X, X = pz_cp M n (nI (j / 2)) := ⟨_, rfl⟩
  obtain ⟨M2, h2⟩ : ∃ X, X = pz_cp M1 (n + 1) (I 39 j) := ⟨_, rfl⟩
  obtain ⟨M3, h3⟩ : ∃ X, X = pz_cp M2 (n + 2) (nI (j % 2)) := ⟨_, rfl⟩
  obtain ⟨M4, h4⟩ : ∃ X, X = pz_cp M3 (n + 3) (v >>> 16) := ⟨_, rfl⟩
  obtain ⟨M5, h5⟩ : ∃ X, X = pz_cp M4 (n + 4) (v >>> 8) := ⟨_, rfl⟩
  have b1 : pu_fx M1 ∧ pu_ag M1 I ∧ M1.1 70 j = v ∧ M1.1 3 0 = nI (n + 1) := by rw [h1]; exact ⟨hx, gI _ _ _ hI, o1 _ _ _ hv, pz_cp_3 _ _ _⟩
  have b2 : pu_fx M2 ∧ pu_ag M2 I ∧ M2.1 70 j = v ∧ M2.1 3 0 = nI (n + 2) := by rw [h2]; exact ⟨b1.1, gI _ _ _ b1.2.1, o1 _ _ _ b1.2.2.1, pz_cp_3 _ _ _⟩
  have b3 : pu_fx M3 ∧ pu_ag M3 I ∧ M3.1 70 j = v ∧ M3.1 3 0 = nI (n + 3) := by rw [h3]; exact ⟨b2.1, gI _ _ _ b2.2.1, o1 _ _ _ b2.2.2.1, pz_cp_3 _ _ _⟩
  have b4 : pu_fx M4 ∧ pu_ag M4 I ∧ M4.1 70 j = v ∧ M4.1 3 0 = nI (n + 4) := by rw [h4]; exact ⟨b3.1, gI _ _ _ b3.2.1, o1 _ _ _ b3.2.2.1, pz_cp_3 _ _ _⟩
  have b5 : pu_fx M5 ∧ pu_ag M5 I ∧ M5.1 70 j = v ∧ M5.1 3 0 = nI (n + 5) := by rw [h5]; exact ⟨b4.1, gI _ _ _ b4.2.1, o1 _ _ _ b4.2.2.1, pz_cp_3 _ _ _⟩
  have p1 := c_put hx n (nI (j / 2)) hn (by omega)
  have p2 := c_put b1.1 (n + 1) (I 39 j) b1.2.2.2 (by omega)
  have p3 := c_put b2.1 (n + 2) (nI (j % 2)) b2.2.2.2 (by omega)
  have p4 := c_put b3.1 (n + 3) (v >>> 16) b3.2.2.2 (by omega)
  have p5 := c_put b4.1 (n + 4) (v >>> 8) b4.2.2.2 (by omega)
  have p6 := c_put b5.1 (n + 5) v b5.2.2.2 (by omega)
  rw [← h1] at p1
  rw [← h2] at p2
  rw [← h3] at p3
  rw [← h4] at p4
  rw [← h5] at p5
  have s1 := c_streetOf b1.1 b1.2.1 hw j hj
  have fin : pz_cw M n [nI (j / 2), I 39 j, nI (j % 2), v >>> 16, v >>> 8, v] = pz_cp M5 (n + 5) v := by
    rw [h5, h4, h3, h2, h1]
    rfl
  rw [fin]
  generalize pz_cp M5 (n + 5) v = M6 at *
  clear h1 h2 h3 h4 h5
  have k16 : ((16 : Int32) &&& 31) = 16 := by decide
  have k8 : ((8 : Int32) &&& 31) = 8 := by decide
  rw [qX11_putRecord]
  simp [a_ent, bX11_putRecord_0, bX11_putRecord_46, a_ai, a_ald, a_cv, a_gr, a_idiv, a_ild, a_irem, a_ishr, a_push, a_vret, fx_0_1 hx, fx_0_2 hx, fx_0_7 hx, fx_5_4 hx, sh_0, sh_1, sh_3, sh_31, sh_5, sh_70, pu_rv, pu_as, Value.category, pu_bk, pu_kl, List.replicate, pu_wi_1, pu_wi_2, nl_add, nl_ladd, nl_aa, nl_mul, nl_rmul, nl_mm, pu_qe0, pu_qe1, k16, k8, dv, rem, p1, p2, p3, p4, p5, p6, s1, fx_0_1 b1.1, fx_0_2 b1.1, fx_5_4 b1.1, fx_0_1 b2.1, fx_0_1 b3.1, fx_0_7 b3.1, fx_0_1 b4.1, fx_0_7 b4.1, fx_0_1 b5.1, fx_0_7 b5.1, b3.2.2.1, b4.2.2.1, b5.2.2.1]
  all_goals try simp (maxSteps := 400000) (disch := omega) [nl_tle, nl_fle, nl_tlt, nl_flt, nl_teq, nl_feq, nl_sub, nl_ss, nl_lt, nl_llt, nl_ltt, nl_le, nl_lle, nl_lee, nl_eq, nl_leq, nl_ee, nl_div, nl_rem, nl_cl, nl_n1, nl_n2, nl_n3, nl_n4, nl_add, nl_ladd, nl_aa, nl_mul, nl_rmul, nl_mm, pu_wi_1, pu_wi_2, bX11_putRecord_0, bX11_putRecord_46, a_ai, a_ald, a_cv, a_gr, a_idiv, a_ild, a_irem, a_ishr, a_push, a_vret, fx_0_1 hx, fx_0_2 hx, fx_0_7 hx, fx_5_4 hx, sh_0, sh_1, sh_3, sh_31, sh_5, sh_70, pu_rv, pu_as, Value.category, pu_bk, pu_kl, pu_qe0, pu_qe1, k16, k8, dv, rem, p1, p2, p3, p4, p5, p6, s1, fx_0_1 b1.1, fx_0_2 b1.1, fx_5_4 b1.1, fx_0_1 b2.1, fx_0_1 b3.1, fx_0_7 b3.1, fx_0_1 b4.1, fx_0_7 b4.1, fx_0_1 b5.1, fx_0_7 b5.1, b3.2.2.1, b4.2.2.1, b5.2.2.1]
  all_goals try simp [bX11_putRecord_0, bX11_putRecord_46, a_ai, a_ald, a_cv, a_gr, a_idiv, a_ild, a_irem, a_ishr, a_push, a_vret, fx_0_1 hx, fx_0_2 hx, fx_0_7 hx, fx_5_4 hx, sh_0, sh_1, sh_3, sh_31, sh_5, sh_70, pu_rv, pu_as, Value.category, pu_bk, pu_kl, List.replicate, pu_wi_1, pu_wi_2, nl_add, nl_ladd, nl_aa, nl_mul, nl_rmul, nl_mm, pu_qe0, pu_qe1, k16, k8, dv, rem, p1, p2, p3, p4, p5, p6, s1, fx_0_1 b1.1, fx_0_2 b1.1, fx_5_4 b1.1, fx_0_1 b2.1, fx_0_1 b3.1, fx_0_7 b3.1, fx_0_1 b4.1, fx_0_7 b4.1, fx_0_1 b5.1, fx_0_7 b5.1, b3.2.2.1, b4.2.2.1, b5.2.2.1]
  all_goals try simp (maxSteps := 400000) (disch := omega) [nl_tle, nl_fle, nl_tlt, nl_flt, nl_teq, nl_feq, nl_sub, nl_ss, nl_lt, nl_llt, nl_ltt, nl_le, nl_lle, nl_lee, nl_eq, nl_leq, nl_ee, nl_div, nl_rem, nl_cl, nl_n1, nl_n2, nl_n3, nl_n4, nl_add, nl_ladd, nl_aa, nl_mul, nl_rmul, nl_mm, pu_wi_1, pu_wi_2, bX11_putRecord_0, bX11_putRecord_46, a_ai, a_ald, a_cv, a_gr, a_idiv, a_ild, a_irem, a_ishr, a_push, a_vret, fx_0_1 hx, fx_0_2 hx, fx_0_7 hx, fx_5_4 hx, sh_0, sh_1, sh_3, sh_31, sh_5, sh_70, pu_rv, pu_as, Value.category, pu_bk, pu_kl, pu_qe0, pu_qe1, k16, k8, dv, rem, p1, p2, p3, p4, p5, p6, s1, fx_0_1 b1.1, fx_0_2 b1.1, fx_5_4 b1.1, fx_0_1 b2.1, fx_0_1 b3.1, fx_0_7 b3.1, fx_0_1 b4.1, fx_0_7 b4.1, fx_0_1 b5.1, fx_0_7 b5.1, b3.2.2.1, b4.2.2.1, b5.2.2.1]
theorem c_list_l (hw : pu_WF I L) (y : Int32) : ∀ (m j n : Nat) (M : pu_M), j + m = 2 * cD I → n ≤ 6 * j → pu_fx M → pu_ag M I → M.1 3 0 = nI n → (∀ k, k < cU I → pu_sh1 I y k → M.1 70 (pu_sl0 I k) = I 16 k) → (∀ j, j < 200 → (∀ k, k < cU I → pu_sh1 I y k → pu_sl0 I k ≠ j) → M.1 70 j = -1) → pu_r 426 [some (.ref 0), some (.int y), some (.int (nI j))] [] M = some (some (.int (nI (n + (pz_zl I y m j).length))), pz_cw M n (pz_zl I y m j))
  | 0, j, n, M, h, hn2, hx, hI, hn, g1, g2 => by
    have hD := wx_bD hw
    have hn0 := wx_cD hw
    have hc : nI (2 * cD I) ≤ nI j := nI_le (by omega) (by omega)
    rw [qX11_list_32]
    simp [bX11_list_32, bX11_list_69, bX11_list_63, a_ai, a_ald, a_cv, a_gi, a_gr, a_iceq, a_icge, a_ild, a_imul, a_inc, a_iret, a_push, ag_31 hI, fx_0_1 hx, fx_0_2 hx, fx_0_7 hx, fx_5_4 hx, sh_0, sh_1, sh_3, sh_31, sh_5, sh_70, pu_rv, pu_as, Value.category, pu_bk, pu_kl, List.replicate, pu_wi_1, pu_wi_2, nl_add, nl_ladd, nl_aa, nl_mul, nl_rmul, nl_mm, pu_qe0, pu_qe1, hn0, hc, hn, pz_zl, pz_cw]
    all_goals try simp (maxSteps := 400000) (disch := omega) [nl_tle, nl_fle, nl_tlt, nl_flt, nl_teq, nl_feq, nl_sub, nl_ss, nl_lt, nl_llt, nl_ltt, nl_le, nl_lle, nl_lee, nl_eq, nl_leq, nl_ee, nl_div, nl_rem, nl_cl, nl_n1, nl_n2, nl_n3, nl_n4, nl_add, nl_ladd, nl_aa, nl_mul, nl_rmul, nl_mm, pu_wi_1, pu_wi_2, bX11_list_32, bX11_list_69, bX11_list_63, a_ai, a_ald, a_cv, a_gi, a_gr, a_iceq, a_icge, a_ild, a_imul, a_inc, a_iret, a_push, ag_31 hI, fx_0_1 hx, fx_0_2 hx, fx_0_7 hx, fx_5_4 hx, sh_0, sh_1, sh_3, sh_31, sh_5, sh_70, pu_rv, pu_as, Value.category, pu_bk, pu_kl, pu_qe0, pu_qe1, hn0, hc, hn, pz_zl, pz_cw]
    all_goals try simp [bX11_list_32, bX11_list_69, bX11_list_63, a_ai, a_ald, a_cv, a_gi, a_gr, a_iceq, a_icge, a_ild, a_imul, a_inc, a_iret, a_push, ag_31 hI, fx_0_1 hx, fx_0_2 hx, fx_0_7 hx, fx_5_4 hx, sh_0, sh_1, sh_3, sh_31, sh_5, sh_70, pu_rv, pu_as, Value.category, pu_bk, pu_kl, List.replicate, pu_wi_1, pu_wi_2, nl_add, nl_ladd, nl_aa, nl_mul, nl_rmul, nl_mm, pu_qe0, pu_qe1, hn0, hc, hn, pz_zl, pz_cw]
    all_goals try simp (maxSteps := 400000) (disch := omega) [nl_tle, nl_fle, nl_tlt, nl_flt, nl_teq, nl_feq, nl_sub, nl_ss, nl_lt, nl_llt, nl_ltt, nl_le, nl_lle, nl_lee, nl_eq, nl_leq, nl_ee, nl_div, nl_rem, nl_cl, nl_n1, nl_n2, nl_n3, nl_n4, nl_add, nl_ladd, nl_aa, nl_mul, nl_rmul, nl_mm, pu_wi_1, pu_wi_2, bX11_list_32, bX11_list_69, bX11_list_63, a_ai, a_ald, a_cv, a_gi, a_gr, a_iceq, a_icge, a_ild, a_imul, a_inc, a_iret, a_push, ag_31 hI, fx_0_1 hx, fx_0_2 hx, fx_0_7 hx, fx_5_4 hx, sh_0, sh_1, sh_3, sh_31, sh_5, sh_70, pu_rv, pu_as, Value.category, pu_bk, pu_kl, pu_qe0, pu_qe1, hn0, hc, hn, pz_zl, pz_cw]
  | m + 1, j, n, M, h, hn2, hx, hI, hn, g1, g2 => by
    have hD := wx_bD hw
    have hU := wx_bU hw
    have hn0 := wx_cD hw
    have hc : ¬ nI (2 * cD I) ≤ nI j := nI_ge (by omega) (by omega)
    rw [pz_zl]
    rcases pz_ks_s hw y j (by omega) with ⟨a1, a2⟩ | ⟨k, k1, k2, k3, k4⟩
    · have ih := c_list_l hw y m (j + 1) n M (by omega) (by omega) hx hI hn g1 g2
      have r0 : pz_rc I y j = [] := by
        unfold pz_rc
        rw [if_pos a1]
      have w := g2 j (by omega) a2
      rw [r0, List.nil_append]
      rw [qX11_list_32]
      simp [bX11_list_32, bX11_list_69, bX11_list_63, a_ai, a_ald, a_cv, a_gi, a_gr, a_iceq, a_icge, a_ild, a_imul, a_inc, a_iret, a_push, ag_31 hI, fx_0_1 hx, fx_0_2 hx, fx_0_7 hx, fx_5_4 hx, sh_0, sh_1, sh_3, sh_31, sh_5, sh_70, pu_rv, pu_as, Value.category, pu_bk, pu_kl, List.replicate, pu_wi_1, pu_wi_2, nl_add, nl_ladd, nl_aa, nl_mul, nl_rmul, nl_mm, pu_qe0, pu_qe1, hn0, hc, w, ih]
      all_goals try simp (maxSteps := 400000) (disch := omega) [nl_tle, nl_fle, nl_tlt, nl_flt, nl_teq, nl_feq, nl_sub, nl_ss, nl_lt, nl_llt, nl_ltt, nl_le, nl_lle, nl_lee, nl_eq, nl_leq, nl_ee, nl_div, nl_rem, nl_cl, nl_n1, nl_n2, nl_n3, nl_n4, nl_add, nl_ladd, nl_aa, nl_mul, nl_rmul, nl_mm, pu_wi_1, pu_wi_2, bX11_list_32, bX11_list_69, bX11_list_63, a_ai, a_ald, a_cv, a_gi, a_gr, a_iceq, a_icge, a_ild, a_imul, a_inc, a_iret, a_push, ag_31 hI, fx_0_1 hx, fx_0_2 hx, fx_0_7 hx, fx_5_4 hx, sh_0, sh_1, sh_3, sh_31, sh_5, sh_70, pu_rv, pu_as, Value.category, pu_bk, pu_kl, pu_qe0, pu_qe1, hn0, hc, w, ih]
      all_goals try simp [bX11_list_32, bX11_list_69, bX11_list_63, a_ai, a_ald, a_cv, a_gi, a_gr, a_iceq, a_icge, a_ild, a_imul, a_inc, a_iret, a_push, ag_31 hI, fx_0_1 hx, fx_0_2 hx, fx_0_7 hx, fx_5_4 hx, sh_0, sh_1, sh_3, sh_31, sh_5, sh_70, pu_rv, pu_as, Value.category, pu_bk, pu_kl, List.replicate, pu_wi_1, pu_wi_2, nl_add, nl_ladd, nl_aa, nl_mul, nl_rmul, nl_mm, pu_qe0, pu_qe1, hn0, hc, w, ih]
      all_goals try simp (maxSteps := 400000) (disch := omega) [nl_tle, nl_fle, nl_tlt, nl_flt, nl_teq, nl_feq, nl_sub, nl_ss, nl_lt, nl_llt, nl_ltt, nl_le, nl_lle, nl_lee, nl_eq, nl_leq, nl_ee, nl_div, nl_rem, nl_cl, nl_n1, nl_n2, nl_n3, nl_n4, nl_add, nl_ladd, nl_aa, nl_mul, nl_rmul, nl_mm, pu_wi_1, pu_wi_2, bX11_list_32, bX11_list_69, bX11_list_63, a_ai, a_ald, a_cv, a_gi, a_gr, a_iceq, a_icge, a_ild, a_imul, a_inc, a_iret, a_push, ag_31 hI, fx_0_1 hx, fx_0_2 hx, fx_0_7 hx, fx_5_4 hx, sh_0, sh_1, sh_3, sh_31, sh_5, sh_70, pu_rv, pu_as, Value.category, pu_bk, pu_kl, pu_qe0, pu_qe1, hn0, hc, w, ih]
    · have w := g1 k k1 k2
      rw [k3] at w
      have uw := wx_uw hw k k1
      have w2 : ¬ I 16 k = -1 := fun z => by
        rw [z] at uw
        exact absurd uw.1 (by decide)
      have n1 : ¬ nI k = -1 := fun q => by rw [nl_n1 k (by omega)] at q; exact q
      have r0 : pz_rc I y j = [nI (j / 2), I 39 j, nI (j % 2), I 16 k >>> 16, I 16 k >>> 8, I 16 k] := by
        unfold pz_rc
        rw [k4, if_neg n1, nI_clamp (by omega)]
      have p := c_putRecord hx hI hw n j (I 16 k) hn (by omega) (by omega) w
      rw [← r0] at p
      have hx2 : pu_fx (pz_cw M n (pz_rc I y j)) := fun a b r q => by
        rw [pz_cw_2]
        exact hx a b r q
      have o : ∀ a b, a ≠ 3 → a ≠ 4 → (pz_cw M n (pz_rc I y j)).1 a b = M.1 a b := fun a b q1 q2 => pz_cw_o _ _ _ _ _ (fun z => q1 z.1) q2
      have c3 : (pz_cw M n (pz_rc I y j)).1 3 0 = nI (n + (pz_rc I y j).length) := by
        rw [r0]
        show (pz_cp _ _ _).1 3 0 = _
        rw [pz_cp_3]
        rfl
      have le := pz_rc_l I y j
      have ih := c_list_l hw y m (j + 1) (n + (pz_rc I y j).length) (pz_cw M n (pz_rc I y j)) (by omega) (by omega) hx2 (fun a b q1 q2 => by rw [o a b (by omega) (by omega)]; exact hI a b q1 q2) c3 (fun k q1 q2 => by rw [o _ _ (by omega) (by omega)]; exact g1 k q1 q2) (fun j q1 q2 => by rw [o _ _ (by omega) (by omega)]; exact g2 j q1 q2)
      rw [pz_cw_app, List.length_append, ← Nat.add_assoc]
      generalize pz_cw M n (pz_rc I y j) = N at *
      rw [qX11_list_32]
      simp [bX11_list_32, bX11_list_69, bX11_list_63, a_ai, a_ald, a_cv, a_gi, a_gr, a_iceq, a_icge, a_ild, a_imul, a_inc, a_iret, a_push, ag_31 hI, fx_0_1 hx, fx_0_2 hx, fx_0_7 hx, fx_5_4 hx, sh_0, sh_1, sh_3, sh_31, sh_5, sh_70, pu_rv, pu_as, Value.category, pu_bk, pu_kl, List.replicate, pu_wi_1, pu_wi_2, nl_add, nl_ladd, nl_aa, nl_mul, nl_rmul, nl_mm, pu_qe0, pu_qe1, hn0, hc, w, w2, p, ih]
      all_goals try simp (maxSteps := 400000) (disch := omega) [nl_tle, nl_fle, nl_tlt, nl_flt, nl_teq, nl_feq, nl_sub, nl_ss, nl_lt, nl_llt, nl_ltt, nl_le, nl_lle, nl_lee, nl_eq, nl_leq, nl_ee, nl_div, nl_rem, nl_cl, nl_n1, nl_n2, nl_n3, nl_n4, nl_add, nl_ladd, nl_aa, nl_mul, nl_rmul, nl_mm, pu_wi_1, pu_wi_2, bX11_list_32, bX11_list_69, bX11_list_63, a_ai, a_ald, a_cv, a_gi, a_gr, a_iceq, a_icge, a_ild, a_imul, a_inc, a_iret, a_push, ag_31 hI, fx_0_1 hx, fx_0_2 hx, fx_0_7 hx, fx_5_4 hx, sh_0, sh_1, sh_3, sh_31, sh_5, sh_70, pu_rv, pu_as, Value.category, pu_bk, pu_kl, pu_qe0, pu_qe1, hn0, hc, w, w2, p, ih]
      all_goals try simp [bX11_list_32, bX11_list_69, bX11_list_63, a_ai, a_ald, a_cv, a_gi, a_gr, a_iceq, a_icge, a_ild, a_imul, a_inc, a_iret, a_push, ag_31 hI, fx_0_1 hx, fx_0_2 hx, fx_0_7 hx, fx_5_4 hx, sh_0, sh_1, sh_3, sh_31, sh_5, sh_70, pu_rv, pu_as, Value.category, pu_bk, pu_kl, List.replicate, pu_wi_1, pu_wi_2, nl_add, nl_ladd, nl_aa, nl_mul, nl_rmul, nl_mm, pu_qe0, pu_qe1, hn0, hc, w, w2, p, ih]
      all_goals try simp (maxSteps := 400000) (disch := omega) [nl_tle, nl_fle, nl_tlt, nl_flt, nl_teq, nl_feq, nl_sub, nl_ss, nl_lt, nl_llt, nl_ltt, nl_le, nl_lle, nl_lee, nl_eq, nl_leq, nl_ee, nl_div, nl_rem, nl_cl, nl_n1, nl_n2, nl_n3, nl_n4, nl_add, nl_ladd, nl_aa, nl_mul, nl_rmul, nl_mm, pu_wi_1, pu_wi_2, bX11_list_32, bX11_list_69, bX11_list_63, a_ai, a_ald, a_cv, a_gi, a_gr, a_iceq, a_icge, a_ild, a_imul, a_inc, a_iret, a_push, ag_31 hI, fx_0_1 hx, fx_0_2 hx, fx_0_7 hx, fx_5_4 hx, sh_0, sh_1, sh_3, sh_31, sh_5, sh_70, pu_rv, pu_as, Value.category, pu_bk, pu_kl, pu_qe0, pu_qe1, hn0, hc, w, w2, p, ih]
end
