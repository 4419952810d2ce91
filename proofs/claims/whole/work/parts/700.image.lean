/-! image and back -/
theorem py_St_row {I : Nat → Nat → Int32} {L : Nat → Nat → Int64} {s s' : Nat → Int32} (h : pu_St I L s) (e : ∀ j, j < 70000 → s' j = s j) : pu_St I L s' := by
  obtain ⟨hw, hr⟩ := h
  exact ⟨hw, rf_h (rg_h hr) (fun j _ _ => e j (by omega)), rf_p (rg_p hr) (wx_bP hw) (fun j _ _ => e j (by omega)), rf_u (rg_u hr) (wx_bU hw) (fun j _ _ => e j (by omega)), rf_n (rg_n hr) ⟨wx_bN hw, wx_bP hw⟩ (fun j _ _ => e j (by omega)) (fun j _ _ => e j (by omega)), rf_t (rg_t hr) (wx_bT hw) (fun j _ _ => e j (by omega)) (fun j _ _ => e j (by omega)), rf_k (rg_k hr) (wx_bK hw) (fun j _ _ => e j (by omega)) (fun j _ _ => e j (by omega)), rf_d (rg_d hr) (wx_bD hw) (fun j _ _ => e j (by omega)), rf_f (rg_f hr) (wx_bF hw) (fun j _ _ => e j (by omega)), rf_e (rg_e hr) ⟨wx_bS hw, wx_bE hw, wx_bQ hw, wx_bW hw, wx_bO hw, wx_bR hw⟩ (fun j _ _ => e j (by omega))⟩
theorem py_RTlt {a k r : Nat} (h : pu_RT a k = some r) : a < 86 ∧ a ≠ 58 ∧ (5 ≤ a → a < 58 → 5 ≤ r ∧ r < 58) := by
  have hm := pu_RTm h
  have D : ∀ q ∈ pu_RTl, q.1 < 86 ∧ q.1 ≠ 58 ∧ (5 ≤ q.1 → q.1 < 58 → 5 ≤ q.2.2 ∧ q.2.2 < 58) := by decide
  exact D _ hm
theorem py_os5 : pz_os1 5 := by
  have D : ∀ k, k < 53 → pu_sh (5 + k) = pu_shO.getD k (9, 0) := by decide
  exact D
theorem py_osb (i : Nat) : pz_os1 (86 + 53 * i) := by
  intro k hk
  unfold pu_sh
  rw [if_neg (by omega), show (86 + 53 * i + k - 86) % 53 = k by omega]
theorem py_or5 {M : pu_M} (hx : pu_fx M) : pz_or M 5 := fun a j r q1 q2 => by
  rw [Nat.add_comm 5 a, Nat.add_comm 5 r]
  exact hx _ _ _ q1
theorem py_orb {M : pu_M} {b : Nat} (h : ∀ a j r, 5 ≤ a → a < 58 → pu_RT a j = some r → M.2.2.1 (a - 5 + b) j = some (r - 5 + b)) : pz_or M b := fun a j r q1 q2 => by
  have := h (a + 5) j (r + 5) (by omega) (by omega) q1
  rw [show a + 5 - 5 + b = b + a by omega, show r + 5 - 5 + b = b + r by omega] at this
  exact this
theorem py_orb2 {M : pu_M} {b : Nat} (h : pz_or M b) : ∀ a j r, 5 ≤ a → a < 58 → pu_RT a j = some r → M.2.2.1 (a - 5 + b) j = some (r - 5 + b) := fun a j r h1 h2 q => by
  have l := (py_RTlt q).2.2 h1 h2
  have := h (a - 5) j (r - 5) (by rw [show a - 5 + 5 = a by omega, show r - 5 + 5 = r by omega]; exact q) (by omega)
  rw [Nat.add_comm b (a - 5), Nat.add_comm b (r - 5)] at this
  exact this
theorem py_siA (M : pu_M) (b : Nat) : ∀ a j, 1 ≤ a → a ≤ 52 → M.1 (b + a) j = pu_si M b (a + 5) j := fun a j h1 h2 => by
  unfold pu_si
  rw [if_pos (by omega), show a + 5 - 5 + b = b + a by omega]
theorem py_sjA (M : pu_M) (b : Nat) : ∀ a j, 1 ≤ a → a ≤ 52 → M.2.1 (b + a) j = pu_sj M b (a + 5) j := fun a j h1 h2 => by
  unfold pu_sj
  rw [if_pos (by omega), show a + 5 - 5 + b = b + a by omega]
theorem op_back (x : Int32) : pu_op pu_Inv 143 303 [.int x] := by
  intro M h
  have hx := h.1
  by_cases c : ¬ x < 0 ∧ x < 3
  rotate_left
  · refine ⟨0, M, M, ?_, ?_, h⟩
    · by_cases c1 : x < 0
      · rw [qX11_back]
        simp [a_ent, bX11_back_0, bX11_back_18, bX11_back_20, a_ald, a_ar, a_cv, a_gr, a_icge, a_iflt, a_ild, a_nn, a_push, a_zret, fx_0_2 hx, fx_0_3 hx, sh_0, sh_5, sh_58, pu_rv, pu_as, Value.category, pu_bk, pu_kl, List.replicate, pu_wi_1, pu_wi_2, nl_add, nl_ladd, nl_aa, nl_mul, nl_rmul, nl_mm, pu_qe0, pu_qe1, c1]
        all_goals try simp (maxSteps := 400000) (disch := omega) [nl_tle, nl_fle, nl_tlt, nl_flt, nl_teq, nl_feq, nl_sub, nl_ss, nl_lt, nl_llt, nl_ltt, nl_le, nl_lle, nl_lee, nl_eq, nl_leq, nl_ee, nl_div, nl_rem, nl_cl, nl_n1, nl_n2, nl_n3, nl_n4, nl_add, nl_ladd, nl_aa, nl_mul, nl_rmul, nl_mm, pu_wi_1, pu_wi_2, bX11_back_0, bX11_back_18, bX11_back_20, a_ald, a_ar, a_cv, a_gr, a_icge, a_iflt, a_ild, a_nn, a_push, a_zret, fx_0_2 hx, fx_0_3 hx, sh_0, sh_5, sh_58, pu_rv, pu_as, Value.category, pu_bk, pu_kl, pu_qe0, pu_qe1, c1]
        all_goals try simp [bX11_back_0, bX11_back_18, bX11_back_20, a_ald, a_ar, a_cv, a_gr, a_icge, a_iflt, a_ild, a_nn, a_push, a_zret, fx_0_2 hx, fx_0_3 hx, sh_0, sh_5, sh_58, pu_rv, pu_as, Value.category, pu_bk, pu_kl, List.replicate, pu_wi_1, pu_wi_2, nl_add, nl_ladd, nl_aa, nl_mul, nl_rmul, nl_mm, pu_qe0, pu_qe1, c1]
        all_goals try simp (maxSteps := 400000) (disch := omega) [nl_tle, nl_fle, nl_tlt, nl_flt, nl_teq, nl_feq, nl_sub, nl_ss, nl_lt, nl_llt, nl_ltt, nl_le, nl_lle, nl_lee, nl_eq, nl_leq, nl_ee, nl_div, nl_rem, nl_cl, nl_n1, nl_n2, nl_n3, nl_n4, nl_add, nl_ladd, nl_aa, nl_mul, nl_rmul, nl_mm, pu_wi_1, pu_wi_2, bX11_back_0, bX11_back_18, bX11_back_20, a_ald, a_ar, a_cv, a_gr, a_icge, a_iflt, a_ild, a_nn, a_push, a_zret, fx_0_2 hx, fx_0_3 hx, sh_0, sh_5, sh_58, pu_rv, pu_as, Value.category, pu_bk, pu_kl, pu_qe0, pu_qe1, c1]
      · have c2 : ¬ x < 3 := fun z => c ⟨c1, z⟩
        have c3 := Int32.not_lt.mp c2
        rw [qX11_back]
        simp [a_ent, bX11_back_0, bX11_back_18, bX11_back_20, a_ald, a_ar, a_cv, a_gr, a_icge, a_iflt, a_ild, a_nn, a_push, a_zret, fx_0_2 hx, fx_0_3 hx, sh_0, sh_5, sh_58, pu_rv, pu_as, Value.category, pu_bk, pu_kl, List.replicate, pu_wi_1, pu_wi_2, nl_add, nl_ladd, nl_aa, nl_mul, nl_rmul, nl_mm, pu_qe0, pu_qe1, c1, c2, c3]
        all_goals try simp (maxSteps := 400000) (disch := omega) [nl_tle, nl_fle, nl_tlt, nl_flt, nl_teq, nl_feq, nl_sub, nl_ss, nl_lt, nl_llt, nl_ltt, nl_le, nl_lle, nl_lee, nl_eq, nl_leq, nl_ee, nl_div, nl_rem, nl_cl, nl_n1, nl_n2, nl_n3, nl_n4, nl_add, nl_ladd, nl_aa, nl_mul, nl_rmul, nl_mm, pu_wi_1, pu_wi_2, bX11_back_0, bX11_back_18, bX11_back_20, a_ald, a_ar, a_cv, a_gr, a_icge, a_iflt, a_ild, a_nn, a_push, a_zret, fx_0_2 hx, fx_0_3 hx, sh_0, sh_5, sh_58, pu_rv, pu_as, Value.category, pu_bk, pu_kl, pu_qe0, pu_qe1, c1, c2, c3]
        all_goals try simp [bX11_back_0, bX11_back_18, bX11_back_20, a_ald, a_ar, a_cv, a_gr, a_icge, a_iflt, a_ild, a_nn, a_push, a_zret, fx_0_2 hx, fx_0_3 hx, sh_0, sh_5, sh_58, pu_rv, pu_as, Value.category, pu_bk, pu_kl, List.replicate, pu_wi_1, pu_wi_2, nl_add, nl_ladd, nl_aa, nl_mul, nl_rmul, nl_mm, pu_qe0, pu_qe1, c1, c2, c3]
        all_goals try simp (maxSteps := 400000) (disch := omega) [nl_tle, nl_fle, nl_tlt, nl_flt, nl_teq, nl_feq, nl_sub, nl_ss, nl_lt, nl_llt, nl_ltt, nl_le, nl_lle, nl_lee, nl_eq, nl_leq, nl_ee, nl_div, nl_rem, nl_cl, nl_n1, nl_n2, nl_n3, nl_n4, nl_add, nl_ladd, nl_aa, nl_mul, nl_rmul, nl_mm, pu_wi_1, pu_wi_2, bX11_back_0, bX11_back_18, bX11_back_20, a_ald, a_ar, a_cv, a_gr, a_icge, a_iflt, a_ild, a_nn, a_push, a_zret, fx_0_2 hx, fx_0_3 hx, sh_0, sh_5, sh_58, pu_rv, pu_as, Value.category, pu_bk, pu_kl, pu_qe0, pu_qe1, c1, c2, c3]
    · by_cases c1 : x < 0
      · rw [qX12_back]
        simp [a_ent, bX12_back_0, bX12_back_18, bX12_back_20, a_ai, a_ald, a_gr, a_icgt, a_iflt, a_ifne, a_ild, a_ist, a_push, a_zret, fx_71_2 hx, sh_71, sh_74, pu_rv, pu_as, Value.category, pu_bk, pu_kl, List.replicate, pu_wi_1, pu_wi_2, nl_add, nl_ladd, nl_aa, nl_mul, nl_rmul, nl_mm, pu_qe0, pu_qe1, c1]
        all_goals try simp (maxSteps := 400000) (disch := omega) [nl_tle, nl_fle, nl_tlt, nl_flt, nl_teq, nl_feq, nl_sub, nl_ss, nl_lt, nl_llt, nl_ltt, nl_le, nl_lle, nl_lee, nl_eq, nl_leq, nl_ee, nl_div, nl_rem, nl_cl, nl_n1, nl_n2, nl_n3, nl_n4, nl_add, nl_ladd, nl_aa, nl_mul, nl_rmul, nl_mm, pu_wi_1, pu_wi_2, bX12_back_0, bX12_back_18, bX12_back_20, a_ai, a_ald, a_gr, a_icgt, a_iflt, a_ifne, a_ild, a_ist, a_push, a_zret, fx_71_2 hx, sh_71, sh_74, pu_rv, pu_as, Value.category, pu_bk, pu_kl, pu_qe0, pu_qe1, c1]
        all_goals try simp [bX12_back_0, bX12_back_18, bX12_back_20, a_ai, a_ald, a_gr, a_icgt, a_iflt, a_ifne, a_ild, a_ist, a_push, a_zret, fx_71_2 hx, sh_71, sh_74, pu_rv, pu_as, Value.category, pu_bk, pu_kl, List.replicate, pu_wi_1, pu_wi_2, nl_add, nl_ladd, nl_aa, nl_mul, nl_rmul, nl_mm, pu_qe0, pu_qe1, c1]
        all_goals try simp (maxSteps := 400000) (disch := omega) [nl_tle, nl_fle, nl_tlt, nl_flt, nl_teq, nl_feq, nl_sub, nl_ss, nl_lt, nl_llt, nl_ltt, nl_le, nl_lle, nl_lee, nl_eq, nl_leq, nl_ee, nl_div, nl_rem, nl_cl, nl_n1, nl_n2, nl_n3, nl_n4, nl_add, nl_ladd, nl_aa, nl_mul, nl_rmul, nl_mm, pu_wi_1, pu_wi_2, bX12_back_0, bX12_back_18, bX12_back_20, a_ai, a_ald, a_gr, a_icgt, a_iflt, a_ifne, a_ild, a_ist, a_push, a_zret, fx_71_2 hx, sh_71, sh_74, pu_rv, pu_as, Value.category, pu_bk, pu_kl, pu_qe0, pu_qe1, c1]
      · have c2 : 2 < x := by
          have : ¬ x < 3 := fun z => c ⟨c1, z⟩
          have := Int32.le_iff_toInt_le.mp (Int32.not_lt.mp this)
          have e3 : (3 : Int32).toInt = 3 := by decide
          have e2 : (2 : Int32).toInt = 2 := by decide
          exact Int32.lt_iff_toInt_lt.mpr (by omega)
        rw [qX12_back]
        simp [a_ent, bX12_back_0, bX12_back_18, bX12_back_20, a_ai, a_ald, a_gr, a_icgt, a_iflt, a_ifne, a_ild, a_ist, a_push, a_zret, fx_71_2 hx, sh_71, sh_74, pu_rv, pu_as, Value.category, pu_bk, pu_kl, List.replicate, pu_wi_1, pu_wi_2, nl_add, nl_ladd, nl_aa, nl_mul, nl_rmul, nl_mm, pu_qe0, pu_qe1, c1, c2]
        all_goals try simp (maxSteps := 400000) (disch := omega) [nl_tle, nl_fle, nl_tlt, nl_flt, nl_teq, nl_feq, nl_sub, nl_ss, nl_lt, nl_llt, nl_ltt, nl_le, nl_lle, nl_lee, nl_eq, nl_leq, nl_ee, nl_div, nl_rem, nl_cl, nl_n1, nl_n2, nl_n3, nl_n4, nl_add, nl_ladd, nl_aa, nl_mul, nl_rmul, nl_mm, pu_wi_1, pu_wi_2, bX12_back_0, bX12_back_18, bX12_back_20, a_ai, a_ald, a_gr, a_icgt, a_iflt, a_ifne, a_ild, a_ist, a_push, a_zret, fx_71_2 hx, sh_71, sh_74, pu_rv, pu_as, Value.category, pu_bk, pu_kl, pu_qe0, pu_qe1, c1, c2]
        all_goals try simp [bX12_back_0, bX12_back_18, bX12_back_20, a_ai, a_ald, a_gr, a_icgt, a_iflt, a_ifne, a_ild, a_ist, a_push, a_zret, fx_71_2 hx, sh_71, sh_74, pu_rv, pu_as, Value.category, pu_bk, pu_kl, List.replicate, pu_wi_1, pu_wi_2, nl_add, nl_ladd, nl_aa, nl_mul, nl_rmul, nl_mm, pu_qe0, pu_qe1, c1, c2]
        all_goals try simp (maxSteps := 400000) (disch := omega) [nl_tle, nl_fle, nl_tlt, nl_flt, nl_teq, nl_feq, nl_sub, nl_ss, nl_lt, nl_llt, nl_ltt, nl_le, nl_lle, nl_lee, nl_eq, nl_leq, nl_ee, nl_div, nl_rem, nl_cl, nl_n1, nl_n2, nl_n3, nl_n4, nl_add, nl_ladd, nl_aa, nl_mul, nl_rmul, nl_mm, pu_wi_1, pu_wi_2, bX12_back_0, bX12_back_18, bX12_back_20, a_ai, a_ald, a_gr, a_icgt, a_iflt, a_ifne, a_ild, a_ist, a_push, a_zret, fx_71_2 hx, sh_71, sh_74, pu_rv, pu_as, Value.category, pu_bk, pu_kl, pu_qe0, pu_qe1, c1, c2]
  obtain ⟨p, hp, rfl⟩ : ∃ p, p < 3 ∧ x = nI p := by
    obtain ⟨j, j1, j2⟩ := nI_of2 (x := x) (M := 3) (n := 3) (by decide) c.1 (Int32.le_of_lt c.2)
    refine ⟨j, ?_, j2⟩
    have := c.2
    rw [j2, show (3 : Int32) = nI 3 from rfl, nl_ltt _ _ (by omega) (by omega)] at this
    exact this
  have c1 := c.1
  have c2 := c.2
  have c3 : ¬ 3 ≤ nI p := Int32.not_le.mpr c2
  have r1 : ¬ 2 < nI p := nI_nlt (b := p) (a := 2) (by omega) (by omega)
  rcases h.2.2.2.2.2.1 p hp with ⟨q1, q2⟩ | ⟨i, i1, q1, q2, q3, q4, q5⟩
  · refine ⟨0, M, M, ?_, ?_, h⟩
    · rw [qX11_back]
      simp [a_ent, bX11_back_0, bX11_back_18, bX11_back_20, a_ald, a_ar, a_cv, a_gr, a_icge, a_iflt, a_ild, a_nn, a_push, a_zret, fx_0_2 hx, fx_0_3 hx, sh_0, sh_5, sh_58, pu_rv, pu_as, Value.category, pu_bk, pu_kl, List.replicate, pu_wi_1, pu_wi_2, nl_add, nl_ladd, nl_aa, nl_mul, nl_rmul, nl_mm, pu_qe0, pu_qe1, c1, c2, c3, q1]
      all_goals try simp (maxSteps := 400000) (disch := omega) [nl_tle, nl_fle, nl_tlt, nl_flt, nl_teq, nl_feq, nl_sub, nl_ss, nl_lt, nl_llt, nl_ltt, nl_le, nl_lle, nl_lee, nl_eq, nl_leq, nl_ee, nl_div, nl_rem, nl_cl, nl_n1, nl_n2, nl_n3, nl_n4, nl_add, nl_ladd, nl_aa, nl_mul, nl_rmul, nl_mm, pu_wi_1, pu_wi_2, bX11_back_0, bX11_back_18, bX11_back_20, a_ald, a_ar, a_cv, a_gr, a_icge, a_iflt, a_ild, a_nn, a_push, a_zret, fx_0_2 hx, fx_0_3 hx, sh_0, sh_5, sh_58, pu_rv, pu_as, Value.category, pu_bk, pu_kl, pu_qe0, pu_qe1, c1, c2, c3, q1]
      all_goals try simp [bX11_back_0, bX11_back_18, bX11_back_20, a_ald, a_ar, a_cv, a_gr, a_icge, a_iflt, a_ild, a_nn, a_push, a_zret, fx_0_2 hx, fx_0_3 hx, sh_0, sh_5, sh_58, pu_rv, pu_as, Value.category, pu_bk, pu_kl, List.replicate, pu_wi_1, pu_wi_2, nl_add, nl_ladd, nl_aa, nl_mul, nl_rmul, nl_mm, pu_qe0, pu_qe1, c1, c2, c3, q1]
      all_goals try simp (maxSteps := 400000) (disch := omega) [nl_tle, nl_fle, nl_tlt, nl_flt, nl_teq, nl_feq, nl_sub, nl_ss, nl_lt, nl_llt, nl_ltt, nl_le, nl_lle, nl_lee, nl_eq, nl_leq, nl_ee, nl_div, nl_rem, nl_cl, nl_n1, nl_n2, nl_n3, nl_n4, nl_add, nl_ladd, nl_aa, nl_mul, nl_rmul, nl_mm, pu_wi_1, pu_wi_2, bX11_back_0, bX11_back_18, bX11_back_20, a_ald, a_ar, a_cv, a_gr, a_icge, a_iflt, a_ild, a_nn, a_push, a_zret, fx_0_2 hx, fx_0_3 hx, sh_0, sh_5, sh_58, pu_rv, pu_as, Value.category, pu_bk, pu_kl, pu_qe0, pu_qe1, c1, c2, c3, q1]
    · rw [qX12_back]
      simp [a_ent, bX12_back_0, bX12_back_18, bX12_back_20, a_ai, a_ald, a_gr, a_icgt, a_iflt, a_ifne, a_ild, a_ist, a_push, a_zret, fx_71_2 hx, sh_71, sh_74, pu_rv, pu_as, Value.category, pu_bk, pu_kl, List.replicate, pu_wi_1, pu_wi_2, nl_add, nl_ladd, nl_aa, nl_mul, nl_rmul, nl_mm, pu_qe0, pu_qe1, c1, r1, q2]
      all_goals try simp (maxSteps := 400000) (disch := omega) [nl_tle, nl_fle, nl_tlt, nl_flt, nl_teq, nl_feq, nl_sub, nl_ss, nl_lt, nl_llt, nl_ltt, nl_le, nl_lle, nl_lee, nl_eq, nl_leq, nl_ee, nl_div, nl_rem, nl_cl, nl_n1, nl_n2, nl_n3, nl_n4, nl_add, nl_ladd, nl_aa, nl_mul, nl_rmul, nl_mm, pu_wi_1, pu_wi_2, bX12_back_0, bX12_back_18, bX12_back_20, a_ai, a_ald, a_gr, a_icgt, a_iflt, a_ifne, a_ild, a_ist, a_push, a_zret, fx_71_2 hx, sh_71, sh_74, pu_rv, pu_as, Value.category, pu_bk, pu_kl, pu_qe0, pu_qe1, c1, r1, q2]
      all_goals try simp [bX12_back_0, bX12_back_18, bX12_back_20, a_ai, a_ald, a_gr, a_icgt, a_iflt, a_ifne, a_ild, a_ist, a_push, a_zret, fx_71_2 hx, sh_71, sh_74, pu_rv, pu_as, Value.category, pu_bk, pu_kl, List.replicate, pu_wi_1, pu_wi_2, nl_add, nl_ladd, nl_aa, nl_mul, nl_rmul, nl_mm, pu_qe0, pu_qe1, c1, r1, q2]
      all_goals try simp (maxSteps := 400000) (disch := omega) [nl_tle, nl_fle, nl_tlt, nl_flt, nl_teq, nl_feq, nl_sub, nl_ss, nl_lt, nl_llt, nl_ltt, nl_le, nl_lle, nl_lee, nl_eq, nl_leq, nl_ee, nl_div, nl_rem, nl_cl, nl_n1, nl_n2, nl_n3, nl_n4, nl_add, nl_ladd, nl_aa, nl_mul, nl_rmul, nl_mm, pu_wi_1, pu_wi_2, bX12_back_0, bX12_back_18, bX12_back_20, a_ai, a_ald, a_gr, a_icgt, a_iflt, a_ifne, a_ild, a_ist, a_push, a_zret, fx_71_2 hx, sh_71, sh_74, pu_rv, pu_as, Value.category, pu_bk, pu_kl, pu_qe0, pu_qe1, c1, r1, q2]
  · obtain ⟨N, n1, n2, n3, n4, n5⟩ := py_copy (M := M) (u := 5) (v := 86 + 53 * i) (I := pu_si M (86 + 53 * i)) (L := pu_sj M (86 + 53 * i)) py_os5 (py_osb i) (py_or5 hx) (py_orb q4) (by omega) q5.1 (py_siA M _) (py_sjA M _)
    have pa := n4 (pu_si N 5) (pu_sj N 5) (py_siA N 5) (py_sjA N 5)
    have s1 := St_pre pa q5
    have hxN : pu_fx N := fun a k r q => by
      rw [n1]
      exact hx a k r q
    have rb := r_back hxN p hp (by rw [n2 74 p (by omega)]; exact q2)
    refine ⟨1, N, pz_ba N p 70000, ?_, rb, ?_⟩
    · rw [qX11_back]
      simp [a_ent, bX11_back_0, bX11_back_18, bX11_back_20, a_ald, a_ar, a_cv, a_gr, a_icge, a_iflt, a_ild, a_nn, a_push, a_zret, fx_0_2 hx, fx_0_3 hx, sh_0, sh_5, sh_58, pu_rv, pu_as, Value.category, pu_bk, pu_kl, List.replicate, pu_wi_1, pu_wi_2, nl_add, nl_ladd, nl_aa, nl_mul, nl_rmul, nl_mm, pu_qe0, pu_qe1, c1, c2, c3, q1, n5]
      all_goals try simp (maxSteps := 400000) (disch := omega) [nl_tle, nl_fle, nl_tlt, nl_flt, nl_teq, nl_feq, nl_sub, nl_ss, nl_lt, nl_llt, nl_ltt, nl_le, nl_lle, nl_lee, nl_eq, nl_leq, nl_ee, nl_div, nl_rem, nl_cl, nl_n1, nl_n2, nl_n3, nl_n4, nl_add, nl_ladd, nl_aa, nl_mul, nl_rmul, nl_mm, pu_wi_1, pu_wi_2, bX11_back_0, bX11_back_18, bX11_back_20, a_ald, a_ar, a_cv, a_gr, a_icge, a_iflt, a_ild, a_nn, a_push, a_zret, fx_0_2 hx, fx_0_3 hx, sh_0, sh_5, sh_58, pu_rv, pu_as, Value.category, pu_bk, pu_kl, pu_qe0, pu_qe1, c1, c2, c3, q1, n5]
      all_goals try simp [bX11_back_0, bX11_back_18, bX11_back_20, a_ald, a_ar, a_cv, a_gr, a_icge, a_iflt, a_ild, a_nn, a_push, a_zret, fx_0_2 hx, fx_0_3 hx, sh_0, sh_5, sh_58, pu_rv, pu_as, Value.category, pu_bk, pu_kl, List.replicate, pu_wi_1, pu_wi_2, nl_add, nl_ladd, nl_aa, nl_mul, nl_rmul, nl_mm, pu_qe0, pu_qe1, c1, c2, c3, q1, n5]
      all_goals try simp (maxSteps := 400000) (disch := omega) [nl_tle, nl_fle, nl_tlt, nl_flt, nl_teq, nl_feq, nl_sub, nl_ss, nl_lt, nl_llt, nl_ltt, nl_le, nl_lle, nl_lee, nl_eq, nl_leq, nl_ee, nl_div, nl_rem, nl_cl, nl_n1, nl_n2, nl_n3, nl_n4, nl_add, nl_ladd, nl_aa, nl_mul, nl_rmul, nl_mm, pu_wi_1, pu_wi_2, bX11_back_0, bX11_back_18, bX11_back_20, a_ald, a_ar, a_cv, a_gr, a_icge, a_iflt, a_ild, a_nn, a_push, a_zret, fx_0_2 hx, fx_0_3 hx, sh_0, sh_5, sh_58, pu_rv, pu_as, Value.category, pu_bk, pu_kl, pu_qe0, pu_qe1, c1, c2, c3, q1, n5]
    · refine pu_Inv_all h n1 (fun a j ha => n3 a j (by omega)) (fun a j q => ?_) ?_
      · rw [pz_ba_o _ _ _ _ _ (by omega), n2 a j (by omega)]
      · have e1 : pu_si (pz_ba N p 70000) 5 = pu_si N 5 := pu_si_eq (fun a j h1 h2 => pz_ba_o _ _ _ _ _ (by omega))
        have e2 : pu_sj (pz_ba N p 70000) 5 = pu_sj N 5 := pu_sj_eq (fun a j h1 h2 => rfl)
        rw [e1, e2]
        refine py_St_row s1 (fun j hj => ?_)
        show (if 72 = 72 ∧ j < 70000 then N.1 73 (70000 * p + j) else N.1 72 j) = M.1 73 (70000 * p + j)
        rw [if_pos ⟨rfl, hj⟩, n2 73 _ (by omega)]
/-- a memory with an office for image p at b -/
def py_ip (O : pu_M) (p b : Nat) : Prop := O.2.2.1 58 p = some b ∧ (∃ i, i < 3 ∧ b = 86 + 53 * i) ∧ b + 53 ≤ O.2.2.2 ∧ pz_or O b ∧ (∃ n, n ≤ 3 ∧ O.2.2.2 = 86 + 53 * n) ∧ (∀ k, k < 3 → k ≠ p → pu_im1 pu_St O k) ∧ (∀ k l c, k < 3 → l < 3 → O.2.2.1 58 k = some c → O.2.2.1 58 l = some c → k = l) ∧ (∃ f : Nat → Bool, O.2.2.2 = 86 + 53 * ((if f 0 then 1 else 0) + (if f 1 then 1 else 0) + (if f 2 then 1 else 0)) ∧ ∀ k, k < 3 → (f k = true ↔ O.2.2.1 58 k ≠ none))
theorem image_core {O : pu_M} {p b : Nat} (hp : p < 3) (hx : pu_fx O) (ht : pu_tp O) (hu : pu_ou O) (hS : pu_St (pu_si O 5) (pu_sj O 5) (O.1 72)) (ip : py_ip O p b) : ∃ N F, pu_fx N ∧ pu_r 141 [some (.ref b), some (.ref 5)] [] O = some (none, N) ∧ pu_r 302 [some (.ref 71), some (.int (nI p))] [] N = some (some (.int 1), F) ∧ pu_Inv F := by
  obtain ⟨a1, ⟨i, i1, rfl⟩, a3, a4, a5, a6, a7, a8⟩ := ip
  obtain ⟨N, n1, n2, n3, n4, n5⟩ := py_copy (M := O) (u := 86 + 53 * i) (v := 5) (I := pu_si O 5) (L := pu_sj O 5) (py_osb i) py_os5 a4 (py_or5 hx) (by omega) hS.1 (py_siA O 5) (py_sjA O 5)
  have pa := n4 (pu_si N (86 + 53 * i)) (pu_sj N (86 + 53 * i)) (py_siA N _) (py_sjA N _)
  have s1 := St_pre pa hS
  have hxN : pu_fx N := fun a k r q => by
    rw [n1]
    exact hx a k r q
  have ri := r_image hxN p hp
  refine ⟨N, _, hxN, n5, ri, ?_⟩
  generalize hF : pu_wi (pz_im N p 70000) 74 p 1 = F at *
  have F2 : F.2 = N.2 := by rw [← hF]; rfl
  have Fo : ∀ a j, a ≠ 73 → ¬ (a = 74 ∧ j = p) → F.1 a j = N.1 a j := fun a j h1 h2 => by
    rw [← hF, py_wi_o h2, pz_im_o _ _ _ _ _ h1]
  have F73 : ∀ j, F.1 73 j = if 70000 * p ≤ j ∧ j < 70000 * p + 70000 then N.1 72 (j - 70000 * p) else N.1 73 j := fun j => by
    rw [← hF, py_wi_o (by omega)]
    show (if 73 = 73 ∧ 70000 * p ≤ j ∧ j < 70000 * p + 70000 then _ else _) = _
    by_cases c : 70000 * p ≤ j ∧ j < 70000 * p + 70000
    · rw [if_pos ⟨rfl, c⟩, if_pos c]
    · rw [if_neg (fun z => c z.2), if_neg c]
  have F22 : F.2.2 = O.2.2 := by rw [F2, n1]
  have FO : ∀ a j, a < 86 + 53 * i + 1 ∨ 86 + 53 * i + 52 < a → a ≠ 73 → ¬ (a = 74 ∧ j = p) → F.1 a j = O.1 a j := fun a j h1 h2 h3 => by
    rw [Fo a j h2 h3, n2 a j h1]
  refine ⟨fun a k r q => by rw [F22]; exact hx a k r q, pu_tp_fr ht (FO _ _ (by omega) (by omega) (by omega)) (FO _ _ (by omega) (by omega) (by omega)) (fun j => FO _ _ (by omega) (by omega) (by omega)) (fun j => FO _ _ (by omega) (by omega) (by omega)), pu_ou_fr hu (FO _ _ (by omega) (by omega) (by omega)) (FO _ _ (by omega) (by omega) (by omega)) (fun j => FO _ _ (by omega) (by omega) (by omega)) (fun j => FO _ _ (by omega) (by omega) (by omega)), ?_, by rw [F22]; exact a5, fun k hk => ?_, by rw [F22]; exact a7, by rw [F22]; exact a8⟩
  · rw [pu_si_eq (M := O) (fun a j h1 h2 => FO a j (by omega) (by omega) (by omega)), pu_sj_eq (M := O) (fun a j h1 h2 => by rw [F2, n3 a j (by omega)]), show F.1 72 = O.1 72 from funext (fun j => FO 72 j (by omega) (by omega) (by omega))]
    exact hS
  · by_cases kp : k = p
    · subst kp
      refine Or.inr ⟨i, i1, by rw [F22]; exact a1, ?_, by rw [F22]; exact a3, ?_, ?_⟩
      · rw [← hF]
        simp [pu_wi_1]
      · rw [F22]
        exact py_orb2 a4
      · have e1 : pu_si F (86 + 53 * i) = pu_si N (86 + 53 * i) := by
          funext a j
          unfold pu_si
          by_cases c : 5 ≤ a ∧ a < 58
          · rw [if_pos c, if_pos c, Fo _ _ (by omega) (by omega)]
          · rw [if_neg c, if_neg c]
        have e2 : pu_sj F (86 + 53 * i) = pu_sj N (86 + 53 * i) := by
          funext a j
          unfold pu_sj
          rw [F2]
        rw [e1, e2]
        refine py_St_row s1 (fun j hj => ?_)
        show F.1 73 (70000 * k + j) = _
        rw [F73, if_pos (by omega), show 70000 * k + j - 70000 * k = j by omega, n2 72 j (by omega)]
    · rcases a6 k hk kp with ⟨q1, q2⟩ | ⟨l, l1, q1, q2, q3, q4, q5⟩
      · exact Or.inl ⟨by rw [F22]; exact q1, by rw [FO 74 k (by omega) (by omega) (by omega)]; exact q2⟩
      · have li : l ≠ i := fun z => by
          subst z
          exact kp (a7 k p _ hk hp q1 a1)
        refine Or.inr ⟨l, l1, by rw [F22]; exact q1, by rw [FO 74 k (by omega) (by omega) (by omega)]; exact q2, by rw [F22]; exact q3, by rw [F22]; exact q4, ?_⟩
        have e1 : pu_si F (86 + 53 * l) = pu_si O (86 + 53 * l) := by
          funext a j
          unfold pu_si
          by_cases c : 5 ≤ a ∧ a < 58
          · rw [if_pos c, if_pos c, FO _ _ (by omega) (by omega) (by omega)]
          · rw [if_neg c, if_neg c]
        have e2 : pu_sj F (86 + 53 * l) = pu_sj O (86 + 53 * l) := by
          funext a j
          unfold pu_sj
          by_cases c : 5 ≤ a ∧ a < 58
          · rw [if_pos c, if_pos c, F2, n3 _ _ (by omega)]
          · rw [if_neg c, if_neg c]
        rw [e1, e2]
        refine py_St_row q5 (fun j hj => ?_)
        show F.1 73 (70000 * k + j) = O.1 73 (70000 * k + j)
        rw [F73, if_neg (by omega), n2 73 _ (by omega)]
theorem op_image (x : Int32) : pu_op pu_Inv 142 302 [.int x] := by
  intro M h
  have hx := h.1
  by_cases c : ¬ x < 0 ∧ x < 3
  rotate_left
  · refine ⟨0, M, M, ?_, ?_, h⟩
    · by_cases c1 : x < 0
      · rw [qX11_image]
        simp [a_ent, bX11_image_0, bX11_image_9, bX11_image_11, bX11_image_33, a_ald, a_ar, a_ci, a_cv, a_dup, a_gr, a_iclt, a_iflt, a_ild, a_new, a_nn, a_push, a_wr, a_zret, fx_0_2 hx, fx_0_3 hx, sh_0, sh_5, sh_58, pu_rv, pu_as, Value.category, pu_bk, pu_kl, List.replicate, pu_wi_1, pu_wi_2, nl_add, nl_ladd, nl_aa, nl_mul, nl_rmul, nl_mm, pu_qe0, pu_qe1, c1]
        all_goals try simp (maxSteps := 400000) (disch := omega) [nl_tle, nl_fle, nl_tlt, nl_flt, nl_teq, nl_feq, nl_sub, nl_ss, nl_lt, nl_llt, nl_ltt, nl_le, nl_lle, nl_lee, nl_eq, nl_leq, nl_ee, nl_div, nl_rem, nl_cl, nl_n1, nl_n2, nl_n3, nl_n4, nl_add, nl_ladd, nl_aa, nl_mul, nl_rmul, nl_mm, pu_wi_1, pu_wi_2, bX11_image_0, bX11_image_9, bX11_image_11, bX11_image_33, a_ald, a_ar, a_ci, a_cv, a_dup, a_gr, a_iclt, a_iflt, a_ild, a_new, a_nn, a_push, a_wr, a_zret, fx_0_2 hx, fx_0_3 hx, sh_0, sh_5, sh_58, pu_rv, pu_as, Value.category, pu_bk, pu_kl, pu_qe0, pu_qe1, c1]
        all_goals try simp [bX11_image_0, bX11_image_9, bX11_image_11, bX11_image_33, a_ald, a_ar, a_ci, a_cv, a_dup, a_gr, a_iclt, a_iflt, a_ild, a_new, a_nn, a_push, a_wr, a_zret, fx_0_2 hx, fx_0_3 hx, sh_0, sh_5, sh_58, pu_rv, pu_as, Value.category, pu_bk, pu_kl, List.replicate, pu_wi_1, pu_wi_2, nl_add, nl_ladd, nl_aa, nl_mul, nl_rmul, nl_mm, pu_qe0, pu_qe1, c1]
        all_goals try simp (maxSteps := 400000) (disch := omega) [nl_tle, nl_fle, nl_tlt, nl_flt, nl_teq, nl_feq, nl_sub, nl_ss, nl_lt, nl_llt, nl_ltt, nl_le, nl_lle, nl_lee, nl_eq, nl_leq, nl_ee, nl_div, nl_rem, nl_cl, nl_n1, nl_n2, nl_n3, nl_n4, nl_add, nl_ladd, nl_aa, nl_mul, nl_rmul, nl_mm, pu_wi_1, pu_wi_2, bX11_image_0, bX11_image_9, bX11_image_11, bX11_image_33, a_ald, a_ar, a_ci, a_cv, a_dup, a_gr, a_iclt, a_iflt, a_ild, a_new, a_nn, a_push, a_wr, a_zret, fx_0_2 hx, fx_0_3 hx, sh_0, sh_5, sh_58, pu_rv, pu_as, Value.category, pu_bk, pu_kl, pu_qe0, pu_qe1, c1]
      · have c2 : ¬ x < 3 := fun z => c ⟨c1, z⟩
        have c3 := Int32.not_lt.mp c2
        rw [qX11_image]
        simp [a_ent, bX11_image_0, bX11_image_9, bX11_image_11, bX11_image_33, a_ald, a_ar, a_ci, a_cv, a_dup, a_gr, a_iclt, a_iflt, a_ild, a_new, a_nn, a_push, a_wr, a_zret, fx_0_2 hx, fx_0_3 hx, sh_0, sh_5, sh_58, pu_rv, pu_as, Value.category, pu_bk, pu_kl, List.replicate, pu_wi_1, pu_wi_2, nl_add, nl_ladd, nl_aa, nl_mul, nl_rmul, nl_mm, pu_qe0, pu_qe1, c1, c2, c3]
        all_goals try simp (maxSteps := 400000) (disch := omega) [nl_tle, nl_fle, nl_tlt, nl_flt, nl_teq, nl_feq, nl_sub, nl_ss, nl_lt, nl_llt, nl_ltt, nl_le, nl_lle, nl_lee, nl_eq, nl_leq, nl_ee, nl_div, nl_rem, nl_cl, nl_n1, nl_n2, nl_n3, nl_n4, nl_add, nl_ladd, nl_aa, nl_mul, nl_rmul, nl_mm, pu_wi_1, pu_wi_2, bX11_image_0, bX11_image_9, bX11_image_11, bX11_image_33, a_ald, a_ar, a_ci, a_cv, a_dup, a_gr, a_iclt, a_iflt, a_ild, a_new, a_nn, a_push, a_wr, a_zret, fx_0_2 hx, fx_0_3 hx, sh_0, sh_5, sh_58, pu_rv, pu_as, Value.category, pu_bk, pu_kl, pu_qe0, pu_qe1, c1, c2, c3]
        all_goals try simp [bX11_image_0, bX11_image_9, bX11_image_11, bX11_image_33, a_ald, a_ar, a_ci, a_cv, a_dup, a_gr, a_iclt, a_iflt, a_ild, a_new, a_nn, a_push, a_wr, a_zret, fx_0_2 hx, fx_0_3 hx, sh_0, sh_5, sh_58, pu_rv, pu_as, Value.category, pu_bk, pu_kl, List.replicate, pu_wi_1, pu_wi_2, nl_add, nl_ladd, nl_aa, nl_mul, nl_rmul, nl_mm, pu_qe0, pu_qe1, c1, c2, c3]
        all_goals try simp (maxSteps := 400000) (disch := omega) [nl_tle, nl_fle, nl_tlt, nl_flt, nl_teq, nl_feq, nl_sub, nl_ss, nl_lt, nl_llt, nl_ltt, nl_le, nl_lle, nl_lee, nl_eq, nl_leq, nl_ee, nl_div, nl_rem, nl_cl, nl_n1, nl_n2, nl_n3, nl_n4, nl_add, nl_ladd, nl_aa, nl_mul, nl_rmul, nl_mm, pu_wi_1, pu_wi_2, bX11_image_0, bX11_image_9, bX11_image_11, bX11_image_33, a_ald, a_ar, a_ci, a_cv, a_dup, a_gr, a_iclt, a_iflt, a_ild, a_new, a_nn, a_push, a_wr, a_zret, fx_0_2 hx, fx_0_3 hx, sh_0, sh_5, sh_58, pu_rv, pu_as, Value.category, pu_bk, pu_kl, pu_qe0, pu_qe1, c1, c2, c3]
    · by_cases c1 : x < 0
      · rw [qX12_image]
        simp [a_ent, bX12_image_0, bX12_image_9, bX12_image_11, a_icle, a_iflt, a_ild, a_ist, a_push, a_zret, pu_rv, pu_as, Value.category, pu_bk, pu_kl, List.replicate, pu_wi_1, pu_wi_2, nl_add, nl_ladd, nl_aa, nl_mul, nl_rmul, nl_mm, pu_qe0, pu_qe1, c1]
        all_goals try simp (maxSteps := 400000) (disch := omega) [nl_tle, nl_fle, nl_tlt, nl_flt, nl_teq, nl_feq, nl_sub, nl_ss, nl_lt, nl_llt, nl_ltt, nl_le, nl_lle, nl_lee, nl_eq, nl_leq, nl_ee, nl_div, nl_rem, nl_cl, nl_n1, nl_n2, nl_n3, nl_n4, nl_add, nl_ladd, nl_aa, nl_mul, nl_rmul, nl_mm, pu_wi_1, pu_wi_2, bX12_image_0, bX12_image_9, bX12_image_11, a_icle, a_iflt, a_ild, a_ist, a_push, a_zret, pu_rv, pu_as, Value.category, pu_bk, pu_kl, pu_qe0, pu_qe1, c1]
        all_goals try simp [bX12_image_0, bX12_image_9, bX12_image_11, a_icle, a_iflt, a_ild, a_ist, a_push, a_zret, pu_rv, pu_as, Value.category, pu_bk, pu_kl, List.replicate, pu_wi_1, pu_wi_2, nl_add, nl_ladd, nl_aa, nl_mul, nl_rmul, nl_mm, pu_qe0, pu_qe1, c1]
        all_goals try simp (maxSteps := 400000) (disch := omega) [nl_tle, nl_fle, nl_tlt, nl_flt, nl_teq, nl_feq, nl_sub, nl_ss, nl_lt, nl_llt, nl_ltt, nl_le, nl_lle, nl_lee, nl_eq, nl_leq, nl_ee, nl_div, nl_rem, nl_cl, nl_n1, nl_n2, nl_n3, nl_n4, nl_add, nl_ladd, nl_aa, nl_mul, nl_rmul, nl_mm, pu_wi_1, pu_wi_2, bX12_image_0, bX12_image_9, bX12_image_11, a_icle, a_iflt, a_ild, a_ist, a_push, a_zret, pu_rv, pu_as, Value.category, pu_bk, pu_kl, pu_qe0, pu_qe1, c1]
      · have c2 : 2 < x := by
          have : ¬ x < 3 := fun z => c ⟨c1, z⟩
          have := Int32.le_iff_toInt_le.mp (Int32.not_lt.mp this)
          have e3 : (3 : Int32).toInt = 3 := by decide
          have e2 : (2 : Int32).toInt = 2 := by decide
          exact Int32.lt_iff_toInt_lt.mpr (by omega)
        have c3 : ¬ x ≤ 2 := Int32.not_le.mpr c2
        rw [qX12_image]
        simp [a_ent, bX12_image_0, bX12_image_9, bX12_image_11, a_icle, a_iflt, a_ild, a_ist, a_push, a_zret, pu_rv, pu_as, Value.category, pu_bk, pu_kl, List.replicate, pu_wi_1, pu_wi_2, nl_add, nl_ladd, nl_aa, nl_mul, nl_rmul, nl_mm, pu_qe0, pu_qe1, c1, c2, c3]
        all_goals try simp (maxSteps := 400000) (disch := omega) [nl_tle, nl_fle, nl_tlt, nl_flt, nl_teq, nl_feq, nl_sub, nl_ss, nl_lt, nl_llt, nl_ltt, nl_le, nl_lle, nl_lee, nl_eq, nl_leq, nl_ee, nl_div, nl_rem, nl_cl, nl_n1, nl_n2, nl_n3, nl_n4, nl_add, nl_ladd, nl_aa, nl_mul, nl_rmul, nl_mm, pu_wi_1, pu_wi_2, bX12_image_0, bX12_image_9, bX12_image_11, a_icle, a_iflt, a_ild, a_ist, a_push, a_zret, pu_rv, pu_as, Value.category, pu_bk, pu_kl, pu_qe0, pu_qe1, c1, c2, c3]
        all_goals try simp [bX12_image_0, bX12_image_9, bX12_image_11, a_icle, a_iflt, a_ild, a_ist, a_push, a_zret, pu_rv, pu_as, Value.category, pu_bk, pu_kl, List.replicate, pu_wi_1, pu_wi_2, nl_add, nl_ladd, nl_aa, nl_mul, nl_rmul, nl_mm, pu_qe0, pu_qe1, c1, c2, c3]
        all_goals try simp (maxSteps := 400000) (disch := omega) [nl_tle, nl_fle, nl_tlt, nl_flt, nl_teq, nl_feq, nl_sub, nl_ss, nl_lt, nl_llt, nl_ltt, nl_le, nl_lle, nl_lee, nl_eq, nl_leq, nl_ee, nl_div, nl_rem, nl_cl, nl_n1, nl_n2, nl_n3, nl_n4, nl_add, nl_ladd, nl_aa, nl_mul, nl_rmul, nl_mm, pu_wi_1, pu_wi_2, bX12_image_0, bX12_image_9, bX12_image_11, a_icle, a_iflt, a_ild, a_ist, a_push, a_zret, pu_rv, pu_as, Value.category, pu_bk, pu_kl, pu_qe0, pu_qe1, c1, c2, c3]
  obtain ⟨p, hp, rfl⟩ : ∃ p, p < 3 ∧ x = nI p := by
    obtain ⟨j, j1, j2⟩ := nI_of2 (x := x) (M := 3) (n := 3) (by decide) c.1 (Int32.le_of_lt c.2)
    refine ⟨j, ?_, j2⟩
    have := c.2
    rw [j2, show (3 : Int32) = nI 3 from rfl, nl_ltt _ _ (by omega) (by omega)] at this
    exact this
  have c1 := c.1
  have c2 := c.2
  have c3 : ¬ 3 ≤ nI p := Int32.not_le.mpr c2
  obtain ⟨im1, im2, im3, fb, fb1, fb2⟩ := id h.2.2.2.2
  rcases im2 p hp with ⟨q1, q2⟩ | ⟨i, i1, q1, q2, q3, q4, q5⟩
  · -- no office there yet
    have fp : fb p = false := by
      have := fb2 p hp
      rw [q1] at this
      simpa using this
    obtain ⟨n, n1, n2⟩ : ∃ n, n ≤ 2 ∧ M.2.2.2 = 86 + 53 * n := by
      refine ⟨_, ?_, fb1⟩
      have : p = 0 ∨ p = 1 ∨ p = 2 := by omega
      rcases this with z | z | z <;> subst z <;> rw [fp] <;> simp <;> split <;> split <;> omega
    have sb : pu_sh (86 + 53 * n) = (0, 5) := by
      have := py_osb n 0 (by omega)
      rw [Nat.add_zero] at this
      rw [this]
      rfl
    have e0 := e_X5_init (86 + 53 * n) (pu_nw M) sb (fun k hk => by
      rw [pu_nw_n, n2, show 86 + 53 * n + 1 + k = 86 + 53 * n + (k + 1) by omega]
      exact py_osb n (k + 1) (by omega))
    obtain ⟨o1, o2, o3⟩ := py_newoff M (86 + 53 * n) n2
    generalize hO : pu_off (pu_nw M) (86 + 53 * n) = O at *
    have O1 : ∀ a j, a < 86 + 53 * n → (pu_wr O 58 p (some (86 + 53 * n))).1 a j = M.1 a j := fun a j ha => (o2 a ha).1 j
    have O2 : ∀ a j, a < 86 + 53 * n → (pu_wr O 58 p (some (86 + 53 * n))).2.1 a j = M.2.1 a j := fun a j ha => (o2 a ha).2.1 j
    have O3 : ∀ a j, a < 86 + 53 * n → ¬ (a = 58 ∧ j = p) → (pu_wr O 58 p (some (86 + 53 * n))).2.2.1 a j = M.2.2.1 a j := fun a j ha hn => by
      rw [pu_wr_3]
      by_cases z : a = 58
      · rw [if_pos z, if_neg (fun y => hn ⟨z, y⟩)]
        exact (o2 a ha).2.2 j
      · rw [if_neg z]
        exact (o2 a ha).2.2 j
    have O4 : (pu_wr O 58 p (some (86 + 53 * n))).2.2.1 58 p = some (86 + 53 * n) := by
      rw [pu_wr_3, if_pos rfl, if_pos rfl]
    have O5 : (pu_wr O 58 p (some (86 + 53 * n))).2.2.2 = 86 + 53 * n + 53 := o1
    have OR : pz_or (pu_wr O 58 p (some (86 + 53 * n))) (86 + 53 * n) := fun a j r h1 h2 => by
      rw [pu_wr_3, if_neg (by omega)]
      exact o3 a j r h1 h2
    have f3 : (pu_wr O 58 p (some (86 + 53 * n))).2.2.1 0 3 = some 58 := by rw [O3 0 3 (by omega) (by omega)]; exact fx_0_3 hx
    have f2 : (pu_wr O 58 p (some (86 + 53 * n))).2.2.1 0 2 = some 5 := by rw [O3 0 2 (by omega) (by omega)]; exact fx_0_2 hx
    have g3 : O.2.2.1 0 3 = some 58 := by rw [(o2 0 (by omega)).2.2]; exact fx_0_3 hx
    generalize hW : pu_wr O 58 p (some (86 + 53 * n)) = W at *
    have hxW : pu_fx W := fun a k r q => by
      have := py_RTlt q
      rw [O3 a k (by omega) (by omega)]
      exact hx a k r q
    have ip : py_ip W p (86 + 53 * n) := by
      refine ⟨O4, ⟨n, by omega, rfl⟩, by rw [O5]; exact Nat.le_refl _, OR, ⟨n + 1, by omega, by rw [O5]; omega⟩, fun k hk kp => ?_, fun k l d hk hl h1 h2 => ?_, ?_⟩
      · rcases im2 k hk with ⟨w1, w2⟩ | ⟨l, l1, w1, w2, w3, w4, w5⟩
        · exact Or.inl ⟨by rw [O3 58 k (by omega) (by omega)]; exact w1, by rw [O1 74 k (by omega)]; exact w2⟩
        · have ln : 86 + 53 * l + 53 ≤ 86 + 53 * n := by rw [← n2]; exact w3
          refine Or.inr ⟨l, l1, by rw [O3 58 k (by omega) (by omega)]; exact w1, by rw [O1 74 k (by omega)]; exact w2, by rw [O5]; omega, fun a j r h1 h2 q => by rw [O3 _ _ (by omega) (by omega)]; exact w4 a j r h1 h2 q, ?_⟩
          have e1 : pu_si W (86 + 53 * l) = pu_si M (86 + 53 * l) := by
            funext a j
            unfold pu_si
            by_cases c : 5 ≤ a ∧ a < 58
            · rw [if_pos c, if_pos c, O1 _ _ (by omega)]
            · rw [if_neg c, if_neg c]
          have e2 : pu_sj W (86 + 53 * l) = pu_sj M (86 + 53 * l) := by
            funext a j
            unfold pu_sj
            by_cases c : 5 ≤ a ∧ a < 58
            · rw [if_pos c, if_pos c, O2 _ _ (by omega)]
            · rw [if_neg c, if_neg c]
          rw [e1, e2]
          exact py_St_row w5 (fun j hj => O1 73 _ (by omega))
      · -- two images in one place
        have old : ∀ k, k < 3 → k ≠ p → W.2.2.1 58 k = some (86 + 53 * n) → False := fun k hk kp z => by
          rw [O3 58 k (by omega) (by omega)] at z
          rcases im2 k hk with ⟨w1, _⟩ | ⟨l, l1, w1, w2, w3, _, _⟩
          · rw [w1] at z
            cases z
          · rw [w1] at z
            have := Option.some.inj z
            omega
        by_cases kp : k = p
        · by_cases lp : l = p
          · omega
          · rw [kp, O4] at h1
            rw [← h1] at h2
            exact (old l hl lp h2).elim
        · by_cases lp : l = p
          · rw [lp, O4] at h2
            rw [← h2] at h1
            exact (old k hk kp h1).elim
          · rw [O3 58 k (by omega) (by omega)] at h1
            rw [O3 58 l (by omega) (by omega)] at h2
            exact im3 k l d hk hl h1 h2
      · refine ⟨fun k => if k = p then true else fb k, ?_, fun k hk => ?_⟩
        · rw [O5]
          rw [n2] at fb1
          have : p = 0 ∨ p = 1 ∨ p = 2 := by omega
          rcases this with z | z | z <;> subst z <;> rw [fp] at fb1 <;> simp at fb1 ⊢ <;> omega
        · by_cases kp : k = p
          · show (if k = p then true else fb k) = true ↔ _
            rw [if_pos kp, kp, O4]
            simp
          · show (if k = p then true else fb k) = true ↔ _
            rw [if_neg kp, O3 58 k (by omega) (by omega)]
            exact fb2 k hk
    obtain ⟨N, F, m1, m2, m3, m4⟩ := image_core hp hxW (pu_tp_fr h.2.1 (O1 _ _ (by omega)) (O1 _ _ (by omega)) (fun j => O1 _ _ (by omega)) (fun j => O1 _ _ (by omega))) (pu_ou_fr h.2.2.1 (O1 _ _ (by omega)) (O1 _ _ (by omega)) (fun j => O1 _ _ (by omega)) (fun j => O1 _ _ (by omega))) (by
      rw [pu_si_eq (M := M) (fun a j h1 h2 => O1 a j (by omega)), pu_sj_eq (M := M) (fun a j h1 h2 => O2 a j (by omega)), show W.1 72 = M.1 72 from funext (fun j => O1 72 j (by omega))]
      exact h.2.2.2.1) ip
    refine ⟨1, N, F, ?_, m3, m4⟩
    rw [qX11_image]
    simp [a_ent, bX11_image_0, bX11_image_9, bX11_image_11, bX11_image_33, a_ald, a_ar, a_ci, a_cv, a_dup, a_gr, a_iclt, a_iflt, a_ild, a_new, a_nn, a_push, a_wr, a_zret, fx_0_2 hx, fx_0_3 hx, sh_0, sh_5, sh_58, pu_rv, pu_as, Value.category, pu_bk, pu_kl, List.replicate, pu_wi_1, pu_wi_2, nl_add, nl_ladd, nl_aa, nl_mul, nl_rmul, nl_mm, pu_qe0, pu_qe1, c1, c2, c3, q1, n2, sb, e0, hW, f3, f2, g3, O4, m2]
    all_goals try simp (maxSteps := 400000) (disch := omega) [nl_tle, nl_fle, nl_tlt, nl_flt, nl_teq, nl_feq, nl_sub, nl_ss, nl_lt, nl_llt, nl_ltt, nl_le, nl_lle, nl_lee, nl_eq, nl_leq, nl_ee, nl_div, nl_rem, nl_cl, nl_n1, nl_n2, nl_n3, nl_n4, nl_add, nl_ladd, nl_aa, nl_mul, nl_rmul, nl_mm, pu_wi_1, pu_wi_2, bX11_image_0, bX11_image_9, bX11_image_11, bX11_image_33, a_ald, a_ar, a_ci, a_cv, a_dup, a_gr, a_iclt, a_iflt, a_ild, a_new, a_nn, a_push, a_wr, a_zret, fx_0_2 hx, fx_0_3 hx, sh_0, sh_5, sh_58, pu_rv, pu_as, Value.category, pu_bk, pu_kl, pu_qe0, pu_qe1, c1, c2, c3, q1, n2, sb, e0, hW, f3, f2, g3, O4, m2]
    all_goals try simp [bX11_image_0, bX11_image_9, bX11_image_11, bX11_image_33, a_ald, a_ar, a_ci, a_cv, a_dup, a_gr, a_iclt, a_iflt, a_ild, a_new, a_nn, a_push, a_wr, a_zret, fx_0_2 hx, fx_0_3 hx, sh_0, sh_5, sh_58, pu_rv, pu_as, Value.category, pu_bk, pu_kl, List.replicate, pu_wi_1, pu_wi_2, nl_add, nl_ladd, nl_aa, nl_mul, nl_rmul, nl_mm, pu_qe0, pu_qe1, c1, c2, c3, q1, n2, sb, e0, hW, f3, f2, g3, O4, m2]
    all_goals try simp (maxSteps := 400000) (disch := omega) [nl_tle, nl_fle, nl_tlt, nl_flt, nl_teq, nl_feq, nl_sub, nl_ss, nl_lt, nl_llt, nl_ltt, nl_le, nl_lle, nl_lee, nl_eq, nl_leq, nl_ee, nl_div, nl_rem, nl_cl, nl_n1, nl_n2, nl_n3, nl_n4, nl_add, nl_ladd, nl_aa, nl_mul, nl_rmul, nl_mm, pu_wi_1, pu_wi_2, bX11_image_0, bX11_image_9, bX11_image_11, bX11_image_33, a_ald, a_ar, a_ci, a_cv, a_dup, a_gr, a_iclt, a_iflt, a_ild, a_new, a_nn, a_push, a_wr, a_zret, fx_0_2 hx, fx_0_3 hx, sh_0, sh_5, sh_58, pu_rv, pu_as, Value.category, pu_bk, pu_kl, pu_qe0, pu_qe1, c1, c2, c3, q1, n2, sb, e0, hW, f3, f2, g3, O4, m2]
  · obtain ⟨N, F, m1, m2, m3, m4⟩ := image_core (b := 86 + 53 * i) hp hx h.2.1 h.2.2.1 h.2.2.2.1 ⟨q1, ⟨i, i1, rfl⟩, q3, py_orb q4, im1, fun k hk _ => im2 k hk, im3, fb, fb1, fb2⟩
    refine ⟨1, N, F, ?_, m3, m4⟩
    have sb : pu_sh (86 + 53 * i) = (0, 5) := by
      have := py_osb i 0 (by omega)
      rw [Nat.add_zero] at this
      rw [this]
      rfl
    rw [qX11_image]
    simp [a_ent, bX11_image_0, bX11_image_9, bX11_image_11, bX11_image_33, a_ald, a_ar, a_ci, a_cv, a_dup, a_gr, a_iclt, a_iflt, a_ild, a_new, a_nn, a_push, a_wr, a_zret, fx_0_2 hx, fx_0_3 hx, sh_0, sh_5, sh_58, pu_rv, pu_as, Value.category, pu_bk, pu_kl, List.replicate, pu_wi_1, pu_wi_2, nl_add, nl_ladd, nl_aa, nl_mul, nl_rmul, nl_mm, pu_qe0, pu_qe1, c1, c2, c3, q1, sb, m2]
    all_goals try simp (maxSteps := 400000) (disch := omega) [nl_tle, nl_fle, nl_tlt, nl_flt, nl_teq, nl_feq, nl_sub, nl_ss, nl_lt, nl_llt, nl_ltt, nl_le, nl_lle, nl_lee, nl_eq, nl_leq, nl_ee, nl_div, nl_rem, nl_cl, nl_n1, nl_n2, nl_n3, nl_n4, nl_add, nl_ladd, nl_aa, nl_mul, nl_rmul, nl_mm, pu_wi_1, pu_wi_2, bX11_image_0, bX11_image_9, bX11_image_11, bX11_image_33, a_ald, a_ar, a_ci, a_cv, a_dup, a_gr, a_iclt, a_iflt, a_ild, a_new, a_nn, a_push, a_wr, a_zret, fx_0_2 hx, fx_0_3 hx, sh_0, sh_5, sh_58, pu_rv, pu_as, Value.category, pu_bk, pu_kl, pu_qe0, pu_qe1, c1, c2, c3, q1, sb, m2]
    all_goals try simp [bX11_image_0, bX11_image_9, bX11_image_11, bX11_image_33, a_ald, a_ar, a_ci, a_cv, a_dup, a_gr, a_iclt, a_iflt, a_ild, a_new, a_nn, a_push, a_wr, a_zret, fx_0_2 hx, fx_0_3 hx, sh_0, sh_5, sh_58, pu_rv, pu_as, Value.category, pu_bk, pu_kl, List.replicate, pu_wi_1, pu_wi_2, nl_add, nl_ladd, nl_aa, nl_mul, nl_rmul, nl_mm, pu_qe0, pu_qe1, c1, c2, c3, q1, sb, m2]
    all_goals try simp (maxSteps := 400000) (disch := omega) [nl_tle, nl_fle, nl_tlt, nl_flt, nl_teq, nl_feq, nl_sub, nl_ss, nl_lt, nl_llt, nl_ltt, nl_le, nl_lle, nl_lee, nl_eq, nl_leq, nl_ee, nl_div, nl_rem, nl_cl, nl_n1, nl_n2, nl_n3, nl_n4, nl_add, nl_ladd, nl_aa, nl_mul, nl_rmul, nl_mm, pu_wi_1, pu_wi_2, bX11_image_0, bX11_image_9, bX11_image_11, bX11_image_33, a_ald, a_ar, a_ci, a_cv, a_dup, a_gr, a_iclt, a_iflt, a_ild, a_new, a_nn, a_push, a_wr, a_zret, fx_0_2 hx, fx_0_3 hx, sh_0, sh_5, sh_58, pu_rv, pu_as, Value.category, pu_bk, pu_kl, pu_qe0, pu_qe1, c1, c2, c3, q1, sb, m2]
