/-! door -/
def pz_iw (w : Int32) : Prop := ∃ v, w = nI v ∧ 16 ≤ v ∧ v ≤ 159993 ∧ v % 16 ≤ 9
theorem nI_ge2 {v n : Nat} (h : v < 2147483648) (h1 : n ≤ v) : ¬ nI v < nI n := by
  rw [nl_ltt v n h (by omega)]
  omega
theorem pz_iw0 {w : Int32} (h : w < 16) : ¬ pz_iw w := by
  rintro ⟨v, rfl, h1, h2, h3⟩
  exact absurd h (nI_ge2 (by omega) h1)
theorem pz_iw1 {w : Int32} (h : ¬ w < 16) : ∃ v, w = nI v ∧ 16 ≤ v ∧ v < 2147483648 := by
  have h2 : (16 : Int32).toInt ≤ w.toInt := Int32.le_iff_toInt_le.mp (Int32.not_lt.mp h)
  have h3 : (16 : Int32).toInt = 16 := by decide
  have h4 := Int32.toInt_lt w
  have h5 := pu_nnT (x := w) (by omega)
  exact ⟨w.toNatClampNeg, pu_nn0 (by omega), by omega, by omega⟩
theorem c_isWhole (w : Int32) (M : pu_M) : pu_r 59 [some (.int w)] [] M = some (some (.int (pu_q (pz_iw w))), M) := by
  by_cases c : w < 16
  · rw [pu_q0 (pz_iw0 c)]
    have c2 : ¬ 16 ≤ w := Int32.not_le.mpr c
    rw [qX11_isWhole]
    simp [a_ent, bX11_isWhole_0, bX11_isWhole_29, bX11_isWhole_30, a_icgt, a_iclt, a_idiv, a_ild, a_irem, a_push, a_zret, pu_rv, pu_as, Value.category, pu_bk, pu_kl, List.replicate, pu_wi_1, pu_wi_2, nl_add, nl_ladd, nl_aa, nl_mul, nl_rmul, nl_mm, pu_qe0, pu_qe1, c, c2]
    all_goals try simp (maxSteps := 400000) (disch := omega) [nl_tle, nl_fle, nl_tlt, nl_flt, nl_teq, nl_feq, nl_sub, nl_ss, nl_lt, nl_llt, nl_ltt, nl_le, nl_lle, nl_lee, nl_eq, nl_leq, nl_ee, nl_div, nl_rem, nl_cl, nl_n1, nl_n2, nl_n3, nl_n4, nl_add, nl_ladd, nl_aa, nl_mul, nl_rmul, nl_mm, pu_wi_1, pu_wi_2, bX11_isWhole_0, bX11_isWhole_29, bX11_isWhole_30, a_icgt, a_iclt, a_idiv, a_ild, a_irem, a_push, a_zret, pu_rv, pu_as, Value.category, pu_bk, pu_kl, pu_qe0, pu_qe1, c, c2]
    all_goals try simp [bX11_isWhole_0, bX11_isWhole_29, bX11_isWhole_30, a_icgt, a_iclt, a_idiv, a_ild, a_irem, a_push, a_zret, pu_rv, pu_as, Value.category, pu_bk, pu_kl, List.replicate, pu_wi_1, pu_wi_2, nl_add, nl_ladd, nl_aa, nl_mul, nl_rmul, nl_mm, pu_qe0, pu_qe1, c, c2]
    all_goals try simp (maxSteps := 400000) (disch := omega) [nl_tle, nl_fle, nl_tlt, nl_flt, nl_teq, nl_feq, nl_sub, nl_ss, nl_lt, nl_llt, nl_ltt, nl_le, nl_lle, nl_lee, nl_eq, nl_leq, nl_ee, nl_div, nl_rem, nl_cl, nl_n1, nl_n2, nl_n3, nl_n4, nl_add, nl_ladd, nl_aa, nl_mul, nl_rmul, nl_mm, pu_wi_1, pu_wi_2, bX11_isWhole_0, bX11_isWhole_29, bX11_isWhole_30, a_icgt, a_iclt, a_idiv, a_ild, a_irem, a_push, a_zret, pu_rv, pu_as, Value.category, pu_bk, pu_kl, pu_qe0, pu_qe1, c, c2]
  · have c2 : 16 ≤ w := Int32.not_lt.mp c
    obtain ⟨v, rfl, h1, h2⟩ := pz_iw1 c
    have dv : nI v / 16 = nI (v / 16) := pk_div (d := 16) (by omega) (by omega) (by omega)
    have rm : nI v - nI (v / 16) * 16 = nI (v % 16) := by
      rw [← dv]
      exact pk_rem (d := 16) (by omega) (by omega) (by omega)
    have e : pz_iw (nI v) = (v / 16 ≤ 9999 ∧ v % 16 ≤ 9) := by
      apply propext
      constructor
      · rintro ⟨u, e, g1, g2, g3⟩
        rw [nI_eq (by omega) (by omega)] at e
        subst e
        omega
      · rintro ⟨g1, g2⟩
        exact ⟨v, rfl, h1, by omega, g2⟩
    rw [e]
    by_cases d1 : v / 16 ≤ 9999
    · by_cases d2 : v % 16 ≤ 9
      · rw [pu_q1 ⟨d1, d2⟩]
        rw [qX11_isWhole]
        simp [a_ent, bX11_isWhole_0, bX11_isWhole_29, bX11_isWhole_30, a_icgt, a_iclt, a_idiv, a_ild, a_irem, a_push, a_zret, pu_rv, pu_as, Value.category, pu_bk, pu_kl, List.replicate, pu_wi_1, pu_wi_2, nl_add, nl_ladd, nl_aa, nl_mul, nl_rmul, nl_mm, pu_qe0, pu_qe1, c, c2, dv, rm, d1, d2]
        all_goals try simp (maxSteps := 400000) (disch := omega) [nl_tle, nl_fle, nl_tlt, nl_flt, nl_teq, nl_feq, nl_sub, nl_ss, nl_lt, nl_llt, nl_ltt, nl_le, nl_lle, nl_lee, nl_eq, nl_leq, nl_ee, nl_div, nl_rem, nl_cl, nl_n1, nl_n2, nl_n3, nl_n4, nl_add, nl_ladd, nl_aa, nl_mul, nl_rmul, nl_mm, pu_wi_1, pu_wi_2, bX11_isWhole_0, bX11_isWhole_29, bX11_isWhole_30, a_icgt, a_iclt, a_idiv, a_ild, a_irem, a_push, a_zret, pu_rv, pu_as, Value.category, pu_bk, pu_kl, pu_qe0, pu_qe1, c, c2, dv, rm, d1, d2]
        all_goals try simp [bX11_isWhole_0, bX11_isWhole_29, bX11_isWhole_30, a_icgt, a_iclt, a_idiv, a_ild, a_irem, a_push, a_zret, pu_rv, pu_as, Value.category, pu_bk, pu_kl, List.replicate, pu_wi_1, pu_wi_2, nl_add, nl_ladd, nl_aa, nl_mul, nl_rmul, nl_mm, pu_qe0, pu_qe1, c, c2, dv, rm, d1, d2]
        all_goals try simp (maxSteps := 400000) (disch := omega) [nl_tle, nl_fle, nl_tlt, nl_flt, nl_teq, nl_feq, nl_sub, nl_ss, nl_lt, nl_llt, nl_ltt, nl_le, nl_lle, nl_lee, nl_eq, nl_leq, nl_ee, nl_div, nl_rem, nl_cl, nl_n1, nl_n2, nl_n3, nl_n4, nl_add, nl_ladd, nl_aa, nl_mul, nl_rmul, nl_mm, pu_wi_1, pu_wi_2, bX11_isWhole_0, bX11_isWhole_29, bX11_isWhole_30, a_icgt, a_iclt, a_idiv, a_ild, a_irem, a_push, a_zret, pu_rv, pu_as, Value.category, pu_bk, pu_kl, pu_qe0, pu_qe1, c, c2, dv, rm, d1, d2]
      · rw [pu_q0 (fun z => d2 z.2)]
        rw [qX11_isWhole]
        simp [a_ent, bX11_isWhole_0, bX11_isWhole_29, bX11_isWhole_30, a_icgt, a_iclt, a_idiv, a_ild, a_irem, a_push, a_zret, pu_rv, pu_as, Value.category, pu_bk, pu_kl, List.replicate, pu_wi_1, pu_wi_2, nl_add, nl_ladd, nl_aa, nl_mul, nl_rmul, nl_mm, pu_qe0, pu_qe1, c, c2, dv, rm, d1, d2]
        all_goals try simp (maxSteps := 400000) (disch := omega) [nl_tle, nl_fle, nl_tlt, nl_flt, nl_teq, nl_feq, nl_sub, nl_ss, nl_lt, nl_llt, nl_ltt, nl_le, nl_lle, nl_lee, nl_eq, nl_leq, nl_ee, nl_div, nl_rem, nl_cl, nl_n1, nl_n2, nl_n3, nl_n4, nl_add, nl_ladd, nl_aa, nl_mul, nl_rmul, nl_mm, pu_wi_1, pu_wi_2, bX11_isWhole_0, bX11_isWhole_29, bX11_isWhole_30, a_icgt, a_iclt, a_idiv, a_ild, a_irem, a_push, a_zret, pu_rv, pu_as, Value.category, pu_bk, pu_kl, pu_qe0, pu_qe1, c, c2, dv, rm, d1, d2]
        all_goals try simp [bX11_isWhole_0, bX11_isWhole_29, bX11_isWhole_30, a_icgt, a_iclt, a_idiv, a_ild, a_irem, a_push, a_zret, pu_rv, pu_as, Value.category, pu_bk, pu_kl, List.replicate, pu_wi_1, pu_wi_2, nl_add, nl_ladd, nl_aa, nl_mul, nl_rmul, nl_mm, pu_qe0, pu_qe1, c, c2, dv, rm, d1, d2]
        all_goals try simp (maxSteps := 400000) (disch := omega) [nl_tle, nl_fle, nl_tlt, nl_flt, nl_teq, nl_feq, nl_sub, nl_ss, nl_lt, nl_llt, nl_ltt, nl_le, nl_lle, nl_lee, nl_eq, nl_leq, nl_ee, nl_div, nl_rem, nl_cl, nl_n1, nl_n2, nl_n3, nl_n4, nl_add, nl_ladd, nl_aa, nl_mul, nl_rmul, nl_mm, pu_wi_1, pu_wi_2, bX11_isWhole_0, bX11_isWhole_29, bX11_isWhole_30, a_icgt, a_iclt, a_idiv, a_ild, a_irem, a_push, a_zret, pu_rv, pu_as, Value.category, pu_bk, pu_kl, pu_qe0, pu_qe1, c, c2, dv, rm, d1, d2]
    · rw [pu_q0 (fun z => d1 z.1)]
      rw [qX11_isWhole]
      simp [a_ent, bX11_isWhole_0, bX11_isWhole_29, bX11_isWhole_30, a_icgt, a_iclt, a_idiv, a_ild, a_irem, a_push, a_zret, pu_rv, pu_as, Value.category, pu_bk, pu_kl, List.replicate, pu_wi_1, pu_wi_2, nl_add, nl_ladd, nl_aa, nl_mul, nl_rmul, nl_mm, pu_qe0, pu_qe1, c, c2, dv, rm, d1]
      all_goals try simp (maxSteps := 400000) (disch := omega) [nl_tle, nl_fle, nl_tlt, nl_flt, nl_teq, nl_feq, nl_sub, nl_ss, nl_lt, nl_llt, nl_ltt, nl_le, nl_lle, nl_lee, nl_eq, nl_leq, nl_ee, nl_div, nl_rem, nl_cl, nl_n1, nl_n2, nl_n3, nl_n4, nl_add, nl_ladd, nl_aa, nl_mul, nl_rmul, nl_mm, pu_wi_1, pu_wi_2, bX11_isWhole_0, bX11_isWhole_29, bX11_isWhole_30, a_icgt, a_iclt, a_idiv, a_ild, a_irem, a_push, a_zret, pu_rv, pu_as, Value.category, pu_bk, pu_kl, pu_qe0, pu_qe1, c, c2, dv, rm, d1]
      all_goals try simp [bX11_isWhole_0, bX11_isWhole_29, bX11_isWhole_30, a_icgt, a_iclt, a_idiv, a_ild, a_irem, a_push, a_zret, pu_rv, pu_as, Value.category, pu_bk, pu_kl, List.replicate, pu_wi_1, pu_wi_2, nl_add, nl_ladd, nl_aa, nl_mul, nl_rmul, nl_mm, pu_qe0, pu_qe1, c, c2, dv, rm, d1]
      all_goals try simp (maxSteps := 400000) (disch := omega) [nl_tle, nl_fle, nl_tlt, nl_flt, nl_teq, nl_feq, nl_sub, nl_ss, nl_lt, nl_llt, nl_ltt, nl_le, nl_lle, nl_lee, nl_eq, nl_leq, nl_ee, nl_div, nl_rem, nl_cl, nl_n1, nl_n2, nl_n3, nl_n4, nl_add, nl_ladd, nl_aa, nl_mul, nl_rmul, nl_mm, pu_wi_1, pu_wi_2, bX11_isWhole_0, bX11_isWhole_29, bX11_isWhole_30, a_icgt, a_iclt, a_idiv, a_ild, a_irem, a_push, a_zret, pu_rv, pu_as, Value.category, pu_bk, pu_kl, pu_qe0, pu_qe1, c, c2, dv, rm, d1]
theorem r_isWhole (w : Int32) (M : pu_M) : pu_r 263 [some (.int w)] [] M = some (some (.int (pu_q (pz_iw w))), M) := by
  by_cases c : w < 16
  · rw [pu_q0 (pz_iw0 c)]
    have c2 : ¬ 16 ≤ w := Int32.not_le.mpr c
    rw [qX12_isWhole]
    simp [a_ent, bX12_isWhole_0, bX12_isWhole_25, bX12_isWhole_26, a_icgt, a_iclt, a_ild, a_irem, a_push, a_zret, pu_rv, pu_as, Value.category, pu_bk, pu_kl, List.replicate, pu_wi_1, pu_wi_2, nl_add, nl_ladd, nl_aa, nl_mul, nl_rmul, nl_mm, pu_qe0, pu_qe1, c, c2]
    all_goals try simp (maxSteps := 400000) (disch := omega) [nl_tle, nl_fle, nl_tlt, nl_flt, nl_teq, nl_feq, nl_sub, nl_ss, nl_lt, nl_llt, nl_ltt, nl_le, nl_lle, nl_lee, nl_eq, nl_leq, nl_ee, nl_div, nl_rem, nl_cl, nl_n1, nl_n2, nl_n3, nl_n4, nl_add, nl_ladd, nl_aa, nl_mul, nl_rmul, nl_mm, pu_wi_1, pu_wi_2, bX12_isWhole_0, bX12_isWhole_25, bX12_isWhole_26, a_icgt, a_iclt, a_ild, a_irem, a_push, a_zret, pu_rv, pu_as, Value.category, pu_bk, pu_kl, pu_qe0, pu_qe1, c, c2]
    all_goals try simp [bX12_isWhole_0, bX12_isWhole_25, bX12_isWhole_26, a_icgt, a_iclt, a_ild, a_irem, a_push, a_zret, pu_rv, pu_as, Value.category, pu_bk, pu_kl, List.replicate, pu_wi_1, pu_wi_2, nl_add, nl_ladd, nl_aa, nl_mul, nl_rmul, nl_mm, pu_qe0, pu_qe1, c, c2]
    all_goals try simp (maxSteps := 400000) (disch := omega) [nl_tle, nl_fle, nl_tlt, nl_flt, nl_teq, nl_feq, nl_sub, nl_ss, nl_lt, nl_llt, nl_ltt, nl_le, nl_lle, nl_lee, nl_eq, nl_leq, nl_ee, nl_div, nl_rem, nl_cl, nl_n1, nl_n2, nl_n3, nl_n4, nl_add, nl_ladd, nl_aa, nl_mul, nl_rmul, nl_mm, pu_wi_1, pu_wi_2, bX12_isWhole_0, bX12_isWhole_25, bX12_isWhole_26, a_icgt, a_iclt, a_ild, a_irem, a_push, a_zret, pu_rv, pu_as, Value.category, pu_bk, pu_kl, pu_qe0, pu_qe1, c, c2]
  · have c2 : 16 ≤ w := Int32.not_lt.mp c
    obtain ⟨v, rfl, h1, h2⟩ := pz_iw1 c
    have dv : nI v / 16 = nI (v / 16) := pk_div (d := 16) (by omega) (by omega) (by omega)
    have rm : nI v - nI (v / 16) * 16 = nI (v % 16) := by
      rw [← dv]
      exact pk_rem (d := 16) (by omega) (by omega) (by omega)
    have e : pz_iw (nI v) = (v ≤ 159993 ∧ v % 16 ≤ 9) := by
      apply propext
      constructor
      · rintro ⟨u, e, g1, g2, g3⟩
        rw [nI_eq (by omega) (by omega)] at e
        subst e
        omega
      · rintro ⟨g1, g2⟩
        exact ⟨v, rfl, h1, by omega, g2⟩
    rw [e]
    by_cases d1 : v ≤ 159993
    · by_cases d2 : v % 16 ≤ 9
      · rw [pu_q1 ⟨d1, d2⟩]
        rw [qX12_isWhole]
        simp [a_ent, bX12_isWhole_0, bX12_isWhole_25, bX12_isWhole_26, a_icgt, a_iclt, a_ild, a_irem, a_push, a_zret, pu_rv, pu_as, Value.category, pu_bk, pu_kl, List.replicate, pu_wi_1, pu_wi_2, nl_add, nl_ladd, nl_aa, nl_mul, nl_rmul, nl_mm, pu_qe0, pu_qe1, c, c2, dv, rm, d1, d2]
        all_goals try simp (maxSteps := 400000) (disch := omega) [nl_tle, nl_fle, nl_tlt, nl_flt, nl_teq, nl_feq, nl_sub, nl_ss, nl_lt, nl_llt, nl_ltt, nl_le, nl_lle, nl_lee, nl_eq, nl_leq, nl_ee, nl_div, nl_rem, nl_cl, nl_n1, nl_n2, nl_n3, nl_n4, nl_add, nl_ladd, nl_aa, nl_mul, nl_rmul, nl_mm, pu_wi_1, pu_wi_2, bX12_isWhole_0, bX12_isWhole_25, bX12_isWhole_26, a_icgt, a_iclt, a_ild, a_irem, a_push, a_zret, pu_rv, pu_as, Value.category, pu_bk, pu_kl, pu_qe0, pu_qe1, c, c2, dv, rm, d1, d2]
        all_goals try simp [bX12_isWhole_0, bX12_isWhole_25, bX12_isWhole_26, a_icgt, a_iclt, a_ild, a_irem, a_push, a_zret, pu_rv, pu_as, Value.category, pu_bk, pu_kl, List.replicate, pu_wi_1, pu_wi_2, nl_add, nl_ladd, nl_aa, nl_mul, nl_rmul, nl_mm, pu_qe0, pu_qe1, c, c2, dv, rm, d1, d2]
        all_goals try simp (maxSteps := 400000) (disch := omega) [nl_tle, nl_fle, nl_tlt, nl_flt, nl_teq, nl_feq, nl_sub, nl_ss, nl_lt, nl_llt, nl_ltt, nl_le, nl_lle, nl_lee, nl_eq, nl_leq, nl_ee, nl_div, nl_rem, nl_cl, nl_n1, nl_n2, nl_n3, nl_n4, nl_add, nl_ladd, nl_aa, nl_mul, nl_rmul, nl_mm, pu_wi_1, pu_wi_2, bX12_isWhole_0, bX12_isWhole_25, bX12_isWhole_26, a_icgt, a_iclt, a_ild, a_irem, a_push, a_zret, pu_rv, pu_as, Value.category, pu_bk, pu_kl, pu_qe0, pu_qe1, c, c2, dv, rm, d1, d2]
      · rw [pu_q0 (fun z => d2 z.2)]
        rw [qX12_isWhole]
        simp [a_ent, bX12_isWhole_0, bX12_isWhole_25, bX12_isWhole_26, a_icgt, a_iclt, a_ild, a_irem, a_push, a_zret, pu_rv, pu_as, Value.category, pu_bk, pu_kl, List.replicate, pu_wi_1, pu_wi_2, nl_add, nl_ladd, nl_aa, nl_mul, nl_rmul, nl_mm, pu_qe0, pu_qe1, c, c2, dv, rm, d1, d2]
        all_goals try simp (maxSteps := 400000) (disch := omega) [nl_tle, nl_fle, nl_tlt, nl_flt, nl_teq, nl_feq, nl_sub, nl_ss, nl_lt, nl_llt, nl_ltt, nl_le, nl_lle, nl_lee, nl_eq, nl_leq, nl_ee, nl_div, nl_rem, nl_cl, nl_n1, nl_n2, nl_n3, nl_n4, nl_add, nl_ladd, nl_aa, nl_mul, nl_rmul, nl_mm, pu_wi_1, pu_wi_2, bX12_isWhole_0, bX12_isWhole_25, bX12_isWhole_26, a_icgt, a_iclt, a_ild, a_irem, a_push, a_zret, pu_rv, pu_as, Value.category, pu_bk, pu_kl, pu_qe0, pu_qe1, c, c2, dv, rm, d1, d2]
        all_goals try simp [bX12_isWhole_0, bX12_isWhole_25, bX12_isWhole_26, a_icgt, a_iclt, a_ild, a_irem, a_push, a_zret, pu_rv, pu_as, Value.category, pu_bk, pu_kl, List.replicate, pu_wi_1, pu_wi_2, nl_add, nl_ladd, nl_aa, nl_mul, nl_rmul, nl_mm, pu_qe0, pu_qe1, c, c2, dv, rm, d1, d2]
        all_goals try simp (maxSteps := 400000) (disch := omega) [nl_tle, nl_fle, nl_tlt, nl_flt, nl_teq, nl_feq, nl_sub, nl_ss, nl_lt, nl_llt, nl_ltt, nl_le, nl_lle, nl_lee, nl_eq, nl_leq, nl_ee, nl_div, nl_rem, nl_cl, nl_n1, nl_n2, nl_n3, nl_n4, nl_add, nl_ladd, nl_aa, nl_mul, nl_rmul, nl_mm, pu_wi_1, pu_wi_2, bX12_isWhole_0, bX12_isWhole_25, bX12_isWhole_26, a_icgt, a_iclt, a_ild, a_irem, a_push, a_zret, pu_rv, pu_as, Value.category, pu_bk, pu_kl, pu_qe0, pu_qe1, c, c2, dv, rm, d1, d2]
    · rw [pu_q0 (fun z => d1 z.1)]
      rw [qX12_isWhole]
      simp [a_ent, bX12_isWhole_0, bX12_isWhole_25, bX12_isWhole_26, a_icgt, a_iclt, a_ild, a_irem, a_push, a_zret, pu_rv, pu_as, Value.category, pu_bk, pu_kl, List.replicate, pu_wi_1, pu_wi_2, nl_add, nl_ladd, nl_aa, nl_mul, nl_rmul, nl_mm, pu_qe0, pu_qe1, c, c2, dv, rm, d1]
      all_goals try simp (maxSteps := 400000) (disch := omega) [nl_tle, nl_fle, nl_tlt, nl_flt, nl_teq, nl_feq, nl_sub, nl_ss, nl_lt, nl_llt, nl_ltt, nl_le, nl_lle, nl_lee, nl_eq, nl_leq, nl_ee, nl_div, nl_rem, nl_cl, nl_n1, nl_n2, nl_n3, nl_n4, nl_add, nl_ladd, nl_aa, nl_mul, nl_rmul, nl_mm, pu_wi_1, pu_wi_2, bX12_isWhole_0, bX12_isWhole_25, bX12_isWhole_26, a_icgt, a_iclt, a_ild, a_irem, a_push, a_zret, pu_rv, pu_as, Value.category, pu_bk, pu_kl, pu_qe0, pu_qe1, c, c2, dv, rm, d1]
      all_goals try simp [bX12_isWhole_0, bX12_isWhole_25, bX12_isWhole_26, a_icgt, a_iclt, a_ild, a_irem, a_push, a_zret, pu_rv, pu_as, Value.category, pu_bk, pu_kl, List.replicate, pu_wi_1, pu_wi_2, nl_add, nl_ladd, nl_aa, nl_mul, nl_rmul, nl_mm, pu_qe0, pu_qe1, c, c2, dv, rm, d1]
      all_goals try simp (maxSteps := 400000) (disch := omega) [nl_tle, nl_fle, nl_tlt, nl_flt, nl_teq, nl_feq, nl_sub, nl_ss, nl_lt, nl_llt, nl_ltt, nl_le, nl_lle, nl_lee, nl_eq, nl_leq, nl_ee, nl_div, nl_rem, nl_cl, nl_n1, nl_n2, nl_n3, nl_n4, nl_add, nl_ladd, nl_aa, nl_mul, nl_rmul, nl_mm, pu_wi_1, pu_wi_2, bX12_isWhole_0, bX12_isWhole_25, bX12_isWhole_26, a_icgt, a_iclt, a_ild, a_irem, a_push, a_zret, pu_rv, pu_as, Value.category, pu_bk, pu_kl, pu_qe0, pu_qe1, c, c2, dv, rm, d1]
theorem c_isWOL (w : Int32) (M : pu_M) : pu_r 60 [some (.int w)] [] M = some (some (.int (pu_q (w = 0 ∨ pz_iw w))), M) := by
  have e := c_isWhole w M
  by_cases c : w = 0
  · rw [pu_q1 (Or.inl c)]
    rw [qX11_isWholeOrLeast]
    simp [a_ent, bX11_isWholeOrLeast_0, bX11_isWholeOrLeast_11, bX11_isWholeOrLeast_16, bX11_isWholeOrLeast_15, a_cs, a_ifeq, a_ild, a_push, a_zret, pu_rv, pu_as, Value.category, pu_bk, pu_kl, List.replicate, pu_wi_1, pu_wi_2, nl_add, nl_ladd, nl_aa, nl_mul, nl_rmul, nl_mm, pu_qe0, pu_qe1, c]
    all_goals try simp (maxSteps := 400000) (disch := omega) [nl_tle, nl_fle, nl_tlt, nl_flt, nl_teq, nl_feq, nl_sub, nl_ss, nl_lt, nl_llt, nl_ltt, nl_le, nl_lle, nl_lee, nl_eq, nl_leq, nl_ee, nl_div, nl_rem, nl_cl, nl_n1, nl_n2, nl_n3, nl_n4, nl_add, nl_ladd, nl_aa, nl_mul, nl_rmul, nl_mm, pu_wi_1, pu_wi_2, bX11_isWholeOrLeast_0, bX11_isWholeOrLeast_11, bX11_isWholeOrLeast_16, bX11_isWholeOrLeast_15, a_cs, a_ifeq, a_ild, a_push, a_zret, pu_rv, pu_as, Value.category, pu_bk, pu_kl, pu_qe0, pu_qe1, c]
    all_goals try simp [bX11_isWholeOrLeast_0, bX11_isWholeOrLeast_11, bX11_isWholeOrLeast_16, bX11_isWholeOrLeast_15, a_cs, a_ifeq, a_ild, a_push, a_zret, pu_rv, pu_as, Value.category, pu_bk, pu_kl, List.replicate, pu_wi_1, pu_wi_2, nl_add, nl_ladd, nl_aa, nl_mul, nl_rmul, nl_mm, pu_qe0, pu_qe1, c]
    all_goals try simp (maxSteps := 400000) (disch := omega) [nl_tle, nl_fle, nl_tlt, nl_flt, nl_teq, nl_feq, nl_sub, nl_ss, nl_lt, nl_llt, nl_ltt, nl_le, nl_lle, nl_lee, nl_eq, nl_leq, nl_ee, nl_div, nl_rem, nl_cl, nl_n1, nl_n2, nl_n3, nl_n4, nl_add, nl_ladd, nl_aa, nl_mul, nl_rmul, nl_mm, pu_wi_1, pu_wi_2, bX11_isWholeOrLeast_0, bX11_isWholeOrLeast_11, bX11_isWholeOrLeast_16, bX11_isWholeOrLeast_15, a_cs, a_ifeq, a_ild, a_push, a_zret, pu_rv, pu_as, Value.category, pu_bk, pu_kl, pu_qe0, pu_qe1, c]
  · by_cases d : pz_iw w
    · rw [pu_q1 (Or.inr d)]
      rw [pu_q1 d] at e
      rw [qX11_isWholeOrLeast]
      simp [a_ent, bX11_isWholeOrLeast_0, bX11_isWholeOrLeast_11, bX11_isWholeOrLeast_16, bX11_isWholeOrLeast_15, a_cs, a_ifeq, a_ild, a_push, a_zret, pu_rv, pu_as, Value.category, pu_bk, pu_kl, List.replicate, pu_wi_1, pu_wi_2, nl_add, nl_ladd, nl_aa, nl_mul, nl_rmul, nl_mm, pu_qe0, pu_qe1, c, e]
      all_goals try simp (maxSteps := 400000) (disch := omega) [nl_tle, nl_fle, nl_tlt, nl_flt, nl_teq, nl_feq, nl_sub, nl_ss, nl_lt, nl_llt, nl_ltt, nl_le, nl_lle, nl_lee, nl_eq, nl_leq, nl_ee, nl_div, nl_rem, nl_cl, nl_n1, nl_n2, nl_n3, nl_n4, nl_add, nl_ladd, nl_aa, nl_mul, nl_rmul, nl_mm, pu_wi_1, pu_wi_2, bX11_isWholeOrLeast_0, bX11_isWholeOrLeast_11, bX11_isWholeOrLeast_16, bX11_isWholeOrLeast_15, a_cs, a_ifeq, a_ild, a_push, a_zret, pu_rv, pu_as, Value.category, pu_bk, pu_kl, pu_qe0, pu_qe1, c, e]
      all_goals try simp [bX11_isWholeOrLeast_0, bX11_isWholeOrLeast_11, bX11_isWholeOrLeast_16, bX11_isWholeOrLeast_15, a_cs, a_ifeq, a_ild, a_push, a_zret, pu_rv, pu_as, Value.category, pu_bk, pu_kl, List.replicate, pu_wi_1, pu_wi_2, nl_add, nl_ladd, nl_aa, nl_mul, nl_rmul, nl_mm, pu_qe0, pu_qe1, c, e]
      all_goals try simp (maxSteps := 400000) (disch := omega) [nl_tle, nl_fle, nl_tlt, nl_flt, nl_teq, nl_feq, nl_sub, nl_ss, nl_lt, nl_llt, nl_ltt, nl_le, nl_lle, nl_lee, nl_eq, nl_leq, nl_ee, nl_div, nl_rem, nl_cl, nl_n1, nl_n2, nl_n3, nl_n4, nl_add, nl_ladd, nl_aa, nl_mul, nl_rmul, nl_mm, pu_wi_1, pu_wi_2, bX11_isWholeOrLeast_0, bX11_isWholeOrLeast_11, bX11_isWholeOrLeast_16, bX11_isWholeOrLeast_15, a_cs, a_ifeq, a_ild, a_push, a_zret, pu_rv, pu_as, Value.category, pu_bk, pu_kl, pu_qe0, pu_qe1, c, e]
    · rw [pu_q0 (fun z => z.elim c d)]
      rw [pu_q0 d] at e
      rw [qX11_isWholeOrLeast]
      simp [a_ent, bX11_isWholeOrLeast_0, bX11_isWholeOrLeast_11, bX11_isWholeOrLeast_16, bX11_isWholeOrLeast_15, a_cs, a_ifeq, a_ild, a_push, a_zret, pu_rv, pu_as, Value.category, pu_bk, pu_kl, List.replicate, pu_wi_1, pu_wi_2, nl_add, nl_ladd, nl_aa, nl_mul, nl_rmul, nl_mm, pu_qe0, pu_qe1, c, e]
      all_goals try simp (maxSteps := 400000) (disch := omega) [nl_tle, nl_fle, nl_tlt, nl_flt, nl_teq, nl_feq, nl_sub, nl_ss, nl_lt, nl_llt, nl_ltt, nl_le, nl_lle, nl_lee, nl_eq, nl_leq, nl_ee, nl_div, nl_rem, nl_cl, nl_n1, nl_n2, nl_n3, nl_n4, nl_add, nl_ladd, nl_aa, nl_mul, nl_rmul, nl_mm, pu_wi_1, pu_wi_2, bX11_isWholeOrLeast_0, bX11_isWholeOrLeast_11, bX11_isWholeOrLeast_16, bX11_isWholeOrLeast_15, a_cs, a_ifeq, a_ild, a_push, a_zret, pu_rv, pu_as, Value.category, pu_bk, pu_kl, pu_qe0, pu_qe1, c, e]
      all_goals try simp [bX11_isWholeOrLeast_0, bX11_isWholeOrLeast_11, bX11_isWholeOrLeast_16, bX11_isWholeOrLeast_15, a_cs, a_ifeq, a_ild, a_push, a_zret, pu_rv, pu_as, Value.category, pu_bk, pu_kl, List.replicate, pu_wi_1, pu_wi_2, nl_add, nl_ladd, nl_aa, nl_mul, nl_rmul, nl_mm, pu_qe0, pu_qe1, c, e]
      all_goals try simp (maxSteps := 400000) (disch := omega) [nl_tle, nl_fle, nl_tlt, nl_flt, nl_teq, nl_feq, nl_sub, nl_ss, nl_lt, nl_llt, nl_ltt, nl_le, nl_lle, nl_lee, nl_eq, nl_leq, nl_ee, nl_div, nl_rem, nl_cl, nl_n1, nl_n2, nl_n3, nl_n4, nl_add, nl_ladd, nl_aa, nl_mul, nl_rmul, nl_mm, pu_wi_1, pu_wi_2, bX11_isWholeOrLeast_0, bX11_isWholeOrLeast_11, bX11_isWholeOrLeast_16, bX11_isWholeOrLeast_15, a_cs, a_ifeq, a_ild, a_push, a_zret, pu_rv, pu_as, Value.category, pu_bk, pu_kl, pu_qe0, pu_qe1, c, e]
theorem c_hasRoom {M : pu_M} (hx : pu_fx M) (P : Nat) (hP : M.1 6 2 = nI P) (h1 : P ≤ 200) : pu_r 51 [some (.ref 6)] [] M = some (some (.int (pu_q (P < 200))), M) := by
  by_cases c : P < 200
  · rw [pu_q1 c]
    rw [qX6_hasRoom]
    simp [a_ent, bX6_hasRoom_0, bX6_hasRoom_14, bX6_hasRoom_15, a_ald, a_gi, a_icge, a_push, a_zret, sh_6, pu_rv, pu_as, Value.category, pu_bk, pu_kl, List.replicate, pu_wi_1, pu_wi_2, nl_add, nl_ladd, nl_aa, nl_mul, nl_rmul, nl_mm, pu_qe0, pu_qe1, hP]
    all_goals try simp (maxSteps := 400000) (disch := omega) [nl_tle, nl_fle, nl_tlt, nl_flt, nl_teq, nl_feq, nl_sub, nl_ss, nl_lt, nl_llt, nl_ltt, nl_le, nl_lle, nl_lee, nl_eq, nl_leq, nl_ee, nl_div, nl_rem, nl_cl, nl_n1, nl_n2, nl_n3, nl_n4, nl_add, nl_ladd, nl_aa, nl_mul, nl_rmul, nl_mm, pu_wi_1, pu_wi_2, bX6_hasRoom_0, bX6_hasRoom_14, bX6_hasRoom_15, a_ald, a_gi, a_icge, a_push, a_zret, sh_6, pu_rv, pu_as, Value.category, pu_bk, pu_kl, pu_qe0, pu_qe1, hP]
    all_goals try simp [bX6_hasRoom_0, bX6_hasRoom_14, bX6_hasRoom_15, a_ald, a_gi, a_icge, a_push, a_zret, sh_6, pu_rv, pu_as, Value.category, pu_bk, pu_kl, List.replicate, pu_wi_1, pu_wi_2, nl_add, nl_ladd, nl_aa, nl_mul, nl_rmul, nl_mm, pu_qe0, pu_qe1, hP]
    all_goals try simp (maxSteps := 400000) (disch := omega) [nl_tle, nl_fle, nl_tlt, nl_flt, nl_teq, nl_feq, nl_sub, nl_ss, nl_lt, nl_llt, nl_ltt, nl_le, nl_lle, nl_lee, nl_eq, nl_leq, nl_ee, nl_div, nl_rem, nl_cl, nl_n1, nl_n2, nl_n3, nl_n4, nl_add, nl_ladd, nl_aa, nl_mul, nl_rmul, nl_mm, pu_wi_1, pu_wi_2, bX6_hasRoom_0, bX6_hasRoom_14, bX6_hasRoom_15, a_ald, a_gi, a_icge, a_push, a_zret, sh_6, pu_rv, pu_as, Value.category, pu_bk, pu_kl, pu_qe0, pu_qe1, hP]
  · rw [pu_q0 c]
    rw [qX6_hasRoom]
    simp [a_ent, bX6_hasRoom_0, bX6_hasRoom_14, bX6_hasRoom_15, a_ald, a_gi, a_icge, a_push, a_zret, sh_6, pu_rv, pu_as, Value.category, pu_bk, pu_kl, List.replicate, pu_wi_1, pu_wi_2, nl_add, nl_ladd, nl_aa, nl_mul, nl_rmul, nl_mm, pu_qe0, pu_qe1, hP]
    all_goals try simp (maxSteps := 400000) (disch := omega) [nl_tle, nl_fle, nl_tlt, nl_flt, nl_teq, nl_feq, nl_sub, nl_ss, nl_lt, nl_llt, nl_ltt, nl_le, nl_lle, nl_lee, nl_eq, nl_leq, nl_ee, nl_div, nl_rem, nl_cl, nl_n1, nl_n2, nl_n3, nl_n4, nl_add, nl_ladd, nl_aa, nl_mul, nl_rmul, nl_mm, pu_wi_1, pu_wi_2, bX6_hasRoom_0, bX6_hasRoom_14, bX6_hasRoom_15, a_ald, a_gi, a_icge, a_push, a_zret, sh_6, pu_rv, pu_as, Value.category, pu_bk, pu_kl, pu_qe0, pu_qe1, hP]
    all_goals try simp [bX6_hasRoom_0, bX6_hasRoom_14, bX6_hasRoom_15, a_ald, a_gi, a_icge, a_push, a_zret, sh_6, pu_rv, pu_as, Value.category, pu_bk, pu_kl, List.replicate, pu_wi_1, pu_wi_2, nl_add, nl_ladd, nl_aa, nl_mul, nl_rmul, nl_mm, pu_qe0, pu_qe1, hP]
    all_goals try simp (maxSteps := 400000) (disch := omega) [nl_tle, nl_fle, nl_tlt, nl_flt, nl_teq, nl_feq, nl_sub, nl_ss, nl_lt, nl_llt, nl_ltt, nl_le, nl_lle, nl_lee, nl_eq, nl_leq, nl_ee, nl_div, nl_rem, nl_cl, nl_n1, nl_n2, nl_n3, nl_n4, nl_add, nl_ladd, nl_aa, nl_mul, nl_rmul, nl_mm, pu_wi_1, pu_wi_2, bX6_hasRoom_0, bX6_hasRoom_14, bX6_hasRoom_15, a_ald, a_gi, a_icge, a_push, a_zret, sh_6, pu_rv, pu_as, Value.category, pu_bk, pu_kl, pu_qe0, pu_qe1, hP]
theorem c_roomN {M : pu_M} (hx : pu_fx M) (P n m : Nat) (hP : M.1 6 2 = nI P) (h1 : P ≤ 200) (hn : M.1 14 0 = nI n) (h2 : n ≤ 3000) (h3 : m ≤ 3000) : pu_r 84 [some (.ref 5), some (.int (nI m))] [] M = some (some (.int (pu_q (P < 200 ∧ n + m ≤ 3000))), M) := by
  have e := c_hasRoom hx P hP h1
  by_cases c : P < 200
  · rw [pu_q1 c] at e
    by_cases d : n + m ≤ 3000
    · rw [pu_q1 ⟨c, d⟩]
      rw [qX5_hasRoomForNumbers]
      simp [a_ent, bX5_hasRoomForNumbers_0, bX5_hasRoomForNumbers_29, bX5_hasRoomForNumbers_30, a_ald, a_cv, a_gi, a_gr, a_iadd, a_icgt, a_ifeq, a_ild, a_push, a_zret, fx_5_0 hx, fx_5_1 hx, sh_14, sh_5, sh_6, pu_rv, pu_as, Value.category, pu_bk, pu_kl, List.replicate, pu_wi_1, pu_wi_2, nl_add, nl_ladd, nl_aa, nl_mul, nl_rmul, nl_mm, pu_qe0, pu_qe1, e, hn, d]
      all_goals try simp (maxSteps := 400000) (disch := omega) [nl_tle, nl_fle, nl_tlt, nl_flt, nl_teq, nl_feq, nl_sub, nl_ss, nl_lt, nl_llt, nl_ltt, nl_le, nl_lle, nl_lee, nl_eq, nl_leq, nl_ee, nl_div, nl_rem, nl_cl, nl_n1, nl_n2, nl_n3, nl_n4, nl_add, nl_ladd, nl_aa, nl_mul, nl_rmul, nl_mm, pu_wi_1, pu_wi_2, bX5_hasRoomForNumbers_0, bX5_hasRoomForNumbers_29, bX5_hasRoomForNumbers_30, a_ald, a_cv, a_gi, a_gr, a_iadd, a_icgt, a_ifeq, a_ild, a_push, a_zret, fx_5_0 hx, fx_5_1 hx, sh_14, sh_5, sh_6, pu_rv, pu_as, Value.category, pu_bk, pu_kl, pu_qe0, pu_qe1, e, hn, d]
      all_goals try simp [bX5_hasRoomForNumbers_0, bX5_hasRoomForNumbers_29, bX5_hasRoomForNumbers_30, a_ald, a_cv, a_gi, a_gr, a_iadd, a_icgt, a_ifeq, a_ild, a_push, a_zret, fx_5_0 hx, fx_5_1 hx, sh_14, sh_5, sh_6, pu_rv, pu_as, Value.category, pu_bk, pu_kl, List.replicate, pu_wi_1, pu_wi_2, nl_add, nl_ladd, nl_aa, nl_mul, nl_rmul, nl_mm, pu_qe0, pu_qe1, e, hn, d]
      all_goals try simp (maxSteps := 400000) (disch := omega) [nl_tle, nl_fle, nl_tlt, nl_flt, nl_teq, nl_feq, nl_sub, nl_ss, nl_lt, nl_llt, nl_ltt, nl_le, nl_lle, nl_lee, nl_eq, nl_leq, nl_ee, nl_div, nl_rem, nl_cl, nl_n1, nl_n2, nl_n3, nl_n4, nl_add, nl_ladd, nl_aa, nl_mul, nl_rmul, nl_mm, pu_wi_1, pu_wi_2, bX5_hasRoomForNumbers_0, bX5_hasRoomForNumbers_29, bX5_hasRoomForNumbers_30, a_ald, a_cv, a_gi, a_gr, a_iadd, a_icgt, a_ifeq, a_ild, a_push, a_zret, fx_5_0 hx, fx_5_1 hx, sh_14, sh_5, sh_6, pu_rv, pu_as, Value.category, pu_bk, pu_kl, pu_qe0, pu_qe1, e, hn, d]
    · rw [pu_q0 (fun z => d z.2)]
      rw [qX5_hasRoomForNumbers]
      simp [a_ent, bX5_hasRoomForNumbers_0, bX5_hasRoomForNumbers_29, bX5_hasRoomForNumbers_30, a_ald, a_cv, a_gi, a_gr, a_iadd, a_icgt, a_ifeq, a_ild, a_push, a_zret, fx_5_0 hx, fx_5_1 hx, sh_14, sh_5, sh_6, pu_rv, pu_as, Value.category, pu_bk, pu_kl, List.replicate, pu_wi_1, pu_wi_2, nl_add, nl_ladd, nl_aa, nl_mul, nl_rmul, nl_mm, pu_qe0, pu_qe1, e, hn, d]
      all_goals try simp (maxSteps := 400000) (disch := omega) [nl_tle, nl_fle, nl_tlt, nl_flt, nl_teq, nl_feq, nl_sub, nl_ss, nl_lt, nl_llt, nl_ltt, nl_le, nl_lle, nl_lee, nl_eq, nl_leq, nl_ee, nl_div, nl_rem, nl_cl, nl_n1, nl_n2, nl_n3, nl_n4, nl_add, nl_ladd, nl_aa, nl_mul, nl_rmul, nl_mm, pu_wi_1, pu_wi_2, bX5_hasRoomForNumbers_0, bX5_hasRoomForNumbers_29, bX5_hasRoomForNumbers_30, a_ald, a_cv, a_gi, a_gr, a_iadd, a_icgt, a_ifeq, a_ild, a_push, a_zret, fx_5_0 hx, fx_5_1 hx, sh_14, sh_5, sh_6, pu_rv, pu_as, Value.category, pu_bk, pu_kl, pu_qe0, pu_qe1, e, hn, d]
      all_goals try simp [bX5_hasRoomForNumbers_0, bX5_hasRoomForNumbers_29, bX5_hasRoomForNumbers_30, a_ald, a_cv, a_gi, a_gr, a_iadd, a_icgt, a_ifeq, a_ild, a_push, a_zret, fx_5_0 hx, fx_5_1 hx, sh_14, sh_5, sh_6, pu_rv, pu_as, Value.category, pu_bk, pu_kl, List.replicate, pu_wi_1, pu_wi_2, nl_add, nl_ladd, nl_aa, nl_mul, nl_rmul, nl_mm, pu_qe0, pu_qe1, e, hn, d]
      all_goals try simp (maxSteps := 400000) (disch := omega) [nl_tle, nl_fle, nl_tlt, nl_flt, nl_teq, nl_feq, nl_sub, nl_ss, nl_lt, nl_llt, nl_ltt, nl_le, nl_lle, nl_lee, nl_eq, nl_leq, nl_ee, nl_div, nl_rem, nl_cl, nl_n1, nl_n2, nl_n3, nl_n4, nl_add, nl_ladd, nl_aa, nl_mul, nl_rmul, nl_mm, pu_wi_1, pu_wi_2, bX5_hasRoomForNumbers_0, bX5_hasRoomForNumbers_29, bX5_hasRoomForNumbers_30, a_ald, a_cv, a_gi, a_gr, a_iadd, a_icgt, a_ifeq, a_ild, a_push, a_zret, fx_5_0 hx, fx_5_1 hx, sh_14, sh_5, sh_6, pu_rv, pu_as, Value.category, pu_bk, pu_kl, pu_qe0, pu_qe1, e, hn, d]
  · rw [pu_q0 c] at e
    rw [pu_q0 (fun z => c z.1)]
    rw [qX5_hasRoomForNumbers]
    simp [a_ent, bX5_hasRoomForNumbers_0, bX5_hasRoomForNumbers_29, bX5_hasRoomForNumbers_30, a_ald, a_cv, a_gi, a_gr, a_iadd, a_icgt, a_ifeq, a_ild, a_push, a_zret, fx_5_0 hx, fx_5_1 hx, sh_14, sh_5, sh_6, pu_rv, pu_as, Value.category, pu_bk, pu_kl, List.replicate, pu_wi_1, pu_wi_2, nl_add, nl_ladd, nl_aa, nl_mul, nl_rmul, nl_mm, pu_qe0, pu_qe1, e]
    all_goals try simp (maxSteps := 400000) (disch := omega) [nl_tle, nl_fle, nl_tlt, nl_flt, nl_teq, nl_feq, nl_sub, nl_ss, nl_lt, nl_llt, nl_ltt, nl_le, nl_lle, nl_lee, nl_eq, nl_leq, nl_ee, nl_div, nl_rem, nl_cl, nl_n1, nl_n2, nl_n3, nl_n4, nl_add, nl_ladd, nl_aa, nl_mul, nl_rmul, nl_mm, pu_wi_1, pu_wi_2, bX5_hasRoomForNumbers_0, bX5_hasRoomForNumbers_29, bX5_hasRoomForNumbers_30, a_ald, a_cv, a_gi, a_gr, a_iadd, a_icgt, a_ifeq, a_ild, a_push, a_zret, fx_5_0 hx, fx_5_1 hx, sh_14, sh_5, sh_6, pu_rv, pu_as, Value.category, pu_bk, pu_kl, pu_qe0, pu_qe1, e]
    all_goals try simp [bX5_hasRoomForNumbers_0, bX5_hasRoomForNumbers_29, bX5_hasRoomForNumbers_30, a_ald, a_cv, a_gi, a_gr, a_iadd, a_icgt, a_ifeq, a_ild, a_push, a_zret, fx_5_0 hx, fx_5_1 hx, sh_14, sh_5, sh_6, pu_rv, pu_as, Value.category, pu_bk, pu_kl, List.replicate, pu_wi_1, pu_wi_2, nl_add, nl_ladd, nl_aa, nl_mul, nl_rmul, nl_mm, pu_qe0, pu_qe1, e]
    all_goals try simp (maxSteps := 400000) (disch := omega) [nl_tle, nl_fle, nl_tlt, nl_flt, nl_teq, nl_feq, nl_sub, nl_ss, nl_lt, nl_llt, nl_ltt, nl_le, nl_lle, nl_lee, nl_eq, nl_leq, nl_ee, nl_div, nl_rem, nl_cl, nl_n1, nl_n2, nl_n3, nl_n4, nl_add, nl_ladd, nl_aa, nl_mul, nl_rmul, nl_mm, pu_wi_1, pu_wi_2, bX5_hasRoomForNumbers_0, bX5_hasRoomForNumbers_29, bX5_hasRoomForNumbers_30, a_ald, a_cv, a_gi, a_gr, a_iadd, a_icgt, a_ifeq, a_ild, a_push, a_zret, fx_5_0 hx, fx_5_1 hx, sh_14, sh_5, sh_6, pu_rv, pu_as, Value.category, pu_bk, pu_kl, pu_qe0, pu_qe1, e]
section
variable {N : pu_M} {I : Nat → Nat → Int32} {L : Nat → Nat → Int64} {st : Nat}
theorem r_leastU (hx : pu_fx N) (hr : pu_Rel I L (N.1 72)) (hw : pu_WF I L) (hst : st < cK I) (s p v : Nat) (hs : s < 2) (hp : p < 10000) (hv : v < 200000) {be ah : Int} {lo hi : Nat} {r : Int32} (l1 : pz_lo I st s (pz_al (I 27 st).toInt s p) (2 * cD I) be (nI lo)) (i1 : pz_hi I st s (pz_al (I 27 st).toInt s p) (2 * cD I) ah (nI hi)) (x2 : lo < 160000) (y2 : hi ≤ 160000) (r1 : pz_ls I st s p lo hi v r) : pu_r 281 [some (.ref 71), some (.int (nI st)), some (.int (nI s)), some (.int (nI p)), some (.int (nI v))] [] N = some (some (.int r), pz_lh N (nI lo) (nI hi)) := by
  obtain ⟨be2, ah2, lo2, hi2, q, l12, i12, x22, y22, q1, q2⟩ := r_leastN hx hr hw hst s p v hs hp hv
  have el : lo = lo2 := by
    have := pz_lo_un hw l1 l12
    rw [nI_eq (by omega) (by omega)] at this
    exact this
  have eh : hi = hi2 := by
    have := pz_hi_un hw i1 i12
    rw [nI_eq (by omega) (by omega)] at this
    exact this
  subst el eh
  have er := pz_ls_un r1 q1
  subst er
  exact q2
theorem pz_ls_v {s p lo hi v : Nat} {r : Int32} (hy : hi ≤ 160000) (h : pz_ls I st s p lo hi v r) (hr : r ≠ -1) (hv : v = 0 ∨ 16 ≤ v) : ∃ u, r = nI u ∧ (u < 160000 ∧ 16 ≤ u) ∧ 0 < u ∧ ¬ pz_us I st (nI u) 0 := by
  rcases h with ⟨_, h⟩ | ⟨_, ⟨h1, h2⟩ | ⟨_, h2⟩⟩
  · rcases h with ⟨h, _⟩ | ⟨c, n, h1, h2, _⟩
    · exact absurd h hr
    · obtain ⟨a1, a2, a3, a4, a5, _, a6⟩ := h1
      exact ⟨16 * n + c, h2, by omega, by omega, a6⟩
  · obtain ⟨a4, a5, _, a6⟩ := h1
    exact ⟨v, h2, by omega, by omega, a6⟩
  · exact absurd h2 hr
theorem pz_ey_tc (hw : pu_WF I L) (hst : st < cK I) {tn y : Int32} (h : ¬ pu_ey I (nI st) tn y) : ∀ p, p < cP I → pu_tc I p (nI st) → (I 7 p).toInt ≤ y.toInt := by
  intro p hp ht
  have bK := wx_bK hw
  apply Int32.le_iff_toInt_le.mp
  apply Int32.not_lt.mp
  intro z
  refine h ⟨p, hp, Or.inl ⟨fun q => ?_, ht⟩, z⟩
  rw [nl_n1 st (by omega)] at q
  exact q
end
theorem pz_ly_2 (M : pu_M) (P : Nat) (t f a b : Int32) : (pz_ly M P t f a b).2 = M.2 := rfl
theorem py_rp_2 (M : pu_M) (P : Nat) (t f a b ta tb : Int32) : (py_rp M P t f a b ta tb).2 = M.2 := rfl
theorem pz_on_2 (M : pu_M) (n : Nat) (sl w p : Int32) : (pz_on M n sl w p).2 = M.2 := rfl
theorem pz_ro1_2 (M : pu_M) (n : Nat) (d w st v p : Int32) : (pz_ro1 M n d w st v p).2 = M.2 := rfl
theorem pz_sp_2 (M : pu_M) (j : Nat) (st sd pc : Int32) : (pz_sp M j st sd pc).2 = M.2 := rfl
theorem pz_ad_2 (M : pu_M) (d : Nat) (so ov fr k p : Int32) : (pz_ad M d so ov fr k p).2 = M.2 := rfl
theorem pz_rm1_2 (M : pu_M) (d : Nat) (so st sd pc k ov p : Int32) : (pz_rm1 M d so st sd pc k ov p).2 = M.2 := rfl
theorem py_lh_2 (M : pu_M) (lo hi : Int32) : (pz_lh M lo hi).2 = M.2 := rfl
theorem pz_fx_of {M N : pu_M} (hx : pu_fx M) (e : N.2 = M.2) : pu_fx N := fun a k r q => by
  rw [e]
  exact hx a k r q
theorem pz_dy {y : Int32} (h : ¬ y < 0 ∧ ¬ 109574 < y) : 0 ≤ y.toInt ∧ y.toInt ≤ 109574 := by
  have h1 := Int32.le_iff_toInt_le.mp (Int32.not_lt.mp h.1)
  have h2 := Int32.le_iff_toInt_le.mp (Int32.not_lt.mp h.2)
  have e1 : (0 : Int32).toInt = 0 := by decide
  have e2 : (109574 : Int32).toInt = 109574 := by decide
  omega
