/-! questions of the reference to a row that is being changed -/
def py_ro (M : pu_M) (n : Nat) (sl : Nat → Nat) : Prop := M.1 72 6 = nI n ∧ ∀ k, k < n → M.1 72 (10752 + 6 * k) = nI (sl k / 2) ∧ M.1 72 (10752 + 6 * k + 1) = nI (sl k % 2) ∧ sl k < 200
section
variable {M : pu_M}
theorem r_openSpanG_l (hx : pu_fx M) {n : Nat} {sl : Nat → Nat} (hn : n ≤ 3000) (ho : py_ro M n sl) {d w k : Nat} (hd : d < 100) (hw2 : w < 2) (hk : k < n) (hs : sl k = 2 * d + w) (hc : M.1 72 (10752 + 6 * k + 5) = -1) (hu : ∀ l, k < l → l < n → sl l = 2 * d + w → M.1 72 (10752 + 6 * l + 5) ≠ -1) : ∀ (i : Nat) (t : Option Value), k ≤ i → i < n → pu_r 457 [some (.ref 71), some (.int (nI d)), some (.int (nI w)), some (.int (nI i)), t] [] M = some (some (.int (nI k)), M) := by
  intro i
  induction i with
  | zero =>
    intro t h1 h2
    have e : k = 0 := by omega
    subst e
    obtain ⟨a0, a1, a2⟩ := ho.2 0 h2
    have c1 : sl 0 / 2 = d := by omega
    have c2 : sl 0 % 2 = w := by omega
    rw [qX12_openSpan_10]
    simp [bX12_openSpan_10, bX12_openSpan_69, bX12_openSpan_63, bX12_openSpan_52, a_ai, a_ald, a_gr, a_iadd, a_icne, a_iflt, a_ild, a_imul, a_inc, a_iret, a_ist, a_push, fx_71_0 hx, sh_71, sh_72, pu_rv, pu_as, Value.category, pu_bk, pu_kl, List.replicate, pu_wi_1, pu_wi_2, nl_add, nl_ladd, nl_aa, nl_mul, nl_rmul, nl_mm, pu_qe0, pu_qe1, a0, a1, hc, c1, c2]
    all_goals try simp (maxSteps := 400000) (disch := omega) [nl_tle, nl_fle, nl_tlt, nl_flt, nl_teq, nl_feq, nl_sub, nl_ss, nl_lt, nl_llt, nl_ltt, nl_le, nl_lle, nl_lee, nl_eq, nl_leq, nl_ee, nl_div, nl_rem, nl_cl, nl_n1, nl_n2, nl_n3, nl_n4, nl_add, nl_ladd, nl_aa, nl_mul, nl_rmul, nl_mm, pu_wi_1, pu_wi_2, bX12_openSpan_10, bX12_openSpan_69, bX12_openSpan_63, bX12_openSpan_52, a_ai, a_ald, a_gr, a_iadd, a_icne, a_iflt, a_ild, a_imul, a_inc, a_iret, a_ist, a_push, fx_71_0 hx, sh_71, sh_72, pu_rv, pu_as, Value.category, pu_bk, pu_kl, pu_qe0, pu_qe1, a0, a1, hc, c1, c2]
    all_goals try simp [bX12_openSpan_10, bX12_openSpan_69, bX12_openSpan_63, bX12_openSpan_52, a_ai, a_ald, a_gr, a_iadd, a_icne, a_iflt, a_ild, a_imul, a_inc, a_iret, a_ist, a_push, fx_71_0 hx, sh_71, sh_72, pu_rv, pu_as, Value.category, pu_bk, pu_kl, List.replicate, pu_wi_1, pu_wi_2, nl_add, nl_ladd, nl_aa, nl_mul, nl_rmul, nl_mm, pu_qe0, pu_qe1, a0, a1, hc, c1, c2]
    all_goals try simp (maxSteps := 400000) (disch := omega) [nl_tle, nl_fle, nl_tlt, nl_flt, nl_teq, nl_feq, nl_sub, nl_ss, nl_lt, nl_llt, nl_ltt, nl_le, nl_lle, nl_lee, nl_eq, nl_leq, nl_ee, nl_div, nl_rem, nl_cl, nl_n1, nl_n2, nl_n3, nl_n4, nl_add, nl_ladd, nl_aa, nl_mul, nl_rmul, nl_mm, pu_wi_1, pu_wi_2, bX12_openSpan_10, bX12_openSpan_69, bX12_openSpan_63, bX12_openSpan_52, a_ai, a_ald, a_gr, a_iadd, a_icne, a_iflt, a_ild, a_imul, a_inc, a_iret, a_ist, a_push, fx_71_0 hx, sh_71, sh_72, pu_rv, pu_as, Value.category, pu_bk, pu_kl, pu_qe0, pu_qe1, a0, a1, hc, c1, c2]
  | succ i ih =>
    intro t h1 h2
    obtain ⟨a0, a1, a2⟩ := ho.2 (i + 1) h2
    have p0 : ¬ nI (i + 1) < 0 := nI_pos (by omega)
    have p1 : nI (i + 1) + (-1) = nI i := pk_m1 i
    by_cases e : k = i + 1
    · subst e
      have c1 : sl (i + 1) / 2 = d := by omega
      have c2 : sl (i + 1) % 2 = w := by omega
      rw [qX12_openSpan_10]
      simp [bX12_openSpan_10, bX12_openSpan_69, bX12_openSpan_63, bX12_openSpan_52, a_ai, a_ald, a_gr, a_iadd, a_icne, a_iflt, a_ild, a_imul, a_inc, a_iret, a_ist, a_push, fx_71_0 hx, sh_71, sh_72, pu_rv, pu_as, Value.category, pu_bk, pu_kl, List.replicate, pu_wi_1, pu_wi_2, nl_add, nl_ladd, nl_aa, nl_mul, nl_rmul, nl_mm, pu_qe0, pu_qe1, p0, a0, a1, hc, c1, c2]
      all_goals try simp (maxSteps := 400000) (disch := omega) [nl_tle, nl_fle, nl_tlt, nl_flt, nl_teq, nl_feq, nl_sub, nl_ss, nl_lt, nl_llt, nl_ltt, nl_le, nl_lle, nl_lee, nl_eq, nl_leq, nl_ee, nl_div, nl_rem, nl_cl, nl_n1, nl_n2, nl_n3, nl_n4, nl_add, nl_ladd, nl_aa, nl_mul, nl_rmul, nl_mm, pu_wi_1, pu_wi_2, bX12_openSpan_10, bX12_openSpan_69, bX12_openSpan_63, bX12_openSpan_52, a_ai, a_ald, a_gr, a_iadd, a_icne, a_iflt, a_ild, a_imul, a_inc, a_iret, a_ist, a_push, fx_71_0 hx, sh_71, sh_72, pu_rv, pu_as, Value.category, pu_bk, pu_kl, pu_qe0, pu_qe1, p0, a0, a1, hc, c1, c2]
      all_goals try simp [bX12_openSpan_10, bX12_openSpan_69, bX12_openSpan_63, bX12_openSpan_52, a_ai, a_ald, a_gr, a_iadd, a_icne, a_iflt, a_ild, a_imul, a_inc, a_iret, a_ist, a_push, fx_71_0 hx, sh_71, sh_72, pu_rv, pu_as, Value.category, pu_bk, pu_kl, List.replicate, pu_wi_1, pu_wi_2, nl_add, nl_ladd, nl_aa, nl_mul, nl_rmul, nl_mm, pu_qe0, pu_qe1, p0, a0, a1, hc, c1, c2]
      all_goals try simp (maxSteps := 400000) (disch := omega) [nl_tle, nl_fle, nl_tlt, nl_flt, nl_teq, nl_feq, nl_sub, nl_ss, nl_lt, nl_llt, nl_ltt, nl_le, nl_lle, nl_lee, nl_eq, nl_leq, nl_ee, nl_div, nl_rem, nl_cl, nl_n1, nl_n2, nl_n3, nl_n4, nl_add, nl_ladd, nl_aa, nl_mul, nl_rmul, nl_mm, pu_wi_1, pu_wi_2, bX12_openSpan_10, bX12_openSpan_69, bX12_openSpan_63, bX12_openSpan_52, a_ai, a_ald, a_gr, a_iadd, a_icne, a_iflt, a_ild, a_imul, a_inc, a_iret, a_ist, a_push, fx_71_0 hx, sh_71, sh_72, pu_rv, pu_as, Value.category, pu_bk, pu_kl, pu_qe0, pu_qe1, p0, a0, a1, hc, c1, c2]
    · have ih2 := fun t => ih t (by omega) (by omega)
      by_cases c1 : sl (i + 1) / 2 = d
      · by_cases c2 : sl (i + 1) % 2 = w
        · have c3 : ¬ M.1 72 (10752 + 6 * (i + 1) + 5) = -1 := hu (i + 1) (by omega) h2 (by omega)
          rw [qX12_openSpan_10]
          simp [bX12_openSpan_10, bX12_openSpan_69, bX12_openSpan_63, bX12_openSpan_52, a_ai, a_ald, a_gr, a_iadd, a_icne, a_iflt, a_ild, a_imul, a_inc, a_iret, a_ist, a_push, fx_71_0 hx, sh_71, sh_72, pu_rv, pu_as, Value.category, pu_bk, pu_kl, List.replicate, pu_wi_1, pu_wi_2, nl_add, nl_ladd, nl_aa, nl_mul, nl_rmul, nl_mm, pu_qe0, pu_qe1, p0, a0, a1, c1, c2, c3, p1, ih2]
          all_goals try simp (maxSteps := 400000) (disch := omega) [nl_tle, nl_fle, nl_tlt, nl_flt, nl_teq, nl_feq, nl_sub, nl_ss, nl_lt, nl_llt, nl_ltt, nl_le, nl_lle, nl_lee, nl_eq, nl_leq, nl_ee, nl_div, nl_rem, nl_cl, nl_n1, nl_n2, nl_n3, nl_n4, nl_add, nl_ladd, nl_aa, nl_mul, nl_rmul, nl_mm, pu_wi_1, pu_wi_2, bX12_openSpan_10, bX12_openSpan_69, bX12_openSpan_63, bX12_openSpan_52, a_ai, a_ald, a_gr, a_iadd, a_icne, a_iflt, a_ild, a_imul, a_inc, a_iret, a_ist, a_push, fx_71_0 hx, sh_71, sh_72, pu_rv, pu_as, Value.category, pu_bk, pu_kl, pu_qe0, pu_qe1, p0, a0, a1, c1, c2, c3, p1, ih2]
          all_goals try simp [bX12_openSpan_10, bX12_openSpan_69, bX12_openSpan_63, bX12_openSpan_52, a_ai, a_ald, a_gr, a_iadd, a_icne, a_iflt, a_ild, a_imul, a_inc, a_iret, a_ist, a_push, fx_71_0 hx, sh_71, sh_72, pu_rv, pu_as, Value.category, pu_bk, pu_kl, List.replicate, pu_wi_1, pu_wi_2, nl_add, nl_ladd, nl_aa, nl_mul, nl_rmul, nl_mm, pu_qe0, pu_qe1, p0, a0, a1, c1, c2, c3, p1, ih2]
          all_goals try simp (maxSteps := 400000) (disch := omega) [nl_tle, nl_fle, nl_tlt, nl_flt, nl_teq, nl_feq, nl_sub, nl_ss, nl_lt, nl_llt, nl_ltt, nl_le, nl_lle, nl_lee, nl_eq, nl_leq, nl_ee, nl_div, nl_rem, nl_cl, nl_n1, nl_n2, nl_n3, nl_n4, nl_add, nl_ladd, nl_aa, nl_mul, nl_rmul, nl_mm, pu_wi_1, pu_wi_2, bX12_openSpan_10, bX12_openSpan_69, bX12_openSpan_63, bX12_openSpan_52, a_ai, a_ald, a_gr, a_iadd, a_icne, a_iflt, a_ild, a_imul, a_inc, a_iret, a_ist, a_push, fx_71_0 hx, sh_71, sh_72, pu_rv, pu_as, Value.category, pu_bk, pu_kl, pu_qe0, pu_qe1, p0, a0, a1, c1, c2, c3, p1, ih2]
        · rw [qX12_openSpan_10]
          simp [bX12_openSpan_10, bX12_openSpan_69, bX12_openSpan_63, bX12_openSpan_52, a_ai, a_ald, a_gr, a_iadd, a_icne, a_iflt, a_ild, a_imul, a_inc, a_iret, a_ist, a_push, fx_71_0 hx, sh_71, sh_72, pu_rv, pu_as, Value.category, pu_bk, pu_kl, List.replicate, pu_wi_1, pu_wi_2, nl_add, nl_ladd, nl_aa, nl_mul, nl_rmul, nl_mm, pu_qe0, pu_qe1, p0, a0, a1, c1, c2, p1, ih2]
          all_goals try simp (maxSteps := 400000) (disch := omega) [nl_tle, nl_fle, nl_tlt, nl_flt, nl_teq, nl_feq, nl_sub, nl_ss, nl_lt, nl_llt, nl_ltt, nl_le, nl_lle, nl_lee, nl_eq, nl_leq, nl_ee, nl_div, nl_rem, nl_cl, nl_n1, nl_n2, nl_n3, nl_n4, nl_add, nl_ladd, nl_aa, nl_mul, nl_rmul, nl_mm, pu_wi_1, pu_wi_2, bX12_openSpan_10, bX12_openSpan_69, bX12_openSpan_63, bX12_openSpan_52, a_ai, a_ald, a_gr, a_iadd, a_icne, a_iflt, a_ild, a_imul, a_inc, a_iret, a_ist, a_push, fx_71_0 hx, sh_71, sh_72, pu_rv, pu_as, Value.category, pu_bk, pu_kl, pu_qe0, pu_qe1, p0, a0, a1, c1, c2, p1, ih2]
          all_goals try simp [bX12_openSpan_10, bX12_openSpan_69, bX12_openSpan_63, bX12_openSpan_52, a_ai, a_ald, a_gr, a_iadd, a_icne, a_iflt, a_ild, a_imul, a_inc, a_iret, a_ist, a_push, fx_71_0 hx, sh_71, sh_72, pu_rv, pu_as, Value.category, pu_bk, pu_kl, List.replicate, pu_wi_1, pu_wi_2, nl_add, nl_ladd, nl_aa, nl_mul, nl_rmul, nl_mm, pu_qe0, pu_qe1, p0, a0, a1, c1, c2, p1, ih2]
          all_goals try simp (maxSteps := 400000) (disch := omega) [nl_tle, nl_fle, nl_tlt, nl_flt, nl_teq, nl_feq, nl_sub, nl_ss, nl_lt, nl_llt, nl_ltt, nl_le, nl_lle, nl_lee, nl_eq, nl_leq, nl_ee, nl_div, nl_rem, nl_cl, nl_n1, nl_n2, nl_n3, nl_n4, nl_add, nl_ladd, nl_aa, nl_mul, nl_rmul, nl_mm, pu_wi_1, pu_wi_2, bX12_openSpan_10, bX12_openSpan_69, bX12_openSpan_63, bX12_openSpan_52, a_ai, a_ald, a_gr, a_iadd, a_icne, a_iflt, a_ild, a_imul, a_inc, a_iret, a_ist, a_push, fx_71_0 hx, sh_71, sh_72, pu_rv, pu_as, Value.category, pu_bk, pu_kl, pu_qe0, pu_qe1, p0, a0, a1, c1, c2, p1, ih2]
      · rw [qX12_openSpan_10]
        simp [bX12_openSpan_10, bX12_openSpan_69, bX12_openSpan_63, bX12_openSpan_52, a_ai, a_ald, a_gr, a_iadd, a_icne, a_iflt, a_ild, a_imul, a_inc, a_iret, a_ist, a_push, fx_71_0 hx, sh_71, sh_72, pu_rv, pu_as, Value.category, pu_bk, pu_kl, List.replicate, pu_wi_1, pu_wi_2, nl_add, nl_ladd, nl_aa, nl_mul, nl_rmul, nl_mm, pu_qe0, pu_qe1, p0, a0, a1, c1, p1, ih2]
        all_goals try simp (maxSteps := 400000) (disch := omega) [nl_tle, nl_fle, nl_tlt, nl_flt, nl_teq, nl_feq, nl_sub, nl_ss, nl_lt, nl_llt, nl_ltt, nl_le, nl_lle, nl_lee, nl_eq, nl_leq, nl_ee, nl_div, nl_rem, nl_cl, nl_n1, nl_n2, nl_n3, nl_n4, nl_add, nl_ladd, nl_aa, nl_mul, nl_rmul, nl_mm, pu_wi_1, pu_wi_2, bX12_openSpan_10, bX12_openSpan_69, bX12_openSpan_63, bX12_openSpan_52, a_ai, a_ald, a_gr, a_iadd, a_icne, a_iflt, a_ild, a_imul, a_inc, a_iret, a_ist, a_push, fx_71_0 hx, sh_71, sh_72, pu_rv, pu_as, Value.category, pu_bk, pu_kl, pu_qe0, pu_qe1, p0, a0, a1, c1, p1, ih2]
        all_goals try simp [bX12_openSpan_10, bX12_openSpan_69, bX12_openSpan_63, bX12_openSpan_52, a_ai, a_ald, a_gr, a_iadd, a_icne, a_iflt, a_ild, a_imul, a_inc, a_iret, a_ist, a_push, fx_71_0 hx, sh_71, sh_72, pu_rv, pu_as, Value.category, pu_bk, pu_kl, List.replicate, pu_wi_1, pu_wi_2, nl_add, nl_ladd, nl_aa, nl_mul, nl_rmul, nl_mm, pu_qe0, pu_qe1, p0, a0, a1, c1, p1, ih2]
        all_goals try simp (maxSteps := 400000) (disch := omega) [nl_tle, nl_fle, nl_tlt, nl_flt, nl_teq, nl_feq, nl_sub, nl_ss, nl_lt, nl_llt, nl_ltt, nl_le, nl_lle, nl_lee, nl_eq, nl_leq, nl_ee, nl_div, nl_rem, nl_cl, nl_n1, nl_n2, nl_n3, nl_n4, nl_add, nl_ladd, nl_aa, nl_mul, nl_rmul, nl_mm, pu_wi_1, pu_wi_2, bX12_openSpan_10, bX12_openSpan_69, bX12_openSpan_63, bX12_openSpan_52, a_ai, a_ald, a_gr, a_iadd, a_icne, a_iflt, a_ild, a_imul, a_inc, a_iret, a_ist, a_push, fx_71_0 hx, sh_71, sh_72, pu_rv, pu_as, Value.category, pu_bk, pu_kl, pu_qe0, pu_qe1, p0, a0, a1, c1, p1, ih2]
theorem r_openSpanG (hx : pu_fx M) {n : Nat} {sl : Nat → Nat} (hn : n ≤ 3000) (ho : py_ro M n sl) {d w k : Nat} (hd : d < 100) (hw2 : w < 2) (hk : k < n) (hs : sl k = 2 * d + w) (hc : M.1 72 (10752 + 6 * k + 5) = -1) (hu : ∀ l, k < l → l < n → sl l = 2 * d + w → M.1 72 (10752 + 6 * l + 5) ≠ -1) : pu_r 272 [some (.ref 71), some (.int (nI d)), some (.int (nI w))] [] M = some (some (.int (nI k)), M) := by
  have e := r_openSpanG_l hx hn ho hd hw2 hk hs hc hu (n - 1) none (by omega) (by omega)
  have h6 := ho.1
  have p : nI n - 1 = nI (n - 1) := by
    have := nI_pred (n - 1)
    rw [show n - 1 + 1 = n by omega] at this
    exact this
  rw [qX12_openSpan]
  simp [a_ent, bX12_openSpan_0, a_ai, a_ald, a_gr, a_ist, a_isub, a_push, fx_71_0 hx, sh_71, sh_72, pu_rv, pu_as, Value.category, pu_bk, pu_kl, List.replicate, pu_wi_1, pu_wi_2, nl_add, nl_ladd, nl_aa, nl_mul, nl_rmul, nl_mm, pu_qe0, pu_qe1, h6, p, e]
  all_goals try simp (maxSteps := 400000) (disch := omega) [nl_tle, nl_fle, nl_tlt, nl_flt, nl_teq, nl_feq, nl_sub, nl_ss, nl_lt, nl_llt, nl_ltt, nl_le, nl_lle, nl_lee, nl_eq, nl_leq, nl_ee, nl_div, nl_rem, nl_cl, nl_n1, nl_n2, nl_n3, nl_n4, nl_add, nl_ladd, nl_aa, nl_mul, nl_rmul, nl_mm, pu_wi_1, pu_wi_2, bX12_openSpan_0, a_ai, a_ald, a_gr, a_ist, a_isub, a_push, fx_71_0 hx, sh_71, sh_72, pu_rv, pu_as, Value.category, pu_bk, pu_kl, pu_qe0, pu_qe1, h6, p, e]
  all_goals try simp [bX12_openSpan_0, a_ai, a_ald, a_gr, a_ist, a_isub, a_push, fx_71_0 hx, sh_71, sh_72, pu_rv, pu_as, Value.category, pu_bk, pu_kl, List.replicate, pu_wi_1, pu_wi_2, nl_add, nl_ladd, nl_aa, nl_mul, nl_rmul, nl_mm, pu_qe0, pu_qe1, h6, p, e]
  all_goals try simp (maxSteps := 400000) (disch := omega) [nl_tle, nl_fle, nl_tlt, nl_flt, nl_teq, nl_feq, nl_sub, nl_ss, nl_lt, nl_llt, nl_ltt, nl_le, nl_lle, nl_lee, nl_eq, nl_leq, nl_ee, nl_div, nl_rem, nl_cl, nl_n1, nl_n2, nl_n3, nl_n4, nl_add, nl_ladd, nl_aa, nl_mul, nl_rmul, nl_mm, pu_wi_1, pu_wi_2, bX12_openSpan_0, a_ai, a_ald, a_gr, a_ist, a_isub, a_push, fx_71_0 hx, sh_71, sh_72, pu_rv, pu_as, Value.category, pu_bk, pu_kl, pu_qe0, pu_qe1, h6, p, e]
theorem r_wholeAtG (hx : pu_fx M) {n : Nat} {sl : Nat → Nat} (hn : n ≤ 3000) (ho : py_ro M n sl) {d w k : Nat} (hd : d < 100) (hw2 : w < 2) (hk : k < n) (hs : sl k = 2 * d + w) (hc : M.1 72 (10752 + 6 * k + 5) = -1) (hu : ∀ l, k < l → l < n → sl l = 2 * d + w → M.1 72 (10752 + 6 * l + 5) ≠ -1) : pu_r 273 [some (.ref 71), some (.int (nI d)), some (.int (nI w))] [] M = some (some (.int (M.1 72 (10752 + 6 * k + 3))), M) := by
  have e := r_openSpanG hx hn ho hd hw2 hk hs hc hu
  rw [qX12_wholeAt]
  simp [a_ent, bX12_wholeAt_0, bX12_wholeAt_16, bX12_wholeAt_31, a_ai, a_ald, a_cv, a_gr, a_iadd, a_icne, a_ild, a_imul, a_iret, a_ist, a_push, fx_71_0 hx, sh_71, sh_72, pu_rv, pu_as, Value.category, pu_bk, pu_kl, List.replicate, pu_wi_1, pu_wi_2, nl_add, nl_ladd, nl_aa, nl_mul, nl_rmul, nl_mm, pu_qe0, pu_qe1, e]
  all_goals try simp (maxSteps := 400000) (disch := omega) [nl_tle, nl_fle, nl_tlt, nl_flt, nl_teq, nl_feq, nl_sub, nl_ss, nl_lt, nl_llt, nl_ltt, nl_le, nl_lle, nl_lee, nl_eq, nl_leq, nl_ee, nl_div, nl_rem, nl_cl, nl_n1, nl_n2, nl_n3, nl_n4, nl_add, nl_ladd, nl_aa, nl_mul, nl_rmul, nl_mm, pu_wi_1, pu_wi_2, bX12_wholeAt_0, bX12_wholeAt_16, bX12_wholeAt_31, a_ai, a_ald, a_cv, a_gr, a_iadd, a_icne, a_ild, a_imul, a_iret, a_ist, a_push, fx_71_0 hx, sh_71, sh_72, pu_rv, pu_as, Value.category, pu_bk, pu_kl, pu_qe0, pu_qe1, e]
  all_goals try simp [bX12_wholeAt_0, bX12_wholeAt_16, bX12_wholeAt_31, a_ai, a_ald, a_cv, a_gr, a_iadd, a_icne, a_ild, a_imul, a_iret, a_ist, a_push, fx_71_0 hx, sh_71, sh_72, pu_rv, pu_as, Value.category, pu_bk, pu_kl, List.replicate, pu_wi_1, pu_wi_2, nl_add, nl_ladd, nl_aa, nl_mul, nl_rmul, nl_mm, pu_qe0, pu_qe1, e]
  all_goals try simp (maxSteps := 400000) (disch := omega) [nl_tle, nl_fle, nl_tlt, nl_flt, nl_teq, nl_feq, nl_sub, nl_ss, nl_lt, nl_llt, nl_ltt, nl_le, nl_lle, nl_lee, nl_eq, nl_leq, nl_ee, nl_div, nl_rem, nl_cl, nl_n1, nl_n2, nl_n3, nl_n4, nl_add, nl_ladd, nl_aa, nl_mul, nl_rmul, nl_mm, pu_wi_1, pu_wi_2, bX12_wholeAt_0, bX12_wholeAt_16, bX12_wholeAt_31, a_ai, a_ald, a_cv, a_gr, a_iadd, a_icne, a_ild, a_imul, a_iret, a_ist, a_push, fx_71_0 hx, sh_71, sh_72, pu_rv, pu_as, Value.category, pu_bk, pu_kl, pu_qe0, pu_qe1, e]
theorem r_isOpenG (hx : pu_fx M) {n d : Nat} (hn : n ≤ 100) (h4 : M.1 72 4 = nI n) (hd : d < n) : pu_r 266 [some (.ref 71), some (.int (nI d))] [] M = some (some (.int (pu_q (M.1 72 (9552 + 12 * d + 10) = -1))), M) := by
  have e1 : pu_r 264 [some (.ref 71), some (.int (nI d))] [] M = some (some (.int 1), M) := by
    rw [qX12_isDoor]
    simp [a_ent, bX12_isDoor_0, bX12_isDoor_18, bX12_isDoor_19, a_ai, a_ald, a_gr, a_icge, a_iflt, a_ild, a_push, a_zret, fx_71_0 hx, sh_71, sh_72, pu_rv, pu_as, Value.category, pu_bk, pu_kl, List.replicate, pu_wi_1, pu_wi_2, nl_add, nl_ladd, nl_aa, nl_mul, nl_rmul, nl_mm, pu_qe0, pu_qe1, h4]
    all_goals try simp (maxSteps := 400000) (disch := omega) [nl_tle, nl_fle, nl_tlt, nl_flt, nl_teq, nl_feq, nl_sub, nl_ss, nl_lt, nl_llt, nl_ltt, nl_le, nl_lle, nl_lee, nl_eq, nl_leq, nl_ee, nl_div, nl_rem, nl_cl, nl_n1, nl_n2, nl_n3, nl_n4, nl_add, nl_ladd, nl_aa, nl_mul, nl_rmul, nl_mm, pu_wi_1, pu_wi_2, bX12_isDoor_0, bX12_isDoor_18, bX12_isDoor_19, a_ai, a_ald, a_gr, a_icge, a_iflt, a_ild, a_push, a_zret, fx_71_0 hx, sh_71, sh_72, pu_rv, pu_as, Value.category, pu_bk, pu_kl, pu_qe0, pu_qe1, h4]
    all_goals try simp [bX12_isDoor_0, bX12_isDoor_18, bX12_isDoor_19, a_ai, a_ald, a_gr, a_icge, a_iflt, a_ild, a_push, a_zret, fx_71_0 hx, sh_71, sh_72, pu_rv, pu_as, Value.category, pu_bk, pu_kl, List.replicate, pu_wi_1, pu_wi_2, nl_add, nl_ladd, nl_aa, nl_mul, nl_rmul, nl_mm, pu_qe0, pu_qe1, h4]
    all_goals try simp (maxSteps := 400000) (disch := omega) [nl_tle, nl_fle, nl_tlt, nl_flt, nl_teq, nl_feq, nl_sub, nl_ss, nl_lt, nl_llt, nl_ltt, nl_le, nl_lle, nl_lee, nl_eq, nl_leq, nl_ee, nl_div, nl_rem, nl_cl, nl_n1, nl_n2, nl_n3, nl_n4, nl_add, nl_ladd, nl_aa, nl_mul, nl_rmul, nl_mm, pu_wi_1, pu_wi_2, bX12_isDoor_0, bX12_isDoor_18, bX12_isDoor_19, a_ai, a_ald, a_gr, a_icge, a_iflt, a_ild, a_push, a_zret, fx_71_0 hx, sh_71, sh_72, pu_rv, pu_as, Value.category, pu_bk, pu_kl, pu_qe0, pu_qe1, h4]
  have e2 := r_of hx d 10 (by omega) (by omega)
  rw [show nI 10 = (10 : Int32) from rfl] at e2
  by_cases c : M.1 72 (9552 + 12 * d + 10) = -1
  · rw [pu_q1 c]
    rw [qX12_isOpen]
    simp [a_ent, bX12_isOpen_0, bX12_isOpen_23, bX12_isOpen_24, a_ald, a_cv, a_icne, a_ifeq, a_ild, a_push, a_zret, sh_71, pu_rv, pu_as, Value.category, pu_bk, pu_kl, List.replicate, pu_wi_1, pu_wi_2, nl_add, nl_ladd, nl_aa, nl_mul, nl_rmul, nl_mm, pu_qe0, pu_qe1, e1, e2, c]
    all_goals try simp (maxSteps := 400000) (disch := omega) [nl_tle, nl_fle, nl_tlt, nl_flt, nl_teq, nl_feq, nl_sub, nl_ss, nl_lt, nl_llt, nl_ltt, nl_le, nl_lle, nl_lee, nl_eq, nl_leq, nl_ee, nl_div, nl_rem, nl_cl, nl_n1, nl_n2, nl_n3, nl_n4, nl_add, nl_ladd, nl_aa, nl_mul, nl_rmul, nl_mm, pu_wi_1, pu_wi_2, bX12_isOpen_0, bX12_isOpen_23, bX12_isOpen_24, a_ald, a_cv, a_icne, a_ifeq, a_ild, a_push, a_zret, sh_71, pu_rv, pu_as, Value.category, pu_bk, pu_kl, pu_qe0, pu_qe1, e1, e2, c]
    all_goals try simp [bX12_isOpen_0, bX12_isOpen_23, bX12_isOpen_24, a_ald, a_cv, a_icne, a_ifeq, a_ild, a_push, a_zret, sh_71, pu_rv, pu_as, Value.category, pu_bk, pu_kl, List.replicate, pu_wi_1, pu_wi_2, nl_add, nl_ladd, nl_aa, nl_mul, nl_rmul, nl_mm, pu_qe0, pu_qe1, e1, e2, c]
    all_goals try simp (maxSteps := 400000) (disch := omega) [nl_tle, nl_fle, nl_tlt, nl_flt, nl_teq, nl_feq, nl_sub, nl_ss, nl_lt, nl_llt, nl_ltt, nl_le, nl_lle, nl_lee, nl_eq, nl_leq, nl_ee, nl_div, nl_rem, nl_cl, nl_n1, nl_n2, nl_n3, nl_n4, nl_add, nl_ladd, nl_aa, nl_mul, nl_rmul, nl_mm, pu_wi_1, pu_wi_2, bX12_isOpen_0, bX12_isOpen_23, bX12_isOpen_24, a_ald, a_cv, a_icne, a_ifeq, a_ild, a_push, a_zret, sh_71, pu_rv, pu_as, Value.category, pu_bk, pu_kl, pu_qe0, pu_qe1, e1, e2, c]
  · rw [pu_q0 c]
    rw [qX12_isOpen]
    simp [a_ent, bX12_isOpen_0, bX12_isOpen_23, bX12_isOpen_24, a_ald, a_cv, a_icne, a_ifeq, a_ild, a_push, a_zret, sh_71, pu_rv, pu_as, Value.category, pu_bk, pu_kl, List.replicate, pu_wi_1, pu_wi_2, nl_add, nl_ladd, nl_aa, nl_mul, nl_rmul, nl_mm, pu_qe0, pu_qe1, e1, e2, c]
    all_goals try simp (maxSteps := 400000) (disch := omega) [nl_tle, nl_fle, nl_tlt, nl_flt, nl_teq, nl_feq, nl_sub, nl_ss, nl_lt, nl_llt, nl_ltt, nl_le, nl_lle, nl_lee, nl_eq, nl_leq, nl_ee, nl_div, nl_rem, nl_cl, nl_n1, nl_n2, nl_n3, nl_n4, nl_add, nl_ladd, nl_aa, nl_mul, nl_rmul, nl_mm, pu_wi_1, pu_wi_2, bX12_isOpen_0, bX12_isOpen_23, bX12_isOpen_24, a_ald, a_cv, a_icne, a_ifeq, a_ild, a_push, a_zret, sh_71, pu_rv, pu_as, Value.category, pu_bk, pu_kl, pu_qe0, pu_qe1, e1, e2, c]
    all_goals try simp [bX12_isOpen_0, bX12_isOpen_23, bX12_isOpen_24, a_ald, a_cv, a_icne, a_ifeq, a_ild, a_push, a_zret, sh_71, pu_rv, pu_as, Value.category, pu_bk, pu_kl, List.replicate, pu_wi_1, pu_wi_2, nl_add, nl_ladd, nl_aa, nl_mul, nl_rmul, nl_mm, pu_qe0, pu_qe1, e1, e2, c]
    all_goals try simp (maxSteps := 400000) (disch := omega) [nl_tle, nl_fle, nl_tlt, nl_flt, nl_teq, nl_feq, nl_sub, nl_ss, nl_lt, nl_llt, nl_ltt, nl_le, nl_lle, nl_lee, nl_eq, nl_leq, nl_ee, nl_div, nl_rem, nl_cl, nl_n1, nl_n2, nl_n3, nl_n4, nl_add, nl_ladd, nl_aa, nl_mul, nl_rmul, nl_mm, pu_wi_1, pu_wi_2, bX12_isOpen_0, bX12_isOpen_23, bX12_isOpen_24, a_ald, a_cv, a_icne, a_ifeq, a_ild, a_push, a_zret, sh_71, pu_rv, pu_as, Value.category, pu_bk, pu_kl, pu_qe0, pu_qe1, e1, e2, c]
/-- door d lies under top, or is it -/
def py_iu (I : Nat → Nat → Int32) (top : Nat) : Nat → Nat → Prop
  | 0, d => d = top
  | n + 1, d => d = top ∨ (I 32 d ≠ 0 ∧ py_iu I top n (I 33 d).toNatClampNeg)
variable {I : Nat → Nat → Int32} {L : Nat → Nat → Int64}
theorem py_ov (hw : pu_WF I L) {d : Nat} (hd : d < cD I) (h : I 32 d ≠ 0) : (I 33 d).toNatClampNeg < d ∧ I 33 d = nI (I 33 d).toNatClampNeg := by
  have x := wx_d2 hw d hd h
  have v := pu_on (x := I 33 d) (n := d) ⟨x.1, x.2.1⟩
  exact ⟨v.2, v.1⟩
theorem py_iu_st (hw : pu_WF I L) (top : Nat) : ∀ n m d, d < n → d < m → d < cD I → (py_iu I top n d ↔ py_iu I top m d)
  | 0, m, d, h1, h2, h3 => by omega
  | n + 1, 0, d, h1, h2, h3 => by omega
  | n + 1, m + 1, d, h1, h2, h3 => by
    unfold py_iu
    by_cases c : I 32 d = 0
    · simp [c]
    · have o := py_ov hw h3 c
      rw [py_iu_st hw top n m _ (by omega) (by omega) (by omega)]
theorem py_iu_s (hw : pu_WF I L) (top : Nat) {d : Nat} (hd : d < cD I) : py_iu I top 101 d ↔ (d = top ∨ (I 32 d ≠ 0 ∧ py_iu I top 101 (I 33 d).toNatClampNeg)) := by
  have bD := wx_bD hw
  rw [py_iu_st hw top 101 102 d (by omega) (by omega) hd]
  rfl
theorem py_iu_f (hw : pu_WF I L) : ∀ n d, d < n → d < cD I → py_iu I (py_fr I d) 101 d
  | 0, d, h1, h2 => by omega
  | n + 1, d, h1, h2 => by
    rw [py_iu_s hw _ h2]
    by_cases c : I 32 d = 0
    · left
      have y := (wx_d0 hw d h2 c).2.2.1
      unfold py_fr
      rw [y, nl_cl _ (by have := wx_bD hw; omega)]
    · right
      have o := py_ov hw h2 c
      have y := (wx_d2 hw d h2 c).2.2.2.2.1
      have ih := py_iu_f hw n (I 33 d).toNatClampNeg (by omega) (by omega)
      refine ⟨c, ?_⟩
      have e : py_fr I d = py_fr I (I 33 d).toNatClampNeg := by
        unfold py_fr
        rw [y]
      rw [e]
      exact ih
theorem r_isUnder_l (hx : pu_fx M) (hw : pu_WF I L) (h8 : ∀ e, e < cD I → M.1 72 (9552 + 12 * e + 8) = I 33 e) {top : Nat} (ht : top < cD I) (y : Int32) : ∀ n d, d < n → d < cD I → pu_r 467 [some (.ref 71), some (.int y), some (.int (nI top)), some (.int (nI d))] [] M = some (some (.int (pu_q (py_iu I top 101 d))), M)
  | 0, d, h1, h2 => by omega
  | n + 1, d, h1, h2 => by
    have bD := wx_bD hw
    have e := r_of hx d 8 (by omega) (by omega)
    rw [show nI 8 = (8 : Int32) from rfl, h8 d h2] at e
    by_cases c : d = top
    · subst c
      rw [pu_q1 ((py_iu_s hw d h2).mpr (Or.inl rfl))]
      rw [qX12_isUnder_2]
      simp [bX12_isUnder_2, bX12_isUnder_29, bX12_isUnder_38, bX12_isUnder_39, a_ald, a_cv, a_iceq, a_icne, a_ild, a_ist, a_push, a_zret, sh_71, pu_rv, pu_as, Value.category, pu_bk, pu_kl, List.replicate, pu_wi_1, pu_wi_2, nl_add, nl_ladd, nl_aa, nl_mul, nl_rmul, nl_mm, pu_qe0, pu_qe1]
      all_goals try simp (maxSteps := 400000) (disch := omega) [nl_tle, nl_fle, nl_tlt, nl_flt, nl_teq, nl_feq, nl_sub, nl_ss, nl_lt, nl_llt, nl_ltt, nl_le, nl_lle, nl_lee, nl_eq, nl_leq, nl_ee, nl_div, nl_rem, nl_cl, nl_n1, nl_n2, nl_n3, nl_n4, nl_add, nl_ladd, nl_aa, nl_mul, nl_rmul, nl_mm, pu_wi_1, pu_wi_2, bX12_isUnder_2, bX12_isUnder_29, bX12_isUnder_38, bX12_isUnder_39, a_ald, a_cv, a_iceq, a_icne, a_ild, a_ist, a_push, a_zret, sh_71, pu_rv, pu_as, Value.category, pu_bk, pu_kl, pu_qe0, pu_qe1]
      all_goals try simp [bX12_isUnder_2, bX12_isUnder_29, bX12_isUnder_38, bX12_isUnder_39, a_ald, a_cv, a_iceq, a_icne, a_ild, a_ist, a_push, a_zret, sh_71, pu_rv, pu_as, Value.category, pu_bk, pu_kl, List.replicate, pu_wi_1, pu_wi_2, nl_add, nl_ladd, nl_aa, nl_mul, nl_rmul, nl_mm, pu_qe0, pu_qe1]
      all_goals try simp (maxSteps := 400000) (disch := omega) [nl_tle, nl_fle, nl_tlt, nl_flt, nl_teq, nl_feq, nl_sub, nl_ss, nl_lt, nl_llt, nl_ltt, nl_le, nl_lle, nl_lee, nl_eq, nl_leq, nl_ee, nl_div, nl_rem, nl_cl, nl_n1, nl_n2, nl_n3, nl_n4, nl_add, nl_ladd, nl_aa, nl_mul, nl_rmul, nl_mm, pu_wi_1, pu_wi_2, bX12_isUnder_2, bX12_isUnder_29, bX12_isUnder_38, bX12_isUnder_39, a_ald, a_cv, a_iceq, a_icne, a_ild, a_ist, a_push, a_zret, sh_71, pu_rv, pu_as, Value.category, pu_bk, pu_kl, pu_qe0, pu_qe1]
    · have c2 : ¬ nI d = nI top := fun z => c (by rw [nI_eq (by omega) (by omega)] at z; exact z)
      by_cases c3 : I 32 d = 0
      · have c4 := (wx_d0 hw d h2 c3).1
        rw [pu_q0 (fun z => by
          rcases (py_iu_s hw top h2).mp z with w | w
          · exact c w
          · exact w.1 c3)]
        rw [qX12_isUnder_2]
        simp [bX12_isUnder_2, bX12_isUnder_29, bX12_isUnder_38, bX12_isUnder_39, a_ald, a_cv, a_iceq, a_icne, a_ild, a_ist, a_push, a_zret, sh_71, pu_rv, pu_as, Value.category, pu_bk, pu_kl, List.replicate, pu_wi_1, pu_wi_2, nl_add, nl_ladd, nl_aa, nl_mul, nl_rmul, nl_mm, pu_qe0, pu_qe1, c2, e, c4]
        all_goals try simp (maxSteps := 400000) (disch := omega) [nl_tle, nl_fle, nl_tlt, nl_flt, nl_teq, nl_feq, nl_sub, nl_ss, nl_lt, nl_llt, nl_ltt, nl_le, nl_lle, nl_lee, nl_eq, nl_leq, nl_ee, nl_div, nl_rem, nl_cl, nl_n1, nl_n2, nl_n3, nl_n4, nl_add, nl_ladd, nl_aa, nl_mul, nl_rmul, nl_mm, pu_wi_1, pu_wi_2, bX12_isUnder_2, bX12_isUnder_29, bX12_isUnder_38, bX12_isUnder_39, a_ald, a_cv, a_iceq, a_icne, a_ild, a_ist, a_push, a_zret, sh_71, pu_rv, pu_as, Value.category, pu_bk, pu_kl, pu_qe0, pu_qe1, c2, e, c4]
        all_goals try simp [bX12_isUnder_2, bX12_isUnder_29, bX12_isUnder_38, bX12_isUnder_39, a_ald, a_cv, a_iceq, a_icne, a_ild, a_ist, a_push, a_zret, sh_71, pu_rv, pu_as, Value.category, pu_bk, pu_kl, List.replicate, pu_wi_1, pu_wi_2, nl_add, nl_ladd, nl_aa, nl_mul, nl_rmul, nl_mm, pu_qe0, pu_qe1, c2, e, c4]
        all_goals try simp (maxSteps := 400000) (disch := omega) [nl_tle, nl_fle, nl_tlt, nl_flt, nl_teq, nl_feq, nl_sub, nl_ss, nl_lt, nl_llt, nl_ltt, nl_le, nl_lle, nl_lee, nl_eq, nl_leq, nl_ee, nl_div, nl_rem, nl_cl, nl_n1, nl_n2, nl_n3, nl_n4, nl_add, nl_ladd, nl_aa, nl_mul, nl_rmul, nl_mm, pu_wi_1, pu_wi_2, bX12_isUnder_2, bX12_isUnder_29, bX12_isUnder_38, bX12_isUnder_39, a_ald, a_cv, a_iceq, a_icne, a_ild, a_ist, a_push, a_zret, sh_71, pu_rv, pu_as, Value.category, pu_bk, pu_kl, pu_qe0, pu_qe1, c2, e, c4]
      · have o := py_ov hw h2 c3
        have ih := r_isUnder_l hx hw h8 ht y n (I 33 d).toNatClampNeg (by omega) (by omega)
        have c4 : ¬ I 33 d = -1 := fun z => by
          rw [o.2, nl_n1 _ (by omega)] at z
          exact z
        have q : py_iu I top 101 d = py_iu I top 101 (I 33 d).toNatClampNeg := propext ⟨fun z => by
          rcases (py_iu_s hw top h2).mp z with w | w
          · exact absurd w c
          · exact w.2, fun z => (py_iu_s hw top h2).mpr (Or.inr ⟨c3, z⟩)⟩
        rw [q]
        rw [← o.2] at ih
        rw [qX12_isUnder_2]
        simp [bX12_isUnder_2, bX12_isUnder_29, bX12_isUnder_38, bX12_isUnder_39, a_ald, a_cv, a_iceq, a_icne, a_ild, a_ist, a_push, a_zret, sh_71, pu_rv, pu_as, Value.category, pu_bk, pu_kl, List.replicate, pu_wi_1, pu_wi_2, nl_add, nl_ladd, nl_aa, nl_mul, nl_rmul, nl_mm, pu_qe0, pu_qe1, c2, e, c4, ih]
        all_goals try simp (maxSteps := 400000) (disch := omega) [nl_tle, nl_fle, nl_tlt, nl_flt, nl_teq, nl_feq, nl_sub, nl_ss, nl_lt, nl_llt, nl_ltt, nl_le, nl_lle, nl_lee, nl_eq, nl_leq, nl_ee, nl_div, nl_rem, nl_cl, nl_n1, nl_n2, nl_n3, nl_n4, nl_add, nl_ladd, nl_aa, nl_mul, nl_rmul, nl_mm, pu_wi_1, pu_wi_2, bX12_isUnder_2, bX12_isUnder_29, bX12_isUnder_38, bX12_isUnder_39, a_ald, a_cv, a_iceq, a_icne, a_ild, a_ist, a_push, a_zret, sh_71, pu_rv, pu_as, Value.category, pu_bk, pu_kl, pu_qe0, pu_qe1, c2, e, c4, ih]
        all_goals try simp [bX12_isUnder_2, bX12_isUnder_29, bX12_isUnder_38, bX12_isUnder_39, a_ald, a_cv, a_iceq, a_icne, a_ild, a_ist, a_push, a_zret, sh_71, pu_rv, pu_as, Value.category, pu_bk, pu_kl, List.replicate, pu_wi_1, pu_wi_2, nl_add, nl_ladd, nl_aa, nl_mul, nl_rmul, nl_mm, pu_qe0, pu_qe1, c2, e, c4, ih]
        all_goals try simp (maxSteps := 400000) (disch := omega) [nl_tle, nl_fle, nl_tlt, nl_flt, nl_teq, nl_feq, nl_sub, nl_ss, nl_lt, nl_llt, nl_ltt, nl_le, nl_lle, nl_lee, nl_eq, nl_leq, nl_ee, nl_div, nl_rem, nl_cl, nl_n1, nl_n2, nl_n3, nl_n4, nl_add, nl_ladd, nl_aa, nl_mul, nl_rmul, nl_mm, pu_wi_1, pu_wi_2, bX12_isUnder_2, bX12_isUnder_29, bX12_isUnder_38, bX12_isUnder_39, a_ald, a_cv, a_iceq, a_icne, a_ild, a_ist, a_push, a_zret, sh_71, pu_rv, pu_as, Value.category, pu_bk, pu_kl, pu_qe0, pu_qe1, c2, e, c4, ih]
theorem r_isUnder (hx : pu_fx M) (hw : pu_WF I L) (h8 : ∀ e, e < cD I → M.1 72 (9552 + 12 * e + 8) = I 33 e) {top : Nat} (ht : top < cD I) (d : Nat) (hd : d < cD I) : pu_r 292 [some (.ref 71), some (.int (nI d)), some (.int (nI top))] [] M = some (some (.int (pu_q (py_iu I top 101 d))), M) := by
  have e := r_isUnder_l hx hw h8 ht (nI d) (d + 1) d (by omega) hd
  rw [qX12_isUnder]
  simp [a_ent, bX12_isUnder_0, a_ild, a_ist, pu_rv, pu_as, Value.category, pu_bk, pu_kl, List.replicate, pu_wi_1, pu_wi_2, nl_add, nl_ladd, nl_aa, nl_mul, nl_rmul, nl_mm, pu_qe0, pu_qe1, e]
  all_goals try simp (maxSteps := 400000) (disch := omega) [nl_tle, nl_fle, nl_tlt, nl_flt, nl_teq, nl_feq, nl_sub, nl_ss, nl_lt, nl_llt, nl_ltt, nl_le, nl_lle, nl_lee, nl_eq, nl_leq, nl_ee, nl_div, nl_rem, nl_cl, nl_n1, nl_n2, nl_n3, nl_n4, nl_add, nl_ladd, nl_aa, nl_mul, nl_rmul, nl_mm, pu_wi_1, pu_wi_2, bX12_isUnder_0, a_ild, a_ist, pu_rv, pu_as, Value.category, pu_bk, pu_kl, pu_qe0, pu_qe1, e]
  all_goals try simp [bX12_isUnder_0, a_ild, a_ist, pu_rv, pu_as, Value.category, pu_bk, pu_kl, List.replicate, pu_wi_1, pu_wi_2, nl_add, nl_ladd, nl_aa, nl_mul, nl_rmul, nl_mm, pu_qe0, pu_qe1, e]
  all_goals try simp (maxSteps := 400000) (disch := omega) [nl_tle, nl_fle, nl_tlt, nl_flt, nl_teq, nl_feq, nl_sub, nl_ss, nl_lt, nl_llt, nl_ltt, nl_le, nl_lle, nl_lee, nl_eq, nl_leq, nl_ee, nl_div, nl_rem, nl_cl, nl_n1, nl_n2, nl_n3, nl_n4, nl_add, nl_ladd, nl_aa, nl_mul, nl_rmul, nl_mm, pu_wi_1, pu_wi_2, bX12_isUnder_0, a_ild, a_ist, pu_rv, pu_as, Value.category, pu_bk, pu_kl, pu_qe0, pu_qe1, e]
/-- what gone closes: doors, spans -/
def py_S (I : Nat → Nat → Int32) (top d : Nat) : Prop := I 37 d = -1 ∧ py_iu I top 101 d
def py_T (I : Nat → Nat → Int32) (top k : Nat) : Prop := I 18 k = -1 ∧ pu_sl0 I k / 2 = top
noncomputable def py_ct (c : Nat → Prop) : Nat → Nat → Nat → Nat
  | 0, _, n => n
  | m + 1, i, n => py_ct c m (i + 1) (@ite _ (c i) (Classical.propDecidable _) (n + 1) n)
theorem py_ct_le (c : Nat → Prop) : ∀ m i n, py_ct c m i n ≤ n + m
  | 0, i, n => Nat.le_refl _
  | m + 1, i, n => by
    unfold py_ct
    by_cases z : c i
    · rw [if_pos z]
      have := py_ct_le c m (i + 1) (n + 1)
      omega
    · rw [if_neg z]
      have := py_ct_le c m (i + 1) n
      omega
theorem py_S0 (hw : pu_WF I L) {top d : Nat} (hd : d < cD I) (h : py_S I top d) (h0 : I 32 d = 0) : d = top := by
  rcases (py_iu_s hw top hd).mp h.2 with w | w
  · exact w
  · exact absurd h0 w.1
end
