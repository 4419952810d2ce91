/-! SHORT forms -/
section
variable {M : pu_M} {I : Nat → Nat → Int32} {L : Nat → Nat → Int64}
noncomputable def py_fi (I : Nat → Nat → Int32) (L : Nat → Nat → Int64) (x : Int64) : Int32 := pu_f1 (fun k => L 43 k = x) (cF I) 0
/-- what a word is short for -/
noncomputable def py_fu (I : Nat → Nat → Int32) (L : Nat → Nat → Int64) (x : Int64) : Int64 := @ite _ (py_fi I L x = -1) (Classical.propDecidable _) x (L 44 (py_fi I L x).toNatClampNeg)
theorem c_indexF_l (hx : pu_fx M) (hI : pu_ag M I) (hL : pu_al M L) (hw : pu_WF I L) (x : Int64) : ∀ m i, i + m = cF I → pu_r 360 [some (.ref 42), some (.long x), none, some (.int (nI i))] [] M = some (some (.int (pu_f1 (fun k => L 43 k = x) m i)), M)
  | 0, i, h => by
    have hb := wx_bF hw
    have hn := wx_cF hw
    have hc : nI (cF I) ≤ nI i := nI_le (by omega) (by omega)
    rw [qX8_indexOf_2]
    simp [bX8_indexOf_2, bX8_indexOf_29, bX8_indexOf_23, a_al, a_ald, a_gi, a_gr, a_icge, a_ifne, a_ild, a_inc, a_iret, a_lcmp, a_lld, a_push, ag_42 hI, al_43 hL, fx_42_1 hx, sh_42, sh_43, pu_rv, pu_as, Value.category, pu_bk, pu_kl, List.replicate, pu_wi_1, pu_wi_2, nl_add, nl_ladd, nl_aa, nl_mul, nl_rmul, nl_mm, pu_qe0, pu_qe1, hn, hc, pu_f1]
    all_goals try simp (maxSteps := 400000) (disch := omega) [nl_tle, nl_fle, nl_tlt, nl_flt, nl_teq, nl_feq, nl_sub, nl_ss, nl_lt, nl_llt, nl_ltt, nl_le, nl_lle, nl_lee, nl_eq, nl_leq, nl_ee, nl_div, nl_rem, nl_cl, nl_n1, nl_n2, nl_n3, nl_n4, nl_add, nl_ladd, nl_aa, nl_mul, nl_rmul, nl_mm, pu_wi_1, pu_wi_2, bX8_indexOf_2, bX8_indexOf_29, bX8_indexOf_23, a_al, a_ald, a_gi, a_gr, a_icge, a_ifne, a_ild, a_inc, a_iret, a_lcmp, a_lld, a_push, ag_42 hI, al_43 hL, fx_42_1 hx, sh_42, sh_43, pu_rv, pu_as, Value.category, pu_bk, pu_kl, pu_qe0, pu_qe1, hn, hc, pu_f1]
    all_goals try simp [bX8_indexOf_2, bX8_indexOf_29, bX8_indexOf_23, a_al, a_ald, a_gi, a_gr, a_icge, a_ifne, a_ild, a_inc, a_iret, a_lcmp, a_lld, a_push, ag_42 hI, al_43 hL, fx_42_1 hx, sh_42, sh_43, pu_rv, pu_as, Value.category, pu_bk, pu_kl, List.replicate, pu_wi_1, pu_wi_2, nl_add, nl_ladd, nl_aa, nl_mul, nl_rmul, nl_mm, pu_qe0, pu_qe1, hn, hc, pu_f1]
    all_goals try simp (maxSteps := 400000) (disch := omega) [nl_tle, nl_fle, nl_tlt, nl_flt, nl_teq, nl_feq, nl_sub, nl_ss, nl_lt, nl_llt, nl_ltt, nl_le, nl_lle, nl_lee, nl_eq, nl_leq, nl_ee, nl_div, nl_rem, nl_cl, nl_n1, nl_n2, nl_n3, nl_n4, nl_add, nl_ladd, nl_aa, nl_mul, nl_rmul, nl_mm, pu_wi_1, pu_wi_2, bX8_indexOf_2, bX8_indexOf_29, bX8_indexOf_23, a_al, a_ald, a_gi, a_gr, a_icge, a_ifne, a_ild, a_inc, a_iret, a_lcmp, a_lld, a_push, ag_42 hI, al_43 hL, fx_42_1 hx, sh_42, sh_43, pu_rv, pu_as, Value.category, pu_bk, pu_kl, pu_qe0, pu_qe1, hn, hc, pu_f1]
  | m + 1, i, h => by
    have hb := wx_bF hw
    have hn := wx_cF hw
    have hc : ¬ nI (cF I) ≤ nI i := nI_ge (by omega) (by omega)
    have ih := c_indexF_l hx hI hL hw x m (i + 1) (by omega)
    by_cases c : L 43 i = x
    · rw [pu_f1_t c]
      rw [qX8_indexOf_2]
      simp [bX8_indexOf_2, bX8_indexOf_29, bX8_indexOf_23, a_al, a_ald, a_gi, a_gr, a_icge, a_ifne, a_ild, a_inc, a_iret, a_lcmp, a_lld, a_push, ag_42 hI, al_43 hL, fx_42_1 hx, sh_42, sh_43, pu_rv, pu_as, Value.category, pu_bk, pu_kl, List.replicate, pu_wi_1, pu_wi_2, nl_add, nl_ladd, nl_aa, nl_mul, nl_rmul, nl_mm, pu_qe0, pu_qe1, hn, hc, c, py_cmp]
      all_goals try simp (maxSteps := 400000) (disch := omega) [nl_tle, nl_fle, nl_tlt, nl_flt, nl_teq, nl_feq, nl_sub, nl_ss, nl_lt, nl_llt, nl_ltt, nl_le, nl_lle, nl_lee, nl_eq, nl_leq, nl_ee, nl_div, nl_rem, nl_cl, nl_n1, nl_n2, nl_n3, nl_n4, nl_add, nl_ladd, nl_aa, nl_mul, nl_rmul, nl_mm, pu_wi_1, pu_wi_2, bX8_indexOf_2, bX8_indexOf_29, bX8_indexOf_23, a_al, a_ald, a_gi, a_gr, a_icge, a_ifne, a_ild, a_inc, a_iret, a_lcmp, a_lld, a_push, ag_42 hI, al_43 hL, fx_42_1 hx, sh_42, sh_43, pu_rv, pu_as, Value.category, pu_bk, pu_kl, pu_qe0, pu_qe1, hn, hc, c, py_cmp]
      all_goals try simp [bX8_indexOf_2, bX8_indexOf_29, bX8_indexOf_23, a_al, a_ald, a_gi, a_gr, a_icge, a_ifne, a_ild, a_inc, a_iret, a_lcmp, a_lld, a_push, ag_42 hI, al_43 hL, fx_42_1 hx, sh_42, sh_43, pu_rv, pu_as, Value.category, pu_bk, pu_kl, List.replicate, pu_wi_1, pu_wi_2, nl_add, nl_ladd, nl_aa, nl_mul, nl_rmul, nl_mm, pu_qe0, pu_qe1, hn, hc, c, py_cmp]
      all_goals try simp (maxSteps := 400000) (disch := omega) [nl_tle, nl_fle, nl_tlt, nl_flt, nl_teq, nl_feq, nl_sub, nl_ss, nl_lt, nl_llt, nl_ltt, nl_le, nl_lle, nl_lee, nl_eq, nl_leq, nl_ee, nl_div, nl_rem, nl_cl, nl_n1, nl_n2, nl_n3, nl_n4, nl_add, nl_ladd, nl_aa, nl_mul, nl_rmul, nl_mm, pu_wi_1, pu_wi_2, bX8_indexOf_2, bX8_indexOf_29, bX8_indexOf_23, a_al, a_ald, a_gi, a_gr, a_icge, a_ifne, a_ild, a_inc, a_iret, a_lcmp, a_lld, a_push, ag_42 hI, al_43 hL, fx_42_1 hx, sh_42, sh_43, pu_rv, pu_as, Value.category, pu_bk, pu_kl, pu_qe0, pu_qe1, hn, hc, c, py_cmp]
    · rw [pu_f1_f c]
      rw [qX8_indexOf_2]
      simp [bX8_indexOf_2, bX8_indexOf_29, bX8_indexOf_23, a_al, a_ald, a_gi, a_gr, a_icge, a_ifne, a_ild, a_inc, a_iret, a_lcmp, a_lld, a_push, ag_42 hI, al_43 hL, fx_42_1 hx, sh_42, sh_43, pu_rv, pu_as, Value.category, pu_bk, pu_kl, List.replicate, pu_wi_1, pu_wi_2, nl_add, nl_ladd, nl_aa, nl_mul, nl_rmul, nl_mm, pu_qe0, pu_qe1, hn, hc, c, py_cmp, ih]
      all_goals try simp (maxSteps := 400000) (disch := omega) [nl_tle, nl_fle, nl_tlt, nl_flt, nl_teq, nl_feq, nl_sub, nl_ss, nl_lt, nl_llt, nl_ltt, nl_le, nl_lle, nl_lee, nl_eq, nl_leq, nl_ee, nl_div, nl_rem, nl_cl, nl_n1, nl_n2, nl_n3, nl_n4, nl_add, nl_ladd, nl_aa, nl_mul, nl_rmul, nl_mm, pu_wi_1, pu_wi_2, bX8_indexOf_2, bX8_indexOf_29, bX8_indexOf_23, a_al, a_ald, a_gi, a_gr, a_icge, a_ifne, a_ild, a_inc, a_iret, a_lcmp, a_lld, a_push, ag_42 hI, al_43 hL, fx_42_1 hx, sh_42, sh_43, pu_rv, pu_as, Value.category, pu_bk, pu_kl, pu_qe0, pu_qe1, hn, hc, c, py_cmp, ih]
      all_goals try simp [bX8_indexOf_2, bX8_indexOf_29, bX8_indexOf_23, a_al, a_ald, a_gi, a_gr, a_icge, a_ifne, a_ild, a_inc, a_iret, a_lcmp, a_lld, a_push, ag_42 hI, al_43 hL, fx_42_1 hx, sh_42, sh_43, pu_rv, pu_as, Value.category, pu_bk, pu_kl, List.replicate, pu_wi_1, pu_wi_2, nl_add, nl_ladd, nl_aa, nl_mul, nl_rmul, nl_mm, pu_qe0, pu_qe1, hn, hc, c, py_cmp, ih]
      all_goals try simp (maxSteps := 400000) (disch := omega) [nl_tle, nl_fle, nl_tlt, nl_flt, nl_teq, nl_feq, nl_sub, nl_ss, nl_lt, nl_llt, nl_ltt, nl_le, nl_lle, nl_lee, nl_eq, nl_leq, nl_ee, nl_div, nl_rem, nl_cl, nl_n1, nl_n2, nl_n3, nl_n4, nl_add, nl_ladd, nl_aa, nl_mul, nl_rmul, nl_mm, pu_wi_1, pu_wi_2, bX8_indexOf_2, bX8_indexOf_29, bX8_indexOf_23, a_al, a_ald, a_gi, a_gr, a_icge, a_ifne, a_ild, a_inc, a_iret, a_lcmp, a_lld, a_push, ag_42 hI, al_43 hL, fx_42_1 hx, sh_42, sh_43, pu_rv, pu_as, Value.category, pu_bk, pu_kl, pu_qe0, pu_qe1, hn, hc, c, py_cmp, ih]
theorem c_indexF (hx : pu_fx M) (hI : pu_ag M I) (hL : pu_al M L) (hw : pu_WF I L) (x : Int64) : pu_r 27 [some (.ref 42), some (.long x), none] [] M = some (some (.int (py_fi I L x)), M) := by
  have e := c_indexF_l hx hI hL hw x (cF I) 0 (by omega)
  rw [nI_0] at e
  unfold py_fi
  rw [qX8_indexOf]
  simp [a_ent, bX8_indexOf_0, a_ist, a_push, pu_rv, pu_as, Value.category, pu_bk, pu_kl, List.replicate, pu_wi_1, pu_wi_2, nl_add, nl_ladd, nl_aa, nl_mul, nl_rmul, nl_mm, pu_qe0, pu_qe1, e]
  all_goals try simp (maxSteps := 400000) (disch := omega) [nl_tle, nl_fle, nl_tlt, nl_flt, nl_teq, nl_feq, nl_sub, nl_ss, nl_lt, nl_llt, nl_ltt, nl_le, nl_lle, nl_lee, nl_eq, nl_leq, nl_ee, nl_div, nl_rem, nl_cl, nl_n1, nl_n2, nl_n3, nl_n4, nl_add, nl_ladd, nl_aa, nl_mul, nl_rmul, nl_mm, pu_wi_1, pu_wi_2, bX8_indexOf_0, a_ist, a_push, pu_rv, pu_as, Value.category, pu_bk, pu_kl, pu_qe0, pu_qe1, e]
  all_goals try simp [bX8_indexOf_0, a_ist, a_push, pu_rv, pu_as, Value.category, pu_bk, pu_kl, List.replicate, pu_wi_1, pu_wi_2, nl_add, nl_ladd, nl_aa, nl_mul, nl_rmul, nl_mm, pu_qe0, pu_qe1, e]
  all_goals try simp (maxSteps := 400000) (disch := omega) [nl_tle, nl_fle, nl_tlt, nl_flt, nl_teq, nl_feq, nl_sub, nl_ss, nl_lt, nl_llt, nl_ltt, nl_le, nl_lle, nl_lee, nl_eq, nl_leq, nl_ee, nl_div, nl_rem, nl_cl, nl_n1, nl_n2, nl_n3, nl_n4, nl_add, nl_ladd, nl_aa, nl_mul, nl_rmul, nl_mm, pu_wi_1, pu_wi_2, bX8_indexOf_0, a_ist, a_push, pu_rv, pu_as, Value.category, pu_bk, pu_kl, pu_qe0, pu_qe1, e]
theorem py_fi_s (hw : pu_WF I L) (x : Int64) : (py_fi I L x = -1 ∧ ∀ k, k < cF I → L 43 k ≠ x) ∨ ∃ k, k < cF I ∧ py_fi I L x = nI k ∧ L 43 k = x ∧ ∀ l, l < k → L 43 l ≠ x := by
  rcases pu_f1_spec (fun k => L 43 k = x) (cF I) 0 with ⟨a, b⟩ | ⟨j, _, h2, h3, h4, h5⟩
  · exact Or.inl ⟨a, fun k hk => b k (by omega) (by omega)⟩
  · exact Or.inr ⟨j, by omega, h3, h4, fun l hl => h5 l (by omega) hl⟩
theorem c_full (hx : pu_fx M) (hI : pu_ag M I) (hL : pu_al M L) (hw : pu_WF I L) (x : Int64) : pu_r 28 [some (.ref 42), some (.long x), none] [] M = some (some (.long (py_fu I L x)), M) := by
  have e := c_indexF hx hI hL hw x
  have hb := wx_bF hw
  unfold py_fu
  rcases py_fi_s hw x with ⟨a, b⟩ | ⟨k, k1, k2, k3, k4⟩
  · rw [if_pos a]
    rw [a] at e
    rw [qX8_full]
    simp [a_ent, bX8_full_0, bX8_full_15, bX8_full_21, a_al, a_ald, a_cv, a_gr, a_icne, a_ild, a_ist, a_lld, a_lret, a_push, al_44 hL, fx_42_2 hx, sh_42, sh_44, pu_rv, pu_as, Value.category, pu_bk, pu_kl, List.replicate, pu_wi_1, pu_wi_2, nl_add, nl_ladd, nl_aa, nl_mul, nl_rmul, nl_mm, pu_qe0, pu_qe1, e]
    all_goals try simp (maxSteps := 400000) (disch := omega) [nl_tle, nl_fle, nl_tlt, nl_flt, nl_teq, nl_feq, nl_sub, nl_ss, nl_lt, nl_llt, nl_ltt, nl_le, nl_lle, nl_lee, nl_eq, nl_leq, nl_ee, nl_div, nl_rem, nl_cl, nl_n1, nl_n2, nl_n3, nl_n4, nl_add, nl_ladd, nl_aa, nl_mul, nl_rmul, nl_mm, pu_wi_1, pu_wi_2, bX8_full_0, bX8_full_15, bX8_full_21, a_al, a_ald, a_cv, a_gr, a_icne, a_ild, a_ist, a_lld, a_lret, a_push, al_44 hL, fx_42_2 hx, sh_42, sh_44, pu_rv, pu_as, Value.category, pu_bk, pu_kl, pu_qe0, pu_qe1, e]
    all_goals try simp [bX8_full_0, bX8_full_15, bX8_full_21, a_al, a_ald, a_cv, a_gr, a_icne, a_ild, a_ist, a_lld, a_lret, a_push, al_44 hL, fx_42_2 hx, sh_42, sh_44, pu_rv, pu_as, Value.category, pu_bk, pu_kl, List.replicate, pu_wi_1, pu_wi_2, nl_add, nl_ladd, nl_aa, nl_mul, nl_rmul, nl_mm, pu_qe0, pu_qe1, e]
    all_goals try simp (maxSteps := 400000) (disch := omega) [nl_tle, nl_fle, nl_tlt, nl_flt, nl_teq, nl_feq, nl_sub, nl_ss, nl_lt, nl_llt, nl_ltt, nl_le, nl_lle, nl_lee, nl_eq, nl_leq, nl_ee, nl_div, nl_rem, nl_cl, nl_n1, nl_n2, nl_n3, nl_n4, nl_add, nl_ladd, nl_aa, nl_mul, nl_rmul, nl_mm, pu_wi_1, pu_wi_2, bX8_full_0, bX8_full_15, bX8_full_21, a_al, a_ald, a_cv, a_gr, a_icne, a_ild, a_ist, a_lld, a_lret, a_push, al_44 hL, fx_42_2 hx, sh_42, sh_44, pu_rv, pu_as, Value.category, pu_bk, pu_kl, pu_qe0, pu_qe1, e]
  · have ne : ¬ nI k = -1 := fun q => by rw [nl_n1 _ (by omega)] at q; exact q
    rw [k2] at e
    rw [k2, if_neg ne, nl_cl _ (by omega)]
    rw [qX8_full]
    simp [a_ent, bX8_full_0, bX8_full_15, bX8_full_21, a_al, a_ald, a_cv, a_gr, a_icne, a_ild, a_ist, a_lld, a_lret, a_push, al_44 hL, fx_42_2 hx, sh_42, sh_44, pu_rv, pu_as, Value.category, pu_bk, pu_kl, List.replicate, pu_wi_1, pu_wi_2, nl_add, nl_ladd, nl_aa, nl_mul, nl_rmul, nl_mm, pu_qe0, pu_qe1, e, ne]
    all_goals try simp (maxSteps := 400000) (disch := omega) [nl_tle, nl_fle, nl_tlt, nl_flt, nl_teq, nl_feq, nl_sub, nl_ss, nl_lt, nl_llt, nl_ltt, nl_le, nl_lle, nl_lee, nl_eq, nl_leq, nl_ee, nl_div, nl_rem, nl_cl, nl_n1, nl_n2, nl_n3, nl_n4, nl_add, nl_ladd, nl_aa, nl_mul, nl_rmul, nl_mm, pu_wi_1, pu_wi_2, bX8_full_0, bX8_full_15, bX8_full_21, a_al, a_ald, a_cv, a_gr, a_icne, a_ild, a_ist, a_lld, a_lret, a_push, al_44 hL, fx_42_2 hx, sh_42, sh_44, pu_rv, pu_as, Value.category, pu_bk, pu_kl, pu_qe0, pu_qe1, e, ne]
    all_goals try simp [bX8_full_0, bX8_full_15, bX8_full_21, a_al, a_ald, a_cv, a_gr, a_icne, a_ild, a_ist, a_lld, a_lret, a_push, al_44 hL, fx_42_2 hx, sh_42, sh_44, pu_rv, pu_as, Value.category, pu_bk, pu_kl, List.replicate, pu_wi_1, pu_wi_2, nl_add, nl_ladd, nl_aa, nl_mul, nl_rmul, nl_mm, pu_qe0, pu_qe1, e, ne]
    all_goals try simp (maxSteps := 400000) (disch := omega) [nl_tle, nl_fle, nl_tlt, nl_flt, nl_teq, nl_feq, nl_sub, nl_ss, nl_lt, nl_llt, nl_ltt, nl_le, nl_lle, nl_lee, nl_eq, nl_leq, nl_ee, nl_div, nl_rem, nl_cl, nl_n1, nl_n2, nl_n3, nl_n4, nl_add, nl_ladd, nl_aa, nl_mul, nl_rmul, nl_mm, pu_wi_1, pu_wi_2, bX8_full_0, bX8_full_15, bX8_full_21, a_al, a_ald, a_cv, a_gr, a_icne, a_ild, a_ist, a_lld, a_lret, a_push, al_44 hL, fx_42_2 hx, sh_42, sh_44, pu_rv, pu_as, Value.category, pu_bk, pu_kl, pu_qe0, pu_qe1, e, ne]
theorem py_fu_0 (hw : pu_WF I L) : py_fu I L 0 = 0 := by
  unfold py_fu
  rcases py_fi_s hw 0 with ⟨a, b⟩ | ⟨k, k1, k2, k3, k4⟩
  · rw [if_pos a]
  · exact absurd k3 (wx_ef hw k k1)
/-- three words lengthened -/
theorem c_lengthen (a : Nat) (sa : pu_sh a = (3, 3)) (ha : 58 ≤ a) (hx : pu_fx M) (hI : pu_ag M I) (hL : pu_al M L) (hw : pu_WF I L) : ∃ N, N.1 = M.1 ∧ N.2.2 = M.2.2 ∧ (∀ x j, x ≠ a → N.2.1 x j = M.2.1 x j) ∧ (∀ k, k < 3 → N.2.1 a k = py_fu I L (M.2.1 a k)) ∧ pu_r 29 [some (.ref a), some (.ref 42)] [] M = some (none, N) := by
  have A : ∀ (Q : pu_M) (i : Nat) (v : Int64), pu_al Q L → pu_al (pu_wl Q a i v) L := fun Q i v hQ x j h1 h2 => by
    rw [py_wl_o (by omega)]
    exact hQ x j h1 h2
  have e0 := c_full hx hI hL hw (M.2.1 a 0)
  generalize v0 : py_fu I L (M.2.1 a 0) = x0 at *
  have e1 := c_full (M := pu_wl M a 0 x0) hx hI (A _ _ _ hL) hw (M.2.1 a 1)
  generalize v1 : py_fu I L (M.2.1 a 1) = x1 at *
  have e2 := c_full (M := pu_wl (pu_wl M a 0 x0) a 1 x1) hx hI (A _ _ _ (A _ _ _ hL)) hw (M.2.1 a 2)
  generalize v2 : py_fu I L (M.2.1 a 2) = x2 at *
  refine ⟨pu_wl (pu_wl (pu_wl M a 0 x0) a 1 x1) a 2 x2, rfl, rfl, fun x j hx => by rw [py_wl_o (by omega), py_wl_o (by omega), py_wl_o (by omega)], fun k hk => ?_, ?_⟩
  · match k, hk with
    | 0, _ => rw [py_wl_o (by omega), py_wl_o (by omega), py_wl_3, if_pos rfl, if_pos rfl]; exact v0.symm
    | 1, _ => rw [py_wl_o (by omega), py_wl_3, if_pos rfl, if_pos rfl]; exact v1.symm
    | 2, _ => rw [py_wl_3, if_pos rfl, if_pos rfl]; exact v2.symm
    | k + 3, hk => omega
  · have r1 : (pu_wl M a 0 x0).2.1 a 1 = M.2.1 a 1 := py_wl_o (by omega)
    have r2 : (pu_wl (pu_wl M a 0 x0) a 1 x1).2.1 a 2 = M.2.1 a 2 := by rw [py_wl_o (by omega), py_wl_o (by omega)]
    have L3 : pu_r 361 [some (.ref a), some (.ref 42), some (.int 3)] [] (pu_wl (pu_wl (pu_wl M a 0 x0) a 1 x1) a 2 x2) = some (none, pu_wl (pu_wl (pu_wl M a 0 x0) a 1 x1) a 2 x2) := by
      rw [qX7_lengthen_2]
      simp [bX7_lengthen_2, bX7_lengthen_23, a_al, a_ald, a_cv, a_icge, a_ild, a_inc, a_push, a_vret, a_wl, sh_42, pu_rv, pu_as, Value.category, pu_bk, pu_kl, List.replicate, pu_wi_1, pu_wi_2, nl_add, nl_ladd, nl_aa, nl_mul, nl_rmul, nl_mm, pu_qe0, pu_qe1]
      all_goals try simp (maxSteps := 400000) (disch := omega) [nl_tle, nl_fle, nl_tlt, nl_flt, nl_teq, nl_feq, nl_sub, nl_ss, nl_lt, nl_llt, nl_ltt, nl_le, nl_lle, nl_lee, nl_eq, nl_leq, nl_ee, nl_div, nl_rem, nl_cl, nl_n1, nl_n2, nl_n3, nl_n4, nl_add, nl_ladd, nl_aa, nl_mul, nl_rmul, nl_mm, pu_wi_1, pu_wi_2, bX7_lengthen_2, bX7_lengthen_23, a_al, a_ald, a_cv, a_icge, a_ild, a_inc, a_push, a_vret, a_wl, sh_42, pu_rv, pu_as, Value.category, pu_bk, pu_kl, pu_qe0, pu_qe1]
      all_goals try simp [bX7_lengthen_2, bX7_lengthen_23, a_al, a_ald, a_cv, a_icge, a_ild, a_inc, a_push, a_vret, a_wl, sh_42, pu_rv, pu_as, Value.category, pu_bk, pu_kl, List.replicate, pu_wi_1, pu_wi_2, nl_add, nl_ladd, nl_aa, nl_mul, nl_rmul, nl_mm, pu_qe0, pu_qe1]
      all_goals try simp (maxSteps := 400000) (disch := omega) [nl_tle, nl_fle, nl_tlt, nl_flt, nl_teq, nl_feq, nl_sub, nl_ss, nl_lt, nl_llt, nl_ltt, nl_le, nl_lle, nl_lee, nl_eq, nl_leq, nl_ee, nl_div, nl_rem, nl_cl, nl_n1, nl_n2, nl_n3, nl_n4, nl_add, nl_ladd, nl_aa, nl_mul, nl_rmul, nl_mm, pu_wi_1, pu_wi_2, bX7_lengthen_2, bX7_lengthen_23, a_al, a_ald, a_cv, a_icge, a_ild, a_inc, a_push, a_vret, a_wl, sh_42, pu_rv, pu_as, Value.category, pu_bk, pu_kl, pu_qe0, pu_qe1]
    have L2 : pu_r 361 [some (.ref a), some (.ref 42), some (.int 2)] [] (pu_wl (pu_wl M a 0 x0) a 1 x1) = some (none, pu_wl (pu_wl (pu_wl M a 0 x0) a 1 x1) a 2 x2) := by
      rw [qX7_lengthen_2]
      simp [bX7_lengthen_2, bX7_lengthen_23, a_al, a_ald, a_cv, a_icge, a_ild, a_inc, a_push, a_vret, a_wl, sh_42, pu_rv, pu_as, Value.category, pu_bk, pu_kl, List.replicate, pu_wi_1, pu_wi_2, nl_add, nl_ladd, nl_aa, nl_mul, nl_rmul, nl_mm, pu_qe0, pu_qe1, sa, sh_42, r2, e2, L3]
      all_goals try simp (maxSteps := 400000) (disch := omega) [nl_tle, nl_fle, nl_tlt, nl_flt, nl_teq, nl_feq, nl_sub, nl_ss, nl_lt, nl_llt, nl_ltt, nl_le, nl_lle, nl_lee, nl_eq, nl_leq, nl_ee, nl_div, nl_rem, nl_cl, nl_n1, nl_n2, nl_n3, nl_n4, nl_add, nl_ladd, nl_aa, nl_mul, nl_rmul, nl_mm, pu_wi_1, pu_wi_2, bX7_lengthen_2, bX7_lengthen_23, a_al, a_ald, a_cv, a_icge, a_ild, a_inc, a_push, a_vret, a_wl, sh_42, pu_rv, pu_as, Value.category, pu_bk, pu_kl, pu_qe0, pu_qe1, sa, sh_42, r2, e2, L3]
      all_goals try simp [bX7_lengthen_2, bX7_lengthen_23, a_al, a_ald, a_cv, a_icge, a_ild, a_inc, a_push, a_vret, a_wl, sh_42, pu_rv, pu_as, Value.category, pu_bk, pu_kl, List.replicate, pu_wi_1, pu_wi_2, nl_add, nl_ladd, nl_aa, nl_mul, nl_rmul, nl_mm, pu_qe0, pu_qe1, sa, sh_42, r2, e2, L3]
      all_goals try simp (maxSteps := 400000) (disch := omega) [nl_tle, nl_fle, nl_tlt, nl_flt, nl_teq, nl_feq, nl_sub, nl_ss, nl_lt, nl_llt, nl_ltt, nl_le, nl_lle, nl_lee, nl_eq, nl_leq, nl_ee, nl_div, nl_rem, nl_cl, nl_n1, nl_n2, nl_n3, nl_n4, nl_add, nl_ladd, nl_aa, nl_mul, nl_rmul, nl_mm, pu_wi_1, pu_wi_2, bX7_lengthen_2, bX7_lengthen_23, a_al, a_ald, a_cv, a_icge, a_ild, a_inc, a_push, a_vret, a_wl, sh_42, pu_rv, pu_as, Value.category, pu_bk, pu_kl, pu_qe0, pu_qe1, sa, sh_42, r2, e2, L3]
    have L1 : pu_r 361 [some (.ref a), some (.ref 42), some (.int 1)] [] (pu_wl M a 0 x0) = some (none, pu_wl (pu_wl (pu_wl M a 0 x0) a 1 x1) a 2 x2) := by
      rw [qX7_lengthen_2]
      simp [bX7_lengthen_2, bX7_lengthen_23, a_al, a_ald, a_cv, a_icge, a_ild, a_inc, a_push, a_vret, a_wl, sh_42, pu_rv, pu_as, Value.category, pu_bk, pu_kl, List.replicate, pu_wi_1, pu_wi_2, nl_add, nl_ladd, nl_aa, nl_mul, nl_rmul, nl_mm, pu_qe0, pu_qe1, sa, sh_42, r1, e1, L2]
      all_goals try simp (maxSteps := 400000) (disch := omega) [nl_tle, nl_fle, nl_tlt, nl_flt, nl_teq, nl_feq, nl_sub, nl_ss, nl_lt, nl_llt, nl_ltt, nl_le, nl_lle, nl_lee, nl_eq, nl_leq, nl_ee, nl_div, nl_rem, nl_cl, nl_n1, nl_n2, nl_n3, nl_n4, nl_add, nl_ladd, nl_aa, nl_mul, nl_rmul, nl_mm, pu_wi_1, pu_wi_2, bX7_lengthen_2, bX7_lengthen_23, a_al, a_ald, a_cv, a_icge, a_ild, a_inc, a_push, a_vret, a_wl, sh_42, pu_rv, pu_as, Value.category, pu_bk, pu_kl, pu_qe0, pu_qe1, sa, sh_42, r1, e1, L2]
      all_goals try simp [bX7_lengthen_2, bX7_lengthen_23, a_al, a_ald, a_cv, a_icge, a_ild, a_inc, a_push, a_vret, a_wl, sh_42, pu_rv, pu_as, Value.category, pu_bk, pu_kl, List.replicate, pu_wi_1, pu_wi_2, nl_add, nl_ladd, nl_aa, nl_mul, nl_rmul, nl_mm, pu_qe0, pu_qe1, sa, sh_42, r1, e1, L2]
      all_goals try simp (maxSteps := 400000) (disch := omega) [nl_tle, nl_fle, nl_tlt, nl_flt, nl_teq, nl_feq, nl_sub, nl_ss, nl_lt, nl_llt, nl_ltt, nl_le, nl_lle, nl_lee, nl_eq, nl_leq, nl_ee, nl_div, nl_rem, nl_cl, nl_n1, nl_n2, nl_n3, nl_n4, nl_add, nl_ladd, nl_aa, nl_mul, nl_rmul, nl_mm, pu_wi_1, pu_wi_2, bX7_lengthen_2, bX7_lengthen_23, a_al, a_ald, a_cv, a_icge, a_ild, a_inc, a_push, a_vret, a_wl, sh_42, pu_rv, pu_as, Value.category, pu_bk, pu_kl, pu_qe0, pu_qe1, sa, sh_42, r1, e1, L2]
    have L0 : pu_r 361 [some (.ref a), some (.ref 42), some (.int 0)] [] M = some (none, pu_wl (pu_wl (pu_wl M a 0 x0) a 1 x1) a 2 x2) := by
      rw [qX7_lengthen_2]
      simp [bX7_lengthen_2, bX7_lengthen_23, a_al, a_ald, a_cv, a_icge, a_ild, a_inc, a_push, a_vret, a_wl, sh_42, pu_rv, pu_as, Value.category, pu_bk, pu_kl, List.replicate, pu_wi_1, pu_wi_2, nl_add, nl_ladd, nl_aa, nl_mul, nl_rmul, nl_mm, pu_qe0, pu_qe1, sa, sh_42, e0, L1]
      all_goals try simp (maxSteps := 400000) (disch := omega) [nl_tle, nl_fle, nl_tlt, nl_flt, nl_teq, nl_feq, nl_sub, nl_ss, nl_lt, nl_llt, nl_ltt, nl_le, nl_lle, nl_lee, nl_eq, nl_leq, nl_ee, nl_div, nl_rem, nl_cl, nl_n1, nl_n2, nl_n3, nl_n4, nl_add, nl_ladd, nl_aa, nl_mul, nl_rmul, nl_mm, pu_wi_1, pu_wi_2, bX7_lengthen_2, bX7_lengthen_23, a_al, a_ald, a_cv, a_icge, a_ild, a_inc, a_push, a_vret, a_wl, sh_42, pu_rv, pu_as, Value.category, pu_bk, pu_kl, pu_qe0, pu_qe1, sa, sh_42, e0, L1]
      all_goals try simp [bX7_lengthen_2, bX7_lengthen_23, a_al, a_ald, a_cv, a_icge, a_ild, a_inc, a_push, a_vret, a_wl, sh_42, pu_rv, pu_as, Value.category, pu_bk, pu_kl, List.replicate, pu_wi_1, pu_wi_2, nl_add, nl_ladd, nl_aa, nl_mul, nl_rmul, nl_mm, pu_qe0, pu_qe1, sa, sh_42, e0, L1]
      all_goals try simp (maxSteps := 400000) (disch := omega) [nl_tle, nl_fle, nl_tlt, nl_flt, nl_teq, nl_feq, nl_sub, nl_ss, nl_lt, nl_llt, nl_ltt, nl_le, nl_lle, nl_lee, nl_eq, nl_leq, nl_ee, nl_div, nl_rem, nl_cl, nl_n1, nl_n2, nl_n3, nl_n4, nl_add, nl_ladd, nl_aa, nl_mul, nl_rmul, nl_mm, pu_wi_1, pu_wi_2, bX7_lengthen_2, bX7_lengthen_23, a_al, a_ald, a_cv, a_icge, a_ild, a_inc, a_push, a_vret, a_wl, sh_42, pu_rv, pu_as, Value.category, pu_bk, pu_kl, pu_qe0, pu_qe1, sa, sh_42, e0, L1]
    rw [qX7_lengthen]
    simp [a_ent, bX7_lengthen_0, a_ist, a_push, pu_rv, pu_as, Value.category, pu_bk, pu_kl, List.replicate, pu_wi_1, pu_wi_2, nl_add, nl_ladd, nl_aa, nl_mul, nl_rmul, nl_mm, pu_qe0, pu_qe1, L0]
    all_goals try simp (maxSteps := 400000) (disch := omega) [nl_tle, nl_fle, nl_tlt, nl_flt, nl_teq, nl_feq, nl_sub, nl_ss, nl_lt, nl_llt, nl_ltt, nl_le, nl_lle, nl_lee, nl_eq, nl_leq, nl_ee, nl_div, nl_rem, nl_cl, nl_n1, nl_n2, nl_n3, nl_n4, nl_add, nl_ladd, nl_aa, nl_mul, nl_rmul, nl_mm, pu_wi_1, pu_wi_2, bX7_lengthen_0, a_ist, a_push, pu_rv, pu_as, Value.category, pu_bk, pu_kl, pu_qe0, pu_qe1, L0]
    all_goals try simp [bX7_lengthen_0, a_ist, a_push, pu_rv, pu_as, Value.category, pu_bk, pu_kl, List.replicate, pu_wi_1, pu_wi_2, nl_add, nl_ladd, nl_aa, nl_mul, nl_rmul, nl_mm, pu_qe0, pu_qe1, L0]
    all_goals try simp (maxSteps := 400000) (disch := omega) [nl_tle, nl_fle, nl_tlt, nl_flt, nl_teq, nl_feq, nl_sub, nl_ss, nl_lt, nl_llt, nl_ltt, nl_le, nl_lle, nl_lee, nl_eq, nl_leq, nl_ee, nl_div, nl_rem, nl_cl, nl_n1, nl_n2, nl_n3, nl_n4, nl_add, nl_ladd, nl_aa, nl_mul, nl_rmul, nl_mm, pu_wi_1, pu_wi_2, bX7_lengthen_0, a_ist, a_push, pu_rv, pu_as, Value.category, pu_bk, pu_kl, pu_qe0, pu_qe1, L0]
/-! the reference -/
theorem r_len_m (hx : pu_fx M) (rr : Nat) (sr : pu_sh rr = (1, 36)) (w k : Nat) (hw3 : w < 3) (hk : k < 20) : ∀ m i, i + m = 12 → (∀ j, j < i → M.1 rr (12 * w + j) = M.1 72 (30152 + 24 * k + j)) → ∃ u, pu_r 434 [some (.ref 71), some (.ref rr), some (.int (nI w)), some (.int (nI k)), some (.int 1), some (.int (nI i))] [] M = kX12_lengthen_72 pu_r [some (.ref 71), some (.ref rr), some (.int (nI w)), some (.int (nI k)), some (.int (pu_q (∀ j, j < 12 → M.1 rr (12 * w + j) = M.1 72 (30152 + 24 * k + j)))), some (.int u)] [] M
  | 0, i, h, g => by
    have e : i = 12 := by omega
    subst e
    rw [pu_q1 g]
    refine ⟨nI 12, ?_⟩
    have hc : 12 ≤ nI 12 := by decide
    rw [qX12_lengthen_19]
    simp [bX12_lengthen_19, a_ild, a_push, a_icge, hc]
  | m + 1, i, h, g => by
    have f := fx_71_0 hx
    have hc : ¬ 12 ≤ nI i := nI_ge (b := 12) (by omega) (by omega)
    have il : 12 * w + i < 36 := by omega
    by_cases c : M.1 rr (12 * w + i) = M.1 72 (30152 + 24 * k + i)
    · obtain ⟨u, hu⟩ := r_len_m hx rr sr w k hw3 hk m (i + 1) (by omega) (fun j hj => by
        by_cases z : j = i
        · rw [z]; exact c
        · exact g j (by omega))
      refine ⟨u, ?_⟩
      rw [← hu]
      rw [qX12_lengthen_19]
      simp [bX12_lengthen_19, bX12_lengthen_72, bX12_lengthen_80, bX12_lengthen_125, bX12_lengthen_63, bX12_lengthen_64, bX12_lengthen_60, a_ai, a_ald, a_gr, a_iadd, a_icge, a_icne, a_ifeq, a_ifne, a_ild, a_imul, a_inc, a_ist, a_push, sh_71, sh_72, pu_rv, pu_as, Value.category, pu_bk, pu_kl, List.replicate, pu_wi_1, pu_wi_2, nl_add, nl_ladd, nl_aa, nl_mul, nl_rmul, nl_mm, pu_qe0, pu_qe1, f, hc, sr, il, c]
      all_goals try simp (maxSteps := 400000) (disch := omega) [nl_tle, nl_fle, nl_tlt, nl_flt, nl_teq, nl_feq, nl_sub, nl_ss, nl_lt, nl_llt, nl_ltt, nl_le, nl_lle, nl_lee, nl_eq, nl_leq, nl_ee, nl_div, nl_rem, nl_cl, nl_n1, nl_n2, nl_n3, nl_n4, nl_add, nl_ladd, nl_aa, nl_mul, nl_rmul, nl_mm, pu_wi_1, pu_wi_2, bX12_lengthen_19, bX12_lengthen_72, bX12_lengthen_80, bX12_lengthen_125, bX12_lengthen_63, bX12_lengthen_64, bX12_lengthen_60, a_ai, a_ald, a_gr, a_iadd, a_icge, a_icne, a_ifeq, a_ifne, a_ild, a_imul, a_inc, a_ist, a_push, sh_71, sh_72, pu_rv, pu_as, Value.category, pu_bk, pu_kl, pu_qe0, pu_qe1, f, hc, sr, il, c]
      all_goals try simp [bX12_lengthen_19, bX12_lengthen_72, bX12_lengthen_80, bX12_lengthen_125, bX12_lengthen_63, bX12_lengthen_64, bX12_lengthen_60, a_ai, a_ald, a_gr, a_iadd, a_icge, a_icne, a_ifeq, a_ifne, a_ild, a_imul, a_inc, a_ist, a_push, sh_71, sh_72, pu_rv, pu_as, Value.category, pu_bk, pu_kl, List.replicate, pu_wi_1, pu_wi_2, nl_add, nl_ladd, nl_aa, nl_mul, nl_rmul, nl_mm, pu_qe0, pu_qe1, f, hc, sr, il, c]
      all_goals try simp (maxSteps := 400000) (disch := omega) [nl_tle, nl_fle, nl_tlt, nl_flt, nl_teq, nl_feq, nl_sub, nl_ss, nl_lt, nl_llt, nl_ltt, nl_le, nl_lle, nl_lee, nl_eq, nl_leq, nl_ee, nl_div, nl_rem, nl_cl, nl_n1, nl_n2, nl_n3, nl_n4, nl_add, nl_ladd, nl_aa, nl_mul, nl_rmul, nl_mm, pu_wi_1, pu_wi_2, bX12_lengthen_19, bX12_lengthen_72, bX12_lengthen_80, bX12_lengthen_125, bX12_lengthen_63, bX12_lengthen_64, bX12_lengthen_60, a_ai, a_ald, a_gr, a_iadd, a_icge, a_icne, a_ifeq, a_ifne, a_ild, a_imul, a_inc, a_ist, a_push, sh_71, sh_72, pu_rv, pu_as, Value.category, pu_bk, pu_kl, pu_qe0, pu_qe1, f, hc, sr, il, c]
    · rw [pu_q0 (fun z => c (z i (by omega)))]
      refine ⟨nI (i + 1), ?_⟩
      have L0 : pu_r 434 [some (.ref 71), some (.ref rr), some (.int (nI w)), some (.int (nI k)), some (.int 0), some (.int (nI (i + 1)))] [] M = kX12_lengthen_72 pu_r [some (.ref 71), some (.ref rr), some (.int (nI w)), some (.int (nI k)), some (.int 0), some (.int (nI (i + 1)))] [] M := by
        by_cases z : i + 1 = 12
        · have hc2 : 12 ≤ nI (i + 1) := by rw [z]; decide
          rw [qX12_lengthen_19]
          simp [bX12_lengthen_19, a_ild, a_push, a_icge, hc2]
        · have hc2 : ¬ 12 ≤ nI (i + 1) := nI_ge (b := 12) (by omega) (by omega)
          rw [qX12_lengthen_19]
          simp [bX12_lengthen_19, a_ild, a_push, a_icge, a_ifeq, hc2]
      rw [← L0]
      rw [qX12_lengthen_19]
      simp [bX12_lengthen_19, bX12_lengthen_72, bX12_lengthen_80, bX12_lengthen_125, bX12_lengthen_63, bX12_lengthen_64, bX12_lengthen_60, a_ai, a_ald, a_gr, a_iadd, a_icge, a_icne, a_ifeq, a_ifne, a_ild, a_imul, a_inc, a_ist, a_push, sh_71, sh_72, pu_rv, pu_as, Value.category, pu_bk, pu_kl, List.replicate, pu_wi_1, pu_wi_2, nl_add, nl_ladd, nl_aa, nl_mul, nl_rmul, nl_mm, pu_qe0, pu_qe1, f, hc, sr, il, c]
      all_goals try simp (maxSteps := 400000) (disch := omega) [nl_tle, nl_fle, nl_tlt, nl_flt, nl_teq, nl_feq, nl_sub, nl_ss, nl_lt, nl_llt, nl_ltt, nl_le, nl_lle, nl_lee, nl_eq, nl_leq, nl_ee, nl_div, nl_rem, nl_cl, nl_n1, nl_n2, nl_n3, nl_n4, nl_add, nl_ladd, nl_aa, nl_mul, nl_rmul, nl_mm, pu_wi_1, pu_wi_2, bX12_lengthen_19, bX12_lengthen_72, bX12_lengthen_80, bX12_lengthen_125, bX12_lengthen_63, bX12_lengthen_64, bX12_lengthen_60, a_ai, a_ald, a_gr, a_iadd, a_icge, a_icne, a_ifeq, a_ifne, a_ild, a_imul, a_inc, a_ist, a_push, sh_71, sh_72, pu_rv, pu_as, Value.category, pu_bk, pu_kl, pu_qe0, pu_qe1, f, hc, sr, il, c]
      all_goals try simp [bX12_lengthen_19, bX12_lengthen_72, bX12_lengthen_80, bX12_lengthen_125, bX12_lengthen_63, bX12_lengthen_64, bX12_lengthen_60, a_ai, a_ald, a_gr, a_iadd, a_icge, a_icne, a_ifeq, a_ifne, a_ild, a_imul, a_inc, a_ist, a_push, sh_71, sh_72, pu_rv, pu_as, Value.category, pu_bk, pu_kl, List.replicate, pu_wi_1, pu_wi_2, nl_add, nl_ladd, nl_aa, nl_mul, nl_rmul, nl_mm, pu_qe0, pu_qe1, f, hc, sr, il, c]
      all_goals try simp (maxSteps := 400000) (disch := omega) [nl_tle, nl_fle, nl_tlt, nl_flt, nl_teq, nl_feq, nl_sub, nl_ss, nl_lt, nl_llt, nl_ltt, nl_le, nl_lle, nl_lee, nl_eq, nl_leq, nl_ee, nl_div, nl_rem, nl_cl, nl_n1, nl_n2, nl_n3, nl_n4, nl_add, nl_ladd, nl_aa, nl_mul, nl_rmul, nl_mm, pu_wi_1, pu_wi_2, bX12_lengthen_19, bX12_lengthen_72, bX12_lengthen_80, bX12_lengthen_125, bX12_lengthen_63, bX12_lengthen_64, bX12_lengthen_60, a_ai, a_ald, a_gr, a_iadd, a_icge, a_icne, a_ifeq, a_ifne, a_ild, a_imul, a_inc, a_ist, a_push, sh_71, sh_72, pu_rv, pu_as, Value.category, pu_bk, pu_kl, pu_qe0, pu_qe1, f, hc, sr, il, c]
def py_lc (M : pu_M) (rr w k i : Nat) : pu_M := (fun a j => if a = rr ∧ 12 * w ≤ j ∧ j < 12 * w + i then M.1 72 (30152 + 24 * k + 12 + (j - 12 * w)) else M.1 a j, M.2)
theorem py_lc_s (M : pu_M) (rr w k i : Nat) : pu_wi (py_lc M rr w k i) rr (12 * w + i) (M.1 72 (30152 + 24 * k + 12 + i)) = py_lc M rr w k (i + 1) := by
  unfold pu_wi py_lc
  congr 1
  funext a j
  by_cases e : a = rr
  · by_cases f : j = 12 * w + i
    · simp only [e, f, if_true]
      rw [if_pos ⟨trivial, by omega⟩, show 12 * w + i - 12 * w = i by omega]
    · simp only [e, f, if_true, if_false]
      by_cases g : 12 * w ≤ j ∧ j < 12 * w + i
      · rw [if_pos ⟨trivial, g⟩, if_pos ⟨trivial, by omega⟩]
      · rw [if_neg (fun q => g q.2), if_neg (fun q => g (by omega))]
  · simp [e]
theorem r_len_c (hx : pu_fx M) (rr : Nat) (sr : pu_sh rr = (1, 36)) (hr : rr ≠ 72) (w k : Nat) (hw3 : w < 3) (hk : k < 20) : ∀ m i, i + m = 12 → pu_r 435 [some (.ref 71), some (.ref rr), some (.int (nI w)), some (.int (nI k)), some (.int 1), some (.int (nI i))] [] (py_lc M rr w k i) = some (none, py_lc M rr w k 12)
  | 0, i, h => by
    have e : i = 12 := by omega
    subst e
    have hc : 12 ≤ nI 12 := by decide
    generalize py_lc M rr w k 12 = N at *
    rw [qX12_lengthen_83]
    simp [bX12_lengthen_83, bX12_lengthen_124, a_ai, a_ald, a_gr, a_iadd, a_icge, a_ild, a_imul, a_inc, a_push, a_vret, a_wi, sh_71, sh_72, pu_rv, pu_as, Value.category, pu_bk, pu_kl, List.replicate, pu_wi_1, pu_wi_2, nl_add, nl_ladd, nl_aa, nl_mul, nl_rmul, nl_mm, pu_qe0, pu_qe1, hc]
    all_goals try simp (maxSteps := 400000) (disch := omega) [nl_tle, nl_fle, nl_tlt, nl_flt, nl_teq, nl_feq, nl_sub, nl_ss, nl_lt, nl_llt, nl_ltt, nl_le, nl_lle, nl_lee, nl_eq, nl_leq, nl_ee, nl_div, nl_rem, nl_cl, nl_n1, nl_n2, nl_n3, nl_n4, nl_add, nl_ladd, nl_aa, nl_mul, nl_rmul, nl_mm, pu_wi_1, pu_wi_2, bX12_lengthen_83, bX12_lengthen_124, a_ai, a_ald, a_gr, a_iadd, a_icge, a_ild, a_imul, a_inc, a_push, a_vret, a_wi, sh_71, sh_72, pu_rv, pu_as, Value.category, pu_bk, pu_kl, pu_qe0, pu_qe1, hc]
    all_goals try simp [bX12_lengthen_83, bX12_lengthen_124, a_ai, a_ald, a_gr, a_iadd, a_icge, a_ild, a_imul, a_inc, a_push, a_vret, a_wi, sh_71, sh_72, pu_rv, pu_as, Value.category, pu_bk, pu_kl, List.replicate, pu_wi_1, pu_wi_2, nl_add, nl_ladd, nl_aa, nl_mul, nl_rmul, nl_mm, pu_qe0, pu_qe1, hc]
    all_goals try simp (maxSteps := 400000) (disch := omega) [nl_tle, nl_fle, nl_tlt, nl_flt, nl_teq, nl_feq, nl_sub, nl_ss, nl_lt, nl_llt, nl_ltt, nl_le, nl_lle, nl_lee, nl_eq, nl_leq, nl_ee, nl_div, nl_rem, nl_cl, nl_n1, nl_n2, nl_n3, nl_n4, nl_add, nl_ladd, nl_aa, nl_mul, nl_rmul, nl_mm, pu_wi_1, pu_wi_2, bX12_lengthen_83, bX12_lengthen_124, a_ai, a_ald, a_gr, a_iadd, a_icge, a_ild, a_imul, a_inc, a_push, a_vret, a_wi, sh_71, sh_72, pu_rv, pu_as, Value.category, pu_bk, pu_kl, pu_qe0, pu_qe1, hc]
  | m + 1, i, h => by
    have hc : ¬ 12 ≤ nI i := nI_ge (b := 12) (by omega) (by omega)
    have ih := r_len_c hx rr sr hr w k hw3 hk m (i + 1) (by omega)
    rw [← py_lc_s] at ih
    have f : (py_lc M rr w k i).2.2.1 71 0 = some 72 := fx_71_0 hx
    have v : (py_lc M rr w k i).1 72 (30152 + 24 * k + 12 + i) = M.1 72 (30152 + 24 * k + 12 + i) := if_neg (fun z => hr z.1.symm)
    have il : 12 * w + i < 36 := by omega
    generalize py_lc M rr w k i = N at *
    rw [qX12_lengthen_83]
    simp [bX12_lengthen_83, bX12_lengthen_124, a_ai, a_ald, a_gr, a_iadd, a_icge, a_ild, a_imul, a_inc, a_push, a_vret, a_wi, sh_71, sh_72, pu_rv, pu_as, Value.category, pu_bk, pu_kl, List.replicate, pu_wi_1, pu_wi_2, nl_add, nl_ladd, nl_aa, nl_mul, nl_rmul, nl_mm, pu_qe0, pu_qe1, hc, f, sr, il, v, ih]
    all_goals try simp (maxSteps := 400000) (disch := omega) [nl_tle, nl_fle, nl_tlt, nl_flt, nl_teq, nl_feq, nl_sub, nl_ss, nl_lt, nl_llt, nl_ltt, nl_le, nl_lle, nl_lee, nl_eq, nl_leq, nl_ee, nl_div, nl_rem, nl_cl, nl_n1, nl_n2, nl_n3, nl_n4, nl_add, nl_ladd, nl_aa, nl_mul, nl_rmul, nl_mm, pu_wi_1, pu_wi_2, bX12_lengthen_83, bX12_lengthen_124, a_ai, a_ald, a_gr, a_iadd, a_icge, a_ild, a_imul, a_inc, a_push, a_vret, a_wi, sh_71, sh_72, pu_rv, pu_as, Value.category, pu_bk, pu_kl, pu_qe0, pu_qe1, hc, f, sr, il, v, ih]
    all_goals try simp [bX12_lengthen_83, bX12_lengthen_124, a_ai, a_ald, a_gr, a_iadd, a_icge, a_ild, a_imul, a_inc, a_push, a_vret, a_wi, sh_71, sh_72, pu_rv, pu_as, Value.category, pu_bk, pu_kl, List.replicate, pu_wi_1, pu_wi_2, nl_add, nl_ladd, nl_aa, nl_mul, nl_rmul, nl_mm, pu_qe0, pu_qe1, hc, f, sr, il, v, ih]
    all_goals try simp (maxSteps := 400000) (disch := omega) [nl_tle, nl_fle, nl_tlt, nl_flt, nl_teq, nl_feq, nl_sub, nl_ss, nl_lt, nl_llt, nl_ltt, nl_le, nl_lle, nl_lee, nl_eq, nl_leq, nl_ee, nl_div, nl_rem, nl_cl, nl_n1, nl_n2, nl_n3, nl_n4, nl_add, nl_ladd, nl_aa, nl_mul, nl_rmul, nl_mm, pu_wi_1, pu_wi_2, bX12_lengthen_83, bX12_lengthen_124, a_ai, a_ald, a_gr, a_iadd, a_icge, a_ild, a_imul, a_inc, a_push, a_vret, a_wi, sh_71, sh_72, pu_rv, pu_as, Value.category, pu_bk, pu_kl, pu_qe0, pu_qe1, hc, f, sr, il, v, ih]
theorem r_lengthen (hx : pu_fx M) (hr : pu_Rel I L (M.1 72)) (hw : pu_WF I L) (rr : Nat) (sr : pu_sh rr = (1, 36)) (hrr : rr ≠ 72) (w : Nat) (hw3 : w < 3) (x : Int64) (hd : pu_Wd (M.1 rr) (12 * w) x) : ∃ N, N.2 = M.2 ∧ (∀ a j, ¬ (a = rr ∧ 12 * w ≤ j ∧ j < 12 * w + 12) → N.1 a j = M.1 a j) ∧ pu_Wd (N.1 rr) (12 * w) (py_fu I L x) ∧ pu_r 242 [some (.ref 71), some (.ref rr), some (.int (nI w))] [] M = some (none, N) := by
  have bF := wx_bF hw
  have f := fx_71_0 hx
  have h8 := rl_h8 hr
  -- from short form i on, none of those before being it
  have G : ∀ m i (t4 t5 : Option Value), i + m = cF I → (∀ l, l < i → L 43 l ≠ x) → ∃ N, N.2 = M.2 ∧ (∀ a j, ¬ (a = rr ∧ 12 * w ≤ j ∧ j < 12 * w + 12) → N.1 a j = M.1 a j) ∧ pu_Wd (N.1 rr) (12 * w) (py_fu I L x) ∧ pu_r 433 [some (.ref 71), some (.ref rr), some (.int (nI w)), some (.int (nI i)), t4, t5] [] M = some (none, N) := by
    intro m
    induction m with
    | zero =>
      intro i t4 t5 h g
      have e : i = cF I := by omega
      subst e
      refine ⟨M, rfl, fun _ _ _ => rfl, ?_, ?_⟩
      · unfold py_fu
        rcases py_fi_s hw x with ⟨a, b⟩ | ⟨k, k1, k2, k3, k4⟩
        · rw [if_pos a]
          exact hd
        · exact absurd k3 (g k k1)
      · rw [qX12_lengthen_2]
        simp [bX12_lengthen_2, bX12_lengthen_131, a_ai, a_ald, a_gr, a_icge, a_ild, a_ist, a_push, a_vret, sh_71, sh_72, pu_rv, pu_as, Value.category, pu_bk, pu_kl, List.replicate, pu_wi_1, pu_wi_2, nl_add, nl_ladd, nl_aa, nl_mul, nl_rmul, nl_mm, pu_qe0, pu_qe1, f, h8]
        all_goals try simp (maxSteps := 400000) (disch := omega) [nl_tle, nl_fle, nl_tlt, nl_flt, nl_teq, nl_feq, nl_sub, nl_ss, nl_lt, nl_llt, nl_ltt, nl_le, nl_lle, nl_lee, nl_eq, nl_leq, nl_ee, nl_div, nl_rem, nl_cl, nl_n1, nl_n2, nl_n3, nl_n4, nl_add, nl_ladd, nl_aa, nl_mul, nl_rmul, nl_mm, pu_wi_1, pu_wi_2, bX12_lengthen_2, bX12_lengthen_131, a_ai, a_ald, a_gr, a_icge, a_ild, a_ist, a_push, a_vret, sh_71, sh_72, pu_rv, pu_as, Value.category, pu_bk, pu_kl, pu_qe0, pu_qe1, f, h8]
        all_goals try simp [bX12_lengthen_2, bX12_lengthen_131, a_ai, a_ald, a_gr, a_icge, a_ild, a_ist, a_push, a_vret, sh_71, sh_72, pu_rv, pu_as, Value.category, pu_bk, pu_kl, List.replicate, pu_wi_1, pu_wi_2, nl_add, nl_ladd, nl_aa, nl_mul, nl_rmul, nl_mm, pu_qe0, pu_qe1, f, h8]
        all_goals try simp (maxSteps := 400000) (disch := omega) [nl_tle, nl_fle, nl_tlt, nl_flt, nl_teq, nl_feq, nl_sub, nl_ss, nl_lt, nl_llt, nl_ltt, nl_le, nl_lle, nl_lee, nl_eq, nl_leq, nl_ee, nl_div, nl_rem, nl_cl, nl_n1, nl_n2, nl_n3, nl_n4, nl_add, nl_ladd, nl_aa, nl_mul, nl_rmul, nl_mm, pu_wi_1, pu_wi_2, bX12_lengthen_2, bX12_lengthen_131, a_ai, a_ald, a_gr, a_icge, a_ild, a_ist, a_push, a_vret, sh_71, sh_72, pu_rv, pu_as, Value.category, pu_bk, pu_kl, pu_qe0, pu_qe1, f, h8]
    | succ m ih =>
      intro i t4 t5 h g
      have hc : ¬ nI (cF I) ≤ nI i := nI_ge (by omega) (by omega)
      obtain ⟨u, hu⟩ := r_len_m hx rr sr w i hw3 (by omega) 12 0 (by omega) (fun j hj => by omega)
      rw [nI_0] at hu
      have eq := py_wd_eq hd (rl_f0 hr i (by omega))
      by_cases c : L 43 i = x
      · rw [pu_q1 (eq.mpr c.symm)] at hu
        refine ⟨py_lc M rr w i 12, rfl, fun a j hj => if_neg hj, ?_, ?_⟩
        · unfold py_fu
          rcases py_fi_s hw x with ⟨a, b⟩ | ⟨k, k1, k2, k3, k4⟩
          · exact absurd c (b i (by omega))
          · have ki : k = i := by
              apply Classical.byContradiction
              intro z
              by_cases y : k < i
              · exact g k y k3
              · exact k4 i (by omega) c
            subst ki
            have ne : ¬ nI k = -1 := fun q => by rw [nl_n1 _ (by omega)] at q; exact q
            rw [k2, if_neg ne, nl_cl _ (by omega)]
            have fm := rl_f1 hr k (by omega)
            obtain ⟨ds, l1, d1, r1, e1⟩ := fm
            refine ⟨ds, l1, d1, fun j hj => ?_, e1⟩
            show (if rr = rr ∧ 12 * w ≤ 12 * w + j ∧ 12 * w + j < 12 * w + 12 then M.1 72 (30152 + 24 * k + 12 + (12 * w + j - 12 * w)) else _) = _
            rw [if_pos ⟨rfl, by omega, by omega⟩, show 12 * w + j - 12 * w = j by omega]
            exact r1 j hj
        · have L0 := r_len_c hx rr sr hrr w i hw3 (by omega) 12 0 (by omega)
          have Z : py_lc M rr w i 0 = M := by
            unfold py_lc
            have : (fun a j => if a = rr ∧ 12 * w ≤ j ∧ j < 12 * w + 0 then M.1 72 (30152 + 24 * i + 12 + (j - 12 * w)) else M.1 a j) = M.1 := by
              funext a j
              rw [if_neg (by omega)]
            rw [this]
          rw [Z, nI_0] at L0
          have hu2 : kX12_lengthen_72 pu_r [some (.ref 71), some (.ref rr), some (.int (nI w)), some (.int (nI i)), some (.int 1), some (.int u)] [] M = some (none, py_lc M rr w i 12) := by
            simp [bX12_lengthen_72, bX12_lengthen_80, bX12_lengthen_125, a_ifne, a_ild, a_inc, a_ist, a_push, pu_rv, pu_as, Value.category, pu_bk, pu_kl, List.replicate, pu_wi_1, pu_wi_2, nl_add, nl_ladd, nl_aa, nl_mul, nl_rmul, nl_mm, pu_qe0, pu_qe1, L0]
            all_goals try simp (maxSteps := 400000) (disch := omega) [nl_tle, nl_fle, nl_tlt, nl_flt, nl_teq, nl_feq, nl_sub, nl_ss, nl_lt, nl_llt, nl_ltt, nl_le, nl_lle, nl_lee, nl_eq, nl_leq, nl_ee, nl_div, nl_rem, nl_cl, nl_n1, nl_n2, nl_n3, nl_n4, nl_add, nl_ladd, nl_aa, nl_mul, nl_rmul, nl_mm, pu_wi_1, pu_wi_2, bX12_lengthen_72, bX12_lengthen_80, bX12_lengthen_125, a_ifne, a_ild, a_inc, a_ist, a_push, pu_rv, pu_as, Value.category, pu_bk, pu_kl, pu_qe0, pu_qe1, L0]
            all_goals try simp [bX12_lengthen_72, bX12_lengthen_80, bX12_lengthen_125, a_ifne, a_ild, a_inc, a_ist, a_push, pu_rv, pu_as, Value.category, pu_bk, pu_kl, List.replicate, pu_wi_1, pu_wi_2, nl_add, nl_ladd, nl_aa, nl_mul, nl_rmul, nl_mm, pu_qe0, pu_qe1, L0]
            all_goals try simp (maxSteps := 400000) (disch := omega) [nl_tle, nl_fle, nl_tlt, nl_flt, nl_teq, nl_feq, nl_sub, nl_ss, nl_lt, nl_llt, nl_ltt, nl_le, nl_lle, nl_lee, nl_eq, nl_leq, nl_ee, nl_div, nl_rem, nl_cl, nl_n1, nl_n2, nl_n3, nl_n4, nl_add, nl_ladd, nl_aa, nl_mul, nl_rmul, nl_mm, pu_wi_1, pu_wi_2, bX12_lengthen_72, bX12_lengthen_80, bX12_lengthen_125, a_ifne, a_ild, a_inc, a_ist, a_push, pu_rv, pu_as, Value.category, pu_bk, pu_kl, pu_qe0, pu_qe1, L0]
          rw [hu2] at hu
          rw [qX12_lengthen_2]
          simp [bX12_lengthen_2, bX12_lengthen_131, a_ai, a_ald, a_gr, a_icge, a_ild, a_ist, a_push, a_vret, sh_71, sh_72, pu_rv, pu_as, Value.category, pu_bk, pu_kl, List.replicate, pu_wi_1, pu_wi_2, nl_add, nl_ladd, nl_aa, nl_mul, nl_rmul, nl_mm, pu_qe0, pu_qe1, f, h8, hc, hu]
          all_goals try simp (maxSteps := 400000) (disch := omega) [nl_tle, nl_fle, nl_tlt, nl_flt, nl_teq, nl_feq, nl_sub, nl_ss, nl_lt, nl_llt, nl_ltt, nl_le, nl_lle, nl_lee, nl_eq, nl_leq, nl_ee, nl_div, nl_rem, nl_cl, nl_n1, nl_n2, nl_n3, nl_n4, nl_add, nl_ladd, nl_aa, nl_mul, nl_rmul, nl_mm, pu_wi_1, pu_wi_2, bX12_lengthen_2, bX12_lengthen_131, a_ai, a_ald, a_gr, a_icge, a_ild, a_ist, a_push, a_vret, sh_71, sh_72, pu_rv, pu_as, Value.category, pu_bk, pu_kl, pu_qe0, pu_qe1, f, h8, hc, hu]
          all_goals try simp [bX12_lengthen_2, bX12_lengthen_131, a_ai, a_ald, a_gr, a_icge, a_ild, a_ist, a_push, a_vret, sh_71, sh_72, pu_rv, pu_as, Value.category, pu_bk, pu_kl, List.replicate, pu_wi_1, pu_wi_2, nl_add, nl_ladd, nl_aa, nl_mul, nl_rmul, nl_mm, pu_qe0, pu_qe1, f, h8, hc, hu]
          all_goals try simp (maxSteps := 400000) (disch := omega) [nl_tle, nl_fle, nl_tlt, nl_flt, nl_teq, nl_feq, nl_sub, nl_ss, nl_lt, nl_llt, nl_ltt, nl_le, nl_lle, nl_lee, nl_eq, nl_leq, nl_ee, nl_div, nl_rem, nl_cl, nl_n1, nl_n2, nl_n3, nl_n4, nl_add, nl_ladd, nl_aa, nl_mul, nl_rmul, nl_mm, pu_wi_1, pu_wi_2, bX12_lengthen_2, bX12_lengthen_131, a_ai, a_ald, a_gr, a_icge, a_ild, a_ist, a_push, a_vret, sh_71, sh_72, pu_rv, pu_as, Value.category, pu_bk, pu_kl, pu_qe0, pu_qe1, f, h8, hc, hu]
      · rw [pu_q0 (fun z => c (eq.mp z).symm)] at hu
        obtain ⟨N, n1, n2, n3, n4⟩ := ih (i + 1) (some (.int 0)) (some (.int u)) (by omega) (fun l hl => by
          by_cases z : l = i
          · rw [z]; exact c
          · exact g l (by omega))
        refine ⟨N, n1, n2, n3, ?_⟩
        have hu2 : kX12_lengthen_72 pu_r [some (.ref 71), some (.ref rr), some (.int (nI w)), some (.int (nI i)), some (.int 0), some (.int u)] [] M = some (none, N) := by
          simp [bX12_lengthen_72, bX12_lengthen_80, bX12_lengthen_125, a_ifne, a_ild, a_inc, a_ist, a_push, pu_rv, pu_as, Value.category, pu_bk, pu_kl, List.replicate, pu_wi_1, pu_wi_2, nl_add, nl_ladd, nl_aa, nl_mul, nl_rmul, nl_mm, pu_qe0, pu_qe1, n4]
          all_goals try simp (maxSteps := 400000) (disch := omega) [nl_tle, nl_fle, nl_tlt, nl_flt, nl_teq, nl_feq, nl_sub, nl_ss, nl_lt, nl_llt, nl_ltt, nl_le, nl_lle, nl_lee, nl_eq, nl_leq, nl_ee, nl_div, nl_rem, nl_cl, nl_n1, nl_n2, nl_n3, nl_n4, nl_add, nl_ladd, nl_aa, nl_mul, nl_rmul, nl_mm, pu_wi_1, pu_wi_2, bX12_lengthen_72, bX12_lengthen_80, bX12_lengthen_125, a_ifne, a_ild, a_inc, a_ist, a_push, pu_rv, pu_as, Value.category, pu_bk, pu_kl, pu_qe0, pu_qe1, n4]
          all_goals try simp [bX12_lengthen_72, bX12_lengthen_80, bX12_lengthen_125, a_ifne, a_ild, a_inc, a_ist, a_push, pu_rv, pu_as, Value.category, pu_bk, pu_kl, List.replicate, pu_wi_1, pu_wi_2, nl_add, nl_ladd, nl_aa, nl_mul, nl_rmul, nl_mm, pu_qe0, pu_qe1, n4]
          all_goals try simp (maxSteps := 400000) (disch := omega) [nl_tle, nl_fle, nl_tlt, nl_flt, nl_teq, nl_feq, nl_sub, nl_ss, nl_lt, nl_llt, nl_ltt, nl_le, nl_lle, nl_lee, nl_eq, nl_leq, nl_ee, nl_div, nl_rem, nl_cl, nl_n1, nl_n2, nl_n3, nl_n4, nl_add, nl_ladd, nl_aa, nl_mul, nl_rmul, nl_mm, pu_wi_1, pu_wi_2, bX12_lengthen_72, bX12_lengthen_80, bX12_lengthen_125, a_ifne, a_ild, a_inc, a_ist, a_push, pu_rv, pu_as, Value.category, pu_bk, pu_kl, pu_qe0, pu_qe1, n4]
        rw [hu2] at hu
        rw [qX12_lengthen_2]
        simp [bX12_lengthen_2, bX12_lengthen_131, a_ai, a_ald, a_gr, a_icge, a_ild, a_ist, a_push, a_vret, sh_71, sh_72, pu_rv, pu_as, Value.category, pu_bk, pu_kl, List.replicate, pu_wi_1, pu_wi_2, nl_add, nl_ladd, nl_aa, nl_mul, nl_rmul, nl_mm, pu_qe0, pu_qe1, f, h8, hc, hu]
        all_goals try simp (maxSteps := 400000) (disch := omega) [nl_tle, nl_fle, nl_tlt, nl_flt, nl_teq, nl_feq, nl_sub, nl_ss, nl_lt, nl_llt, nl_ltt, nl_le, nl_lle, nl_lee, nl_eq, nl_leq, nl_ee, nl_div, nl_rem, nl_cl, nl_n1, nl_n2, nl_n3, nl_n4, nl_add, nl_ladd, nl_aa, nl_mul, nl_rmul, nl_mm, pu_wi_1, pu_wi_2, bX12_lengthen_2, bX12_lengthen_131, a_ai, a_ald, a_gr, a_icge, a_ild, a_ist, a_push, a_vret, sh_71, sh_72, pu_rv, pu_as, Value.category, pu_bk, pu_kl, pu_qe0, pu_qe1, f, h8, hc, hu]
        all_goals try simp [bX12_lengthen_2, bX12_lengthen_131, a_ai, a_ald, a_gr, a_icge, a_ild, a_ist, a_push, a_vret, sh_71, sh_72, pu_rv, pu_as, Value.category, pu_bk, pu_kl, List.replicate, pu_wi_1, pu_wi_2, nl_add, nl_ladd, nl_aa, nl_mul, nl_rmul, nl_mm, pu_qe0, pu_qe1, f, h8, hc, hu]
        all_goals try simp (maxSteps := 400000) (disch := omega) [nl_tle, nl_fle, nl_tlt, nl_flt, nl_teq, nl_feq, nl_sub, nl_ss, nl_lt, nl_llt, nl_ltt, nl_le, nl_lle, nl_lee, nl_eq, nl_leq, nl_ee, nl_div, nl_rem, nl_cl, nl_n1, nl_n2, nl_n3, nl_n4, nl_add, nl_ladd, nl_aa, nl_mul, nl_rmul, nl_mm, pu_wi_1, pu_wi_2, bX12_lengthen_2, bX12_lengthen_131, a_ai, a_ald, a_gr, a_icge, a_ild, a_ist, a_push, a_vret, sh_71, sh_72, pu_rv, pu_as, Value.category, pu_bk, pu_kl, pu_qe0, pu_qe1, f, h8, hc, hu]
  obtain ⟨N, n1, n2, n3, n4⟩ := G (cF I) 0 none none (by omega) (fun l hl => by omega)
  refine ⟨N, n1, n2, n3, ?_⟩
  rw [nI_0] at n4
  rw [qX12_lengthen]
  simp [a_ent, bX12_lengthen_0, a_ist, a_push, pu_rv, pu_as, Value.category, pu_bk, pu_kl, List.replicate, pu_wi_1, pu_wi_2, nl_add, nl_ladd, nl_aa, nl_mul, nl_rmul, nl_mm, pu_qe0, pu_qe1, n4]
  all_goals try simp (maxSteps := 400000) (disch := omega) [nl_tle, nl_fle, nl_tlt, nl_flt, nl_teq, nl_feq, nl_sub, nl_ss, nl_lt, nl_llt, nl_ltt, nl_le, nl_lle, nl_lee, nl_eq, nl_leq, nl_ee, nl_div, nl_rem, nl_cl, nl_n1, nl_n2, nl_n3, nl_n4, nl_add, nl_ladd, nl_aa, nl_mul, nl_rmul, nl_mm, pu_wi_1, pu_wi_2, bX12_lengthen_0, a_ist, a_push, pu_rv, pu_as, Value.category, pu_bk, pu_kl, pu_qe0, pu_qe1, n4]
  all_goals try simp [bX12_lengthen_0, a_ist, a_push, pu_rv, pu_as, Value.category, pu_bk, pu_kl, List.replicate, pu_wi_1, pu_wi_2, nl_add, nl_ladd, nl_aa, nl_mul, nl_rmul, nl_mm, pu_qe0, pu_qe1, n4]
  all_goals try simp (maxSteps := 400000) (disch := omega) [nl_tle, nl_fle, nl_tlt, nl_flt, nl_teq, nl_feq, nl_sub, nl_ss, nl_lt, nl_llt, nl_ltt, nl_le, nl_lle, nl_lee, nl_eq, nl_leq, nl_ee, nl_div, nl_rem, nl_cl, nl_n1, nl_n2, nl_n3, nl_n4, nl_add, nl_ladd, nl_aa, nl_mul, nl_rmul, nl_mm, pu_wi_1, pu_wi_2, bX12_lengthen_0, a_ist, a_push, pu_rv, pu_as, Value.category, pu_bk, pu_kl, pu_qe0, pu_qe1, n4]
end
