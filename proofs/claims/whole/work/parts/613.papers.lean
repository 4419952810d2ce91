/-! papers: what is there, what holds -/
noncomputable def pu_q (p : Prop) : Int32 := @ite Int32 p (Classical.propDecidable p) 1 0
theorem pu_q1 {p : Prop} (h : p) : pu_q p = 1 := by
  unfold pu_q
  rw [if_pos h]
theorem pu_q0 {p : Prop} (h : ¬ p) : pu_q p = 0 := by
  unfold pu_q
  rw [if_neg h]
theorem pu_qe0 (p : Prop) : (pu_q p = 0) = ¬ p := by
  by_cases h : p
  · rw [pu_q1 h]
    simp [h]
  · rw [pu_q0 h]
    simp [h]
theorem pu_qe1 (p : Prop) : (pu_q p = 1) = p := by
  by_cases h : p
  · rw [pu_q1 h]
    simp [h]
  · rw [pu_q0 h]
    simp [h]
/-- paper j is known -/
def pu_kn (I : Nat → Nat → Int32) (j : Nat) : Prop := I 6 1 = -1 ∨ I 8 j ≤ I 6 1
/-- a closing paper, -1 for none, is known and began by a day -/
def pu_hd (I : Nat → Nat → Int32) (o : Nat) (c d : Int32) : Prop := (pu_kn I o ∧ I 7 o ≤ d) ∧ ¬ (c ≠ -1 ∧ pu_kn I c.toNatClampNeg ∧ I 7 c.toNatClampNeg ≤ d)
theorem e_X6_isThere {M : pu_M} (hx : pu_fx M) {n : Nat} (hn : M.1 6 2 = nI n) (hb : n ≤ 200) (j : Nat) (hj : j < n) : pu_r 67 [some (.ref 6), some (.int (nI j))] [] M = some (some (.int (pu_q (pu_kn M.1 j))), M) := by
  unfold pu_kn
  rw [qX6_isThere]
  simp [a_ent, bX6_isThere_0, bX6_isThere_37, bX6_isThere_38, bX6_isThere_33, a_ai, a_ald, a_gi, a_gr, a_iceq, a_icge, a_icgt, a_iflt, a_ild, a_push, a_zret, fx_6_4 hx, sh_6, sh_8, pu_rv, pu_as, Value.category, pu_bk, pu_kl, List.replicate, pu_wi_1, pu_wi_2, nl_add, nl_ladd, nl_aa, nl_mul, nl_rmul, nl_mm, pu_qe0, pu_qe1, hn, hj]
  all_goals try simp (maxSteps := 400000) (disch := omega) [nl_tle, nl_fle, nl_tlt, nl_flt, nl_teq, nl_feq, nl_sub, nl_ss, nl_lt, nl_llt, nl_ltt, nl_le, nl_lle, nl_lee, nl_eq, nl_leq, nl_ee, nl_div, nl_rem, nl_cl, nl_n1, nl_n2, nl_n3, nl_n4, nl_add, nl_ladd, nl_aa, nl_mul, nl_rmul, nl_mm, pu_wi_1, pu_wi_2, hn, hj]
  by_cases h1 : M.1 6 1 = -1
  · simp [h1, pu_q1]
  · by_cases h2 : M.1 8 j ≤ M.1 6 1
    · have h3 : ¬ M.1 6 1 < M.1 8 j := Int32.not_lt.mpr h2
      simp [h1, h2, h3, pu_q1]
    · have h3 : M.1 6 1 < M.1 8 j := Int32.not_le.mp h2
      simp [h1, h2, h3, pu_q0]
theorem e_X6_isThere_n {M : pu_M} (hx : pu_fx M) : pu_r 67 [some (.ref 6), some (.int (-1))] [] M = some (some (.int 0), M) := by
  rw [qX6_isThere]
  simp [a_ent, bX6_isThere_0, bX6_isThere_37, bX6_isThere_38, bX6_isThere_33, a_ai, a_ald, a_gi, a_gr, a_iceq, a_icge, a_icgt, a_iflt, a_ild, a_push, a_zret, fx_6_4 hx, sh_6, sh_8, pu_rv, pu_as, Value.category, pu_bk, pu_kl, List.replicate, pu_wi_1, pu_wi_2, nl_add, nl_ladd, nl_aa, nl_mul, nl_rmul, nl_mm, pu_qe0, pu_qe1]
  all_goals try simp (maxSteps := 400000) (disch := omega) [nl_tle, nl_fle, nl_tlt, nl_flt, nl_teq, nl_feq, nl_sub, nl_ss, nl_lt, nl_llt, nl_ltt, nl_le, nl_lle, nl_lee, nl_eq, nl_leq, nl_ee, nl_div, nl_rem, nl_cl, nl_n1, nl_n2, nl_n3, nl_n4, nl_add, nl_ladd, nl_aa, nl_mul, nl_rmul, nl_mm, pu_wi_1, pu_wi_2]
theorem e_X11_as0 {M : pu_M} (hx : pu_fx M) (d : Int32) (h : ¬ (d = -1 ∨ (¬ d < 0 ∧ ¬ 109574 < d))) : pu_r 20 [some (.ref 0), some (.int d)] [] M = some (some (.int 0), M) := by
  have h1 : ¬ d = -1 := fun e => h (Or.inl e)
  by_cases h2 : d < 0
  · rw [qX11_as]
    simp [a_ent, bX11_as_0, bX11_as_14, a_ald, a_cs, a_gr, a_iceq, a_ifne, a_ild, a_pi, a_push, a_zret, fx_0_2 hx, fx_5_0 hx, sh_0, sh_5, sh_6, pu_rv, pu_as, Value.category, pu_bk, pu_kl, List.replicate, pu_wi_1, pu_wi_2, nl_add, nl_ladd, nl_aa, nl_mul, nl_rmul, nl_mm, pu_qe0, pu_qe1, e_X11_isDay, h1, h2]
    all_goals try simp (maxSteps := 400000) (disch := omega) [nl_tle, nl_fle, nl_tlt, nl_flt, nl_teq, nl_feq, nl_sub, nl_ss, nl_lt, nl_llt, nl_ltt, nl_le, nl_lle, nl_lee, nl_eq, nl_leq, nl_ee, nl_div, nl_rem, nl_cl, nl_n1, nl_n2, nl_n3, nl_n4, nl_add, nl_ladd, nl_aa, nl_mul, nl_rmul, nl_mm, pu_wi_1, pu_wi_2, e_X11_isDay, h1, h2]
  · have h3 : 109574 < d := Classical.byContradiction (fun q => h (Or.inr ⟨h2, q⟩))
    rw [qX11_as]
    simp [a_ent, bX11_as_0, bX11_as_14, a_ald, a_cs, a_gr, a_iceq, a_ifne, a_ild, a_pi, a_push, a_zret, fx_0_2 hx, fx_5_0 hx, sh_0, sh_5, sh_6, pu_rv, pu_as, Value.category, pu_bk, pu_kl, List.replicate, pu_wi_1, pu_wi_2, nl_add, nl_ladd, nl_aa, nl_mul, nl_rmul, nl_mm, pu_qe0, pu_qe1, e_X11_isDay, h1, h2, h3]
    all_goals try simp (maxSteps := 400000) (disch := omega) [nl_tle, nl_fle, nl_tlt, nl_flt, nl_teq, nl_feq, nl_sub, nl_ss, nl_lt, nl_llt, nl_ltt, nl_le, nl_lle, nl_lee, nl_eq, nl_leq, nl_ee, nl_div, nl_rem, nl_cl, nl_n1, nl_n2, nl_n3, nl_n4, nl_add, nl_ladd, nl_aa, nl_mul, nl_rmul, nl_mm, pu_wi_1, pu_wi_2, e_X11_isDay, h1, h2, h3]
theorem e_X11_as1 {M : pu_M} (hx : pu_fx M) (d : Int32) (h : (d = -1 ∨ (¬ d < 0 ∧ ¬ 109574 < d))) : pu_r 20 [some (.ref 0), some (.int d)] [] M = some (some (.int 1), pu_wi M 6 1 d) := by
  rcases h with h | ⟨h1, h2⟩
  · subst h
    rw [qX11_as]
    simp [a_ent, bX11_as_0, bX11_as_14, a_ald, a_cs, a_gr, a_iceq, a_ifne, a_ild, a_pi, a_push, a_zret, fx_0_2 hx, fx_5_0 hx, sh_0, sh_5, sh_6, pu_rv, pu_as, Value.category, pu_bk, pu_kl, List.replicate, pu_wi_1, pu_wi_2, nl_add, nl_ladd, nl_aa, nl_mul, nl_rmul, nl_mm, pu_qe0, pu_qe1]
    all_goals try simp (maxSteps := 400000) (disch := omega) [nl_tle, nl_fle, nl_tlt, nl_flt, nl_teq, nl_feq, nl_sub, nl_ss, nl_lt, nl_llt, nl_ltt, nl_le, nl_lle, nl_lee, nl_eq, nl_leq, nl_ee, nl_div, nl_rem, nl_cl, nl_n1, nl_n2, nl_n3, nl_n4, nl_add, nl_ladd, nl_aa, nl_mul, nl_rmul, nl_mm, pu_wi_1, pu_wi_2]
  · by_cases h3 : d = -1
    · rw [qX11_as]
      simp [a_ent, bX11_as_0, bX11_as_14, a_ald, a_cs, a_gr, a_iceq, a_ifne, a_ild, a_pi, a_push, a_zret, fx_0_2 hx, fx_5_0 hx, sh_0, sh_5, sh_6, pu_rv, pu_as, Value.category, pu_bk, pu_kl, List.replicate, pu_wi_1, pu_wi_2, nl_add, nl_ladd, nl_aa, nl_mul, nl_rmul, nl_mm, pu_qe0, pu_qe1, h3]
      all_goals try simp (maxSteps := 400000) (disch := omega) [nl_tle, nl_fle, nl_tlt, nl_flt, nl_teq, nl_feq, nl_sub, nl_ss, nl_lt, nl_llt, nl_ltt, nl_le, nl_lle, nl_lee, nl_eq, nl_leq, nl_ee, nl_div, nl_rem, nl_cl, nl_n1, nl_n2, nl_n3, nl_n4, nl_add, nl_ladd, nl_aa, nl_mul, nl_rmul, nl_mm, pu_wi_1, pu_wi_2, h3]
    · rw [qX11_as]
      simp [a_ent, bX11_as_0, bX11_as_14, a_ald, a_cs, a_gr, a_iceq, a_ifne, a_ild, a_pi, a_push, a_zret, fx_0_2 hx, fx_5_0 hx, sh_0, sh_5, sh_6, pu_rv, pu_as, Value.category, pu_bk, pu_kl, List.replicate, pu_wi_1, pu_wi_2, nl_add, nl_ladd, nl_aa, nl_mul, nl_rmul, nl_mm, pu_qe0, pu_qe1, e_X11_isDay, h1, h2, h3]
      all_goals try simp (maxSteps := 400000) (disch := omega) [nl_tle, nl_fle, nl_tlt, nl_flt, nl_teq, nl_feq, nl_sub, nl_ss, nl_lt, nl_llt, nl_ltt, nl_le, nl_lle, nl_lee, nl_eq, nl_leq, nl_ee, nl_div, nl_rem, nl_cl, nl_n1, nl_n2, nl_n3, nl_n4, nl_add, nl_ladd, nl_aa, nl_mul, nl_rmul, nl_mm, pu_wi_1, pu_wi_2, e_X11_isDay, h1, h2, h3]
def pu_la (I : Nat → Nat → Int32) (st tn : Int32) (i : Nat) : Prop := (st ≠ -1 ∧ (I 9 i = st ∨ I 10 i = st)) ∨ (tn ≠ -1 ∧ (I 11 i = tn ∨ I 12 i = tn))
noncomputable def pu_lat (I : Nat → Nat → Int32) (st tn : Int32) : Nat → Nat → Int32 → Int32
  | 0, _, l => l
  | m + 1, i, l => pu_lat I st tn m (i + 1) (@ite _ (pu_la I st tn i) (Classical.propDecidable _) (if l < I 7 i then I 7 i else l) l)
theorem e_X6_latestOn_l {M : pu_M} (hx : pu_fx M) {n : Nat} (hn : M.1 6 2 = nI n) (hb : n ≤ 200) (st tn : Int32) : ∀ m i x l t u, x = nI i → i + m = n → pu_r 367 [some (.ref 6), some (.int st), some (.int tn), some (.int l), some (.int x), t, u] [] M = some (some (.int (pu_lat M.1 st tn m i l)), M)
  | 0, i, x, l, t, u, hi, h => by
    subst hi
    have hc : nI n ≤ nI i := nI_le (by omega) (by omega)
    rw [qX6_latestOn_5]
    simp [bX6_latestOn_5, bX6_latestOn_110, bX6_latestOn_45, bX6_latestOn_46, bX6_latestOn_79, bX6_latestOn_80, bX6_latestOn_92, bX6_latestOn_104, bX6_latestOn_75, bX6_latestOn_41, a_ai, a_ald, a_gi, a_gr, a_iceq, a_icge, a_icne, a_ifeq, a_ifne, a_ild, a_inc, a_iret, a_ist, a_max, a_push, fx_6_3 hx, fx_6_5 hx, fx_6_6 hx, fx_6_7 hx, fx_6_8 hx, sh_10, sh_11, sh_12, sh_6, sh_7, sh_9, pu_rv, pu_as, Value.category, pu_bk, pu_kl, List.replicate, pu_wi_1, pu_wi_2, nl_add, nl_ladd, nl_aa, nl_mul, nl_rmul, nl_mm, pu_qe0, pu_qe1, hn, hc, pu_lat]
    all_goals try simp (maxSteps := 400000) (disch := omega) [nl_tle, nl_fle, nl_tlt, nl_flt, nl_teq, nl_feq, nl_sub, nl_ss, nl_lt, nl_llt, nl_ltt, nl_le, nl_lle, nl_lee, nl_eq, nl_leq, nl_ee, nl_div, nl_rem, nl_cl, nl_n1, nl_n2, nl_n3, nl_n4, nl_add, nl_ladd, nl_aa, nl_mul, nl_rmul, nl_mm, pu_wi_1, pu_wi_2, hn, hc, pu_lat]
  | m + 1, i, x, l, t, u, hi, h => by
    subst hi
    have hc : ¬ nI n ≤ nI i := nI_ge (by omega) (by omega)
    have ih := fun l t u => e_X6_latestOn_l hx hn hb st tn m (i + 1) _ l t u rfl (by omega)
    unfold pu_lat
    by_cases h5 : pu_la M.1 st tn i
    · rw [if_pos h5]
      rw [qX6_latestOn_5]
      simp [bX6_latestOn_5, bX6_latestOn_110, bX6_latestOn_45, bX6_latestOn_46, bX6_latestOn_79, bX6_latestOn_80, bX6_latestOn_92, bX6_latestOn_104, bX6_latestOn_75, bX6_latestOn_41, a_ai, a_ald, a_gi, a_gr, a_iceq, a_icge, a_icne, a_ifeq, a_ifne, a_ild, a_inc, a_iret, a_ist, a_max, a_push, fx_6_3 hx, fx_6_5 hx, fx_6_6 hx, fx_6_7 hx, fx_6_8 hx, sh_10, sh_11, sh_12, sh_6, sh_7, sh_9, pu_rv, pu_as, Value.category, pu_bk, pu_kl, List.replicate, pu_wi_1, pu_wi_2, nl_add, nl_ladd, nl_aa, nl_mul, nl_rmul, nl_mm, pu_qe0, pu_qe1, hn, hc, ih]
      all_goals try simp (maxSteps := 400000) (disch := omega) [nl_tle, nl_fle, nl_tlt, nl_flt, nl_teq, nl_feq, nl_sub, nl_ss, nl_lt, nl_llt, nl_ltt, nl_le, nl_lle, nl_lee, nl_eq, nl_leq, nl_ee, nl_div, nl_rem, nl_cl, nl_n1, nl_n2, nl_n3, nl_n4, nl_add, nl_ladd, nl_aa, nl_mul, nl_rmul, nl_mm, pu_wi_1, pu_wi_2, hn, hc, ih]
      simp only [pu_la] at h5
      grind
    · rw [if_neg h5]
      rw [qX6_latestOn_5]
      simp [bX6_latestOn_5, bX6_latestOn_110, bX6_latestOn_45, bX6_latestOn_46, bX6_latestOn_79, bX6_latestOn_80, bX6_latestOn_92, bX6_latestOn_104, bX6_latestOn_75, bX6_latestOn_41, a_ai, a_ald, a_gi, a_gr, a_iceq, a_icge, a_icne, a_ifeq, a_ifne, a_ild, a_inc, a_iret, a_ist, a_max, a_push, fx_6_3 hx, fx_6_5 hx, fx_6_6 hx, fx_6_7 hx, fx_6_8 hx, sh_10, sh_11, sh_12, sh_6, sh_7, sh_9, pu_rv, pu_as, Value.category, pu_bk, pu_kl, List.replicate, pu_wi_1, pu_wi_2, nl_add, nl_ladd, nl_aa, nl_mul, nl_rmul, nl_mm, pu_qe0, pu_qe1, hn, hc, ih]
      all_goals try simp (maxSteps := 400000) (disch := omega) [nl_tle, nl_fle, nl_tlt, nl_flt, nl_teq, nl_feq, nl_sub, nl_ss, nl_lt, nl_llt, nl_ltt, nl_le, nl_lle, nl_lee, nl_eq, nl_leq, nl_ee, nl_div, nl_rem, nl_cl, nl_n1, nl_n2, nl_n3, nl_n4, nl_add, nl_ladd, nl_aa, nl_mul, nl_rmul, nl_mm, pu_wi_1, pu_wi_2, hn, hc, ih]
      simp only [pu_la] at h5
      grind
