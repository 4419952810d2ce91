/-! pairs, on the class's side -/
/-- span i is the open known number of a door in street a -/
def py_kI (I : Nat → Nat → Int32) (a i : Nat) : Prop := i < cU I ∧ I 18 i = -1 ∧ I 16 i ≠ 0 ∧ I 39 (pu_sl0 I i) = nI a
def py_pa (I : Nat → Nat → Int32) (a b i : Nat) : Prop := py_kI I a i ∧ ∃ j, py_kI I b j ∧ I 16 j = I 16 i
noncomputable def py_pj (I : Nat → Nat → Int32) (b i : Nat) : Nat := (pu_f1 (fun j => py_kI I b j ∧ I 16 j = I 16 i) (cU I) 0).toNatClampNeg
def py_k16 (I : Nat → Nat → Int32) (i : Nat) : Nat := (I 16 i).toNatClampNeg
section
variable {M : pu_M} {I : Nat → Nat → Int32} {L : Nat → Nat → Int64}
theorem py_kI_u (hw : pu_WF I L) {a i j : Nat} (h1 : py_kI I a i) (h2 : py_kI I a j) (e : I 16 i = I 16 j) : i = j :=
  wx_u2 hw (cP I) i j (Nat.le_refl _) h1.1 h2.1 (by rw [pu_uoq hw h1.1]; exact h1.2.1) (by rw [pu_uoq hw h2.1]; exact h2.2.1) (h1.2.2.2.trans h2.2.2.2.symm) e h1.2.2.1
theorem py_k16_e (hw : pu_WF I L) {i : Nat} (hi : i < cU I) : I 16 i = nI (py_k16 I i) ∧ py_k16 I i < 160000 := by
  have := wx_uw hw i hi
  have q := pu_on (x := I 16 i) (n := 160000) ⟨this.1, by omega⟩
  exact ⟨q.1, q.2⟩
theorem py_pj_e (hw : pu_WF I L) {b i j : Nat} (hj : py_kI I b j) (e : I 16 j = I 16 i) : py_pj I b i = j := by
  have bU := wx_bU hw
  have j1 := hj.1
  unfold py_pj
  rcases pu_f1_spec (fun j => py_kI I b j ∧ I 16 j = I 16 i) (cU I) 0 with ⟨_, r⟩ | ⟨l, _, hl, r, r2, _⟩
  · exact absurd ⟨hj, e⟩ (r j (by omega) (by omega))
  · rw [r, nl_cl _ (by omega)]
    exact py_kI_u hw r2.1 hj (r2.2.trans e.symm)
theorem py_pa_i (hw : pu_WF I L) {a b i j : Nat} (h1 : py_pa I a b i) (h2 : py_pa I a b j) (e : py_k16 I i = py_k16 I j) : i = j :=
  py_kI_u hw h1.1 h2.1 (by rw [(py_k16_e hw h1.1.1).1, (py_k16_e hw h2.1.1).1, e])
/-- only the pairs have changed -/
def py_pq (M N : pu_M) : Prop := N.2 = M.2 ∧ ∀ c j, ¬ (49 ≤ c ∧ c ≤ 51) → ¬ (c = 45 ∧ j = 3) → N.1 c j = M.1 c j
theorem py_pq_t {M N P : pu_M} (a : py_pq M N) (b : py_pq N P) : py_pq M P := ⟨b.1.trans a.1, fun c j h1 h2 => by rw [b.2 c j h1 h2, a.2 c j h1 h2]⟩
theorem py_pq_r (M : pu_M) : py_pq M M := ⟨rfl, fun _ _ _ _ => rfl⟩
theorem py_wdp {N : pu_M} {c : Nat} (hw : pu_WF I L) (hI : pu_ag M I) (ff : py_pq M N) (hc : c ≤ 200) (h2 : N.1 45 3 = nI c) : w_dk N.1 ∧ pu_ag N (pu_dk I N.1) := by
  have e : ∀ a j, 45 ≤ a → a < 58 → ¬ (49 ≤ a ∧ a ≤ 51) → ¬ (a = 45 ∧ j = 3) → N.1 a j = I a j := fun a j h1 h2 h3 h4 => by rw [ff.2 a j h3 h4]; exact hI a j (by omega) h2
  have cR' : cR N.1 = c := pz_cc h2 (by omega)
  have cQ' : cQ N.1 = cQ I := by unfold cQ; rw [e 45 2 (by omega) (by omega) (by omega) (by omega)]
  have cS' : cS N.1 = cS I := by unfold cS; rw [e 45 4 (by omega) (by omega) (by omega) (by omega)]
  have cW' : cW N.1 = cW I := by unfold cW; rw [e 45 5 (by omega) (by omega) (by omega) (by omega)]
  have cE' : cE N.1 = cE I := by unfold cE; rw [e 45 6 (by omega) (by omega) (by omega) (by omega)]
  have cO' : cO N.1 = cO I := by unfold cO; rw [e 45 7 (by omega) (by omega) (by omega) (by omega)]
  refine ⟨⟨⟨?_, by rw [cR']; exact h2, ?_, ?_, ?_, ?_⟩, ⟨by rw [cQ']; exact wx_bQ hw, by omega, by rw [cS']; exact wx_bS hw, by rw [cW']; exact wx_bW hw, by rw [cE']; exact wx_bE hw, by rw [cO']; exact wx_bO hw⟩, fun k hk => ?_, fun a b hab hb => ?_⟩, fun a j h1 h3 => ?_⟩
  · rw [e 45 2 (by omega) (by omega) (by omega) (by omega), cQ']; exact wx_cQ hw
  · rw [e 45 4 (by omega) (by omega) (by omega) (by omega), cS']; exact wx_cS hw
  · rw [e 45 5 (by omega) (by omega) (by omega) (by omega), cW']; exact wx_cW hw
  · rw [e 45 6 (by omega) (by omega) (by omega) (by omega), cE']; exact wx_cE hw
  · rw [e 45 7 (by omega) (by omega) (by omega) (by omega), cO']; exact wx_cO hw
  · rw [cS'] at hk
    rw [e 53 k (by omega) (by omega) (by omega) (by omega)]; exact wx_es hw k hk
  · rw [cW'] at hb
    rw [e 54 a (by omega) (by omega) (by omega) (by omega), e 54 b (by omega) (by omega) (by omega) (by omega)]; exact wx_ew hw a b hab hb
  · unfold pu_dk
    by_cases z : a < 45
    · rw [if_pos z, ff.2 a j (by omega) (by omega)]
      exact hI a j h1 h3
    · rw [if_neg z]
theorem c_isOKN (hx : pu_fx M) (hI : pu_ag M I) (hw : pu_WF I L) (a i : Nat) (hi : i < cU I) : pu_r 192 [some (.ref 5), some (.int (nI i)), some (.int (nI a))] [] M = some (some (.int (pu_q (py_kI I a i))), M) := by
  have bU := wx_bU hw
  have i3 : i < 3000 := by omega
  have sl := pu_sl_lt hw hi
  have u15 := sl.2
  have es := c_streetOf hx hI hw (pu_sl0 I i) sl.1
  unfold py_kI
  generalize pu_sl0 I i = sv at *
  by_cases c1 : I 18 i = -1
  · by_cases c2 : I 16 i = 0
    · rw [pu_q0 (fun z => z.2.2.1 c2)]
      rw [qX5_isOpenKnownNumberIn]
      simp [a_ent, bX5_isOpenKnownNumberIn_0, bX5_isOpenKnownNumberIn_49, bX5_isOpenKnownNumberIn_50, bX5_isOpenKnownNumberIn_46, a_ai, a_ald, a_cv, a_gr, a_icne, a_ifeq, a_ild, a_push, a_zret, ag_14 hI, ag_15 hI, ag_16 hI, ag_18 hI, ag_31 hI, fx_14_1 hx, fx_14_2 hx, fx_14_4 hx, fx_5_1 hx, fx_5_4 hx, sh_14, sh_15, sh_16, sh_18, sh_31, sh_5, pu_rv, pu_as, Value.category, pu_bk, pu_kl, List.replicate, pu_wi_1, pu_wi_2, nl_add, nl_ladd, nl_aa, nl_mul, nl_rmul, nl_mm, pu_qe0, pu_qe1, i3, c1, c2]
      all_goals try simp (maxSteps := 400000) (disch := omega) [nl_tle, nl_fle, nl_tlt, nl_flt, nl_teq, nl_feq, nl_sub, nl_ss, nl_lt, nl_llt, nl_ltt, nl_le, nl_lle, nl_lee, nl_eq, nl_leq, nl_ee, nl_div, nl_rem, nl_cl, nl_n1, nl_n2, nl_n3, nl_n4, nl_add, nl_ladd, nl_aa, nl_mul, nl_rmul, nl_mm, pu_wi_1, pu_wi_2, bX5_isOpenKnownNumberIn_0, bX5_isOpenKnownNumberIn_49, bX5_isOpenKnownNumberIn_50, bX5_isOpenKnownNumberIn_46, a_ai, a_ald, a_cv, a_gr, a_icne, a_ifeq, a_ild, a_push, a_zret, ag_14 hI, ag_15 hI, ag_16 hI, ag_18 hI, ag_31 hI, fx_14_1 hx, fx_14_2 hx, fx_14_4 hx, fx_5_1 hx, fx_5_4 hx, sh_14, sh_15, sh_16, sh_18, sh_31, sh_5, pu_rv, pu_as, Value.category, pu_bk, pu_kl, pu_qe0, pu_qe1, i3, c1, c2]
      all_goals try simp [bX5_isOpenKnownNumberIn_0, bX5_isOpenKnownNumberIn_49, bX5_isOpenKnownNumberIn_50, bX5_isOpenKnownNumberIn_46, a_ai, a_ald, a_cv, a_gr, a_icne, a_ifeq, a_ild, a_push, a_zret, ag_14 hI, ag_15 hI, ag_16 hI, ag_18 hI, ag_31 hI, fx_14_1 hx, fx_14_2 hx, fx_14_4 hx, fx_5_1 hx, fx_5_4 hx, sh_14, sh_15, sh_16, sh_18, sh_31, sh_5, pu_rv, pu_as, Value.category, pu_bk, pu_kl, List.replicate, pu_wi_1, pu_wi_2, nl_add, nl_ladd, nl_aa, nl_mul, nl_rmul, nl_mm, pu_qe0, pu_qe1, i3, c1, c2]
      all_goals try simp (maxSteps := 400000) (disch := omega) [nl_tle, nl_fle, nl_tlt, nl_flt, nl_teq, nl_feq, nl_sub, nl_ss, nl_lt, nl_llt, nl_ltt, nl_le, nl_lle, nl_lee, nl_eq, nl_leq, nl_ee, nl_div, nl_rem, nl_cl, nl_n1, nl_n2, nl_n3, nl_n4, nl_add, nl_ladd, nl_aa, nl_mul, nl_rmul, nl_mm, pu_wi_1, pu_wi_2, bX5_isOpenKnownNumberIn_0, bX5_isOpenKnownNumberIn_49, bX5_isOpenKnownNumberIn_50, bX5_isOpenKnownNumberIn_46, a_ai, a_ald, a_cv, a_gr, a_icne, a_ifeq, a_ild, a_push, a_zret, ag_14 hI, ag_15 hI, ag_16 hI, ag_18 hI, ag_31 hI, fx_14_1 hx, fx_14_2 hx, fx_14_4 hx, fx_5_1 hx, fx_5_4 hx, sh_14, sh_15, sh_16, sh_18, sh_31, sh_5, pu_rv, pu_as, Value.category, pu_bk, pu_kl, pu_qe0, pu_qe1, i3, c1, c2]
      all_goals try simp [bX5_isOpenKnownNumberIn_0, bX5_isOpenKnownNumberIn_49, bX5_isOpenKnownNumberIn_50, bX5_isOpenKnownNumberIn_46, a_ai, a_ald, a_cv, a_gr, a_icne, a_ifeq, a_ild, a_push, a_zret, ag_14 hI, ag_15 hI, ag_16 hI, ag_18 hI, ag_31 hI, fx_14_1 hx, fx_14_2 hx, fx_14_4 hx, fx_5_1 hx, fx_5_4 hx, sh_14, sh_15, sh_16, sh_18, sh_31, sh_5, pu_rv, pu_as, Value.category, pu_bk, pu_kl, List.replicate, pu_wi_1, pu_wi_2, nl_add, nl_ladd, nl_aa, nl_mul, nl_rmul, nl_mm, pu_qe0, pu_qe1, i3, c1, c2]
      all_goals try simp (maxSteps := 400000) (disch := omega) [nl_tle, nl_fle, nl_tlt, nl_flt, nl_teq, nl_feq, nl_sub, nl_ss, nl_lt, nl_llt, nl_ltt, nl_le, nl_lle, nl_lee, nl_eq, nl_leq, nl_ee, nl_div, nl_rem, nl_cl, nl_n1, nl_n2, nl_n3, nl_n4, nl_add, nl_ladd, nl_aa, nl_mul, nl_rmul, nl_mm, pu_wi_1, pu_wi_2, bX5_isOpenKnownNumberIn_0, bX5_isOpenKnownNumberIn_49, bX5_isOpenKnownNumberIn_50, bX5_isOpenKnownNumberIn_46, a_ai, a_ald, a_cv, a_gr, a_icne, a_ifeq, a_ild, a_push, a_zret, ag_14 hI, ag_15 hI, ag_16 hI, ag_18 hI, ag_31 hI, fx_14_1 hx, fx_14_2 hx, fx_14_4 hx, fx_5_1 hx, fx_5_4 hx, sh_14, sh_15, sh_16, sh_18, sh_31, sh_5, pu_rv, pu_as, Value.category, pu_bk, pu_kl, pu_qe0, pu_qe1, i3, c1, c2]
      all_goals try simp [bX5_isOpenKnownNumberIn_0, bX5_isOpenKnownNumberIn_49, bX5_isOpenKnownNumberIn_50, bX5_isOpenKnownNumberIn_46, a_ai, a_ald, a_cv, a_gr, a_icne, a_ifeq, a_ild, a_push, a_zret, ag_14 hI, ag_15 hI, ag_16 hI, ag_18 hI, ag_31 hI, fx_14_1 hx, fx_14_2 hx, fx_14_4 hx, fx_5_1 hx, fx_5_4 hx, sh_14, sh_15, sh_16, sh_18, sh_31, sh_5, pu_rv, pu_as, Value.category, pu_bk, pu_kl, List.replicate, pu_wi_1, pu_wi_2, nl_add, nl_ladd, nl_aa, nl_mul, nl_rmul, nl_mm, pu_qe0, pu_qe1, i3, c1, c2]
    · by_cases c3 : I 39 sv = nI a
      · rw [pu_q1 ⟨hi, c1, c2, c3⟩]
        rw [c3] at es
        generalize nI a = av at *
        rw [qX5_isOpenKnownNumberIn]
        simp [a_ent, bX5_isOpenKnownNumberIn_0, bX5_isOpenKnownNumberIn_49, bX5_isOpenKnownNumberIn_50, bX5_isOpenKnownNumberIn_46, a_ai, a_ald, a_cv, a_gr, a_icne, a_ifeq, a_ild, a_push, a_zret, ag_14 hI, ag_15 hI, ag_16 hI, ag_18 hI, ag_31 hI, fx_14_1 hx, fx_14_2 hx, fx_14_4 hx, fx_5_1 hx, fx_5_4 hx, sh_14, sh_15, sh_16, sh_18, sh_31, sh_5, pu_rv, pu_as, Value.category, pu_bk, pu_kl, List.replicate, pu_wi_1, pu_wi_2, nl_add, nl_ladd, nl_aa, nl_mul, nl_rmul, nl_mm, pu_qe0, pu_qe1, i3, c1, c2, u15, es]
        all_goals try simp (maxSteps := 400000) (disch := omega) [nl_tle, nl_fle, nl_tlt, nl_flt, nl_teq, nl_feq, nl_sub, nl_ss, nl_lt, nl_llt, nl_ltt, nl_le, nl_lle, nl_lee, nl_eq, nl_leq, nl_ee, nl_div, nl_rem, nl_cl, nl_n1, nl_n2, nl_n3, nl_n4, nl_add, nl_ladd, nl_aa, nl_mul, nl_rmul, nl_mm, pu_wi_1, pu_wi_2, bX5_isOpenKnownNumberIn_0, bX5_isOpenKnownNumberIn_49, bX5_isOpenKnownNumberIn_50, bX5_isOpenKnownNumberIn_46, a_ai, a_ald, a_cv, a_gr, a_icne, a_ifeq, a_ild, a_push, a_zret, ag_14 hI, ag_15 hI, ag_16 hI, ag_18 hI, ag_31 hI, fx_14_1 hx, fx_14_2 hx, fx_14_4 hx, fx_5_1 hx, fx_5_4 hx, sh_14, sh_15, sh_16, sh_18, sh_31, sh_5, pu_rv, pu_as, Value.category, pu_bk, pu_kl, pu_qe0, pu_qe1, i3, c1, c2, u15, es]
        all_goals try simp [bX5_isOpenKnownNumberIn_0, bX5_isOpenKnownNumberIn_49, bX5_isOpenKnownNumberIn_50, bX5_isOpenKnownNumberIn_46, a_ai, a_ald, a_cv, a_gr, a_icne, a_ifeq, a_ild, a_push, a_zret, ag_14 hI, ag_15 hI, ag_16 hI, ag_18 hI, ag_31 hI, fx_14_1 hx, fx_14_2 hx, fx_14_4 hx, fx_5_1 hx, fx_5_4 hx, sh_14, sh_15, sh_16, sh_18, sh_31, sh_5, pu_rv, pu_as, Value.category, pu_bk, pu_kl, List.replicate, pu_wi_1, pu_wi_2, nl_add, nl_ladd, nl_aa, nl_mul, nl_rmul, nl_mm, pu_qe0, pu_qe1, i3, c1, c2, u15, es]
        all_goals try simp (maxSteps := 400000) (disch := omega) [nl_tle, nl_fle, nl_tlt, nl_flt, nl_teq, nl_feq, nl_sub, nl_ss, nl_lt, nl_llt, nl_ltt, nl_le, nl_lle, nl_lee, nl_eq, nl_leq, nl_ee, nl_div, nl_rem, nl_cl, nl_n1, nl_n2, nl_n3, nl_n4, nl_add, nl_ladd, nl_aa, nl_mul, nl_rmul, nl_mm, pu_wi_1, pu_wi_2, bX5_isOpenKnownNumberIn_0, bX5_isOpenKnownNumberIn_49, bX5_isOpenKnownNumberIn_50, bX5_isOpenKnownNumberIn_46, a_ai, a_ald, a_cv, a_gr, a_icne, a_ifeq, a_ild, a_push, a_zret, ag_14 hI, ag_15 hI, ag_16 hI, ag_18 hI, ag_31 hI, fx_14_1 hx, fx_14_2 hx, fx_14_4 hx, fx_5_1 hx, fx_5_4 hx, sh_14, sh_15, sh_16, sh_18, sh_31, sh_5, pu_rv, pu_as, Value.category, pu_bk, pu_kl, pu_qe0, pu_qe1, i3, c1, c2, u15, es]
        all_goals try simp [bX5_isOpenKnownNumberIn_0, bX5_isOpenKnownNumberIn_49, bX5_isOpenKnownNumberIn_50, bX5_isOpenKnownNumberIn_46, a_ai, a_ald, a_cv, a_gr, a_icne, a_ifeq, a_ild, a_push, a_zret, ag_14 hI, ag_15 hI, ag_16 hI, ag_18 hI, ag_31 hI, fx_14_1 hx, fx_14_2 hx, fx_14_4 hx, fx_5_1 hx, fx_5_4 hx, sh_14, sh_15, sh_16, sh_18, sh_31, sh_5, pu_rv, pu_as, Value.category, pu_bk, pu_kl, List.replicate, pu_wi_1, pu_wi_2, nl_add, nl_ladd, nl_aa, nl_mul, nl_rmul, nl_mm, pu_qe0, pu_qe1, i3, c1, c2, u15, es]
        all_goals try simp (maxSteps := 400000) (disch := omega) [nl_tle, nl_fle, nl_tlt, nl_flt, nl_teq, nl_feq, nl_sub, nl_ss, nl_lt, nl_llt, nl_ltt, nl_le, nl_lle, nl_lee, nl_eq, nl_leq, nl_ee, nl_div, nl_rem, nl_cl, nl_n1, nl_n2, nl_n3, nl_n4, nl_add, nl_ladd, nl_aa, nl_mul, nl_rmul, nl_mm, pu_wi_1, pu_wi_2, bX5_isOpenKnownNumberIn_0, bX5_isOpenKnownNumberIn_49, bX5_isOpenKnownNumberIn_50, bX5_isOpenKnownNumberIn_46, a_ai, a_ald, a_cv, a_gr, a_icne, a_ifeq, a_ild, a_push, a_zret, ag_14 hI, ag_15 hI, ag_16 hI, ag_18 hI, ag_31 hI, fx_14_1 hx, fx_14_2 hx, fx_14_4 hx, fx_5_1 hx, fx_5_4 hx, sh_14, sh_15, sh_16, sh_18, sh_31, sh_5, pu_rv, pu_as, Value.category, pu_bk, pu_kl, pu_qe0, pu_qe1, i3, c1, c2, u15, es]
        all_goals try simp [bX5_isOpenKnownNumberIn_0, bX5_isOpenKnownNumberIn_49, bX5_isOpenKnownNumberIn_50, bX5_isOpenKnownNumberIn_46, a_ai, a_ald, a_cv, a_gr, a_icne, a_ifeq, a_ild, a_push, a_zret, ag_14 hI, ag_15 hI, ag_16 hI, ag_18 hI, ag_31 hI, fx_14_1 hx, fx_14_2 hx, fx_14_4 hx, fx_5_1 hx, fx_5_4 hx, sh_14, sh_15, sh_16, sh_18, sh_31, sh_5, pu_rv, pu_as, Value.category, pu_bk, pu_kl, List.replicate, pu_wi_1, pu_wi_2, nl_add, nl_ladd, nl_aa, nl_mul, nl_rmul, nl_mm, pu_qe0, pu_qe1, i3, c1, c2, u15, es]
      · rw [pu_q0 (fun z => c3 z.2.2.2)]
        generalize nI a = av at *
        generalize I 39 sv = v39 at *
        rw [qX5_isOpenKnownNumberIn]
        simp [a_ent, bX5_isOpenKnownNumberIn_0, bX5_isOpenKnownNumberIn_49, bX5_isOpenKnownNumberIn_50, bX5_isOpenKnownNumberIn_46, a_ai, a_ald, a_cv, a_gr, a_icne, a_ifeq, a_ild, a_push, a_zret, ag_14 hI, ag_15 hI, ag_16 hI, ag_18 hI, ag_31 hI, fx_14_1 hx, fx_14_2 hx, fx_14_4 hx, fx_5_1 hx, fx_5_4 hx, sh_14, sh_15, sh_16, sh_18, sh_31, sh_5, pu_rv, pu_as, Value.category, pu_bk, pu_kl, List.replicate, pu_wi_1, pu_wi_2, nl_add, nl_ladd, nl_aa, nl_mul, nl_rmul, nl_mm, pu_qe0, pu_qe1, i3, c1, c2, u15, es, c3]
        all_goals try simp (maxSteps := 400000) (disch := omega) [nl_tle, nl_fle, nl_tlt, nl_flt, nl_teq, nl_feq, nl_sub, nl_ss, nl_lt, nl_llt, nl_ltt, nl_le, nl_lle, nl_lee, nl_eq, nl_leq, nl_ee, nl_div, nl_rem, nl_cl, nl_n1, nl_n2, nl_n3, nl_n4, nl_add, nl_ladd, nl_aa, nl_mul, nl_rmul, nl_mm, pu_wi_1, pu_wi_2, bX5_isOpenKnownNumberIn_0, bX5_isOpenKnownNumberIn_49, bX5_isOpenKnownNumberIn_50, bX5_isOpenKnownNumberIn_46, a_ai, a_ald, a_cv, a_gr, a_icne, a_ifeq, a_ild, a_push, a_zret, ag_14 hI, ag_15 hI, ag_16 hI, ag_18 hI, ag_31 hI, fx_14_1 hx, fx_14_2 hx, fx_14_4 hx, fx_5_1 hx, fx_5_4 hx, sh_14, sh_15, sh_16, sh_18, sh_31, sh_5, pu_rv, pu_as, Value.category, pu_bk, pu_kl, pu_qe0, pu_qe1, i3, c1, c2, u15, es, c3]
        all_goals try simp [bX5_isOpenKnownNumberIn_0, bX5_isOpenKnownNumberIn_49, bX5_isOpenKnownNumberIn_50, bX5_isOpenKnownNumberIn_46, a_ai, a_ald, a_cv, a_gr, a_icne, a_ifeq, a_ild, a_push, a_zret, ag_14 hI, ag_15 hI, ag_16 hI, ag_18 hI, ag_31 hI, fx_14_1 hx, fx_14_2 hx, fx_14_4 hx, fx_5_1 hx, fx_5_4 hx, sh_14, sh_15, sh_16, sh_18, sh_31, sh_5, pu_rv, pu_as, Value.category, pu_bk, pu_kl, List.replicate, pu_wi_1, pu_wi_2, nl_add, nl_ladd, nl_aa, nl_mul, nl_rmul, nl_mm, pu_qe0, pu_qe1, i3, c1, c2, u15, es, c3]
        all_goals try simp (maxSteps := 400000) (disch := omega) [nl_tle, nl_fle, nl_tlt, nl_flt, nl_teq, nl_feq, nl_sub, nl_ss, nl_lt, nl_llt, nl_ltt, nl_le, nl_lle, nl_lee, nl_eq, nl_leq, nl_ee, nl_div, nl_rem, nl_cl, nl_n1, nl_n2, nl_n3, nl_n4, nl_add, nl_ladd, nl_aa, nl_mul, nl_rmul, nl_mm, pu_wi_1, pu_wi_2, bX5_isOpenKnownNumberIn_0, bX5_isOpenKnownNumberIn_49, bX5_isOpenKnownNumberIn_50, bX5_isOpenKnownNumberIn_46, a_ai, a_ald, a_cv, a_gr, a_icne, a_ifeq, a_ild, a_push, a_zret, ag_14 hI, ag_15 hI, ag_16 hI, ag_18 hI, ag_31 hI, fx_14_1 hx, fx_14_2 hx, fx_14_4 hx, fx_5_1 hx, fx_5_4 hx, sh_14, sh_15, sh_16, sh_18, sh_31, sh_5, pu_rv, pu_as, Value.category, pu_bk, pu_kl, pu_qe0, pu_qe1, i3, c1, c2, u15, es, c3]
        all_goals try simp [bX5_isOpenKnownNumberIn_0, bX5_isOpenKnownNumberIn_49, bX5_isOpenKnownNumberIn_50, bX5_isOpenKnownNumberIn_46, a_ai, a_ald, a_cv, a_gr, a_icne, a_ifeq, a_ild, a_push, a_zret, ag_14 hI, ag_15 hI, ag_16 hI, ag_18 hI, ag_31 hI, fx_14_1 hx, fx_14_2 hx, fx_14_4 hx, fx_5_1 hx, fx_5_4 hx, sh_14, sh_15, sh_16, sh_18, sh_31, sh_5, pu_rv, pu_as, Value.category, pu_bk, pu_kl, List.replicate, pu_wi_1, pu_wi_2, nl_add, nl_ladd, nl_aa, nl_mul, nl_rmul, nl_mm, pu_qe0, pu_qe1, i3, c1, c2, u15, es, c3]
        all_goals try simp (maxSteps := 400000) (disch := omega) [nl_tle, nl_fle, nl_tlt, nl_flt, nl_teq, nl_feq, nl_sub, nl_ss, nl_lt, nl_llt, nl_ltt, nl_le, nl_lle, nl_lee, nl_eq, nl_leq, nl_ee, nl_div, nl_rem, nl_cl, nl_n1, nl_n2, nl_n3, nl_n4, nl_add, nl_ladd, nl_aa, nl_mul, nl_rmul, nl_mm, pu_wi_1, pu_wi_2, bX5_isOpenKnownNumberIn_0, bX5_isOpenKnownNumberIn_49, bX5_isOpenKnownNumberIn_50, bX5_isOpenKnownNumberIn_46, a_ai, a_ald, a_cv, a_gr, a_icne, a_ifeq, a_ild, a_push, a_zret, ag_14 hI, ag_15 hI, ag_16 hI, ag_18 hI, ag_31 hI, fx_14_1 hx, fx_14_2 hx, fx_14_4 hx, fx_5_1 hx, fx_5_4 hx, sh_14, sh_15, sh_16, sh_18, sh_31, sh_5, pu_rv, pu_as, Value.category, pu_bk, pu_kl, pu_qe0, pu_qe1, i3, c1, c2, u15, es, c3]
        all_goals try simp [bX5_isOpenKnownNumberIn_0, bX5_isOpenKnownNumberIn_49, bX5_isOpenKnownNumberIn_50, bX5_isOpenKnownNumberIn_46, a_ai, a_ald, a_cv, a_gr, a_icne, a_ifeq, a_ild, a_push, a_zret, ag_14 hI, ag_15 hI, ag_16 hI, ag_18 hI, ag_31 hI, fx_14_1 hx, fx_14_2 hx, fx_14_4 hx, fx_5_1 hx, fx_5_4 hx, sh_14, sh_15, sh_16, sh_18, sh_31, sh_5, pu_rv, pu_as, Value.category, pu_bk, pu_kl, List.replicate, pu_wi_1, pu_wi_2, nl_add, nl_ladd, nl_aa, nl_mul, nl_rmul, nl_mm, pu_qe0, pu_qe1, i3, c1, c2, u15, es, c3]
  · rw [pu_q0 (fun z => c1 z.2.1)]
    rw [qX5_isOpenKnownNumberIn]
    simp [a_ent, bX5_isOpenKnownNumberIn_0, bX5_isOpenKnownNumberIn_49, bX5_isOpenKnownNumberIn_50, bX5_isOpenKnownNumberIn_46, a_ai, a_ald, a_cv, a_gr, a_icne, a_ifeq, a_ild, a_push, a_zret, ag_14 hI, ag_15 hI, ag_16 hI, ag_18 hI, ag_31 hI, fx_14_1 hx, fx_14_2 hx, fx_14_4 hx, fx_5_1 hx, fx_5_4 hx, sh_14, sh_15, sh_16, sh_18, sh_31, sh_5, pu_rv, pu_as, Value.category, pu_bk, pu_kl, List.replicate, pu_wi_1, pu_wi_2, nl_add, nl_ladd, nl_aa, nl_mul, nl_rmul, nl_mm, pu_qe0, pu_qe1, i3, c1]
    all_goals try simp (maxSteps := 400000) (disch := omega) [nl_tle, nl_fle, nl_tlt, nl_flt, nl_teq, nl_feq, nl_sub, nl_ss, nl_lt, nl_llt, nl_ltt, nl_le, nl_lle, nl_lee, nl_eq, nl_leq, nl_ee, nl_div, nl_rem, nl_cl, nl_n1, nl_n2, nl_n3, nl_n4, nl_add, nl_ladd, nl_aa, nl_mul, nl_rmul, nl_mm, pu_wi_1, pu_wi_2, bX5_isOpenKnownNumberIn_0, bX5_isOpenKnownNumberIn_49, bX5_isOpenKnownNumberIn_50, bX5_isOpenKnownNumberIn_46, a_ai, a_ald, a_cv, a_gr, a_icne, a_ifeq, a_ild, a_push, a_zret, ag_14 hI, ag_15 hI, ag_16 hI, ag_18 hI, ag_31 hI, fx_14_1 hx, fx_14_2 hx, fx_14_4 hx, fx_5_1 hx, fx_5_4 hx, sh_14, sh_15, sh_16, sh_18, sh_31, sh_5, pu_rv, pu_as, Value.category, pu_bk, pu_kl, pu_qe0, pu_qe1, i3, c1]
    all_goals try simp [bX5_isOpenKnownNumberIn_0, bX5_isOpenKnownNumberIn_49, bX5_isOpenKnownNumberIn_50, bX5_isOpenKnownNumberIn_46, a_ai, a_ald, a_cv, a_gr, a_icne, a_ifeq, a_ild, a_push, a_zret, ag_14 hI, ag_15 hI, ag_16 hI, ag_18 hI, ag_31 hI, fx_14_1 hx, fx_14_2 hx, fx_14_4 hx, fx_5_1 hx, fx_5_4 hx, sh_14, sh_15, sh_16, sh_18, sh_31, sh_5, pu_rv, pu_as, Value.category, pu_bk, pu_kl, List.replicate, pu_wi_1, pu_wi_2, nl_add, nl_ladd, nl_aa, nl_mul, nl_rmul, nl_mm, pu_qe0, pu_qe1, i3, c1]
    all_goals try simp (maxSteps := 400000) (disch := omega) [nl_tle, nl_fle, nl_tlt, nl_flt, nl_teq, nl_feq, nl_sub, nl_ss, nl_lt, nl_llt, nl_ltt, nl_le, nl_lle, nl_lee, nl_eq, nl_leq, nl_ee, nl_div, nl_rem, nl_cl, nl_n1, nl_n2, nl_n3, nl_n4, nl_add, nl_ladd, nl_aa, nl_mul, nl_rmul, nl_mm, pu_wi_1, pu_wi_2, bX5_isOpenKnownNumberIn_0, bX5_isOpenKnownNumberIn_49, bX5_isOpenKnownNumberIn_50, bX5_isOpenKnownNumberIn_46, a_ai, a_ald, a_cv, a_gr, a_icne, a_ifeq, a_ild, a_push, a_zret, ag_14 hI, ag_15 hI, ag_16 hI, ag_18 hI, ag_31 hI, fx_14_1 hx, fx_14_2 hx, fx_14_4 hx, fx_5_1 hx, fx_5_4 hx, sh_14, sh_15, sh_16, sh_18, sh_31, sh_5, pu_rv, pu_as, Value.category, pu_bk, pu_kl, pu_qe0, pu_qe1, i3, c1]
    all_goals try simp [bX5_isOpenKnownNumberIn_0, bX5_isOpenKnownNumberIn_49, bX5_isOpenKnownNumberIn_50, bX5_isOpenKnownNumberIn_46, a_ai, a_ald, a_cv, a_gr, a_icne, a_ifeq, a_ild, a_push, a_zret, ag_14 hI, ag_15 hI, ag_16 hI, ag_18 hI, ag_31 hI, fx_14_1 hx, fx_14_2 hx, fx_14_4 hx, fx_5_1 hx, fx_5_4 hx, sh_14, sh_15, sh_16, sh_18, sh_31, sh_5, pu_rv, pu_as, Value.category, pu_bk, pu_kl, List.replicate, pu_wi_1, pu_wi_2, nl_add, nl_ladd, nl_aa, nl_mul, nl_rmul, nl_mm, pu_qe0, pu_qe1, i3, c1]
    all_goals try simp (maxSteps := 400000) (disch := omega) [nl_tle, nl_fle, nl_tlt, nl_flt, nl_teq, nl_feq, nl_sub, nl_ss, nl_lt, nl_llt, nl_ltt, nl_le, nl_lle, nl_lee, nl_eq, nl_leq, nl_ee, nl_div, nl_rem, nl_cl, nl_n1, nl_n2, nl_n3, nl_n4, nl_add, nl_ladd, nl_aa, nl_mul, nl_rmul, nl_mm, pu_wi_1, pu_wi_2, bX5_isOpenKnownNumberIn_0, bX5_isOpenKnownNumberIn_49, bX5_isOpenKnownNumberIn_50, bX5_isOpenKnownNumberIn_46, a_ai, a_ald, a_cv, a_gr, a_icne, a_ifeq, a_ild, a_push, a_zret, ag_14 hI, ag_15 hI, ag_16 hI, ag_18 hI, ag_31 hI, fx_14_1 hx, fx_14_2 hx, fx_14_4 hx, fx_5_1 hx, fx_5_4 hx, sh_14, sh_15, sh_16, sh_18, sh_31, sh_5, pu_rv, pu_as, Value.category, pu_bk, pu_kl, pu_qe0, pu_qe1, i3, c1]
    all_goals try simp [bX5_isOpenKnownNumberIn_0, bX5_isOpenKnownNumberIn_49, bX5_isOpenKnownNumberIn_50, bX5_isOpenKnownNumberIn_46, a_ai, a_ald, a_cv, a_gr, a_icne, a_ifeq, a_ild, a_push, a_zret, ag_14 hI, ag_15 hI, ag_16 hI, ag_18 hI, ag_31 hI, fx_14_1 hx, fx_14_2 hx, fx_14_4 hx, fx_5_1 hx, fx_5_4 hx, sh_14, sh_15, sh_16, sh_18, sh_31, sh_5, pu_rv, pu_as, Value.category, pu_bk, pu_kl, List.replicate, pu_wi_1, pu_wi_2, nl_add, nl_ladd, nl_aa, nl_mul, nl_rmul, nl_mm, pu_qe0, pu_qe1, i3, c1]
theorem c_ap_l (D E : Nat → Int32) (key W : Nat → Nat) {c0 n k : Nat} (hn : c0 + n < 200) (hb : ∀ t, t < n → key (W t) < 200000000) (hk : key k < 200000000) (dA dB : Int32) : ∀ (a : Nat) (N : pu_M), a ≤ n → pu_fx N → (∀ t, t < a → N.1 49 (c0 + t) = D (W t) ∧ N.1 50 (c0 + t) = E (W t) ∧ N.1 51 (c0 + t) = nI (key (W t))) → (∀ t, a < t → t ≤ n → N.1 49 (c0 + t) = D (W (t - 1)) ∧ N.1 50 (c0 + t) = E (W (t - 1)) ∧ N.1 51 (c0 + t) = nI (key (W (t - 1)))) →
    ∃ b N1, b ≤ a ∧ py_pq N N1 ∧ N1.1 45 3 = N.1 45 3 ∧ (∀ j, j < c0 → N1.1 49 j = N.1 49 j ∧ N1.1 50 j = N.1 50 j) ∧ (∀ t, t < b → N1.1 49 (c0 + t) = D (W t) ∧ N1.1 50 (c0 + t) = E (W t) ∧ N1.1 51 (c0 + t) = nI (key (W t))) ∧ (∀ t, b < t → t ≤ n → N1.1 49 (c0 + t) = D (W (t - 1)) ∧ N1.1 50 (c0 + t) = E (W (t - 1)) ∧ N1.1 51 (c0 + t) = nI (key (W (t - 1)))) ∧ (∀ t, b ≤ t → t < a → key k < key (W t)) ∧ (b = 0 ∨ ¬ key k < key (W (b - 1))) ∧
      pu_r 411 [some (.ref 45), some (.int dA), some (.int dB), some (.int (nI (key k))), some (.int (nI c0)), some (.int (nI (c0 + a)))] [] N = kX1_addPair_96 pu_r [some (.ref 45), some (.int dA), some (.int dB), some (.int (nI (key k))), some (.int (nI c0)), some (.int (nI (c0 + b)))] [] N1
  | 0, N, _, hx, h1, h2 => by
    refine ⟨0, N, Nat.le_refl _, py_pq_r N, rfl, fun _ _ => ⟨rfl, rfl⟩, h1, h2, fun j a b => by omega, Or.inl rfl, ?_⟩
    have hc : nI c0 ≤ nI c0 := nI_le (by omega) (by omega)
    rw [qX1_addPair_17, Nat.add_zero]
    generalize nI (key k) = kk at *
    simp [bX1_addPair_17, bX1_addPair_59, a_ai, a_ald, a_gr, a_icle, a_ifle, a_ild, a_inc, a_isub, a_push, a_wi, sh_45, sh_49, sh_50, sh_51, pu_rv, pu_as, Value.category, pu_bk, pu_kl, List.replicate, pu_wi_1, pu_wi_2, nl_add, nl_ladd, nl_aa, nl_mul, nl_rmul, nl_mm, pu_qe0, pu_qe1, hc]
    all_goals try simp (maxSteps := 400000) (disch := omega) [nl_tle, nl_fle, nl_tlt, nl_flt, nl_teq, nl_feq, nl_sub, nl_ss, nl_lt, nl_llt, nl_ltt, nl_le, nl_lle, nl_lee, nl_eq, nl_leq, nl_ee, nl_div, nl_rem, nl_cl, nl_n1, nl_n2, nl_n3, nl_n4, nl_add, nl_ladd, nl_aa, nl_mul, nl_rmul, nl_mm, pu_wi_1, pu_wi_2, bX1_addPair_17, bX1_addPair_59, a_ai, a_ald, a_gr, a_icle, a_ifle, a_ild, a_inc, a_isub, a_push, a_wi, sh_45, sh_49, sh_50, sh_51, pu_rv, pu_as, Value.category, pu_bk, pu_kl, pu_qe0, pu_qe1, hc]
    all_goals try simp [bX1_addPair_17, bX1_addPair_59, a_ai, a_ald, a_gr, a_icle, a_ifle, a_ild, a_inc, a_isub, a_push, a_wi, sh_45, sh_49, sh_50, sh_51, pu_rv, pu_as, Value.category, pu_bk, pu_kl, List.replicate, pu_wi_1, pu_wi_2, nl_add, nl_ladd, nl_aa, nl_mul, nl_rmul, nl_mm, pu_qe0, pu_qe1, hc]
    all_goals try simp (maxSteps := 400000) (disch := omega) [nl_tle, nl_fle, nl_tlt, nl_flt, nl_teq, nl_feq, nl_sub, nl_ss, nl_lt, nl_llt, nl_ltt, nl_le, nl_lle, nl_lee, nl_eq, nl_leq, nl_ee, nl_div, nl_rem, nl_cl, nl_n1, nl_n2, nl_n3, nl_n4, nl_add, nl_ladd, nl_aa, nl_mul, nl_rmul, nl_mm, pu_wi_1, pu_wi_2, bX1_addPair_17, bX1_addPair_59, a_ai, a_ald, a_gr, a_icle, a_ifle, a_ild, a_inc, a_isub, a_push, a_wi, sh_45, sh_49, sh_50, sh_51, pu_rv, pu_as, Value.category, pu_bk, pu_kl, pu_qe0, pu_qe1, hc]
    all_goals try simp [bX1_addPair_17, bX1_addPair_59, a_ai, a_ald, a_gr, a_icle, a_ifle, a_ild, a_inc, a_isub, a_push, a_wi, sh_45, sh_49, sh_50, sh_51, pu_rv, pu_as, Value.category, pu_bk, pu_kl, List.replicate, pu_wi_1, pu_wi_2, nl_add, nl_ladd, nl_aa, nl_mul, nl_rmul, nl_mm, pu_qe0, pu_qe1, hc]
    all_goals try simp (maxSteps := 400000) (disch := omega) [nl_tle, nl_fle, nl_tlt, nl_flt, nl_teq, nl_feq, nl_sub, nl_ss, nl_lt, nl_llt, nl_ltt, nl_le, nl_lle, nl_lee, nl_eq, nl_leq, nl_ee, nl_div, nl_rem, nl_cl, nl_n1, nl_n2, nl_n3, nl_n4, nl_add, nl_ladd, nl_aa, nl_mul, nl_rmul, nl_mm, pu_wi_1, pu_wi_2, bX1_addPair_17, bX1_addPair_59, a_ai, a_ald, a_gr, a_icle, a_ifle, a_ild, a_inc, a_isub, a_push, a_wi, sh_45, sh_49, sh_50, sh_51, pu_rv, pu_as, Value.category, pu_bk, pu_kl, pu_qe0, pu_qe1, hc]
    all_goals try simp [bX1_addPair_17, bX1_addPair_59, a_ai, a_ald, a_gr, a_icle, a_ifle, a_ild, a_inc, a_isub, a_push, a_wi, sh_45, sh_49, sh_50, sh_51, pu_rv, pu_as, Value.category, pu_bk, pu_kl, List.replicate, pu_wi_1, pu_wi_2, nl_add, nl_ladd, nl_aa, nl_mul, nl_rmul, nl_mm, pu_qe0, pu_qe1, hc]
  | a + 1, N, hle, hx, h1, h2 => by
    have e : nI (c0 + (a + 1)) - 1 = nI (c0 + a) := nI_pred (c0 + a)
    have e2 : nI (c0 + (a + 1)) + (-1) = nI (c0 + a) := pk_m1 (c0 + a)
    have p0 : ¬ nI (c0 + (a + 1)) ≤ 0 := nI_nle (by omega) (by omega)
    have p1 : ¬ nI (c0 + (a + 1)) ≤ nI c0 := nI_ge (by omega) (by omega)
    have a1 : c0 + a < 200 := by omega
    have a2 : c0 + (a + 1) < 200 := by omega
    obtain ⟨v49, v50, v51⟩ := h1 a (by omega)
    have kb := hb a (by omega)
    by_cases c : key k < key (W a)
    · have c2 : ¬ nI (key (W a)) ≤ nI (key k) := nI_ge c (by omega)
      obtain ⟨Q, hQ⟩ : ∃ Q, pu_wi (pu_wi (pu_wi N 49 (c0 + (a + 1)) (D (W a))) 50 (c0 + (a + 1)) (E (W a))) 51 (c0 + (a + 1)) (nI (key (W a))) = Q := ⟨_, rfl⟩
      have q49 : ∀ j, Q.1 49 j = if j = c0 + (a + 1) then D (W a) else N.1 49 j := fun j => by
        rw [← hQ, py_wi_o (by omega), py_wi_o (by omega)]
        by_cases z : j = c0 + (a + 1)
        · rw [if_pos z, z]; simp [pu_wi_1]
        · rw [if_neg z, py_wi_o (by omega)]
      have q50 : ∀ j, Q.1 50 j = if j = c0 + (a + 1) then E (W a) else N.1 50 j := fun j => by
        rw [← hQ, py_wi_o (by omega)]
        by_cases z : j = c0 + (a + 1)
        · rw [if_pos z, z]; simp [pu_wi_1]
        · rw [if_neg z, py_wi_o (by omega), py_wi_o (by omega)]
      have q51 : ∀ j, Q.1 51 j = if j = c0 + (a + 1) then nI (key (W a)) else N.1 51 j := fun j => by
        rw [← hQ]
        by_cases z : j = c0 + (a + 1)
        · rw [if_pos z, z]; simp [pu_wi_1]
        · rw [if_neg z, py_wi_o (by omega), py_wi_o (by omega), py_wi_o (by omega)]
      have v1 : py_pq N Q := ⟨by rw [← hQ]; rfl, fun c j z1 z2 => by rw [← hQ, py_wi_o (by omega), py_wi_o (by omega), py_wi_o (by omega)]⟩
      have q2 : Q.1 45 3 = N.1 45 3 := by rw [← hQ, py_wi_o (by omega), py_wi_o (by omega), py_wi_o (by omega)]
      obtain ⟨b, N1, b1, b2, b3, b0, b4, b5, b6, b7, b8⟩ := c_ap_l D E key W hn hb hk dA dB a Q (by omega) (pz_fx_of hx v1.1) (fun j hj => by
        rw [q49, q50, q51, if_neg (by omega), if_neg (by omega), if_neg (by omega)]
        exact h1 j (by omega)) (fun j hj1 hj2 => by
        rw [q49, q50, q51]
        by_cases z : j = a + 1
        · rw [if_pos (by omega), if_pos (by omega), if_pos (by omega), z]
          exact ⟨rfl, rfl, rfl⟩
        · rw [if_neg (by omega), if_neg (by omega), if_neg (by omega)]
          exact h2 j (by omega) hj2)
      refine ⟨b, N1, by omega, py_pq_t v1 b2, b3.trans q2, fun j hj => ?_, b4, b5, fun j z1 z2 => ?_, b7, ?_⟩
      · rw [(b0 j hj).1, (b0 j hj).2, q49, q50, if_neg (by omega), if_neg (by omega)]
        exact ⟨rfl, rfl⟩
      · by_cases z : j = a
        · rw [z]; exact c
        · exact b6 j z1 (by omega)
      · rw [← b8, qX1_addPair_17]
        have r50 : (pu_wi N 49 (c0 + (a + 1)) (D (W a))).1 50 (c0 + a) = E (W a) := by rw [py_wi_o (by omega)]; exact v50
        have r51 : (pu_wi (pu_wi N 49 (c0 + (a + 1)) (D (W a))) 50 (c0 + (a + 1)) (E (W a))).1 51 (c0 + a) = nI (key (W a)) := by rw [py_wi_o (by omega), py_wi_o (by omega)]; exact v51
        have g1 := fx_45_11 hx
        have g2 := fx_45_12 hx
        have g3 := fx_45_13 hx
        have g4 : (pu_wi N 49 (c0 + (a + 1)) (D (W a))).2.2.1 45 12 = some 50 := g2
        have g5 : (pu_wi (pu_wi N 49 (c0 + (a + 1)) (D (W a))) 50 (c0 + (a + 1)) (E (W a))).2.2.1 45 13 = some 51 := g3
        generalize c0 + (a + 1) = ca1 at *
        generalize c0 + a = ca at *
        generalize nI (key (W a)) = kw at *
        generalize D (W a) = dw at *
        generalize E (W a) = ew at *
        generalize hN2 : pu_wi N 49 ca1 dw = N2 at *
        generalize hN3 : pu_wi N2 50 ca1 ew = N3 at *
        generalize nI (key k) = kk at *
        simp [bX1_addPair_17, bX1_addPair_59, a_ai, a_ald, a_gr, a_icle, a_ifle, a_ild, a_inc, a_isub, a_push, a_wi, sh_45, sh_49, sh_50, sh_51, pu_rv, pu_as, Value.category, pu_bk, pu_kl, List.replicate, pu_wi_1, pu_wi_2, nl_add, nl_ladd, nl_aa, nl_mul, nl_rmul, nl_mm, pu_qe0, pu_qe1, p0, p1, e, e2, a1, a2, v49, v50, v51, c2, g1, g2, g3, g4, g5, r50, r51, hN2, hN3, hQ, sh_49, sh_50, sh_51]
        all_goals try simp (maxSteps := 400000) (disch := omega) [nl_tle, nl_fle, nl_tlt, nl_flt, nl_teq, nl_feq, nl_sub, nl_ss, nl_lt, nl_llt, nl_ltt, nl_le, nl_lle, nl_lee, nl_eq, nl_leq, nl_ee, nl_div, nl_rem, nl_cl, nl_n1, nl_n2, nl_n3, nl_n4, nl_add, nl_ladd, nl_aa, nl_mul, nl_rmul, nl_mm, pu_wi_1, pu_wi_2, bX1_addPair_17, bX1_addPair_59, a_ai, a_ald, a_gr, a_icle, a_ifle, a_ild, a_inc, a_isub, a_push, a_wi, sh_45, sh_49, sh_50, sh_51, pu_rv, pu_as, Value.category, pu_bk, pu_kl, pu_qe0, pu_qe1, p0, p1, e, e2, a1, a2, v49, v50, v51, c2, g1, g2, g3, g4, g5, r50, r51, hN2, hN3, hQ, sh_49, sh_50, sh_51]
        all_goals try simp [bX1_addPair_17, bX1_addPair_59, a_ai, a_ald, a_gr, a_icle, a_ifle, a_ild, a_inc, a_isub, a_push, a_wi, sh_45, sh_49, sh_50, sh_51, pu_rv, pu_as, Value.category, pu_bk, pu_kl, List.replicate, pu_wi_1, pu_wi_2, nl_add, nl_ladd, nl_aa, nl_mul, nl_rmul, nl_mm, pu_qe0, pu_qe1, p0, p1, e, e2, a1, a2, v49, v50, v51, c2, g1, g2, g3, g4, g5, r50, r51, hN2, hN3, hQ, sh_49, sh_50, sh_51]
        all_goals try simp (maxSteps := 400000) (disch := omega) [nl_tle, nl_fle, nl_tlt, nl_flt, nl_teq, nl_feq, nl_sub, nl_ss, nl_lt, nl_llt, nl_ltt, nl_le, nl_lle, nl_lee, nl_eq, nl_leq, nl_ee, nl_div, nl_rem, nl_cl, nl_n1, nl_n2, nl_n3, nl_n4, nl_add, nl_ladd, nl_aa, nl_mul, nl_rmul, nl_mm, pu_wi_1, pu_wi_2, bX1_addPair_17, bX1_addPair_59, a_ai, a_ald, a_gr, a_icle, a_ifle, a_ild, a_inc, a_isub, a_push, a_wi, sh_45, sh_49, sh_50, sh_51, pu_rv, pu_as, Value.category, pu_bk, pu_kl, pu_qe0, pu_qe1, p0, p1, e, e2, a1, a2, v49, v50, v51, c2, g1, g2, g3, g4, g5, r50, r51, hN2, hN3, hQ, sh_49, sh_50, sh_51]
        all_goals try simp [bX1_addPair_17, bX1_addPair_59, a_ai, a_ald, a_gr, a_icle, a_ifle, a_ild, a_inc, a_isub, a_push, a_wi, sh_45, sh_49, sh_50, sh_51, pu_rv, pu_as, Value.category, pu_bk, pu_kl, List.replicate, pu_wi_1, pu_wi_2, nl_add, nl_ladd, nl_aa, nl_mul, nl_rmul, nl_mm, pu_qe0, pu_qe1, p0, p1, e, e2, a1, a2, v49, v50, v51, c2, g1, g2, g3, g4, g5, r50, r51, hN2, hN3, hQ, sh_49, sh_50, sh_51]
        all_goals try simp (maxSteps := 400000) (disch := omega) [nl_tle, nl_fle, nl_tlt, nl_flt, nl_teq, nl_feq, nl_sub, nl_ss, nl_lt, nl_llt, nl_ltt, nl_le, nl_lle, nl_lee, nl_eq, nl_leq, nl_ee, nl_div, nl_rem, nl_cl, nl_n1, nl_n2, nl_n3, nl_n4, nl_add, nl_ladd, nl_aa, nl_mul, nl_rmul, nl_mm, pu_wi_1, pu_wi_2, bX1_addPair_17, bX1_addPair_59, a_ai, a_ald, a_gr, a_icle, a_ifle, a_ild, a_inc, a_isub, a_push, a_wi, sh_45, sh_49, sh_50, sh_51, pu_rv, pu_as, Value.category, pu_bk, pu_kl, pu_qe0, pu_qe1, p0, p1, e, e2, a1, a2, v49, v50, v51, c2, g1, g2, g3, g4, g5, r50, r51, hN2, hN3, hQ, sh_49, sh_50, sh_51]
        all_goals try simp [bX1_addPair_17, bX1_addPair_59, a_ai, a_ald, a_gr, a_icle, a_ifle, a_ild, a_inc, a_isub, a_push, a_wi, sh_45, sh_49, sh_50, sh_51, pu_rv, pu_as, Value.category, pu_bk, pu_kl, List.replicate, pu_wi_1, pu_wi_2, nl_add, nl_ladd, nl_aa, nl_mul, nl_rmul, nl_mm, pu_qe0, pu_qe1, p0, p1, e, e2, a1, a2, v49, v50, v51, c2, g1, g2, g3, g4, g5, r50, r51, hN2, hN3, hQ, sh_49, sh_50, sh_51]
    · have c2 : nI (key (W a)) ≤ nI (key k) := nI_le (by omega) (by omega)
      refine ⟨a + 1, N, by omega, py_pq_r N, rfl, fun _ _ => ⟨rfl, rfl⟩, h1, h2, fun j z1 z2 => by omega, Or.inr c, ?_⟩
      rw [qX1_addPair_17]
      have g3 := fx_45_13 hx
      generalize c0 + (a + 1) = ca1 at *
      generalize c0 + a = ca at *
      generalize nI (key (W a)) = kw at *
      generalize nI (key k) = kk at *
      simp [bX1_addPair_17, bX1_addPair_59, a_ai, a_ald, a_gr, a_icle, a_ifle, a_ild, a_inc, a_isub, a_push, a_wi, sh_45, sh_49, sh_50, sh_51, pu_rv, pu_as, Value.category, pu_bk, pu_kl, List.replicate, pu_wi_1, pu_wi_2, nl_add, nl_ladd, nl_aa, nl_mul, nl_rmul, nl_mm, pu_qe0, pu_qe1, p0, p1, e, a1, v51, c2, g3, sh_51]
      all_goals try simp (maxSteps := 400000) (disch := omega) [nl_tle, nl_fle, nl_tlt, nl_flt, nl_teq, nl_feq, nl_sub, nl_ss, nl_lt, nl_llt, nl_ltt, nl_le, nl_lle, nl_lee, nl_eq, nl_leq, nl_ee, nl_div, nl_rem, nl_cl, nl_n1, nl_n2, nl_n3, nl_n4, nl_add, nl_ladd, nl_aa, nl_mul, nl_rmul, nl_mm, pu_wi_1, pu_wi_2, bX1_addPair_17, bX1_addPair_59, a_ai, a_ald, a_gr, a_icle, a_ifle, a_ild, a_inc, a_isub, a_push, a_wi, sh_45, sh_49, sh_50, sh_51, pu_rv, pu_as, Value.category, pu_bk, pu_kl, pu_qe0, pu_qe1, p0, p1, e, a1, v51, c2, g3, sh_51]
      all_goals try simp [bX1_addPair_17, bX1_addPair_59, a_ai, a_ald, a_gr, a_icle, a_ifle, a_ild, a_inc, a_isub, a_push, a_wi, sh_45, sh_49, sh_50, sh_51, pu_rv, pu_as, Value.category, pu_bk, pu_kl, List.replicate, pu_wi_1, pu_wi_2, nl_add, nl_ladd, nl_aa, nl_mul, nl_rmul, nl_mm, pu_qe0, pu_qe1, p0, p1, e, a1, v51, c2, g3, sh_51]
      all_goals try simp (maxSteps := 400000) (disch := omega) [nl_tle, nl_fle, nl_tlt, nl_flt, nl_teq, nl_feq, nl_sub, nl_ss, nl_lt, nl_llt, nl_ltt, nl_le, nl_lle, nl_lee, nl_eq, nl_leq, nl_ee, nl_div, nl_rem, nl_cl, nl_n1, nl_n2, nl_n3, nl_n4, nl_add, nl_ladd, nl_aa, nl_mul, nl_rmul, nl_mm, pu_wi_1, pu_wi_2, bX1_addPair_17, bX1_addPair_59, a_ai, a_ald, a_gr, a_icle, a_ifle, a_ild, a_inc, a_isub, a_push, a_wi, sh_45, sh_49, sh_50, sh_51, pu_rv, pu_as, Value.category, pu_bk, pu_kl, pu_qe0, pu_qe1, p0, p1, e, a1, v51, c2, g3, sh_51]
      all_goals try simp [bX1_addPair_17, bX1_addPair_59, a_ai, a_ald, a_gr, a_icle, a_ifle, a_ild, a_inc, a_isub, a_push, a_wi, sh_45, sh_49, sh_50, sh_51, pu_rv, pu_as, Value.category, pu_bk, pu_kl, List.replicate, pu_wi_1, pu_wi_2, nl_add, nl_ladd, nl_aa, nl_mul, nl_rmul, nl_mm, pu_qe0, pu_qe1, p0, p1, e, a1, v51, c2, g3, sh_51]
      all_goals try simp (maxSteps := 400000) (disch := omega) [nl_tle, nl_fle, nl_tlt, nl_flt, nl_teq, nl_feq, nl_sub, nl_ss, nl_lt, nl_llt, nl_ltt, nl_le, nl_lle, nl_lee, nl_eq, nl_leq, nl_ee, nl_div, nl_rem, nl_cl, nl_n1, nl_n2, nl_n3, nl_n4, nl_add, nl_ladd, nl_aa, nl_mul, nl_rmul, nl_mm, pu_wi_1, pu_wi_2, bX1_addPair_17, bX1_addPair_59, a_ai, a_ald, a_gr, a_icle, a_ifle, a_ild, a_inc, a_isub, a_push, a_wi, sh_45, sh_49, sh_50, sh_51, pu_rv, pu_as, Value.category, pu_bk, pu_kl, pu_qe0, pu_qe1, p0, p1, e, a1, v51, c2, g3, sh_51]
      all_goals try simp [bX1_addPair_17, bX1_addPair_59, a_ai, a_ald, a_gr, a_icle, a_ifle, a_ild, a_inc, a_isub, a_push, a_wi, sh_45, sh_49, sh_50, sh_51, pu_rv, pu_as, Value.category, pu_bk, pu_kl, List.replicate, pu_wi_1, pu_wi_2, nl_add, nl_ladd, nl_aa, nl_mul, nl_rmul, nl_mm, pu_qe0, pu_qe1, p0, p1, e, a1, v51, c2, g3, sh_51]
theorem c_addPair {N : pu_M} (hx : pu_fx N) (D E : Nat → Int32) (key W : Nat → Nat) {c0 n k : Nat} (hn : c0 + n < 200) (hb : ∀ t, t < n → key (W t) < 200000000) (hk : key k < 200000000) (h3 : N.1 45 3 = nI (c0 + n)) (hf : ∀ t, t < n → N.1 49 (c0 + t) = D (W t) ∧ N.1 50 (c0 + t) = E (W t) ∧ N.1 51 (c0 + t) = nI (key (W t))) : ∃ b N1, b ≤ n ∧ py_pq N N1 ∧ N1.1 45 3 = nI (c0 + (n + 1)) ∧ (∀ j, j < c0 → N1.1 49 j = N.1 49 j ∧ N1.1 50 j = N.1 50 j) ∧ (∀ t, t < n + 1 → N1.1 49 (c0 + t) = D (pu_vi W b k t) ∧ N1.1 50 (c0 + t) = E (pu_vi W b k t) ∧ N1.1 51 (c0 + t) = nI (key (pu_vi W b k t))) ∧ (∀ j, b ≤ j → j < n → key k < key (W j)) ∧ (b = 0 ∨ ¬ key k < key (W (b - 1))) ∧ pu_r 193 [some (.ref 45), some (.int (D k)), some (.int (E k)), some (.int (nI (key k))), some (.int (nI c0))] [] N = some (none, N1) := by
  obtain ⟨b, P, b1, b2, b3, b0, b4, b5, b6, b7, b8⟩ := c_ap_l D E key W hn hb hk (D k) (E k) n N (Nat.le_refl _) hx hf (fun j z1 z2 => by omega)
  have hxP : pu_fx P := pz_fx_of hx b2.1
  have bl : c0 + b < 200 := by omega
  have P2 : P.1 45 3 = nI (c0 + n) := b3.trans h3
  obtain ⟨Q, hQ⟩ : ∃ Q, pu_wi (pu_wi (pu_wi P 49 (c0 + b) (D k)) 50 (c0 + b) (E k)) 51 (c0 + b) (nI (key k)) = Q := ⟨_, rfl⟩
  have q49 : ∀ j, Q.1 49 j = if j = c0 + b then D k else P.1 49 j := fun j => by
    rw [← hQ, py_wi_o (by omega), py_wi_o (by omega)]
    by_cases z : j = c0 + b
    · rw [if_pos z, z]; simp [pu_wi_1]
    · rw [if_neg z, py_wi_o (by omega)]
  have q50 : ∀ j, Q.1 50 j = if j = c0 + b then E k else P.1 50 j := fun j => by
    rw [← hQ, py_wi_o (by omega)]
    by_cases z : j = c0 + b
    · rw [if_pos z, z]; simp [pu_wi_1]
    · rw [if_neg z, py_wi_o (by omega), py_wi_o (by omega)]
  have q51 : ∀ j, Q.1 51 j = if j = c0 + b then nI (key k) else P.1 51 j := fun j => by
    rw [← hQ]
    by_cases z : j = c0 + b
    · rw [if_pos z, z]; simp [pu_wi_1]
    · rw [if_neg z, py_wi_o (by omega), py_wi_o (by omega), py_wi_o (by omega)]
  have Qo : ∀ c j, ¬ (49 ≤ c ∧ c ≤ 51) → Q.1 c j = P.1 c j := fun c j z => by rw [← hQ, py_wi_o (by omega), py_wi_o (by omega), py_wi_o (by omega)]
  have Q2 : Q.2 = P.2 := by rw [← hQ]; rfl
  have To : ∀ c j, ¬ (c = 45 ∧ j = 3) → (pu_wi Q 45 3 (nI (c0 + n + 1))).1 c j = Q.1 c j := fun c j z => py_wi_o z
  refine ⟨b, pu_wi Q 45 3 (nI (c0 + n + 1)), b1, ⟨by show Q.2 = _; rw [Q2, b2.1], fun c j z1 z2 => by rw [To c j z2, Qo c j z1, b2.2 c j z1 z2]⟩, by simp [pu_wi_1, Nat.add_assoc], fun j hj => ?_, fun t ht => ?_, b6, b7, ?_⟩
  · rw [To 49 j (by omega), To 50 j (by omega), q49, q50, if_neg (by omega), if_neg (by omega)]
    exact b0 j hj
  · rw [To 49 _ (by omega), To 50 _ (by omega), To 51 _ (by omega), q49, q50, q51]
    unfold pu_vi
    by_cases z : t = b
    · have zc : c0 + t = c0 + b := by omega
      have zl : ¬ t < b := by omega
      simp only [if_pos zc, if_pos z, if_neg zl]
      exact ⟨trivial, trivial, trivial⟩
    · have zc : ¬ c0 + t = c0 + b := by omega
      simp only [if_neg zc, if_neg z]
      by_cases z2 : t < b
      · simp only [if_pos z2]
        exact b4 t z2
      · simp only [if_neg z2]
        exact b5 t (by omega) (by omega)
  · have n1 : nI (c0 + n) < 200 := nI_lt (b := 200) hn (by omega)
    have g1 := fx_45_11 hxP
    have g2 : (pu_wi P 49 (c0 + b) (D k)).2.2.1 45 12 = some 50 := fx_45_12 hxP
    have g3 : (pu_wi (pu_wi P 49 (c0 + b) (D k)) 50 (c0 + b) (E k)).2.2.1 45 13 = some 51 := fx_45_13 hxP
    have g4 : Q.1 45 3 = nI (c0 + n) := by rw [Qo 45 3 (by omega)]; exact P2
    have K : pu_r 411 [some (.ref 45), some (.int (D k)), some (.int (E k)), some (.int (nI (key k))), some (.int (nI c0)), some (.int (nI (c0 + n)))] [] N = some (none, pu_wi Q 45 3 (nI (c0 + n + 1))) := by
      rw [b8]
      generalize D k = dk at *
      generalize E k = ek at *
      generalize nI (key k) = kk at *
      generalize c0 + b = cb at *
      generalize c0 + n = cn at *
      generalize hN2 : pu_wi P 49 cb dk = N2 at *
      generalize hN3 : pu_wi N2 50 cb ek = N3 at *
      simp [bX1_addPair_96, a_ald, a_dup, a_gi, a_gr, a_iadd, a_ild, a_pi, a_push, a_vret, a_wi, sh_45, sh_49, sh_50, sh_51, pu_rv, pu_as, Value.category, pu_bk, pu_kl, List.replicate, pu_wi_1, pu_wi_2, nl_add, nl_ladd, nl_aa, nl_mul, nl_rmul, nl_mm, pu_qe0, pu_qe1, bl, fx_45_12 hxP, fx_45_13 hxP, P2, g1, g2, g3, g4, hN2, hN3, hQ, sh_49, sh_50, sh_51]
      all_goals try simp (maxSteps := 400000) (disch := omega) [nl_tle, nl_fle, nl_tlt, nl_flt, nl_teq, nl_feq, nl_sub, nl_ss, nl_lt, nl_llt, nl_ltt, nl_le, nl_lle, nl_lee, nl_eq, nl_leq, nl_ee, nl_div, nl_rem, nl_cl, nl_n1, nl_n2, nl_n3, nl_n4, nl_add, nl_ladd, nl_aa, nl_mul, nl_rmul, nl_mm, pu_wi_1, pu_wi_2, bX1_addPair_96, a_ald, a_dup, a_gi, a_gr, a_iadd, a_ild, a_pi, a_push, a_vret, a_wi, sh_45, sh_49, sh_50, sh_51, pu_rv, pu_as, Value.category, pu_bk, pu_kl, pu_qe0, pu_qe1, bl, fx_45_12 hxP, fx_45_13 hxP, P2, g1, g2, g3, g4, hN2, hN3, hQ, sh_49, sh_50, sh_51]
      all_goals try simp [bX1_addPair_96, a_ald, a_dup, a_gi, a_gr, a_iadd, a_ild, a_pi, a_push, a_vret, a_wi, sh_45, sh_49, sh_50, sh_51, pu_rv, pu_as, Value.category, pu_bk, pu_kl, List.replicate, pu_wi_1, pu_wi_2, nl_add, nl_ladd, nl_aa, nl_mul, nl_rmul, nl_mm, pu_qe0, pu_qe1, bl, fx_45_12 hxP, fx_45_13 hxP, P2, g1, g2, g3, g4, hN2, hN3, hQ, sh_49, sh_50, sh_51]
      all_goals try simp (maxSteps := 400000) (disch := omega) [nl_tle, nl_fle, nl_tlt, nl_flt, nl_teq, nl_feq, nl_sub, nl_ss, nl_lt, nl_llt, nl_ltt, nl_le, nl_lle, nl_lee, nl_eq, nl_leq, nl_ee, nl_div, nl_rem, nl_cl, nl_n1, nl_n2, nl_n3, nl_n4, nl_add, nl_ladd, nl_aa, nl_mul, nl_rmul, nl_mm, pu_wi_1, pu_wi_2, bX1_addPair_96, a_ald, a_dup, a_gi, a_gr, a_iadd, a_ild, a_pi, a_push, a_vret, a_wi, sh_45, sh_49, sh_50, sh_51, pu_rv, pu_as, Value.category, pu_bk, pu_kl, pu_qe0, pu_qe1, bl, fx_45_12 hxP, fx_45_13 hxP, P2, g1, g2, g3, g4, hN2, hN3, hQ, sh_49, sh_50, sh_51]
      all_goals try simp [bX1_addPair_96, a_ald, a_dup, a_gi, a_gr, a_iadd, a_ild, a_pi, a_push, a_vret, a_wi, sh_45, sh_49, sh_50, sh_51, pu_rv, pu_as, Value.category, pu_bk, pu_kl, List.replicate, pu_wi_1, pu_wi_2, nl_add, nl_ladd, nl_aa, nl_mul, nl_rmul, nl_mm, pu_qe0, pu_qe1, bl, fx_45_12 hxP, fx_45_13 hxP, P2, g1, g2, g3, g4, hN2, hN3, hQ, sh_49, sh_50, sh_51]
      all_goals try simp (maxSteps := 400000) (disch := omega) [nl_tle, nl_fle, nl_tlt, nl_flt, nl_teq, nl_feq, nl_sub, nl_ss, nl_lt, nl_llt, nl_ltt, nl_le, nl_lle, nl_lee, nl_eq, nl_leq, nl_ee, nl_div, nl_rem, nl_cl, nl_n1, nl_n2, nl_n3, nl_n4, nl_add, nl_ladd, nl_aa, nl_mul, nl_rmul, nl_mm, pu_wi_1, pu_wi_2, bX1_addPair_96, a_ald, a_dup, a_gi, a_gr, a_iadd, a_ild, a_pi, a_push, a_vret, a_wi, sh_45, sh_49, sh_50, sh_51, pu_rv, pu_as, Value.category, pu_bk, pu_kl, pu_qe0, pu_qe1, bl, fx_45_12 hxP, fx_45_13 hxP, P2, g1, g2, g3, g4, hN2, hN3, hQ, sh_49, sh_50, sh_51]
      all_goals try simp [bX1_addPair_96, a_ald, a_dup, a_gi, a_gr, a_iadd, a_ild, a_pi, a_push, a_vret, a_wi, sh_45, sh_49, sh_50, sh_51, pu_rv, pu_as, Value.category, pu_bk, pu_kl, List.replicate, pu_wi_1, pu_wi_2, nl_add, nl_ladd, nl_aa, nl_mul, nl_rmul, nl_mm, pu_qe0, pu_qe1, bl, fx_45_12 hxP, fx_45_13 hxP, P2, g1, g2, g3, g4, hN2, hN3, hQ, sh_49, sh_50, sh_51]
    generalize D k = dk at *
    generalize E k = ek at *
    generalize nI (key k) = kk at *
    generalize c0 + n = cn at *
    rw [qX1_addPair]
    simp [a_ent, bX1_addPair_0, bX1_addPair_11, a_ald, a_gi, a_iclt, a_ist, a_push, a_vret, sh_45, pu_rv, pu_as, Value.category, pu_bk, pu_kl, List.replicate, pu_wi_1, pu_wi_2, nl_add, nl_ladd, nl_aa, nl_mul, nl_rmul, nl_mm, pu_qe0, pu_qe1, h3, n1, hn, K]
    all_goals try simp (maxSteps := 400000) (disch := omega) [nl_tle, nl_fle, nl_tlt, nl_flt, nl_teq, nl_feq, nl_sub, nl_ss, nl_lt, nl_llt, nl_ltt, nl_le, nl_lle, nl_lee, nl_eq, nl_leq, nl_ee, nl_div, nl_rem, nl_cl, nl_n1, nl_n2, nl_n3, nl_n4, nl_add, nl_ladd, nl_aa, nl_mul, nl_rmul, nl_mm, pu_wi_1, pu_wi_2, bX1_addPair_0, bX1_addPair_11, a_ald, a_gi, a_iclt, a_ist, a_push, a_vret, sh_45, pu_rv, pu_as, Value.category, pu_bk, pu_kl, pu_qe0, pu_qe1, h3, n1, hn, K]
    all_goals try simp [bX1_addPair_0, bX1_addPair_11, a_ald, a_gi, a_iclt, a_ist, a_push, a_vret, sh_45, pu_rv, pu_as, Value.category, pu_bk, pu_kl, List.replicate, pu_wi_1, pu_wi_2, nl_add, nl_ladd, nl_aa, nl_mul, nl_rmul, nl_mm, pu_qe0, pu_qe1, h3, n1, hn, K]
    all_goals try simp (maxSteps := 400000) (disch := omega) [nl_tle, nl_fle, nl_tlt, nl_flt, nl_teq, nl_feq, nl_sub, nl_ss, nl_lt, nl_llt, nl_ltt, nl_le, nl_lle, nl_lee, nl_eq, nl_leq, nl_ee, nl_div, nl_rem, nl_cl, nl_n1, nl_n2, nl_n3, nl_n4, nl_add, nl_ladd, nl_aa, nl_mul, nl_rmul, nl_mm, pu_wi_1, pu_wi_2, bX1_addPair_0, bX1_addPair_11, a_ald, a_gi, a_iclt, a_ist, a_push, a_vret, sh_45, pu_rv, pu_as, Value.category, pu_bk, pu_kl, pu_qe0, pu_qe1, h3, n1, hn, K]
    all_goals try simp [bX1_addPair_0, bX1_addPair_11, a_ald, a_gi, a_iclt, a_ist, a_push, a_vret, sh_45, pu_rv, pu_as, Value.category, pu_bk, pu_kl, List.replicate, pu_wi_1, pu_wi_2, nl_add, nl_ladd, nl_aa, nl_mul, nl_rmul, nl_mm, pu_qe0, pu_qe1, h3, n1, hn, K]
    all_goals try simp (maxSteps := 400000) (disch := omega) [nl_tle, nl_fle, nl_tlt, nl_flt, nl_teq, nl_feq, nl_sub, nl_ss, nl_lt, nl_llt, nl_ltt, nl_le, nl_lle, nl_lee, nl_eq, nl_leq, nl_ee, nl_div, nl_rem, nl_cl, nl_n1, nl_n2, nl_n3, nl_n4, nl_add, nl_ladd, nl_aa, nl_mul, nl_rmul, nl_mm, pu_wi_1, pu_wi_2, bX1_addPair_0, bX1_addPair_11, a_ald, a_gi, a_iclt, a_ist, a_push, a_vret, sh_45, pu_rv, pu_as, Value.category, pu_bk, pu_kl, pu_qe0, pu_qe1, h3, n1, hn, K]
    all_goals try simp [bX1_addPair_0, bX1_addPair_11, a_ald, a_gi, a_iclt, a_ist, a_push, a_vret, sh_45, pu_rv, pu_as, Value.category, pu_bk, pu_kl, List.replicate, pu_wi_1, pu_wi_2, nl_add, nl_ladd, nl_aa, nl_mul, nl_rmul, nl_mm, pu_qe0, pu_qe1, h3, n1, hn, K]
/-- the pair of span i -/
def py_d1x (I : Nat → Nat → Int32) (i : Nat) : Int32 := nI (pu_sl0 I i / 2)
noncomputable def py_d2x (I : Nat → Nat → Int32) (b i : Nat) : Int32 := nI (pu_sl0 I (py_pj I b i) / 2)
/-- the inner loop finds no span of b from j on -/
theorem c_pi0 {N : pu_M} (hx : pu_fx N) (hI : pu_ag N I) (hw : pu_WF I L) {a b f i : Nat} (hi : i < cU I) : ∀ (m j : Nat) (t6 : Option Value), j + m = cU I → (∀ l, j ≤ l → ¬ (py_kI I b l ∧ I 16 l = I 16 i)) → pu_r 413 [some (.ref 0), some (.int (nI a)), some (.int (nI b)), some (.int (nI f)), some (.int (nI i)), some (.int (nI j)), t6] [] N = pu_r 412 [some (.ref 0), some (.int (nI a)), some (.int (nI b)), some (.int (nI f)), some (.int (nI (i + 1))), some (.int (nI (cU I))), t6] [] N
  | 0, j, t6, h, no => by
    have bU := wx_bU hw
    have hn := wx_cU hw
    have e : j = cU I := by omega
    have hc : nI (cU I) ≤ nI (cU I) := nI_le (by omega) (by omega)
    rw [e]
    generalize hR : pu_r 412 [some (.ref 0), some (.int (nI a)), some (.int (nI b)), some (.int (nI f)), some (.int (nI (i + 1))), some (.int (nI (cU I))), t6] [] N = R
    rw [qX11_pairStreets_45]
    simp [bX11_pairStreets_45, bX11_pairStreets_166, bX11_pairStreets_160, bX11_pairStreets_99, bX11_pairStreets_151, a_ai, a_ald, a_cv, a_gi, a_gr, a_icge, a_icne, a_idiv, a_ifeq, a_ild, a_inc, a_ist, a_push, ag_14 hI, ag_15 hI, ag_16 hI, ag_45 hI, fx_0_2 hx, fx_14_1 hx, fx_14_2 hx, fx_5_1 hx, fx_5_6 hx, sh_0, sh_14, sh_15, sh_16, sh_45, sh_5, pu_rv, pu_as, Value.category, pu_bk, pu_kl, List.replicate, pu_wi_1, pu_wi_2, nl_add, nl_ladd, nl_aa, nl_mul, nl_rmul, nl_mm, pu_qe0, pu_qe1, hn, hc, hR]
    all_goals try simp (maxSteps := 400000) (disch := omega) [nl_tle, nl_fle, nl_tlt, nl_flt, nl_teq, nl_feq, nl_sub, nl_ss, nl_lt, nl_llt, nl_ltt, nl_le, nl_lle, nl_lee, nl_eq, nl_leq, nl_ee, nl_div, nl_rem, nl_cl, nl_n1, nl_n2, nl_n3, nl_n4, nl_add, nl_ladd, nl_aa, nl_mul, nl_rmul, nl_mm, pu_wi_1, pu_wi_2, bX11_pairStreets_45, bX11_pairStreets_166, bX11_pairStreets_160, bX11_pairStreets_99, bX11_pairStreets_151, a_ai, a_ald, a_cv, a_gi, a_gr, a_icge, a_icne, a_idiv, a_ifeq, a_ild, a_inc, a_ist, a_push, ag_14 hI, ag_15 hI, ag_16 hI, ag_45 hI, fx_0_2 hx, fx_14_1 hx, fx_14_2 hx, fx_5_1 hx, fx_5_6 hx, sh_0, sh_14, sh_15, sh_16, sh_45, sh_5, pu_rv, pu_as, Value.category, pu_bk, pu_kl, pu_qe0, pu_qe1, hn, hc, hR]
    all_goals try simp [bX11_pairStreets_45, bX11_pairStreets_166, bX11_pairStreets_160, bX11_pairStreets_99, bX11_pairStreets_151, a_ai, a_ald, a_cv, a_gi, a_gr, a_icge, a_icne, a_idiv, a_ifeq, a_ild, a_inc, a_ist, a_push, ag_14 hI, ag_15 hI, ag_16 hI, ag_45 hI, fx_0_2 hx, fx_14_1 hx, fx_14_2 hx, fx_5_1 hx, fx_5_6 hx, sh_0, sh_14, sh_15, sh_16, sh_45, sh_5, pu_rv, pu_as, Value.category, pu_bk, pu_kl, List.replicate, pu_wi_1, pu_wi_2, nl_add, nl_ladd, nl_aa, nl_mul, nl_rmul, nl_mm, pu_qe0, pu_qe1, hn, hc, hR]
    all_goals try simp (maxSteps := 400000) (disch := omega) [nl_tle, nl_fle, nl_tlt, nl_flt, nl_teq, nl_feq, nl_sub, nl_ss, nl_lt, nl_llt, nl_ltt, nl_le, nl_lle, nl_lee, nl_eq, nl_leq, nl_ee, nl_div, nl_rem, nl_cl, nl_n1, nl_n2, nl_n3, nl_n4, nl_add, nl_ladd, nl_aa, nl_mul, nl_rmul, nl_mm, pu_wi_1, pu_wi_2, bX11_pairStreets_45, bX11_pairStreets_166, bX11_pairStreets_160, bX11_pairStreets_99, bX11_pairStreets_151, a_ai, a_ald, a_cv, a_gi, a_gr, a_icge, a_icne, a_idiv, a_ifeq, a_ild, a_inc, a_ist, a_push, ag_14 hI, ag_15 hI, ag_16 hI, ag_45 hI, fx_0_2 hx, fx_14_1 hx, fx_14_2 hx, fx_5_1 hx, fx_5_6 hx, sh_0, sh_14, sh_15, sh_16, sh_45, sh_5, pu_rv, pu_as, Value.category, pu_bk, pu_kl, pu_qe0, pu_qe1, hn, hc, hR]
    all_goals try simp [bX11_pairStreets_45, bX11_pairStreets_166, bX11_pairStreets_160, bX11_pairStreets_99, bX11_pairStreets_151, a_ai, a_ald, a_cv, a_gi, a_gr, a_icge, a_icne, a_idiv, a_ifeq, a_ild, a_inc, a_ist, a_push, ag_14 hI, ag_15 hI, ag_16 hI, ag_45 hI, fx_0_2 hx, fx_14_1 hx, fx_14_2 hx, fx_5_1 hx, fx_5_6 hx, sh_0, sh_14, sh_15, sh_16, sh_45, sh_5, pu_rv, pu_as, Value.category, pu_bk, pu_kl, List.replicate, pu_wi_1, pu_wi_2, nl_add, nl_ladd, nl_aa, nl_mul, nl_rmul, nl_mm, pu_qe0, pu_qe1, hn, hc, hR]
    all_goals try simp (maxSteps := 400000) (disch := omega) [nl_tle, nl_fle, nl_tlt, nl_flt, nl_teq, nl_feq, nl_sub, nl_ss, nl_lt, nl_llt, nl_ltt, nl_le, nl_lle, nl_lee, nl_eq, nl_leq, nl_ee, nl_div, nl_rem, nl_cl, nl_n1, nl_n2, nl_n3, nl_n4, nl_add, nl_ladd, nl_aa, nl_mul, nl_rmul, nl_mm, pu_wi_1, pu_wi_2, bX11_pairStreets_45, bX11_pairStreets_166, bX11_pairStreets_160, bX11_pairStreets_99, bX11_pairStreets_151, a_ai, a_ald, a_cv, a_gi, a_gr, a_icge, a_icne, a_idiv, a_ifeq, a_ild, a_inc, a_ist, a_push, ag_14 hI, ag_15 hI, ag_16 hI, ag_45 hI, fx_0_2 hx, fx_14_1 hx, fx_14_2 hx, fx_5_1 hx, fx_5_6 hx, sh_0, sh_14, sh_15, sh_16, sh_45, sh_5, pu_rv, pu_as, Value.category, pu_bk, pu_kl, pu_qe0, pu_qe1, hn, hc, hR]
    all_goals try simp [bX11_pairStreets_45, bX11_pairStreets_166, bX11_pairStreets_160, bX11_pairStreets_99, bX11_pairStreets_151, a_ai, a_ald, a_cv, a_gi, a_gr, a_icge, a_icne, a_idiv, a_ifeq, a_ild, a_inc, a_ist, a_push, ag_14 hI, ag_15 hI, ag_16 hI, ag_45 hI, fx_0_2 hx, fx_14_1 hx, fx_14_2 hx, fx_5_1 hx, fx_5_6 hx, sh_0, sh_14, sh_15, sh_16, sh_45, sh_5, pu_rv, pu_as, Value.category, pu_bk, pu_kl, List.replicate, pu_wi_1, pu_wi_2, nl_add, nl_ladd, nl_aa, nl_mul, nl_rmul, nl_mm, pu_qe0, pu_qe1, hn, hc, hR]
  | m + 1, j, t6, h, no => by
    have bU := wx_bU hw
    have hn := wx_cU hw
    have hc : ¬ nI (cU I) ≤ nI j := nI_ge (by omega) (by omega)
    have j3 : j < 3000 := by omega
    have i3 : i < 3000 := by omega
    have ih := c_pi0 hx hI hw (a := a) (b := b) (f := f) hi m (j + 1) t6 (by omega) (fun l hl => no l (by omega))
    have e1 := c_isOKN hx hI hw b j (by omega)
    by_cases c1 : I 16 j = I 16 i
    · rw [pu_q0 (fun z => no j (Nat.le_refl _) ⟨z, c1⟩)] at e1
      generalize I 16 i = v at *
      rw [qX11_pairStreets_45]
      simp [bX11_pairStreets_45, bX11_pairStreets_166, bX11_pairStreets_160, bX11_pairStreets_99, bX11_pairStreets_151, a_ai, a_ald, a_cv, a_gi, a_gr, a_icge, a_icne, a_idiv, a_ifeq, a_ild, a_inc, a_ist, a_push, ag_14 hI, ag_15 hI, ag_16 hI, ag_45 hI, fx_0_2 hx, fx_14_1 hx, fx_14_2 hx, fx_5_1 hx, fx_5_6 hx, sh_0, sh_14, sh_15, sh_16, sh_45, sh_5, pu_rv, pu_as, Value.category, pu_bk, pu_kl, List.replicate, pu_wi_1, pu_wi_2, nl_add, nl_ladd, nl_aa, nl_mul, nl_rmul, nl_mm, pu_qe0, pu_qe1, hn, hc, j3, i3, c1, e1, ih]
      all_goals try simp (maxSteps := 400000) (disch := omega) [nl_tle, nl_fle, nl_tlt, nl_flt, nl_teq, nl_feq, nl_sub, nl_ss, nl_lt, nl_llt, nl_ltt, nl_le, nl_lle, nl_lee, nl_eq, nl_leq, nl_ee, nl_div, nl_rem, nl_cl, nl_n1, nl_n2, nl_n3, nl_n4, nl_add, nl_ladd, nl_aa, nl_mul, nl_rmul, nl_mm, pu_wi_1, pu_wi_2, bX11_pairStreets_45, bX11_pairStreets_166, bX11_pairStreets_160, bX11_pairStreets_99, bX11_pairStreets_151, a_ai, a_ald, a_cv, a_gi, a_gr, a_icge, a_icne, a_idiv, a_ifeq, a_ild, a_inc, a_ist, a_push, ag_14 hI, ag_15 hI, ag_16 hI, ag_45 hI, fx_0_2 hx, fx_14_1 hx, fx_14_2 hx, fx_5_1 hx, fx_5_6 hx, sh_0, sh_14, sh_15, sh_16, sh_45, sh_5, pu_rv, pu_as, Value.category, pu_bk, pu_kl, pu_qe0, pu_qe1, hn, hc, j3, i3, c1, e1, ih]
      all_goals try simp [bX11_pairStreets_45, bX11_pairStreets_166, bX11_pairStreets_160, bX11_pairStreets_99, bX11_pairStreets_151, a_ai, a_ald, a_cv, a_gi, a_gr, a_icge, a_icne, a_idiv, a_ifeq, a_ild, a_inc, a_ist, a_push, ag_14 hI, ag_15 hI, ag_16 hI, ag_45 hI, fx_0_2 hx, fx_14_1 hx, fx_14_2 hx, fx_5_1 hx, fx_5_6 hx, sh_0, sh_14, sh_15, sh_16, sh_45, sh_5, pu_rv, pu_as, Value.category, pu_bk, pu_kl, List.replicate, pu_wi_1, pu_wi_2, nl_add, nl_ladd, nl_aa, nl_mul, nl_rmul, nl_mm, pu_qe0, pu_qe1, hn, hc, j3, i3, c1, e1, ih]
      all_goals try simp (maxSteps := 400000) (disch := omega) [nl_tle, nl_fle, nl_tlt, nl_flt, nl_teq, nl_feq, nl_sub, nl_ss, nl_lt, nl_llt, nl_ltt, nl_le, nl_lle, nl_lee, nl_eq, nl_leq, nl_ee, nl_div, nl_rem, nl_cl, nl_n1, nl_n2, nl_n3, nl_n4, nl_add, nl_ladd, nl_aa, nl_mul, nl_rmul, nl_mm, pu_wi_1, pu_wi_2, bX11_pairStreets_45, bX11_pairStreets_166, bX11_pairStreets_160, bX11_pairStreets_99, bX11_pairStreets_151, a_ai, a_ald, a_cv, a_gi, a_gr, a_icge, a_icne, a_idiv, a_ifeq, a_ild, a_inc, a_ist, a_push, ag_14 hI, ag_15 hI, ag_16 hI, ag_45 hI, fx_0_2 hx, fx_14_1 hx, fx_14_2 hx, fx_5_1 hx, fx_5_6 hx, sh_0, sh_14, sh_15, sh_16, sh_45, sh_5, pu_rv, pu_as, Value.category, pu_bk, pu_kl, pu_qe0, pu_qe1, hn, hc, j3, i3, c1, e1, ih]
      all_goals try simp [bX11_pairStreets_45, bX11_pairStreets_166, bX11_pairStreets_160, bX11_pairStreets_99, bX11_pairStreets_151, a_ai, a_ald, a_cv, a_gi, a_gr, a_icge, a_icne, a_idiv, a_ifeq, a_ild, a_inc, a_ist, a_push, ag_14 hI, ag_15 hI, ag_16 hI, ag_45 hI, fx_0_2 hx, fx_14_1 hx, fx_14_2 hx, fx_5_1 hx, fx_5_6 hx, sh_0, sh_14, sh_15, sh_16, sh_45, sh_5, pu_rv, pu_as, Value.category, pu_bk, pu_kl, List.replicate, pu_wi_1, pu_wi_2, nl_add, nl_ladd, nl_aa, nl_mul, nl_rmul, nl_mm, pu_qe0, pu_qe1, hn, hc, j3, i3, c1, e1, ih]
      all_goals try simp (maxSteps := 400000) (disch := omega) [nl_tle, nl_fle, nl_tlt, nl_flt, nl_teq, nl_feq, nl_sub, nl_ss, nl_lt, nl_llt, nl_ltt, nl_le, nl_lle, nl_lee, nl_eq, nl_leq, nl_ee, nl_div, nl_rem, nl_cl, nl_n1, nl_n2, nl_n3, nl_n4, nl_add, nl_ladd, nl_aa, nl_mul, nl_rmul, nl_mm, pu_wi_1, pu_wi_2, bX11_pairStreets_45, bX11_pairStreets_166, bX11_pairStreets_160, bX11_pairStreets_99, bX11_pairStreets_151, a_ai, a_ald, a_cv, a_gi, a_gr, a_icge, a_icne, a_idiv, a_ifeq, a_ild, a_inc, a_ist, a_push, ag_14 hI, ag_15 hI, ag_16 hI, ag_45 hI, fx_0_2 hx, fx_14_1 hx, fx_14_2 hx, fx_5_1 hx, fx_5_6 hx, sh_0, sh_14, sh_15, sh_16, sh_45, sh_5, pu_rv, pu_as, Value.category, pu_bk, pu_kl, pu_qe0, pu_qe1, hn, hc, j3, i3, c1, e1, ih]
      all_goals try simp [bX11_pairStreets_45, bX11_pairStreets_166, bX11_pairStreets_160, bX11_pairStreets_99, bX11_pairStreets_151, a_ai, a_ald, a_cv, a_gi, a_gr, a_icge, a_icne, a_idiv, a_ifeq, a_ild, a_inc, a_ist, a_push, ag_14 hI, ag_15 hI, ag_16 hI, ag_45 hI, fx_0_2 hx, fx_14_1 hx, fx_14_2 hx, fx_5_1 hx, fx_5_6 hx, sh_0, sh_14, sh_15, sh_16, sh_45, sh_5, pu_rv, pu_as, Value.category, pu_bk, pu_kl, List.replicate, pu_wi_1, pu_wi_2, nl_add, nl_ladd, nl_aa, nl_mul, nl_rmul, nl_mm, pu_qe0, pu_qe1, hn, hc, j3, i3, c1, e1, ih]
    · generalize hv : I 16 i = v at *
      rw [qX11_pairStreets_45]
      simp [bX11_pairStreets_45, bX11_pairStreets_166, bX11_pairStreets_160, bX11_pairStreets_99, bX11_pairStreets_151, a_ai, a_ald, a_cv, a_gi, a_gr, a_icge, a_icne, a_idiv, a_ifeq, a_ild, a_inc, a_ist, a_push, ag_14 hI, ag_15 hI, ag_16 hI, ag_45 hI, fx_0_2 hx, fx_14_1 hx, fx_14_2 hx, fx_5_1 hx, fx_5_6 hx, sh_0, sh_14, sh_15, sh_16, sh_45, sh_5, pu_rv, pu_as, Value.category, pu_bk, pu_kl, List.replicate, pu_wi_1, pu_wi_2, nl_add, nl_ladd, nl_aa, nl_mul, nl_rmul, nl_mm, pu_qe0, pu_qe1, hn, hc, j3, i3, c1, hv, ih]
      all_goals try simp (maxSteps := 400000) (disch := omega) [nl_tle, nl_fle, nl_tlt, nl_flt, nl_teq, nl_feq, nl_sub, nl_ss, nl_lt, nl_llt, nl_ltt, nl_le, nl_lle, nl_lee, nl_eq, nl_leq, nl_ee, nl_div, nl_rem, nl_cl, nl_n1, nl_n2, nl_n3, nl_n4, nl_add, nl_ladd, nl_aa, nl_mul, nl_rmul, nl_mm, pu_wi_1, pu_wi_2, bX11_pairStreets_45, bX11_pairStreets_166, bX11_pairStreets_160, bX11_pairStreets_99, bX11_pairStreets_151, a_ai, a_ald, a_cv, a_gi, a_gr, a_icge, a_icne, a_idiv, a_ifeq, a_ild, a_inc, a_ist, a_push, ag_14 hI, ag_15 hI, ag_16 hI, ag_45 hI, fx_0_2 hx, fx_14_1 hx, fx_14_2 hx, fx_5_1 hx, fx_5_6 hx, sh_0, sh_14, sh_15, sh_16, sh_45, sh_5, pu_rv, pu_as, Value.category, pu_bk, pu_kl, pu_qe0, pu_qe1, hn, hc, j3, i3, c1, hv, ih]
      all_goals try simp [bX11_pairStreets_45, bX11_pairStreets_166, bX11_pairStreets_160, bX11_pairStreets_99, bX11_pairStreets_151, a_ai, a_ald, a_cv, a_gi, a_gr, a_icge, a_icne, a_idiv, a_ifeq, a_ild, a_inc, a_ist, a_push, ag_14 hI, ag_15 hI, ag_16 hI, ag_45 hI, fx_0_2 hx, fx_14_1 hx, fx_14_2 hx, fx_5_1 hx, fx_5_6 hx, sh_0, sh_14, sh_15, sh_16, sh_45, sh_5, pu_rv, pu_as, Value.category, pu_bk, pu_kl, List.replicate, pu_wi_1, pu_wi_2, nl_add, nl_ladd, nl_aa, nl_mul, nl_rmul, nl_mm, pu_qe0, pu_qe1, hn, hc, j3, i3, c1, hv, ih]
      all_goals try simp (maxSteps := 400000) (disch := omega) [nl_tle, nl_fle, nl_tlt, nl_flt, nl_teq, nl_feq, nl_sub, nl_ss, nl_lt, nl_llt, nl_ltt, nl_le, nl_lle, nl_lee, nl_eq, nl_leq, nl_ee, nl_div, nl_rem, nl_cl, nl_n1, nl_n2, nl_n3, nl_n4, nl_add, nl_ladd, nl_aa, nl_mul, nl_rmul, nl_mm, pu_wi_1, pu_wi_2, bX11_pairStreets_45, bX11_pairStreets_166, bX11_pairStreets_160, bX11_pairStreets_99, bX11_pairStreets_151, a_ai, a_ald, a_cv, a_gi, a_gr, a_icge, a_icne, a_idiv, a_ifeq, a_ild, a_inc, a_ist, a_push, ag_14 hI, ag_15 hI, ag_16 hI, ag_45 hI, fx_0_2 hx, fx_14_1 hx, fx_14_2 hx, fx_5_1 hx, fx_5_6 hx, sh_0, sh_14, sh_15, sh_16, sh_45, sh_5, pu_rv, pu_as, Value.category, pu_bk, pu_kl, pu_qe0, pu_qe1, hn, hc, j3, i3, c1, hv, ih]
      all_goals try simp [bX11_pairStreets_45, bX11_pairStreets_166, bX11_pairStreets_160, bX11_pairStreets_99, bX11_pairStreets_151, a_ai, a_ald, a_cv, a_gi, a_gr, a_icge, a_icne, a_idiv, a_ifeq, a_ild, a_inc, a_ist, a_push, ag_14 hI, ag_15 hI, ag_16 hI, ag_45 hI, fx_0_2 hx, fx_14_1 hx, fx_14_2 hx, fx_5_1 hx, fx_5_6 hx, sh_0, sh_14, sh_15, sh_16, sh_45, sh_5, pu_rv, pu_as, Value.category, pu_bk, pu_kl, List.replicate, pu_wi_1, pu_wi_2, nl_add, nl_ladd, nl_aa, nl_mul, nl_rmul, nl_mm, pu_qe0, pu_qe1, hn, hc, j3, i3, c1, hv, ih]
      all_goals try simp (maxSteps := 400000) (disch := omega) [nl_tle, nl_fle, nl_tlt, nl_flt, nl_teq, nl_feq, nl_sub, nl_ss, nl_lt, nl_llt, nl_ltt, nl_le, nl_lle, nl_lee, nl_eq, nl_leq, nl_ee, nl_div, nl_rem, nl_cl, nl_n1, nl_n2, nl_n3, nl_n4, nl_add, nl_ladd, nl_aa, nl_mul, nl_rmul, nl_mm, pu_wi_1, pu_wi_2, bX11_pairStreets_45, bX11_pairStreets_166, bX11_pairStreets_160, bX11_pairStreets_99, bX11_pairStreets_151, a_ai, a_ald, a_cv, a_gi, a_gr, a_icge, a_icne, a_idiv, a_ifeq, a_ild, a_inc, a_ist, a_push, ag_14 hI, ag_15 hI, ag_16 hI, ag_45 hI, fx_0_2 hx, fx_14_1 hx, fx_14_2 hx, fx_5_1 hx, fx_5_6 hx, sh_0, sh_14, sh_15, sh_16, sh_45, sh_5, pu_rv, pu_as, Value.category, pu_bk, pu_kl, pu_qe0, pu_qe1, hn, hc, j3, i3, c1, hv, ih]
      all_goals try simp [bX11_pairStreets_45, bX11_pairStreets_166, bX11_pairStreets_160, bX11_pairStreets_99, bX11_pairStreets_151, a_ai, a_ald, a_cv, a_gi, a_gr, a_icge, a_icne, a_idiv, a_ifeq, a_ild, a_inc, a_ist, a_push, ag_14 hI, ag_15 hI, ag_16 hI, ag_45 hI, fx_0_2 hx, fx_14_1 hx, fx_14_2 hx, fx_5_1 hx, fx_5_6 hx, sh_0, sh_14, sh_15, sh_16, sh_45, sh_5, pu_rv, pu_as, Value.category, pu_bk, pu_kl, List.replicate, pu_wi_1, pu_wi_2, nl_add, nl_ladd, nl_aa, nl_mul, nl_rmul, nl_mm, pu_qe0, pu_qe1, hn, hc, j3, i3, c1, hv, ih]
theorem c_pi1 {N N1 : pu_M} (hx : pu_fx N) (hI : pu_ag N I) (hw : pu_WF I L) {a b f i j0 : Nat} (hi : i < cU I) (hj0 : py_kI I b j0) (e0 : I 16 j0 = I 16 i) (eA : pu_r 193 [some (.ref 45), some (.int (nI (pu_sl0 I i / 2))), some (.int (nI (pu_sl0 I j0 / 2))), some (.int (I 16 i)), some (.int (nI f))] [] N = some (none, N1)) (R : Option (Option Value × pu_M)) (hR : pu_r 413 [some (.ref 0), some (.int (nI a)), some (.int (nI b)), some (.int (nI f)), some (.int (nI i)), some (.int (nI (j0 + 1))), some (.int (I 16 i))] [] N1 = R) : ∀ (m j : Nat) (t6 : Option Value), j + m = j0 → pu_r 413 [some (.ref 0), some (.int (nI a)), some (.int (nI b)), some (.int (nI f)), some (.int (nI i)), some (.int (nI j)), t6] [] N = R
  | 0, j, t6, h => by
    have bU := wx_bU hw
    have bD := wx_bD hw
    have hn := wx_cU hw
    have j1 := hj0.1
    have e : j = j0 := by omega
    have hc : ¬ nI (cU I) ≤ nI j0 := nI_ge (by omega) (by omega)
    have j3 : j0 < 3000 := by omega
    have i3 : i < 3000 := by omega
    have e1 := c_isOKN hx hI hw b j0 j1
    rw [pu_q1 hj0] at e1
    have s1 := pu_sl_lt hw hi
    have s2 := pu_sl_lt hw j1
    have a1 := s1.2
    have a2 := s2.2
    have l1 : pu_sl0 I i < 200 := by omega
    have l2 : pu_sl0 I j0 < 200 := by omega
    rw [e]
    generalize hv : I 16 i = v at *
    generalize pu_sl0 I i = u1 at *
    generalize pu_sl0 I j0 = u2 at *
    rw [qX11_pairStreets_45]
    simp [bX11_pairStreets_45, bX11_pairStreets_166, bX11_pairStreets_160, bX11_pairStreets_99, bX11_pairStreets_151, a_ai, a_ald, a_cv, a_gi, a_gr, a_icge, a_icne, a_idiv, a_ifeq, a_ild, a_inc, a_ist, a_push, ag_14 hI, ag_15 hI, ag_16 hI, ag_45 hI, fx_0_2 hx, fx_14_1 hx, fx_14_2 hx, fx_5_1 hx, fx_5_6 hx, sh_0, sh_14, sh_15, sh_16, sh_45, sh_5, pu_rv, pu_as, Value.category, pu_bk, pu_kl, List.replicate, pu_wi_1, pu_wi_2, nl_add, nl_ladd, nl_aa, nl_mul, nl_rmul, nl_mm, pu_qe0, pu_qe1, hn, hc, j3, i3, e0, hv, e1, a1, a2, l1, l2, eA, hR]
    all_goals try simp (maxSteps := 400000) (disch := omega) [nl_tle, nl_fle, nl_tlt, nl_flt, nl_teq, nl_feq, nl_sub, nl_ss, nl_lt, nl_llt, nl_ltt, nl_le, nl_lle, nl_lee, nl_eq, nl_leq, nl_ee, nl_div, nl_rem, nl_cl, nl_n1, nl_n2, nl_n3, nl_n4, nl_add, nl_ladd, nl_aa, nl_mul, nl_rmul, nl_mm, pu_wi_1, pu_wi_2, bX11_pairStreets_45, bX11_pairStreets_166, bX11_pairStreets_160, bX11_pairStreets_99, bX11_pairStreets_151, a_ai, a_ald, a_cv, a_gi, a_gr, a_icge, a_icne, a_idiv, a_ifeq, a_ild, a_inc, a_ist, a_push, ag_14 hI, ag_15 hI, ag_16 hI, ag_45 hI, fx_0_2 hx, fx_14_1 hx, fx_14_2 hx, fx_5_1 hx, fx_5_6 hx, sh_0, sh_14, sh_15, sh_16, sh_45, sh_5, pu_rv, pu_as, Value.category, pu_bk, pu_kl, pu_qe0, pu_qe1, hn, hc, j3, i3, e0, hv, e1, a1, a2, l1, l2, eA, hR]
    all_goals try simp [bX11_pairStreets_45, bX11_pairStreets_166, bX11_pairStreets_160, bX11_pairStreets_99, bX11_pairStreets_151, a_ai, a_ald, a_cv, a_gi, a_gr, a_icge, a_icne, a_idiv, a_ifeq, a_ild, a_inc, a_ist, a_push, ag_14 hI, ag_15 hI, ag_16 hI, ag_45 hI, fx_0_2 hx, fx_14_1 hx, fx_14_2 hx, fx_5_1 hx, fx_5_6 hx, sh_0, sh_14, sh_15, sh_16, sh_45, sh_5, pu_rv, pu_as, Value.category, pu_bk, pu_kl, List.replicate, pu_wi_1, pu_wi_2, nl_add, nl_ladd, nl_aa, nl_mul, nl_rmul, nl_mm, pu_qe0, pu_qe1, hn, hc, j3, i3, e0, hv, e1, a1, a2, l1, l2, eA, hR]
    all_goals try simp (maxSteps := 400000) (disch := omega) [nl_tle, nl_fle, nl_tlt, nl_flt, nl_teq, nl_feq, nl_sub, nl_ss, nl_lt, nl_llt, nl_ltt, nl_le, nl_lle, nl_lee, nl_eq, nl_leq, nl_ee, nl_div, nl_rem, nl_cl, nl_n1, nl_n2, nl_n3, nl_n4, nl_add, nl_ladd, nl_aa, nl_mul, nl_rmul, nl_mm, pu_wi_1, pu_wi_2, bX11_pairStreets_45, bX11_pairStreets_166, bX11_pairStreets_160, bX11_pairStreets_99, bX11_pairStreets_151, a_ai, a_ald, a_cv, a_gi, a_gr, a_icge, a_icne, a_idiv, a_ifeq, a_ild, a_inc, a_ist, a_push, ag_14 hI, ag_15 hI, ag_16 hI, ag_45 hI, fx_0_2 hx, fx_14_1 hx, fx_14_2 hx, fx_5_1 hx, fx_5_6 hx, sh_0, sh_14, sh_15, sh_16, sh_45, sh_5, pu_rv, pu_as, Value.category, pu_bk, pu_kl, pu_qe0, pu_qe1, hn, hc, j3, i3, e0, hv, e1, a1, a2, l1, l2, eA, hR]
    all_goals try simp [bX11_pairStreets_45, bX11_pairStreets_166, bX11_pairStreets_160, bX11_pairStreets_99, bX11_pairStreets_151, a_ai, a_ald, a_cv, a_gi, a_gr, a_icge, a_icne, a_idiv, a_ifeq, a_ild, a_inc, a_ist, a_push, ag_14 hI, ag_15 hI, ag_16 hI, ag_45 hI, fx_0_2 hx, fx_14_1 hx, fx_14_2 hx, fx_5_1 hx, fx_5_6 hx, sh_0, sh_14, sh_15, sh_16, sh_45, sh_5, pu_rv, pu_as, Value.category, pu_bk, pu_kl, List.replicate, pu_wi_1, pu_wi_2, nl_add, nl_ladd, nl_aa, nl_mul, nl_rmul, nl_mm, pu_qe0, pu_qe1, hn, hc, j3, i3, e0, hv, e1, a1, a2, l1, l2, eA, hR]
    all_goals try simp (maxSteps := 400000) (disch := omega) [nl_tle, nl_fle, nl_tlt, nl_flt, nl_teq, nl_feq, nl_sub, nl_ss, nl_lt, nl_llt, nl_ltt, nl_le, nl_lle, nl_lee, nl_eq, nl_leq, nl_ee, nl_div, nl_rem, nl_cl, nl_n1, nl_n2, nl_n3, nl_n4, nl_add, nl_ladd, nl_aa, nl_mul, nl_rmul, nl_mm, pu_wi_1, pu_wi_2, bX11_pairStreets_45, bX11_pairStreets_166, bX11_pairStreets_160, bX11_pairStreets_99, bX11_pairStreets_151, a_ai, a_ald, a_cv, a_gi, a_gr, a_icge, a_icne, a_idiv, a_ifeq, a_ild, a_inc, a_ist, a_push, ag_14 hI, ag_15 hI, ag_16 hI, ag_45 hI, fx_0_2 hx, fx_14_1 hx, fx_14_2 hx, fx_5_1 hx, fx_5_6 hx, sh_0, sh_14, sh_15, sh_16, sh_45, sh_5, pu_rv, pu_as, Value.category, pu_bk, pu_kl, pu_qe0, pu_qe1, hn, hc, j3, i3, e0, hv, e1, a1, a2, l1, l2, eA, hR]
    all_goals try simp [bX11_pairStreets_45, bX11_pairStreets_166, bX11_pairStreets_160, bX11_pairStreets_99, bX11_pairStreets_151, a_ai, a_ald, a_cv, a_gi, a_gr, a_icge, a_icne, a_idiv, a_ifeq, a_ild, a_inc, a_ist, a_push, ag_14 hI, ag_15 hI, ag_16 hI, ag_45 hI, fx_0_2 hx, fx_14_1 hx, fx_14_2 hx, fx_5_1 hx, fx_5_6 hx, sh_0, sh_14, sh_15, sh_16, sh_45, sh_5, pu_rv, pu_as, Value.category, pu_bk, pu_kl, List.replicate, pu_wi_1, pu_wi_2, nl_add, nl_ladd, nl_aa, nl_mul, nl_rmul, nl_mm, pu_qe0, pu_qe1, hn, hc, j3, i3, e0, hv, e1, a1, a2, l1, l2, eA, hR]
  | m + 1, j, t6, h => by
    have bU := wx_bU hw
    have hn := wx_cU hw
    have j1 := hj0.1
    have hc : ¬ nI (cU I) ≤ nI j := nI_ge (by omega) (by omega)
    have j3 : j < 3000 := by omega
    have i3 : i < 3000 := by omega
    have ih := c_pi1 hx hI hw hi hj0 e0 eA R hR m (j + 1) t6 (by omega)
    have e1 := c_isOKN hx hI hw b j (by omega)
    by_cases c1 : I 16 j = I 16 i
    · rw [pu_q0 (fun z => by have := py_kI_u hw z hj0 (c1.trans e0.symm); omega)] at e1
      generalize I 16 i = v at *
      rw [qX11_pairStreets_45]
      simp [bX11_pairStreets_45, bX11_pairStreets_166, bX11_pairStreets_160, bX11_pairStreets_99, bX11_pairStreets_151, a_ai, a_ald, a_cv, a_gi, a_gr, a_icge, a_icne, a_idiv, a_ifeq, a_ild, a_inc, a_ist, a_push, ag_14 hI, ag_15 hI, ag_16 hI, ag_45 hI, fx_0_2 hx, fx_14_1 hx, fx_14_2 hx, fx_5_1 hx, fx_5_6 hx, sh_0, sh_14, sh_15, sh_16, sh_45, sh_5, pu_rv, pu_as, Value.category, pu_bk, pu_kl, List.replicate, pu_wi_1, pu_wi_2, nl_add, nl_ladd, nl_aa, nl_mul, nl_rmul, nl_mm, pu_qe0, pu_qe1, hn, hc, j3, i3, c1, e1, ih]
      all_goals try simp (maxSteps := 400000) (disch := omega) [nl_tle, nl_fle, nl_tlt, nl_flt, nl_teq, nl_feq, nl_sub, nl_ss, nl_lt, nl_llt, nl_ltt, nl_le, nl_lle, nl_lee, nl_eq, nl_leq, nl_ee, nl_div, nl_rem, nl_cl, nl_n1, nl_n2, nl_n3, nl_n4, nl_add, nl_ladd, nl_aa, nl_mul, nl_rmul, nl_mm, pu_wi_1, pu_wi_2, bX11_pairStreets_45, bX11_pairStreets_166, bX11_pairStreets_160, bX11_pairStreets_99, bX11_pairStreets_151, a_ai, a_ald, a_cv, a_gi, a_gr, a_icge, a_icne, a_idiv, a_ifeq, a_ild, a_inc, a_ist, a_push, ag_14 hI, ag_15 hI, ag_16 hI, ag_45 hI, fx_0_2 hx, fx_14_1 hx, fx_14_2 hx, fx_5_1 hx, fx_5_6 hx, sh_0, sh_14, sh_15, sh_16, sh_45, sh_5, pu_rv, pu_as, Value.category, pu_bk, pu_kl, pu_qe0, pu_qe1, hn, hc, j3, i3, c1, e1, ih]
      all_goals try simp [bX11_pairStreets_45, bX11_pairStreets_166, bX11_pairStreets_160, bX11_pairStreets_99, bX11_pairStreets_151, a_ai, a_ald, a_cv, a_gi, a_gr, a_icge, a_icne, a_idiv, a_ifeq, a_ild, a_inc, a_ist, a_push, ag_14 hI, ag_15 hI, ag_16 hI, ag_45 hI, fx_0_2 hx, fx_14_1 hx, fx_14_2 hx, fx_5_1 hx, fx_5_6 hx, sh_0, sh_14, sh_15, sh_16, sh_45, sh_5, pu_rv, pu_as, Value.category, pu_bk, pu_kl, List.replicate, pu_wi_1, pu_wi_2, nl_add, nl_ladd, nl_aa, nl_mul, nl_rmul, nl_mm, pu_qe0, pu_qe1, hn, hc, j3, i3, c1, e1, ih]
      all_goals try simp (maxSteps := 400000) (disch := omega) [nl_tle, nl_fle, nl_tlt, nl_flt, nl_teq, nl_feq, nl_sub, nl_ss, nl_lt, nl_llt, nl_ltt, nl_le, nl_lle, nl_lee, nl_eq, nl_leq, nl_ee, nl_div, nl_rem, nl_cl, nl_n1, nl_n2, nl_n3, nl_n4, nl_add, nl_ladd, nl_aa, nl_mul, nl_rmul, nl_mm, pu_wi_1, pu_wi_2, bX11_pairStreets_45, bX11_pairStreets_166, bX11_pairStreets_160, bX11_pairStreets_99, bX11_pairStreets_151, a_ai, a_ald, a_cv, a_gi, a_gr, a_icge, a_icne, a_idiv, a_ifeq, a_ild, a_inc, a_ist, a_push, ag_14 hI, ag_15 hI, ag_16 hI, ag_45 hI, fx_0_2 hx, fx_14_1 hx, fx_14_2 hx, fx_5_1 hx, fx_5_6 hx, sh_0, sh_14, sh_15, sh_16, sh_45, sh_5, pu_rv, pu_as, Value.category, pu_bk, pu_kl, pu_qe0, pu_qe1, hn, hc, j3, i3, c1, e1, ih]
      all_goals try simp [bX11_pairStreets_45, bX11_pairStreets_166, bX11_pairStreets_160, bX11_pairStreets_99, bX11_pairStreets_151, a_ai, a_ald, a_cv, a_gi, a_gr, a_icge, a_icne, a_idiv, a_ifeq, a_ild, a_inc, a_ist, a_push, ag_14 hI, ag_15 hI, ag_16 hI, ag_45 hI, fx_0_2 hx, fx_14_1 hx, fx_14_2 hx, fx_5_1 hx, fx_5_6 hx, sh_0, sh_14, sh_15, sh_16, sh_45, sh_5, pu_rv, pu_as, Value.category, pu_bk, pu_kl, List.replicate, pu_wi_1, pu_wi_2, nl_add, nl_ladd, nl_aa, nl_mul, nl_rmul, nl_mm, pu_qe0, pu_qe1, hn, hc, j3, i3, c1, e1, ih]
      all_goals try simp (maxSteps := 400000) (disch := omega) [nl_tle, nl_fle, nl_tlt, nl_flt, nl_teq, nl_feq, nl_sub, nl_ss, nl_lt, nl_llt, nl_ltt, nl_le, nl_lle, nl_lee, nl_eq, nl_leq, nl_ee, nl_div, nl_rem, nl_cl, nl_n1, nl_n2, nl_n3, nl_n4, nl_add, nl_ladd, nl_aa, nl_mul, nl_rmul, nl_mm, pu_wi_1, pu_wi_2, bX11_pairStreets_45, bX11_pairStreets_166, bX11_pairStreets_160, bX11_pairStreets_99, bX11_pairStreets_151, a_ai, a_ald, a_cv, a_gi, a_gr, a_icge, a_icne, a_idiv, a_ifeq, a_ild, a_inc, a_ist, a_push, ag_14 hI, ag_15 hI, ag_16 hI, ag_45 hI, fx_0_2 hx, fx_14_1 hx, fx_14_2 hx, fx_5_1 hx, fx_5_6 hx, sh_0, sh_14, sh_15, sh_16, sh_45, sh_5, pu_rv, pu_as, Value.category, pu_bk, pu_kl, pu_qe0, pu_qe1, hn, hc, j3, i3, c1, e1, ih]
      all_goals try simp [bX11_pairStreets_45, bX11_pairStreets_166, bX11_pairStreets_160, bX11_pairStreets_99, bX11_pairStreets_151, a_ai, a_ald, a_cv, a_gi, a_gr, a_icge, a_icne, a_idiv, a_ifeq, a_ild, a_inc, a_ist, a_push, ag_14 hI, ag_15 hI, ag_16 hI, ag_45 hI, fx_0_2 hx, fx_14_1 hx, fx_14_2 hx, fx_5_1 hx, fx_5_6 hx, sh_0, sh_14, sh_15, sh_16, sh_45, sh_5, pu_rv, pu_as, Value.category, pu_bk, pu_kl, List.replicate, pu_wi_1, pu_wi_2, nl_add, nl_ladd, nl_aa, nl_mul, nl_rmul, nl_mm, pu_qe0, pu_qe1, hn, hc, j3, i3, c1, e1, ih]
    · generalize hv : I 16 i = v at *
      rw [qX11_pairStreets_45]
      simp [bX11_pairStreets_45, bX11_pairStreets_166, bX11_pairStreets_160, bX11_pairStreets_99, bX11_pairStreets_151, a_ai, a_ald, a_cv, a_gi, a_gr, a_icge, a_icne, a_idiv, a_ifeq, a_ild, a_inc, a_ist, a_push, ag_14 hI, ag_15 hI, ag_16 hI, ag_45 hI, fx_0_2 hx, fx_14_1 hx, fx_14_2 hx, fx_5_1 hx, fx_5_6 hx, sh_0, sh_14, sh_15, sh_16, sh_45, sh_5, pu_rv, pu_as, Value.category, pu_bk, pu_kl, List.replicate, pu_wi_1, pu_wi_2, nl_add, nl_ladd, nl_aa, nl_mul, nl_rmul, nl_mm, pu_qe0, pu_qe1, hn, hc, j3, i3, c1, hv, ih]
      all_goals try simp (maxSteps := 400000) (disch := omega) [nl_tle, nl_fle, nl_tlt, nl_flt, nl_teq, nl_feq, nl_sub, nl_ss, nl_lt, nl_llt, nl_ltt, nl_le, nl_lle, nl_lee, nl_eq, nl_leq, nl_ee, nl_div, nl_rem, nl_cl, nl_n1, nl_n2, nl_n3, nl_n4, nl_add, nl_ladd, nl_aa, nl_mul, nl_rmul, nl_mm, pu_wi_1, pu_wi_2, bX11_pairStreets_45, bX11_pairStreets_166, bX11_pairStreets_160, bX11_pairStreets_99, bX11_pairStreets_151, a_ai, a_ald, a_cv, a_gi, a_gr, a_icge, a_icne, a_idiv, a_ifeq, a_ild, a_inc, a_ist, a_push, ag_14 hI, ag_15 hI, ag_16 hI, ag_45 hI, fx_0_2 hx, fx_14_1 hx, fx_14_2 hx, fx_5_1 hx, fx_5_6 hx, sh_0, sh_14, sh_15, sh_16, sh_45, sh_5, pu_rv, pu_as, Value.category, pu_bk, pu_kl, pu_qe0, pu_qe1, hn, hc, j3, i3, c1, hv, ih]
      all_goals try simp [bX11_pairStreets_45, bX11_pairStreets_166, bX11_pairStreets_160, bX11_pairStreets_99, bX11_pairStreets_151, a_ai, a_ald, a_cv, a_gi, a_gr, a_icge, a_icne, a_idiv, a_ifeq, a_ild, a_inc, a_ist, a_push, ag_14 hI, ag_15 hI, ag_16 hI, ag_45 hI, fx_0_2 hx, fx_14_1 hx, fx_14_2 hx, fx_5_1 hx, fx_5_6 hx, sh_0, sh_14, sh_15, sh_16, sh_45, sh_5, pu_rv, pu_as, Value.category, pu_bk, pu_kl, List.replicate, pu_wi_1, pu_wi_2, nl_add, nl_ladd, nl_aa, nl_mul, nl_rmul, nl_mm, pu_qe0, pu_qe1, hn, hc, j3, i3, c1, hv, ih]
      all_goals try simp (maxSteps := 400000) (disch := omega) [nl_tle, nl_fle, nl_tlt, nl_flt, nl_teq, nl_feq, nl_sub, nl_ss, nl_lt, nl_llt, nl_ltt, nl_le, nl_lle, nl_lee, nl_eq, nl_leq, nl_ee, nl_div, nl_rem, nl_cl, nl_n1, nl_n2, nl_n3, nl_n4, nl_add, nl_ladd, nl_aa, nl_mul, nl_rmul, nl_mm, pu_wi_1, pu_wi_2, bX11_pairStreets_45, bX11_pairStreets_166, bX11_pairStreets_160, bX11_pairStreets_99, bX11_pairStreets_151, a_ai, a_ald, a_cv, a_gi, a_gr, a_icge, a_icne, a_idiv, a_ifeq, a_ild, a_inc, a_ist, a_push, ag_14 hI, ag_15 hI, ag_16 hI, ag_45 hI, fx_0_2 hx, fx_14_1 hx, fx_14_2 hx, fx_5_1 hx, fx_5_6 hx, sh_0, sh_14, sh_15, sh_16, sh_45, sh_5, pu_rv, pu_as, Value.category, pu_bk, pu_kl, pu_qe0, pu_qe1, hn, hc, j3, i3, c1, hv, ih]
      all_goals try simp [bX11_pairStreets_45, bX11_pairStreets_166, bX11_pairStreets_160, bX11_pairStreets_99, bX11_pairStreets_151, a_ai, a_ald, a_cv, a_gi, a_gr, a_icge, a_icne, a_idiv, a_ifeq, a_ild, a_inc, a_ist, a_push, ag_14 hI, ag_15 hI, ag_16 hI, ag_45 hI, fx_0_2 hx, fx_14_1 hx, fx_14_2 hx, fx_5_1 hx, fx_5_6 hx, sh_0, sh_14, sh_15, sh_16, sh_45, sh_5, pu_rv, pu_as, Value.category, pu_bk, pu_kl, List.replicate, pu_wi_1, pu_wi_2, nl_add, nl_ladd, nl_aa, nl_mul, nl_rmul, nl_mm, pu_qe0, pu_qe1, hn, hc, j3, i3, c1, hv, ih]
      all_goals try simp (maxSteps := 400000) (disch := omega) [nl_tle, nl_fle, nl_tlt, nl_flt, nl_teq, nl_feq, nl_sub, nl_ss, nl_lt, nl_llt, nl_ltt, nl_le, nl_lle, nl_lee, nl_eq, nl_leq, nl_ee, nl_div, nl_rem, nl_cl, nl_n1, nl_n2, nl_n3, nl_n4, nl_add, nl_ladd, nl_aa, nl_mul, nl_rmul, nl_mm, pu_wi_1, pu_wi_2, bX11_pairStreets_45, bX11_pairStreets_166, bX11_pairStreets_160, bX11_pairStreets_99, bX11_pairStreets_151, a_ai, a_ald, a_cv, a_gi, a_gr, a_icge, a_icne, a_idiv, a_ifeq, a_ild, a_inc, a_ist, a_push, ag_14 hI, ag_15 hI, ag_16 hI, ag_45 hI, fx_0_2 hx, fx_14_1 hx, fx_14_2 hx, fx_5_1 hx, fx_5_6 hx, sh_0, sh_14, sh_15, sh_16, sh_45, sh_5, pu_rv, pu_as, Value.category, pu_bk, pu_kl, pu_qe0, pu_qe1, hn, hc, j3, i3, c1, hv, ih]
      all_goals try simp [bX11_pairStreets_45, bX11_pairStreets_166, bX11_pairStreets_160, bX11_pairStreets_99, bX11_pairStreets_151, a_ai, a_ald, a_cv, a_gi, a_gr, a_icge, a_icne, a_idiv, a_ifeq, a_ild, a_inc, a_ist, a_push, ag_14 hI, ag_15 hI, ag_16 hI, ag_45 hI, fx_0_2 hx, fx_14_1 hx, fx_14_2 hx, fx_5_1 hx, fx_5_6 hx, sh_0, sh_14, sh_15, sh_16, sh_45, sh_5, pu_rv, pu_as, Value.category, pu_bk, pu_kl, List.replicate, pu_wi_1, pu_wi_2, nl_add, nl_ladd, nl_aa, nl_mul, nl_rmul, nl_mm, pu_qe0, pu_qe1, hn, hc, j3, i3, c1, hv, ih]
theorem py_dk_kI {K : Nat → Nat → Int32} {a i : Nat} : py_kI (pu_dk I K) a i = py_kI I a i := rfl
theorem c_ps_l (hw : pu_WF I L) (hI : pu_ag M I) (hxM : pu_fx M) {A0 B0 : Nat → Int32} {a b c0 : Nat} (HB : ∀ (W : Nat → Nat) (n : Nat), (∀ t, t < n → py_kI I a (W t)) → (∀ s t, s < t → t < n → W s ≠ W t) → c0 + n ≤ 200) : ∀ (m i : Nat) (N : pu_M) (W : Nat → Nat) (n : Nat) (t5 t6 : Option Value), i + m = cU I → py_pq M N → N.1 45 3 = nI (c0 + n) → (∀ j, j < c0 → N.1 49 j = A0 j ∧ N.1 50 j = B0 j) → (∀ t, t < n → N.1 49 (c0 + t) = py_d1x I (W t) ∧ N.1 50 (c0 + t) = py_d2x I b (W t) ∧ N.1 51 (c0 + t) = nI (py_k16 I (W t))) → py_SL (py_k16 I) (fun l => l < i ∧ py_pa I a b l) W n → ∃ N1 W1 n1, c0 + n1 ≤ 200 ∧ py_pq M N1 ∧ N1.1 45 3 = nI (c0 + n1) ∧ (∀ j, j < c0 → N1.1 49 j = A0 j ∧ N1.1 50 j = B0 j) ∧ (∀ t, t < n1 → N1.1 49 (c0 + t) = py_d1x I (W1 t) ∧ N1.1 50 (c0 + t) = py_d2x I b (W1 t)) ∧ py_SL (py_k16 I) (py_pa I a b) W1 n1 ∧ pu_r 412 [some (.ref 0), some (.int (nI a)), some (.int (nI b)), some (.int (nI c0)), some (.int (nI i)), t5, t6] [] N = some (none, N1)
  | 0, i, N, W, n, t5, t6, h, pq, h3, lo, hf, sl => by
    have hx : pu_fx N := pz_fx_of hxM pq.1
    have BB := HB W n (fun t ht => (sl.1 t ht).2.1) (fun s t hst ht e => by have := py_SL_i sl (by omega) ht e; omega)
    obtain ⟨wd, agJ⟩ := py_wdp hw hI pq BB h3
    have WJ := WF_desk hw wd
    have bU := wx_bU hw
    have hn : pu_dk I N.1 14 0 = nI (cU I) := (wx_cU hw :)
    have e : i = cU I := by omega
    have hc : nI (cU I) ≤ nI (cU I) := nI_le (by omega) (by omega)
    refine ⟨N, W, n, BB, pq, h3, lo, fun t ht => ⟨(hf t ht).1, (hf t ht).2.1⟩, py_SL_c sl (fun l => ⟨fun z => z.2, fun z => ⟨by have := z.1.1; omega, z⟩⟩), ?_⟩
    rw [e]
    have hI := agJ
    generalize nI (cU I) = cu at *
    rw [qX11_pairStreets_14]
    simp [bX11_pairStreets_14, bX11_pairStreets_172, bX11_pairStreets_166, a_ald, a_cv, a_gi, a_gr, a_icge, a_ifeq, a_ild, a_inc, a_ist, a_push, a_vret, ag_14 hI, fx_0_2 hx, fx_5_1 hx, sh_0, sh_14, sh_5, pu_rv, pu_as, Value.category, pu_bk, pu_kl, List.replicate, pu_wi_1, pu_wi_2, nl_add, nl_ladd, nl_aa, nl_mul, nl_rmul, nl_mm, pu_qe0, pu_qe1, hn, hc]
    all_goals try simp (maxSteps := 400000) (disch := omega) [nl_tle, nl_fle, nl_tlt, nl_flt, nl_teq, nl_feq, nl_sub, nl_ss, nl_lt, nl_llt, nl_ltt, nl_le, nl_lle, nl_lee, nl_eq, nl_leq, nl_ee, nl_div, nl_rem, nl_cl, nl_n1, nl_n2, nl_n3, nl_n4, nl_add, nl_ladd, nl_aa, nl_mul, nl_rmul, nl_mm, pu_wi_1, pu_wi_2, bX11_pairStreets_14, bX11_pairStreets_172, bX11_pairStreets_166, a_ald, a_cv, a_gi, a_gr, a_icge, a_ifeq, a_ild, a_inc, a_ist, a_push, a_vret, ag_14 hI, fx_0_2 hx, fx_5_1 hx, sh_0, sh_14, sh_5, pu_rv, pu_as, Value.category, pu_bk, pu_kl, pu_qe0, pu_qe1, hn, hc]
    all_goals try simp [bX11_pairStreets_14, bX11_pairStreets_172, bX11_pairStreets_166, a_ald, a_cv, a_gi, a_gr, a_icge, a_ifeq, a_ild, a_inc, a_ist, a_push, a_vret, ag_14 hI, fx_0_2 hx, fx_5_1 hx, sh_0, sh_14, sh_5, pu_rv, pu_as, Value.category, pu_bk, pu_kl, List.replicate, pu_wi_1, pu_wi_2, nl_add, nl_ladd, nl_aa, nl_mul, nl_rmul, nl_mm, pu_qe0, pu_qe1, hn, hc]
    all_goals try simp (maxSteps := 400000) (disch := omega) [nl_tle, nl_fle, nl_tlt, nl_flt, nl_teq, nl_feq, nl_sub, nl_ss, nl_lt, nl_llt, nl_ltt, nl_le, nl_lle, nl_lee, nl_eq, nl_leq, nl_ee, nl_div, nl_rem, nl_cl, nl_n1, nl_n2, nl_n3, nl_n4, nl_add, nl_ladd, nl_aa, nl_mul, nl_rmul, nl_mm, pu_wi_1, pu_wi_2, bX11_pairStreets_14, bX11_pairStreets_172, bX11_pairStreets_166, a_ald, a_cv, a_gi, a_gr, a_icge, a_ifeq, a_ild, a_inc, a_ist, a_push, a_vret, ag_14 hI, fx_0_2 hx, fx_5_1 hx, sh_0, sh_14, sh_5, pu_rv, pu_as, Value.category, pu_bk, pu_kl, pu_qe0, pu_qe1, hn, hc]
    all_goals try simp [bX11_pairStreets_14, bX11_pairStreets_172, bX11_pairStreets_166, a_ald, a_cv, a_gi, a_gr, a_icge, a_ifeq, a_ild, a_inc, a_ist, a_push, a_vret, ag_14 hI, fx_0_2 hx, fx_5_1 hx, sh_0, sh_14, sh_5, pu_rv, pu_as, Value.category, pu_bk, pu_kl, List.replicate, pu_wi_1, pu_wi_2, nl_add, nl_ladd, nl_aa, nl_mul, nl_rmul, nl_mm, pu_qe0, pu_qe1, hn, hc]
    all_goals try simp (maxSteps := 400000) (disch := omega) [nl_tle, nl_fle, nl_tlt, nl_flt, nl_teq, nl_feq, nl_sub, nl_ss, nl_lt, nl_llt, nl_ltt, nl_le, nl_lle, nl_lee, nl_eq, nl_leq, nl_ee, nl_div, nl_rem, nl_cl, nl_n1, nl_n2, nl_n3, nl_n4, nl_add, nl_ladd, nl_aa, nl_mul, nl_rmul, nl_mm, pu_wi_1, pu_wi_2, bX11_pairStreets_14, bX11_pairStreets_172, bX11_pairStreets_166, a_ald, a_cv, a_gi, a_gr, a_icge, a_ifeq, a_ild, a_inc, a_ist, a_push, a_vret, ag_14 hI, fx_0_2 hx, fx_5_1 hx, sh_0, sh_14, sh_5, pu_rv, pu_as, Value.category, pu_bk, pu_kl, pu_qe0, pu_qe1, hn, hc]
    all_goals try simp [bX11_pairStreets_14, bX11_pairStreets_172, bX11_pairStreets_166, a_ald, a_cv, a_gi, a_gr, a_icge, a_ifeq, a_ild, a_inc, a_ist, a_push, a_vret, ag_14 hI, fx_0_2 hx, fx_5_1 hx, sh_0, sh_14, sh_5, pu_rv, pu_as, Value.category, pu_bk, pu_kl, List.replicate, pu_wi_1, pu_wi_2, nl_add, nl_ladd, nl_aa, nl_mul, nl_rmul, nl_mm, pu_qe0, pu_qe1, hn, hc]
  | m + 1, i, N, W, n, t5, t6, h, pq, h3, lo, hf, sl => by
    have hx : pu_fx N := pz_fx_of hxM pq.1
    have BB := HB W n (fun t ht => (sl.1 t ht).2.1) (fun s t hst ht e => by have := py_SL_i sl (by omega) ht e; omega)
    obtain ⟨wd, agJ⟩ := py_wdp hw hI pq BB h3
    have WJ := WF_desk hw wd
    have bU := wx_bU hw
    have hn : pu_dk I N.1 14 0 = nI (cU I) := (wx_cU hw :)
    have hi : i < cU I := by omega
    have hc : ¬ nI (cU I) ≤ nI i := nI_ge (by omega) (by omega)
    have e1 : pu_r 192 [some (.ref 5), some (.int (nI i)), some (.int (nI a))] [] N = some (some (.int (pu_q (py_kI I a i))), N) := c_isOKN hx agJ WJ a i hi
    have SKIP : ¬ py_pa I a b i → py_SL (py_k16 I) (fun l => l < i + 1 ∧ py_pa I a b l) W n := fun no => py_SL_c sl (fun l => ⟨fun z => ⟨by omega, z.2⟩, fun z => by
      by_cases q : l = i
      · rw [q] at z
        exact absurd z.2 no
      · exact ⟨by omega, z.2⟩⟩)
    by_cases c1 : py_kI I a i
    rotate_left
    · rw [pu_q0 c1] at e1
      obtain ⟨N1, W1, n1, x⟩ := c_ps_l hw hI hxM HB m (i + 1) N W n t5 t6 (by omega) pq h3 lo hf (SKIP (fun z => c1 z.1))
      refine ⟨N1, W1, n1, x.1, x.2.1, x.2.2.1, x.2.2.2.1, x.2.2.2.2.1, x.2.2.2.2.2.1, ?_⟩
      rw [← x.2.2.2.2.2.2]
      have hI := agJ
      generalize nI (cU I) = cu at *
      rw [qX11_pairStreets_14]
      simp [bX11_pairStreets_14, bX11_pairStreets_172, bX11_pairStreets_166, a_ald, a_cv, a_gi, a_gr, a_icge, a_ifeq, a_ild, a_inc, a_ist, a_push, a_vret, ag_14 hI, fx_0_2 hx, fx_5_1 hx, sh_0, sh_14, sh_5, pu_rv, pu_as, Value.category, pu_bk, pu_kl, List.replicate, pu_wi_1, pu_wi_2, nl_add, nl_ladd, nl_aa, nl_mul, nl_rmul, nl_mm, pu_qe0, pu_qe1, hn, hc, e1, sh_5]
      all_goals try simp (maxSteps := 400000) (disch := omega) [nl_tle, nl_fle, nl_tlt, nl_flt, nl_teq, nl_feq, nl_sub, nl_ss, nl_lt, nl_llt, nl_ltt, nl_le, nl_lle, nl_lee, nl_eq, nl_leq, nl_ee, nl_div, nl_rem, nl_cl, nl_n1, nl_n2, nl_n3, nl_n4, nl_add, nl_ladd, nl_aa, nl_mul, nl_rmul, nl_mm, pu_wi_1, pu_wi_2, bX11_pairStreets_14, bX11_pairStreets_172, bX11_pairStreets_166, a_ald, a_cv, a_gi, a_gr, a_icge, a_ifeq, a_ild, a_inc, a_ist, a_push, a_vret, ag_14 hI, fx_0_2 hx, fx_5_1 hx, sh_0, sh_14, sh_5, pu_rv, pu_as, Value.category, pu_bk, pu_kl, pu_qe0, pu_qe1, hn, hc, e1, sh_5]
      all_goals try simp [bX11_pairStreets_14, bX11_pairStreets_172, bX11_pairStreets_166, a_ald, a_cv, a_gi, a_gr, a_icge, a_ifeq, a_ild, a_inc, a_ist, a_push, a_vret, ag_14 hI, fx_0_2 hx, fx_5_1 hx, sh_0, sh_14, sh_5, pu_rv, pu_as, Value.category, pu_bk, pu_kl, List.replicate, pu_wi_1, pu_wi_2, nl_add, nl_ladd, nl_aa, nl_mul, nl_rmul, nl_mm, pu_qe0, pu_qe1, hn, hc, e1, sh_5]
      all_goals try simp (maxSteps := 400000) (disch := omega) [nl_tle, nl_fle, nl_tlt, nl_flt, nl_teq, nl_feq, nl_sub, nl_ss, nl_lt, nl_llt, nl_ltt, nl_le, nl_lle, nl_lee, nl_eq, nl_leq, nl_ee, nl_div, nl_rem, nl_cl, nl_n1, nl_n2, nl_n3, nl_n4, nl_add, nl_ladd, nl_aa, nl_mul, nl_rmul, nl_mm, pu_wi_1, pu_wi_2, bX11_pairStreets_14, bX11_pairStreets_172, bX11_pairStreets_166, a_ald, a_cv, a_gi, a_gr, a_icge, a_ifeq, a_ild, a_inc, a_ist, a_push, a_vret, ag_14 hI, fx_0_2 hx, fx_5_1 hx, sh_0, sh_14, sh_5, pu_rv, pu_as, Value.category, pu_bk, pu_kl, pu_qe0, pu_qe1, hn, hc, e1, sh_5]
      all_goals try simp [bX11_pairStreets_14, bX11_pairStreets_172, bX11_pairStreets_166, a_ald, a_cv, a_gi, a_gr, a_icge, a_ifeq, a_ild, a_inc, a_ist, a_push, a_vret, ag_14 hI, fx_0_2 hx, fx_5_1 hx, sh_0, sh_14, sh_5, pu_rv, pu_as, Value.category, pu_bk, pu_kl, List.replicate, pu_wi_1, pu_wi_2, nl_add, nl_ladd, nl_aa, nl_mul, nl_rmul, nl_mm, pu_qe0, pu_qe1, hn, hc, e1, sh_5]
      all_goals try simp (maxSteps := 400000) (disch := omega) [nl_tle, nl_fle, nl_tlt, nl_flt, nl_teq, nl_feq, nl_sub, nl_ss, nl_lt, nl_llt, nl_ltt, nl_le, nl_lle, nl_lee, nl_eq, nl_leq, nl_ee, nl_div, nl_rem, nl_cl, nl_n1, nl_n2, nl_n3, nl_n4, nl_add, nl_ladd, nl_aa, nl_mul, nl_rmul, nl_mm, pu_wi_1, pu_wi_2, bX11_pairStreets_14, bX11_pairStreets_172, bX11_pairStreets_166, a_ald, a_cv, a_gi, a_gr, a_icge, a_ifeq, a_ild, a_inc, a_ist, a_push, a_vret, ag_14 hI, fx_0_2 hx, fx_5_1 hx, sh_0, sh_14, sh_5, pu_rv, pu_as, Value.category, pu_bk, pu_kl, pu_qe0, pu_qe1, hn, hc, e1, sh_5]
      all_goals try simp [bX11_pairStreets_14, bX11_pairStreets_172, bX11_pairStreets_166, a_ald, a_cv, a_gi, a_gr, a_icge, a_ifeq, a_ild, a_inc, a_ist, a_push, a_vret, ag_14 hI, fx_0_2 hx, fx_5_1 hx, sh_0, sh_14, sh_5, pu_rv, pu_as, Value.category, pu_bk, pu_kl, List.replicate, pu_wi_1, pu_wi_2, nl_add, nl_ladd, nl_aa, nl_mul, nl_rmul, nl_mm, pu_qe0, pu_qe1, hn, hc, e1, sh_5]
    rw [pu_q1 c1] at e1
    have START : ∀ R, pu_r 413 [some (.ref 0), some (.int (nI a)), some (.int (nI b)), some (.int (nI c0)), some (.int (nI i)), some (.int 0), t6] [] N = R → pu_r 412 [some (.ref 0), some (.int (nI a)), some (.int (nI b)), some (.int (nI c0)), some (.int (nI i)), t5, t6] [] N = R := fun R hR => by
      have hI := agJ
      generalize nI (cU I) = cu at *
      rw [qX11_pairStreets_14]
      simp [bX11_pairStreets_14, bX11_pairStreets_172, bX11_pairStreets_166, a_ald, a_cv, a_gi, a_gr, a_icge, a_ifeq, a_ild, a_inc, a_ist, a_push, a_vret, ag_14 hI, fx_0_2 hx, fx_5_1 hx, sh_0, sh_14, sh_5, pu_rv, pu_as, Value.category, pu_bk, pu_kl, List.replicate, pu_wi_1, pu_wi_2, nl_add, nl_ladd, nl_aa, nl_mul, nl_rmul, nl_mm, pu_qe0, pu_qe1, hn, hc, e1, sh_5, hR]
      all_goals try simp (maxSteps := 400000) (disch := omega) [nl_tle, nl_fle, nl_tlt, nl_flt, nl_teq, nl_feq, nl_sub, nl_ss, nl_lt, nl_llt, nl_ltt, nl_le, nl_lle, nl_lee, nl_eq, nl_leq, nl_ee, nl_div, nl_rem, nl_cl, nl_n1, nl_n2, nl_n3, nl_n4, nl_add, nl_ladd, nl_aa, nl_mul, nl_rmul, nl_mm, pu_wi_1, pu_wi_2, bX11_pairStreets_14, bX11_pairStreets_172, bX11_pairStreets_166, a_ald, a_cv, a_gi, a_gr, a_icge, a_ifeq, a_ild, a_inc, a_ist, a_push, a_vret, ag_14 hI, fx_0_2 hx, fx_5_1 hx, sh_0, sh_14, sh_5, pu_rv, pu_as, Value.category, pu_bk, pu_kl, pu_qe0, pu_qe1, hn, hc, e1, sh_5, hR]
      all_goals try simp [bX11_pairStreets_14, bX11_pairStreets_172, bX11_pairStreets_166, a_ald, a_cv, a_gi, a_gr, a_icge, a_ifeq, a_ild, a_inc, a_ist, a_push, a_vret, ag_14 hI, fx_0_2 hx, fx_5_1 hx, sh_0, sh_14, sh_5, pu_rv, pu_as, Value.category, pu_bk, pu_kl, List.replicate, pu_wi_1, pu_wi_2, nl_add, nl_ladd, nl_aa, nl_mul, nl_rmul, nl_mm, pu_qe0, pu_qe1, hn, hc, e1, sh_5, hR]
      all_goals try simp (maxSteps := 400000) (disch := omega) [nl_tle, nl_fle, nl_tlt, nl_flt, nl_teq, nl_feq, nl_sub, nl_ss, nl_lt, nl_llt, nl_ltt, nl_le, nl_lle, nl_lee, nl_eq, nl_leq, nl_ee, nl_div, nl_rem, nl_cl, nl_n1, nl_n2, nl_n3, nl_n4, nl_add, nl_ladd, nl_aa, nl_mul, nl_rmul, nl_mm, pu_wi_1, pu_wi_2, bX11_pairStreets_14, bX11_pairStreets_172, bX11_pairStreets_166, a_ald, a_cv, a_gi, a_gr, a_icge, a_ifeq, a_ild, a_inc, a_ist, a_push, a_vret, ag_14 hI, fx_0_2 hx, fx_5_1 hx, sh_0, sh_14, sh_5, pu_rv, pu_as, Value.category, pu_bk, pu_kl, pu_qe0, pu_qe1, hn, hc, e1, sh_5, hR]
      all_goals try simp [bX11_pairStreets_14, bX11_pairStreets_172, bX11_pairStreets_166, a_ald, a_cv, a_gi, a_gr, a_icge, a_ifeq, a_ild, a_inc, a_ist, a_push, a_vret, ag_14 hI, fx_0_2 hx, fx_5_1 hx, sh_0, sh_14, sh_5, pu_rv, pu_as, Value.category, pu_bk, pu_kl, List.replicate, pu_wi_1, pu_wi_2, nl_add, nl_ladd, nl_aa, nl_mul, nl_rmul, nl_mm, pu_qe0, pu_qe1, hn, hc, e1, sh_5, hR]
      all_goals try simp (maxSteps := 400000) (disch := omega) [nl_tle, nl_fle, nl_tlt, nl_flt, nl_teq, nl_feq, nl_sub, nl_ss, nl_lt, nl_llt, nl_ltt, nl_le, nl_lle, nl_lee, nl_eq, nl_leq, nl_ee, nl_div, nl_rem, nl_cl, nl_n1, nl_n2, nl_n3, nl_n4, nl_add, nl_ladd, nl_aa, nl_mul, nl_rmul, nl_mm, pu_wi_1, pu_wi_2, bX11_pairStreets_14, bX11_pairStreets_172, bX11_pairStreets_166, a_ald, a_cv, a_gi, a_gr, a_icge, a_ifeq, a_ild, a_inc, a_ist, a_push, a_vret, ag_14 hI, fx_0_2 hx, fx_5_1 hx, sh_0, sh_14, sh_5, pu_rv, pu_as, Value.category, pu_bk, pu_kl, pu_qe0, pu_qe1, hn, hc, e1, sh_5, hR]
      all_goals try simp [bX11_pairStreets_14, bX11_pairStreets_172, bX11_pairStreets_166, a_ald, a_cv, a_gi, a_gr, a_icge, a_ifeq, a_ild, a_inc, a_ist, a_push, a_vret, ag_14 hI, fx_0_2 hx, fx_5_1 hx, sh_0, sh_14, sh_5, pu_rv, pu_as, Value.category, pu_bk, pu_kl, List.replicate, pu_wi_1, pu_wi_2, nl_add, nl_ladd, nl_aa, nl_mul, nl_rmul, nl_mm, pu_qe0, pu_qe1, hn, hc, e1, sh_5, hR]
    by_cases c2 : ∃ j, py_kI I b j ∧ I 16 j = I 16 i
    rotate_left
    · have P0 : pu_r 413 [some (.ref 0), some (.int (nI a)), some (.int (nI b)), some (.int (nI c0)), some (.int (nI i)), some (.int (nI 0)), t6] [] N = pu_r 412 [some (.ref 0), some (.int (nI a)), some (.int (nI b)), some (.int (nI c0)), some (.int (nI (i + 1))), some (.int (nI (cU I))), t6] [] N := c_pi0 hx agJ WJ hi (cU I) 0 t6 (Nat.zero_add _) (fun l _ z => c2 ⟨l, z.1, z.2⟩)
      rw [nI_0] at P0
      rw [START _ P0]
      exact c_ps_l hw hI hxM HB m (i + 1) N W n (some (.int (nI (cU I)))) t6 (by omega) pq h3 lo hf (SKIP (fun z => c2 z.2))
    obtain ⟨j0, j1, j2⟩ := c2
    have pai : py_pa I a b i := ⟨c1, j0, j1, j2⟩
    have BN := HB (fun t => if t < n then W t else i) (n + 1) (fun t ht => by
      show py_kI I a (if t < n then W t else i)
      by_cases z : t < n
      · rw [if_pos z]; exact (sl.1 t z).2.1
      · rw [if_neg z]; exact c1) (fun s t hst ht => by
      show (if s < n then W s else i) ≠ (if t < n then W t else i)
      rw [if_pos (show s < n by omega)]
      by_cases z : t < n
      · rw [if_pos z]
        exact fun e => by have := py_SL_i sl (by omega) z e; omega
      · rw [if_neg z]
        exact fun e => by have := (sl.1 s (by omega)).1; omega)
    have k16 := py_k16_e hw hi
    obtain ⟨b', N1, b1, b2, b3, b0, b4, b5, b6, b7⟩ := c_addPair hx (py_d1x I) (py_d2x I b) (py_k16 I) W (c0 := c0) (n := n) (k := i) (by omega) (fun t ht => by have := (py_k16_e hw (sl.1 t ht).2.1.1).2; omega) (by omega) h3 hf
    have eA : pu_r 193 [some (.ref 45), some (.int (nI (pu_sl0 I i / 2))), some (.int (nI (pu_sl0 I j0 / 2))), some (.int (I 16 i)), some (.int (nI c0))] [] N = some (none, N1) := by
      rw [k16.1]
      unfold py_d2x at b7
      rw [py_pj_e hw j1 j2] at b7
      exact b7
    have hx1 : pu_fx N1 := pz_fx_of hx b2.1
    have pq1 := py_pq_t pq b2
    obtain ⟨wd1, agJ1⟩ := py_wdp hw hI pq1 BN b3
    have WJ1 := WF_desk hw wd1
    have P1 : ∀ t6, pu_r 413 [some (.ref 0), some (.int (nI a)), some (.int (nI b)), some (.int (nI c0)), some (.int (nI i)), some (.int (nI (j0 + 1))), t6] [] N1 = pu_r 412 [some (.ref 0), some (.int (nI a)), some (.int (nI b)), some (.int (nI c0)), some (.int (nI (i + 1))), some (.int (nI (cU I))), t6] [] N1 := fun t6 => c_pi0 hx1 agJ1 WJ1 hi (cU I - (j0 + 1)) (j0 + 1) t6 (show j0 + 1 + (cU I - (j0 + 1)) = cU I by have := j1.1; omega) (fun l hl z => by
      have := py_kI_u hw (show py_kI I b l from z.1) j1 (show I 16 l = I 16 j0 from z.2.trans j2.symm)
      omega)
    obtain ⟨F, W1, n1, x1, x2, x3, x4, x5, x6, x7⟩ := c_ps_l hw hI hxM HB m (i + 1) N1 (pu_vi W b' i) (n + 1) (some (.int (nI (cU I)))) (some (.int (I 16 i))) (by omega) pq1 b3 (fun j hj => by rw [(b0 j hj).1, (b0 j hj).2]; exact lo j hj) b4 (py_SL_c (py_SL_add sl b1 b5 (by
      rcases b6 with z | z
      · exact Or.inl z
      · by_cases b00 : b' = 0
        · exact Or.inl b00
        · refine Or.inr ?_
          have q := sl.1 (b' - 1) (by omega)
          have ne : py_k16 I (W (b' - 1)) ≠ py_k16 I i := fun e => by
            have := py_pa_i hw q.2 pai e
            omega
          omega)) (fun l => by
      constructor
      · rintro (z | z)
        · exact ⟨by omega, z.2⟩
        · rw [z]; exact ⟨by omega, pai⟩
      · rintro ⟨z1, z2⟩
        by_cases q : l = i
        · exact Or.inr q
        · exact Or.inl ⟨by omega, z2⟩))
    refine ⟨F, W1, n1, x1, x2, x3, x4, x5, x6, START _ ?_⟩
    have P2 : pu_r 413 [some (.ref 0), some (.int (nI a)), some (.int (nI b)), some (.int (nI c0)), some (.int (nI i)), some (.int (nI 0)), t6] [] N = some (none, F) := c_pi1 hx agJ WJ hi (show py_kI (pu_dk I N.1) b j0 from j1) (show pu_dk I N.1 16 j0 = pu_dk I N.1 16 i from j2) eA _ ((P1 (some (.int (I 16 i)))).trans x7) j0 0 t6 (Nat.zero_add _)
    rw [nI_0] at P2
    exact P2
theorem c_pairStreets (hw : pu_WF I L) (hI : pu_ag M I) (hxM : pu_fx M) {a b c0 : Nat} (HB : ∀ (W : Nat → Nat) (n : Nat), (∀ t, t < n → py_kI I a (W t)) → (∀ s t, s < t → t < n → W s ≠ W t) → c0 + n ≤ 200) (N : pu_M) (pq : py_pq M N) (h3 : N.1 45 3 = nI c0) : ∃ N1 W1 n1, c0 + n1 ≤ 200 ∧ py_pq M N1 ∧ N1.1 45 3 = nI (c0 + n1) ∧ (∀ j, j < c0 → N1.1 49 j = N.1 49 j ∧ N1.1 50 j = N.1 50 j) ∧ (∀ t, t < n1 → N1.1 49 (c0 + t) = py_d1x I (W1 t) ∧ N1.1 50 (c0 + t) = py_d2x I b (W1 t)) ∧ py_SL (py_k16 I) (py_pa I a b) W1 n1 ∧ pu_r 194 [some (.ref 0), some (.int (nI a)), some (.int (nI b))] [] N = some (none, N1) := by
  obtain ⟨N1, W1, n1, x1, x2, x3, x4, x5, x6, x7⟩ := c_ps_l hw hI hxM (A0 := N.1 49) (B0 := N.1 50) (b := b) HB (cU I) 0 N (fun _ => 0) 0 none none (by omega) pq h3 (fun _ _ => ⟨rfl, rfl⟩) (fun t ht => by omega) ⟨fun a ha => by omega, fun k hk => by have := hk.1; omega, fun a b _ hb => by omega⟩
  refine ⟨N1, W1, n1, x1, x2, x3, x4, x5, x6, ?_⟩
  have hx : pu_fx N := pz_fx_of hxM pq.1
  rw [nI_0] at x7
  have f1 := fx_0_2 hx
  have f2 := fx_5_6 hx
  rw [qX11_pairStreets]
  simp [a_ent, bX11_pairStreets_0, a_ald, a_gi, a_gr, a_ist, a_push, sh_0, sh_45, sh_5, pu_rv, pu_as, Value.category, pu_bk, pu_kl, List.replicate, pu_wi_1, pu_wi_2, nl_add, nl_ladd, nl_aa, nl_mul, nl_rmul, nl_mm, pu_qe0, pu_qe1, f1, f2, h3, x7]
  all_goals try simp (maxSteps := 400000) (disch := omega) [nl_tle, nl_fle, nl_tlt, nl_flt, nl_teq, nl_feq, nl_sub, nl_ss, nl_lt, nl_llt, nl_ltt, nl_le, nl_lle, nl_lee, nl_eq, nl_leq, nl_ee, nl_div, nl_rem, nl_cl, nl_n1, nl_n2, nl_n3, nl_n4, nl_add, nl_ladd, nl_aa, nl_mul, nl_rmul, nl_mm, pu_wi_1, pu_wi_2, bX11_pairStreets_0, a_ald, a_gi, a_gr, a_ist, a_push, sh_0, sh_45, sh_5, pu_rv, pu_as, Value.category, pu_bk, pu_kl, pu_qe0, pu_qe1, f1, f2, h3, x7]
  all_goals try simp [bX11_pairStreets_0, a_ald, a_gi, a_gr, a_ist, a_push, sh_0, sh_45, sh_5, pu_rv, pu_as, Value.category, pu_bk, pu_kl, List.replicate, pu_wi_1, pu_wi_2, nl_add, nl_ladd, nl_aa, nl_mul, nl_rmul, nl_mm, pu_qe0, pu_qe1, f1, f2, h3, x7]
  all_goals try simp (maxSteps := 400000) (disch := omega) [nl_tle, nl_fle, nl_tlt, nl_flt, nl_teq, nl_feq, nl_sub, nl_ss, nl_lt, nl_llt, nl_ltt, nl_le, nl_lle, nl_lee, nl_eq, nl_leq, nl_ee, nl_div, nl_rem, nl_cl, nl_n1, nl_n2, nl_n3, nl_n4, nl_add, nl_ladd, nl_aa, nl_mul, nl_rmul, nl_mm, pu_wi_1, pu_wi_2, bX11_pairStreets_0, a_ald, a_gi, a_gr, a_ist, a_push, sh_0, sh_45, sh_5, pu_rv, pu_as, Value.category, pu_bk, pu_kl, pu_qe0, pu_qe1, f1, f2, h3, x7]
  all_goals try simp [bX11_pairStreets_0, a_ald, a_gi, a_gr, a_ist, a_push, sh_0, sh_45, sh_5, pu_rv, pu_as, Value.category, pu_bk, pu_kl, List.replicate, pu_wi_1, pu_wi_2, nl_add, nl_ladd, nl_aa, nl_mul, nl_rmul, nl_mm, pu_qe0, pu_qe1, f1, f2, h3, x7]
  all_goals try simp (maxSteps := 400000) (disch := omega) [nl_tle, nl_fle, nl_tlt, nl_flt, nl_teq, nl_feq, nl_sub, nl_ss, nl_lt, nl_llt, nl_ltt, nl_le, nl_lle, nl_lee, nl_eq, nl_leq, nl_ee, nl_div, nl_rem, nl_cl, nl_n1, nl_n2, nl_n3, nl_n4, nl_add, nl_ladd, nl_aa, nl_mul, nl_rmul, nl_mm, pu_wi_1, pu_wi_2, bX11_pairStreets_0, a_ald, a_gi, a_gr, a_ist, a_push, sh_0, sh_45, sh_5, pu_rv, pu_as, Value.category, pu_bk, pu_kl, pu_qe0, pu_qe1, f1, f2, h3, x7]
  all_goals try simp [bX11_pairStreets_0, a_ald, a_gi, a_gr, a_ist, a_push, sh_0, sh_45, sh_5, pu_rv, pu_as, Value.category, pu_bk, pu_kl, List.replicate, pu_wi_1, pu_wi_2, nl_add, nl_ladd, nl_aa, nl_mul, nl_rmul, nl_mm, pu_qe0, pu_qe1, f1, f2, h3, x7]
end
