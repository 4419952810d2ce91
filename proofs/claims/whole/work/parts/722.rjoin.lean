/-! join: what the reference reads -/
section
variable {M : pu_M} {I : Nat → Nat → Int32} {L : Nat → Nat → Int64}
/-- the open name's place, and that it is the words -/
theorem py_onm (hr : pu_Rel I L (M.1 72)) (hw : pu_WF I L) (hx : pu_fx M) {st k : Nat} (hk : pu_no I st k) : ∃ j m, j < cN I ∧ m < 208 ∧ pu_r 253 [some (.ref 71), some (.int (nI st))] [] M = some (some (.int (nI j)), M) ∧ M.1 72 (7552 + 5 * j + 2) = nI m ∧ ∀ w, w < 3 → pu_Wd (M.1 72) (32 + 36 * m + 12 * w) (L 24 (3 * k + w)) := by
  obtain ⟨j, j1, j2⟩ := rl_na hr k hk.1
  have e := r_openName hx hr hw hk j1 j2
  obtain ⟨a1, a2, a3, a4, m, m1, m2, m3, m4, m5⟩ := j2
  exact ⟨j, m, j1, m2, e, m4, m5⟩
theorem r_jn_i (hx : pu_fx M) (hr : pu_Rel I L (M.1 72)) (hw : pu_WF I L) (a b f e c tn : Int32) {st k : Nat} (hst : st < cK I) (hk : pu_no I st k) : ∀ m j (p : Prop), j + m = cK I → ∃ u, pu_r 454 [some (.ref 71), some (.int a), some (.int b), some (.int f), some (.int e), some (.int c), some (.int (pu_q p)), some (.int (nI st)), some (.int tn), some (.int (nI j))] [] M = pu_r 453 [some (.ref 71), some (.int a), some (.int b), some (.int f), some (.int e), some (.int c), some (.int (pu_q (p ∨ ∃ s, j ≤ s ∧ s < cK I ∧ ∃ l, pu_no I s l ∧ I 21 l = a ∧ py_lk (L 24) (L 24) (3 * l) (3 * k)))), some (.int (nI (st + 1))), some (.int tn), some (.int u)] [] M
  | 0, j, p, h => by
    have hb := wx_bK hw
    have ff := fx_71_0 hx
    have h3 := rl_h3 hr
    have hc : nI (cK I) ≤ nI j := nI_le (by omega) (by omega)
    refine ⟨nI j, ?_⟩
    have E : (p ∨ ∃ s, j ≤ s ∧ s < cK I ∧ ∃ l, pu_no I s l ∧ I 21 l = a ∧ py_lk (L 24) (L 24) (3 * l) (3 * k)) = p := propext ⟨fun z => z.elim id (fun ⟨s, s1, s2, _⟩ => by omega), Or.inl⟩
    rw [E]
    rw [qX12_join_169]
    simp [bX12_join_169, bX12_join_253, bX12_join_240, bX12_join_245, bX12_join_244, bX12_join_213, a_ai, a_ald, a_cv, a_gr, a_iadd, a_icge, a_icne, a_ifeq, a_ifne, a_ild, a_imul, a_inc, a_ist, a_push, sh_71, sh_72, pu_rv, pu_as, Value.category, pu_bk, pu_kl, List.replicate, pu_wi_1, pu_wi_2, nl_add, nl_ladd, nl_aa, nl_mul, nl_rmul, nl_mm, pu_qe0, pu_qe1, ff, h3, hc]
    all_goals try simp (maxSteps := 400000) (disch := omega) [nl_tle, nl_fle, nl_tlt, nl_flt, nl_teq, nl_feq, nl_sub, nl_ss, nl_lt, nl_llt, nl_ltt, nl_le, nl_lle, nl_lee, nl_eq, nl_leq, nl_ee, nl_div, nl_rem, nl_cl, nl_n1, nl_n2, nl_n3, nl_n4, nl_add, nl_ladd, nl_aa, nl_mul, nl_rmul, nl_mm, pu_wi_1, pu_wi_2, bX12_join_169, bX12_join_253, bX12_join_240, bX12_join_245, bX12_join_244, bX12_join_213, a_ai, a_ald, a_cv, a_gr, a_iadd, a_icge, a_icne, a_ifeq, a_ifne, a_ild, a_imul, a_inc, a_ist, a_push, sh_71, sh_72, pu_rv, pu_as, Value.category, pu_bk, pu_kl, pu_qe0, pu_qe1, ff, h3, hc]
    all_goals try simp [bX12_join_169, bX12_join_253, bX12_join_240, bX12_join_245, bX12_join_244, bX12_join_213, a_ai, a_ald, a_cv, a_gr, a_iadd, a_icge, a_icne, a_ifeq, a_ifne, a_ild, a_imul, a_inc, a_ist, a_push, sh_71, sh_72, pu_rv, pu_as, Value.category, pu_bk, pu_kl, List.replicate, pu_wi_1, pu_wi_2, nl_add, nl_ladd, nl_aa, nl_mul, nl_rmul, nl_mm, pu_qe0, pu_qe1, ff, h3, hc]
    all_goals try simp (maxSteps := 400000) (disch := omega) [nl_tle, nl_fle, nl_tlt, nl_flt, nl_teq, nl_feq, nl_sub, nl_ss, nl_lt, nl_llt, nl_ltt, nl_le, nl_lle, nl_lee, nl_eq, nl_leq, nl_ee, nl_div, nl_rem, nl_cl, nl_n1, nl_n2, nl_n3, nl_n4, nl_add, nl_ladd, nl_aa, nl_mul, nl_rmul, nl_mm, pu_wi_1, pu_wi_2, bX12_join_169, bX12_join_253, bX12_join_240, bX12_join_245, bX12_join_244, bX12_join_213, a_ai, a_ald, a_cv, a_gr, a_iadd, a_icge, a_icne, a_ifeq, a_ifne, a_ild, a_imul, a_inc, a_ist, a_push, sh_71, sh_72, pu_rv, pu_as, Value.category, pu_bk, pu_kl, pu_qe0, pu_qe1, ff, h3, hc]
    all_goals try simp [bX12_join_169, bX12_join_253, bX12_join_240, bX12_join_245, bX12_join_244, bX12_join_213, a_ai, a_ald, a_cv, a_gr, a_iadd, a_icge, a_icne, a_ifeq, a_ifne, a_ild, a_imul, a_inc, a_ist, a_push, sh_71, sh_72, pu_rv, pu_as, Value.category, pu_bk, pu_kl, List.replicate, pu_wi_1, pu_wi_2, nl_add, nl_ladd, nl_aa, nl_mul, nl_rmul, nl_mm, pu_qe0, pu_qe1, ff, h3, hc]
    all_goals try simp (maxSteps := 400000) (disch := omega) [nl_tle, nl_fle, nl_tlt, nl_flt, nl_teq, nl_feq, nl_sub, nl_ss, nl_lt, nl_llt, nl_ltt, nl_le, nl_lle, nl_lee, nl_eq, nl_leq, nl_ee, nl_div, nl_rem, nl_cl, nl_n1, nl_n2, nl_n3, nl_n4, nl_add, nl_ladd, nl_aa, nl_mul, nl_rmul, nl_mm, pu_wi_1, pu_wi_2, bX12_join_169, bX12_join_253, bX12_join_240, bX12_join_245, bX12_join_244, bX12_join_213, a_ai, a_ald, a_cv, a_gr, a_iadd, a_icge, a_icne, a_ifeq, a_ifne, a_ild, a_imul, a_inc, a_ist, a_push, sh_71, sh_72, pu_rv, pu_as, Value.category, pu_bk, pu_kl, pu_qe0, pu_qe1, ff, h3, hc]
    all_goals try simp [bX12_join_169, bX12_join_253, bX12_join_240, bX12_join_245, bX12_join_244, bX12_join_213, a_ai, a_ald, a_cv, a_gr, a_iadd, a_icge, a_icne, a_ifeq, a_ifne, a_ild, a_imul, a_inc, a_ist, a_push, sh_71, sh_72, pu_rv, pu_as, Value.category, pu_bk, pu_kl, List.replicate, pu_wi_1, pu_wi_2, nl_add, nl_ladd, nl_aa, nl_mul, nl_rmul, nl_mm, pu_qe0, pu_qe1, ff, h3, hc]
  | m + 1, j, p, h => by
    have hb := wx_bK hw
    have bN := wx_bN hw
    have ff := fx_71_0 hx
    have h3 := rl_h3 hr
    have hj : j < cK I := by omega
    have hc : ¬ nI (cK I) ≤ nI j := nI_ge (by omega) (by omega)
    have ES := py_exs (p := fun s => ∃ l, pu_no I s l ∧ I 21 l = a ∧ py_lk (L 24) (L 24) (3 * l) (3 * k)) hj
    obtain ⟨l, hl⟩ := pu_no_ex hw hj
    have e1 := r_townOf hx hr hw hl
    by_cases c0 : p
    · obtain ⟨u, hu⟩ := r_jn_i hx hr hw a b f e c tn hst hk m (j + 1) True (by omega)
      refine ⟨u, ?_⟩
      rw [pu_q1 (Or.inl c0), pu_q1 c0]
      rw [pu_q1 (Or.inl trivial), pu_q1 trivial] at hu
      rw [← hu]
      rw [qX12_join_169]
      simp [bX12_join_169, bX12_join_253, bX12_join_240, bX12_join_245, bX12_join_244, bX12_join_213, a_ai, a_ald, a_cv, a_gr, a_iadd, a_icge, a_icne, a_ifeq, a_ifne, a_ild, a_imul, a_inc, a_ist, a_push, sh_71, sh_72, pu_rv, pu_as, Value.category, pu_bk, pu_kl, List.replicate, pu_wi_1, pu_wi_2, nl_add, nl_ladd, nl_aa, nl_mul, nl_rmul, nl_mm, pu_qe0, pu_qe1, ff, h3, hc]
      all_goals try simp (maxSteps := 400000) (disch := omega) [nl_tle, nl_fle, nl_tlt, nl_flt, nl_teq, nl_feq, nl_sub, nl_ss, nl_lt, nl_llt, nl_ltt, nl_le, nl_lle, nl_lee, nl_eq, nl_leq, nl_ee, nl_div, nl_rem, nl_cl, nl_n1, nl_n2, nl_n3, nl_n4, nl_add, nl_ladd, nl_aa, nl_mul, nl_rmul, nl_mm, pu_wi_1, pu_wi_2, bX12_join_169, bX12_join_253, bX12_join_240, bX12_join_245, bX12_join_244, bX12_join_213, a_ai, a_ald, a_cv, a_gr, a_iadd, a_icge, a_icne, a_ifeq, a_ifne, a_ild, a_imul, a_inc, a_ist, a_push, sh_71, sh_72, pu_rv, pu_as, Value.category, pu_bk, pu_kl, pu_qe0, pu_qe1, ff, h3, hc]
      all_goals try simp [bX12_join_169, bX12_join_253, bX12_join_240, bX12_join_245, bX12_join_244, bX12_join_213, a_ai, a_ald, a_cv, a_gr, a_iadd, a_icge, a_icne, a_ifeq, a_ifne, a_ild, a_imul, a_inc, a_ist, a_push, sh_71, sh_72, pu_rv, pu_as, Value.category, pu_bk, pu_kl, List.replicate, pu_wi_1, pu_wi_2, nl_add, nl_ladd, nl_aa, nl_mul, nl_rmul, nl_mm, pu_qe0, pu_qe1, ff, h3, hc]
      all_goals try simp (maxSteps := 400000) (disch := omega) [nl_tle, nl_fle, nl_tlt, nl_flt, nl_teq, nl_feq, nl_sub, nl_ss, nl_lt, nl_llt, nl_ltt, nl_le, nl_lle, nl_lee, nl_eq, nl_leq, nl_ee, nl_div, nl_rem, nl_cl, nl_n1, nl_n2, nl_n3, nl_n4, nl_add, nl_ladd, nl_aa, nl_mul, nl_rmul, nl_mm, pu_wi_1, pu_wi_2, bX12_join_169, bX12_join_253, bX12_join_240, bX12_join_245, bX12_join_244, bX12_join_213, a_ai, a_ald, a_cv, a_gr, a_iadd, a_icge, a_icne, a_ifeq, a_ifne, a_ild, a_imul, a_inc, a_ist, a_push, sh_71, sh_72, pu_rv, pu_as, Value.category, pu_bk, pu_kl, pu_qe0, pu_qe1, ff, h3, hc]
      all_goals try simp [bX12_join_169, bX12_join_253, bX12_join_240, bX12_join_245, bX12_join_244, bX12_join_213, a_ai, a_ald, a_cv, a_gr, a_iadd, a_icge, a_icne, a_ifeq, a_ifne, a_ild, a_imul, a_inc, a_ist, a_push, sh_71, sh_72, pu_rv, pu_as, Value.category, pu_bk, pu_kl, List.replicate, pu_wi_1, pu_wi_2, nl_add, nl_ladd, nl_aa, nl_mul, nl_rmul, nl_mm, pu_qe0, pu_qe1, ff, h3, hc]
      all_goals try simp (maxSteps := 400000) (disch := omega) [nl_tle, nl_fle, nl_tlt, nl_flt, nl_teq, nl_feq, nl_sub, nl_ss, nl_lt, nl_llt, nl_ltt, nl_le, nl_lle, nl_lee, nl_eq, nl_leq, nl_ee, nl_div, nl_rem, nl_cl, nl_n1, nl_n2, nl_n3, nl_n4, nl_add, nl_ladd, nl_aa, nl_mul, nl_rmul, nl_mm, pu_wi_1, pu_wi_2, bX12_join_169, bX12_join_253, bX12_join_240, bX12_join_245, bX12_join_244, bX12_join_213, a_ai, a_ald, a_cv, a_gr, a_iadd, a_icge, a_icne, a_ifeq, a_ifne, a_ild, a_imul, a_inc, a_ist, a_push, sh_71, sh_72, pu_rv, pu_as, Value.category, pu_bk, pu_kl, pu_qe0, pu_qe1, ff, h3, hc]
      all_goals try simp [bX12_join_169, bX12_join_253, bX12_join_240, bX12_join_245, bX12_join_244, bX12_join_213, a_ai, a_ald, a_cv, a_gr, a_iadd, a_icge, a_icne, a_ifeq, a_ifne, a_ild, a_imul, a_inc, a_ist, a_push, sh_71, sh_72, pu_rv, pu_as, Value.category, pu_bk, pu_kl, List.replicate, pu_wi_1, pu_wi_2, nl_add, nl_ladd, nl_aa, nl_mul, nl_rmul, nl_mm, pu_qe0, pu_qe1, ff, h3, hc]
    · have one : (∃ l, pu_no I j l ∧ I 21 l = a ∧ py_lk (L 24) (L 24) (3 * l) (3 * k)) = (I 21 l = a ∧ py_lk (L 24) (L 24) (3 * l) (3 * k)) := by
        apply propext
        constructor
        · rintro ⟨l', l1, l2⟩
          rw [pu_no_un hw hl l1]
          exact l2
        · intro z
          exact ⟨l, hl, z⟩
      by_cases c1 : I 21 l = a
      · obtain ⟨jl, ml, b1, b2, b3, b4, b5⟩ := py_onm hr hw hx hl
        obtain ⟨jk, mk, d1, d2, d3, d4, d5⟩ := py_onm hr hw hx hk
        have e2 := r_areAlike hx ml mk b2 d2
        rw [propext (py_row3 (f := L 24) (g := L 24) (x := 3 * l) (y := 3 * k) b5 d5)] at e2
        obtain ⟨u, hu⟩ := r_jn_i hx hr hw a b f e c tn hst hk m (j + 1) (py_lk (L 24) (L 24) (3 * l) (3 * k)) (by omega)
        refine ⟨u, ?_⟩
        have E : (p ∨ ∃ s, j ≤ s ∧ s < cK I ∧ ∃ l, pu_no I s l ∧ I 21 l = a ∧ py_lk (L 24) (L 24) (3 * l) (3 * k)) = (py_lk (L 24) (L 24) (3 * l) (3 * k) ∨ ∃ s, j + 1 ≤ s ∧ s < cK I ∧ ∃ l, pu_no I s l ∧ I 21 l = a ∧ py_lk (L 24) (L 24) (3 * l) (3 * k)) := by
          rw [ES, one]
          apply propext
          constructor
          · rintro (z | ⟨_, z⟩ | z)
            · exact absurd z c0
            · exact Or.inl z
            · exact Or.inr z
          · rintro (z | z)
            · exact Or.inr (Or.inl ⟨c1, z⟩)
            · exact Or.inr (Or.inr z)
        rw [E, pu_q0 c0, ← hu]
        by_cases c2 : py_lk (L 24) (L 24) (3 * l) (3 * k)
        · rw [pu_q1 c2] at e2 ⊢
          rw [qX12_join_169]
          simp [bX12_join_169, bX12_join_253, bX12_join_240, bX12_join_245, bX12_join_244, bX12_join_213, a_ai, a_ald, a_cv, a_gr, a_iadd, a_icge, a_icne, a_ifeq, a_ifne, a_ild, a_imul, a_inc, a_ist, a_push, sh_71, sh_72, pu_rv, pu_as, Value.category, pu_bk, pu_kl, List.replicate, pu_wi_1, pu_wi_2, nl_add, nl_ladd, nl_aa, nl_mul, nl_rmul, nl_mm, pu_qe0, pu_qe1, ff, h3, hc, e1, c1, b3, b4, d3, d4, e2]
          all_goals try simp (maxSteps := 400000) (disch := omega) [nl_tle, nl_fle, nl_tlt, nl_flt, nl_teq, nl_feq, nl_sub, nl_ss, nl_lt, nl_llt, nl_ltt, nl_le, nl_lle, nl_lee, nl_eq, nl_leq, nl_ee, nl_div, nl_rem, nl_cl, nl_n1, nl_n2, nl_n3, nl_n4, nl_add, nl_ladd, nl_aa, nl_mul, nl_rmul, nl_mm, pu_wi_1, pu_wi_2, bX12_join_169, bX12_join_253, bX12_join_240, bX12_join_245, bX12_join_244, bX12_join_213, a_ai, a_ald, a_cv, a_gr, a_iadd, a_icge, a_icne, a_ifeq, a_ifne, a_ild, a_imul, a_inc, a_ist, a_push, sh_71, sh_72, pu_rv, pu_as, Value.category, pu_bk, pu_kl, pu_qe0, pu_qe1, ff, h3, hc, e1, c1, b3, b4, d3, d4, e2]
          all_goals try simp [bX12_join_169, bX12_join_253, bX12_join_240, bX12_join_245, bX12_join_244, bX12_join_213, a_ai, a_ald, a_cv, a_gr, a_iadd, a_icge, a_icne, a_ifeq, a_ifne, a_ild, a_imul, a_inc, a_ist, a_push, sh_71, sh_72, pu_rv, pu_as, Value.category, pu_bk, pu_kl, List.replicate, pu_wi_1, pu_wi_2, nl_add, nl_ladd, nl_aa, nl_mul, nl_rmul, nl_mm, pu_qe0, pu_qe1, ff, h3, hc, e1, c1, b3, b4, d3, d4, e2]
          all_goals try simp (maxSteps := 400000) (disch := omega) [nl_tle, nl_fle, nl_tlt, nl_flt, nl_teq, nl_feq, nl_sub, nl_ss, nl_lt, nl_llt, nl_ltt, nl_le, nl_lle, nl_lee, nl_eq, nl_leq, nl_ee, nl_div, nl_rem, nl_cl, nl_n1, nl_n2, nl_n3, nl_n4, nl_add, nl_ladd, nl_aa, nl_mul, nl_rmul, nl_mm, pu_wi_1, pu_wi_2, bX12_join_169, bX12_join_253, bX12_join_240, bX12_join_245, bX12_join_244, bX12_join_213, a_ai, a_ald, a_cv, a_gr, a_iadd, a_icge, a_icne, a_ifeq, a_ifne, a_ild, a_imul, a_inc, a_ist, a_push, sh_71, sh_72, pu_rv, pu_as, Value.category, pu_bk, pu_kl, pu_qe0, pu_qe1, ff, h3, hc, e1, c1, b3, b4, d3, d4, e2]
          all_goals try simp [bX12_join_169, bX12_join_253, bX12_join_240, bX12_join_245, bX12_join_244, bX12_join_213, a_ai, a_ald, a_cv, a_gr, a_iadd, a_icge, a_icne, a_ifeq, a_ifne, a_ild, a_imul, a_inc, a_ist, a_push, sh_71, sh_72, pu_rv, pu_as, Value.category, pu_bk, pu_kl, List.replicate, pu_wi_1, pu_wi_2, nl_add, nl_ladd, nl_aa, nl_mul, nl_rmul, nl_mm, pu_qe0, pu_qe1, ff, h3, hc, e1, c1, b3, b4, d3, d4, e2]
          all_goals try simp (maxSteps := 400000) (disch := omega) [nl_tle, nl_fle, nl_tlt, nl_flt, nl_teq, nl_feq, nl_sub, nl_ss, nl_lt, nl_llt, nl_ltt, nl_le, nl_lle, nl_lee, nl_eq, nl_leq, nl_ee, nl_div, nl_rem, nl_cl, nl_n1, nl_n2, nl_n3, nl_n4, nl_add, nl_ladd, nl_aa, nl_mul, nl_rmul, nl_mm, pu_wi_1, pu_wi_2, bX12_join_169, bX12_join_253, bX12_join_240, bX12_join_245, bX12_join_244, bX12_join_213, a_ai, a_ald, a_cv, a_gr, a_iadd, a_icge, a_icne, a_ifeq, a_ifne, a_ild, a_imul, a_inc, a_ist, a_push, sh_71, sh_72, pu_rv, pu_as, Value.category, pu_bk, pu_kl, pu_qe0, pu_qe1, ff, h3, hc, e1, c1, b3, b4, d3, d4, e2]
          all_goals try simp [bX12_join_169, bX12_join_253, bX12_join_240, bX12_join_245, bX12_join_244, bX12_join_213, a_ai, a_ald, a_cv, a_gr, a_iadd, a_icge, a_icne, a_ifeq, a_ifne, a_ild, a_imul, a_inc, a_ist, a_push, sh_71, sh_72, pu_rv, pu_as, Value.category, pu_bk, pu_kl, List.replicate, pu_wi_1, pu_wi_2, nl_add, nl_ladd, nl_aa, nl_mul, nl_rmul, nl_mm, pu_qe0, pu_qe1, ff, h3, hc, e1, c1, b3, b4, d3, d4, e2]
        · rw [pu_q0 c2] at e2 ⊢
          rw [qX12_join_169]
          simp [bX12_join_169, bX12_join_253, bX12_join_240, bX12_join_245, bX12_join_244, bX12_join_213, a_ai, a_ald, a_cv, a_gr, a_iadd, a_icge, a_icne, a_ifeq, a_ifne, a_ild, a_imul, a_inc, a_ist, a_push, sh_71, sh_72, pu_rv, pu_as, Value.category, pu_bk, pu_kl, List.replicate, pu_wi_1, pu_wi_2, nl_add, nl_ladd, nl_aa, nl_mul, nl_rmul, nl_mm, pu_qe0, pu_qe1, ff, h3, hc, e1, c1, b3, b4, d3, d4, e2]
          all_goals try simp (maxSteps := 400000) (disch := omega) [nl_tle, nl_fle, nl_tlt, nl_flt, nl_teq, nl_feq, nl_sub, nl_ss, nl_lt, nl_llt, nl_ltt, nl_le, nl_lle, nl_lee, nl_eq, nl_leq, nl_ee, nl_div, nl_rem, nl_cl, nl_n1, nl_n2, nl_n3, nl_n4, nl_add, nl_ladd, nl_aa, nl_mul, nl_rmul, nl_mm, pu_wi_1, pu_wi_2, bX12_join_169, bX12_join_253, bX12_join_240, bX12_join_245, bX12_join_244, bX12_join_213, a_ai, a_ald, a_cv, a_gr, a_iadd, a_icge, a_icne, a_ifeq, a_ifne, a_ild, a_imul, a_inc, a_ist, a_push, sh_71, sh_72, pu_rv, pu_as, Value.category, pu_bk, pu_kl, pu_qe0, pu_qe1, ff, h3, hc, e1, c1, b3, b4, d3, d4, e2]
          all_goals try simp [bX12_join_169, bX12_join_253, bX12_join_240, bX12_join_245, bX12_join_244, bX12_join_213, a_ai, a_ald, a_cv, a_gr, a_iadd, a_icge, a_icne, a_ifeq, a_ifne, a_ild, a_imul, a_inc, a_ist, a_push, sh_71, sh_72, pu_rv, pu_as, Value.category, pu_bk, pu_kl, List.replicate, pu_wi_1, pu_wi_2, nl_add, nl_ladd, nl_aa, nl_mul, nl_rmul, nl_mm, pu_qe0, pu_qe1, ff, h3, hc, e1, c1, b3, b4, d3, d4, e2]
          all_goals try simp (maxSteps := 400000) (disch := omega) [nl_tle, nl_fle, nl_tlt, nl_flt, nl_teq, nl_feq, nl_sub, nl_ss, nl_lt, nl_llt, nl_ltt, nl_le, nl_lle, nl_lee, nl_eq, nl_leq, nl_ee, nl_div, nl_rem, nl_cl, nl_n1, nl_n2, nl_n3, nl_n4, nl_add, nl_ladd, nl_aa, nl_mul, nl_rmul, nl_mm, pu_wi_1, pu_wi_2, bX12_join_169, bX12_join_253, bX12_join_240, bX12_join_245, bX12_join_244, bX12_join_213, a_ai, a_ald, a_cv, a_gr, a_iadd, a_icge, a_icne, a_ifeq, a_ifne, a_ild, a_imul, a_inc, a_ist, a_push, sh_71, sh_72, pu_rv, pu_as, Value.category, pu_bk, pu_kl, pu_qe0, pu_qe1, ff, h3, hc, e1, c1, b3, b4, d3, d4, e2]
          all_goals try simp [bX12_join_169, bX12_join_253, bX12_join_240, bX12_join_245, bX12_join_244, bX12_join_213, a_ai, a_ald, a_cv, a_gr, a_iadd, a_icge, a_icne, a_ifeq, a_ifne, a_ild, a_imul, a_inc, a_ist, a_push, sh_71, sh_72, pu_rv, pu_as, Value.category, pu_bk, pu_kl, List.replicate, pu_wi_1, pu_wi_2, nl_add, nl_ladd, nl_aa, nl_mul, nl_rmul, nl_mm, pu_qe0, pu_qe1, ff, h3, hc, e1, c1, b3, b4, d3, d4, e2]
          all_goals try simp (maxSteps := 400000) (disch := omega) [nl_tle, nl_fle, nl_tlt, nl_flt, nl_teq, nl_feq, nl_sub, nl_ss, nl_lt, nl_llt, nl_ltt, nl_le, nl_lle, nl_lee, nl_eq, nl_leq, nl_ee, nl_div, nl_rem, nl_cl, nl_n1, nl_n2, nl_n3, nl_n4, nl_add, nl_ladd, nl_aa, nl_mul, nl_rmul, nl_mm, pu_wi_1, pu_wi_2, bX12_join_169, bX12_join_253, bX12_join_240, bX12_join_245, bX12_join_244, bX12_join_213, a_ai, a_ald, a_cv, a_gr, a_iadd, a_icge, a_icne, a_ifeq, a_ifne, a_ild, a_imul, a_inc, a_ist, a_push, sh_71, sh_72, pu_rv, pu_as, Value.category, pu_bk, pu_kl, pu_qe0, pu_qe1, ff, h3, hc, e1, c1, b3, b4, d3, d4, e2]
          all_goals try simp [bX12_join_169, bX12_join_253, bX12_join_240, bX12_join_245, bX12_join_244, bX12_join_213, a_ai, a_ald, a_cv, a_gr, a_iadd, a_icge, a_icne, a_ifeq, a_ifne, a_ild, a_imul, a_inc, a_ist, a_push, sh_71, sh_72, pu_rv, pu_as, Value.category, pu_bk, pu_kl, List.replicate, pu_wi_1, pu_wi_2, nl_add, nl_ladd, nl_aa, nl_mul, nl_rmul, nl_mm, pu_qe0, pu_qe1, ff, h3, hc, e1, c1, b3, b4, d3, d4, e2]
      · obtain ⟨u, hu⟩ := r_jn_i hx hr hw a b f e c tn hst hk m (j + 1) False (by omega)
        refine ⟨u, ?_⟩
        have E : (p ∨ ∃ s, j ≤ s ∧ s < cK I ∧ ∃ l, pu_no I s l ∧ I 21 l = a ∧ py_lk (L 24) (L 24) (3 * l) (3 * k)) = (False ∨ ∃ s, j + 1 ≤ s ∧ s < cK I ∧ ∃ l, pu_no I s l ∧ I 21 l = a ∧ py_lk (L 24) (L 24) (3 * l) (3 * k)) := by
          rw [ES, one]
          apply propext
          constructor
          · rintro (z | ⟨z, _⟩ | z)
            · exact absurd z c0
            · exact absurd z c1
            · exact Or.inr z
          · rintro (z | z)
            · exact absurd z id
            · exact Or.inr (Or.inr z)
        rw [E, pu_q0 c0, ← hu, pu_q0 (p := False) id]
        rw [qX12_join_169]
        simp [bX12_join_169, bX12_join_253, bX12_join_240, bX12_join_245, bX12_join_244, bX12_join_213, a_ai, a_ald, a_cv, a_gr, a_iadd, a_icge, a_icne, a_ifeq, a_ifne, a_ild, a_imul, a_inc, a_ist, a_push, sh_71, sh_72, pu_rv, pu_as, Value.category, pu_bk, pu_kl, List.replicate, pu_wi_1, pu_wi_2, nl_add, nl_ladd, nl_aa, nl_mul, nl_rmul, nl_mm, pu_qe0, pu_qe1, ff, h3, hc, e1, c1]
        all_goals try simp (maxSteps := 400000) (disch := omega) [nl_tle, nl_fle, nl_tlt, nl_flt, nl_teq, nl_feq, nl_sub, nl_ss, nl_lt, nl_llt, nl_ltt, nl_le, nl_lle, nl_lee, nl_eq, nl_leq, nl_ee, nl_div, nl_rem, nl_cl, nl_n1, nl_n2, nl_n3, nl_n4, nl_add, nl_ladd, nl_aa, nl_mul, nl_rmul, nl_mm, pu_wi_1, pu_wi_2, bX12_join_169, bX12_join_253, bX12_join_240, bX12_join_245, bX12_join_244, bX12_join_213, a_ai, a_ald, a_cv, a_gr, a_iadd, a_icge, a_icne, a_ifeq, a_ifne, a_ild, a_imul, a_inc, a_ist, a_push, sh_71, sh_72, pu_rv, pu_as, Value.category, pu_bk, pu_kl, pu_qe0, pu_qe1, ff, h3, hc, e1, c1]
        all_goals try simp [bX12_join_169, bX12_join_253, bX12_join_240, bX12_join_245, bX12_join_244, bX12_join_213, a_ai, a_ald, a_cv, a_gr, a_iadd, a_icge, a_icne, a_ifeq, a_ifne, a_ild, a_imul, a_inc, a_ist, a_push, sh_71, sh_72, pu_rv, pu_as, Value.category, pu_bk, pu_kl, List.replicate, pu_wi_1, pu_wi_2, nl_add, nl_ladd, nl_aa, nl_mul, nl_rmul, nl_mm, pu_qe0, pu_qe1, ff, h3, hc, e1, c1]
        all_goals try simp (maxSteps := 400000) (disch := omega) [nl_tle, nl_fle, nl_tlt, nl_flt, nl_teq, nl_feq, nl_sub, nl_ss, nl_lt, nl_llt, nl_ltt, nl_le, nl_lle, nl_lee, nl_eq, nl_leq, nl_ee, nl_div, nl_rem, nl_cl, nl_n1, nl_n2, nl_n3, nl_n4, nl_add, nl_ladd, nl_aa, nl_mul, nl_rmul, nl_mm, pu_wi_1, pu_wi_2, bX12_join_169, bX12_join_253, bX12_join_240, bX12_join_245, bX12_join_244, bX12_join_213, a_ai, a_ald, a_cv, a_gr, a_iadd, a_icge, a_icne, a_ifeq, a_ifne, a_ild, a_imul, a_inc, a_ist, a_push, sh_71, sh_72, pu_rv, pu_as, Value.category, pu_bk, pu_kl, pu_qe0, pu_qe1, ff, h3, hc, e1, c1]
        all_goals try simp [bX12_join_169, bX12_join_253, bX12_join_240, bX12_join_245, bX12_join_244, bX12_join_213, a_ai, a_ald, a_cv, a_gr, a_iadd, a_icge, a_icne, a_ifeq, a_ifne, a_ild, a_imul, a_inc, a_ist, a_push, sh_71, sh_72, pu_rv, pu_as, Value.category, pu_bk, pu_kl, List.replicate, pu_wi_1, pu_wi_2, nl_add, nl_ladd, nl_aa, nl_mul, nl_rmul, nl_mm, pu_qe0, pu_qe1, ff, h3, hc, e1, c1]
        all_goals try simp (maxSteps := 400000) (disch := omega) [nl_tle, nl_fle, nl_tlt, nl_flt, nl_teq, nl_feq, nl_sub, nl_ss, nl_lt, nl_llt, nl_ltt, nl_le, nl_lle, nl_lee, nl_eq, nl_leq, nl_ee, nl_div, nl_rem, nl_cl, nl_n1, nl_n2, nl_n3, nl_n4, nl_add, nl_ladd, nl_aa, nl_mul, nl_rmul, nl_mm, pu_wi_1, pu_wi_2, bX12_join_169, bX12_join_253, bX12_join_240, bX12_join_245, bX12_join_244, bX12_join_213, a_ai, a_ald, a_cv, a_gr, a_iadd, a_icge, a_icne, a_ifeq, a_ifne, a_ild, a_imul, a_inc, a_ist, a_push, sh_71, sh_72, pu_rv, pu_as, Value.category, pu_bk, pu_kl, pu_qe0, pu_qe1, ff, h3, hc, e1, c1]
        all_goals try simp [bX12_join_169, bX12_join_253, bX12_join_240, bX12_join_245, bX12_join_244, bX12_join_213, a_ai, a_ald, a_cv, a_gr, a_iadd, a_icge, a_icne, a_ifeq, a_ifne, a_ild, a_imul, a_inc, a_ist, a_push, sh_71, sh_72, pu_rv, pu_as, Value.category, pu_bk, pu_kl, List.replicate, pu_wi_1, pu_wi_2, nl_add, nl_ladd, nl_aa, nl_mul, nl_rmul, nl_mm, pu_qe0, pu_qe1, ff, h3, hc, e1, c1]
end
