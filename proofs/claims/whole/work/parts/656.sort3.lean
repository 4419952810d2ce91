/-! sort: the reference's rest, and the call -/
section
variable {M : pu_M} {I : Nat → Nat → Int32} {L : Nat → Nat → Int64}
theorem r_sort_o (hw : pu_WF I L) : ∀ (m i : Nat) (q : pz_Q) (M : pu_M) (t : Option Value), i + m = cW I → pu_fx M → pz_rd M I → pz_rq M I q → pz_qw I i 0 q → ∃ N u, pz_72 M N ∧ pz_rq N I (pz_qo I m i q) ∧ pz_qw I (cW I) 0 (pz_qo I m i q) ∧ pu_r 529 [some (.ref 71), some (.int (nI (cE I))), some (.int (nI q.2)), some (.int (nI i)), t] [] M = pu_r 531 [some (.ref 71), some (.int (nI (cE I))), some (.int (nI (pz_qo I m i q).2)), some (.int (nI 0)), u] [] N
  | 0, i, q, M, t, h, hx, hd, hc, hq => by
    have hW := wx_bW hw
    have z : nI (cW I) ≤ nI i := nI_le (by omega) (by omega)
    have e : i = cW I := by omega
    subst e
    refine ⟨M, t, ⟨rfl, fun _ _ _ => rfl⟩, hc, hq, ?_⟩
    have a0 := hd.1
    rw [nI_0]
    rw [qX12_sort_12]
    simp [bX12_sort_12, bX12_sort_113, a_ai, a_ald, a_gr, a_icge, a_ild, a_ist, a_push, fx_71_0 hx, sh_71, sh_72, pu_rv, pu_as, Value.category, pu_bk, pu_kl, List.replicate, pu_wi_1, pu_wi_2, nl_add, nl_ladd, nl_aa, nl_mul, nl_rmul, nl_mm, pu_qe0, pu_qe1, a0, z, pz_qo]
    all_goals try simp (maxSteps := 400000) (disch := omega) [nl_tle, nl_fle, nl_tlt, nl_flt, nl_teq, nl_feq, nl_sub, nl_ss, nl_lt, nl_llt, nl_ltt, nl_le, nl_lle, nl_lee, nl_eq, nl_leq, nl_ee, nl_div, nl_rem, nl_cl, nl_n1, nl_n2, nl_n3, nl_n4, nl_add, nl_ladd, nl_aa, nl_mul, nl_rmul, nl_mm, pu_wi_1, pu_wi_2, bX12_sort_12, bX12_sort_113, a_ai, a_ald, a_gr, a_icge, a_ild, a_ist, a_push, fx_71_0 hx, sh_71, sh_72, pu_rv, pu_as, Value.category, pu_bk, pu_kl, pu_qe0, pu_qe1, a0, z, pz_qo]
    all_goals try simp [bX12_sort_12, bX12_sort_113, a_ai, a_ald, a_gr, a_icge, a_ild, a_ist, a_push, fx_71_0 hx, sh_71, sh_72, pu_rv, pu_as, Value.category, pu_bk, pu_kl, List.replicate, pu_wi_1, pu_wi_2, nl_add, nl_ladd, nl_aa, nl_mul, nl_rmul, nl_mm, pu_qe0, pu_qe1, a0, z, pz_qo]
    all_goals try simp (maxSteps := 400000) (disch := omega) [nl_tle, nl_fle, nl_tlt, nl_flt, nl_teq, nl_feq, nl_sub, nl_ss, nl_lt, nl_llt, nl_ltt, nl_le, nl_lle, nl_lee, nl_eq, nl_leq, nl_ee, nl_div, nl_rem, nl_cl, nl_n1, nl_n2, nl_n3, nl_n4, nl_add, nl_ladd, nl_aa, nl_mul, nl_rmul, nl_mm, pu_wi_1, pu_wi_2, bX12_sort_12, bX12_sort_113, a_ai, a_ald, a_gr, a_icge, a_ild, a_ist, a_push, fx_71_0 hx, sh_71, sh_72, pu_rv, pu_as, Value.category, pu_bk, pu_kl, pu_qe0, pu_qe1, a0, z, pz_qo]
  | m + 1, i, q, M, t, h, hx, hd, hc, hq => by
    have hW := wx_bW hw
    have z : ¬ nI (cW I) ≤ nI i := nI_ge (by omega) (by omega)
    have a0 := hd.1
    obtain ⟨N, u, n1, n2, n3, n4⟩ := r_si_l hw i (by omega) (cE I) 0 q M (by omega) hx hd hc hq
    rw [nI_0] at n4
    obtain ⟨O, v, o1, o2, o3, o4⟩ := r_sort_o hw m (i + 1) (pz_qi I (I 54 i) (cE I) 0 q) N u (by omega) (pz_72_x n1 hx) (pz_rd_t hw n1 hd) n2 (pz_qw_n n3)
    refine ⟨O, v, pz_72_t n1 o1, o2, o3, ?_⟩
    show _ = pu_r _ [some (.ref 71), some (.int (nI (cE I))), some (.int (nI (pz_qo I m (i + 1) (pz_qi I (I 54 i) (cE I) 0 q)).2)), some (.int (nI 0)), v] [] O
    rw [← o4, ← n4]
    rw [qX12_sort_12]
    simp [bX12_sort_12, bX12_sort_113, a_ai, a_ald, a_gr, a_icge, a_ild, a_ist, a_push, fx_71_0 hx, sh_71, sh_72, pu_rv, pu_as, Value.category, pu_bk, pu_kl, List.replicate, pu_wi_1, pu_wi_2, nl_add, nl_ladd, nl_aa, nl_mul, nl_rmul, nl_mm, pu_qe0, pu_qe1, a0, z]
    all_goals try simp (maxSteps := 400000) (disch := omega) [nl_tle, nl_fle, nl_tlt, nl_flt, nl_teq, nl_feq, nl_sub, nl_ss, nl_lt, nl_llt, nl_ltt, nl_le, nl_lle, nl_lee, nl_eq, nl_leq, nl_ee, nl_div, nl_rem, nl_cl, nl_n1, nl_n2, nl_n3, nl_n4, nl_add, nl_ladd, nl_aa, nl_mul, nl_rmul, nl_mm, pu_wi_1, pu_wi_2, bX12_sort_12, bX12_sort_113, a_ai, a_ald, a_gr, a_icge, a_ild, a_ist, a_push, fx_71_0 hx, sh_71, sh_72, pu_rv, pu_as, Value.category, pu_bk, pu_kl, pu_qe0, pu_qe1, a0, z]
    all_goals try simp [bX12_sort_12, bX12_sort_113, a_ai, a_ald, a_gr, a_icge, a_ild, a_ist, a_push, fx_71_0 hx, sh_71, sh_72, pu_rv, pu_as, Value.category, pu_bk, pu_kl, List.replicate, pu_wi_1, pu_wi_2, nl_add, nl_ladd, nl_aa, nl_mul, nl_rmul, nl_mm, pu_qe0, pu_qe1, a0, z]
    all_goals try simp (maxSteps := 400000) (disch := omega) [nl_tle, nl_fle, nl_tlt, nl_flt, nl_teq, nl_feq, nl_sub, nl_ss, nl_lt, nl_llt, nl_ltt, nl_le, nl_lle, nl_lee, nl_eq, nl_leq, nl_ee, nl_div, nl_rem, nl_cl, nl_n1, nl_n2, nl_n3, nl_n4, nl_add, nl_ladd, nl_aa, nl_mul, nl_rmul, nl_mm, pu_wi_1, pu_wi_2, bX12_sort_12, bX12_sort_113, a_ai, a_ald, a_gr, a_icge, a_ild, a_ist, a_push, fx_71_0 hx, sh_71, sh_72, pu_rv, pu_as, Value.category, pu_bk, pu_kl, pu_qe0, pu_qe1, a0, z]
theorem r_isWalked_l (hx : pu_fx M) (hw : pu_WF I L) (hd : pz_rd M I) (e : Int32) : ∀ m i x, x = nI i → i + m = cW I → pu_r 521 [some (.ref 71), some (.int e), some (.int x)] [] M = some (some (.int (pu_q (∃ l, i ≤ l ∧ l < cW I ∧ I 54 l = e))), M)
  | 0, i, x, hi, h => by
    subst hi
    have hW := wx_bW hw
    have a0 := hd.1
    have hc : nI (cW I) ≤ nI i := nI_le (by omega) (by omega)
    rw [pu_q0 (fun ⟨l, l1, l2, _⟩ => by omega)]
    rw [qX12_isWalked_2]
    simp [bX12_isWalked_2, bX12_isWalked_35, bX12_isWalked_29, a_ai, a_ald, a_gr, a_iadd, a_icge, a_icne, a_ild, a_inc, a_push, a_zret, fx_71_0 hx, sh_71, sh_72, pu_rv, pu_as, Value.category, pu_bk, pu_kl, List.replicate, pu_wi_1, pu_wi_2, nl_add, nl_ladd, nl_aa, nl_mul, nl_rmul, nl_mm, pu_qe0, pu_qe1, a0, hc]
    all_goals try simp (maxSteps := 400000) (disch := omega) [nl_tle, nl_fle, nl_tlt, nl_flt, nl_teq, nl_feq, nl_sub, nl_ss, nl_lt, nl_llt, nl_ltt, nl_le, nl_lle, nl_lee, nl_eq, nl_leq, nl_ee, nl_div, nl_rem, nl_cl, nl_n1, nl_n2, nl_n3, nl_n4, nl_add, nl_ladd, nl_aa, nl_mul, nl_rmul, nl_mm, pu_wi_1, pu_wi_2, bX12_isWalked_2, bX12_isWalked_35, bX12_isWalked_29, a_ai, a_ald, a_gr, a_iadd, a_icge, a_icne, a_ild, a_inc, a_push, a_zret, fx_71_0 hx, sh_71, sh_72, pu_rv, pu_as, Value.category, pu_bk, pu_kl, pu_qe0, pu_qe1, a0, hc]
    all_goals try simp [bX12_isWalked_2, bX12_isWalked_35, bX12_isWalked_29, a_ai, a_ald, a_gr, a_iadd, a_icge, a_icne, a_ild, a_inc, a_push, a_zret, fx_71_0 hx, sh_71, sh_72, pu_rv, pu_as, Value.category, pu_bk, pu_kl, List.replicate, pu_wi_1, pu_wi_2, nl_add, nl_ladd, nl_aa, nl_mul, nl_rmul, nl_mm, pu_qe0, pu_qe1, a0, hc]
    all_goals try simp (maxSteps := 400000) (disch := omega) [nl_tle, nl_fle, nl_tlt, nl_flt, nl_teq, nl_feq, nl_sub, nl_ss, nl_lt, nl_llt, nl_ltt, nl_le, nl_lle, nl_lee, nl_eq, nl_leq, nl_ee, nl_div, nl_rem, nl_cl, nl_n1, nl_n2, nl_n3, nl_n4, nl_add, nl_ladd, nl_aa, nl_mul, nl_rmul, nl_mm, pu_wi_1, pu_wi_2, bX12_isWalked_2, bX12_isWalked_35, bX12_isWalked_29, a_ai, a_ald, a_gr, a_iadd, a_icge, a_icne, a_ild, a_inc, a_push, a_zret, fx_71_0 hx, sh_71, sh_72, pu_rv, pu_as, Value.category, pu_bk, pu_kl, pu_qe0, pu_qe1, a0, hc]
  | m + 1, i, x, hi, h => by
    subst hi
    have hW := wx_bW hw
    have a0 := hd.1
    have a1 := hd.2.2 i (by omega)
    have hc : ¬ nI (cW I) ≤ nI i := nI_ge (by omega) (by omega)
    have ih := r_isWalked_l hx hw hd e m (i + 1) _ rfl (by omega)
    by_cases c1 : I 54 i = e
    · rw [pu_q1 ⟨i, Nat.le_refl _, by omega, c1⟩]
      rw [qX12_isWalked_2]
      simp [bX12_isWalked_2, bX12_isWalked_35, bX12_isWalked_29, a_ai, a_ald, a_gr, a_iadd, a_icge, a_icne, a_ild, a_inc, a_push, a_zret, fx_71_0 hx, sh_71, sh_72, pu_rv, pu_as, Value.category, pu_bk, pu_kl, List.replicate, pu_wi_1, pu_wi_2, nl_add, nl_ladd, nl_aa, nl_mul, nl_rmul, nl_mm, pu_qe0, pu_qe1, a0, hc, a1, c1]
      all_goals try simp (maxSteps := 400000) (disch := omega) [nl_tle, nl_fle, nl_tlt, nl_flt, nl_teq, nl_feq, nl_sub, nl_ss, nl_lt, nl_llt, nl_ltt, nl_le, nl_lle, nl_lee, nl_eq, nl_leq, nl_ee, nl_div, nl_rem, nl_cl, nl_n1, nl_n2, nl_n3, nl_n4, nl_add, nl_ladd, nl_aa, nl_mul, nl_rmul, nl_mm, pu_wi_1, pu_wi_2, bX12_isWalked_2, bX12_isWalked_35, bX12_isWalked_29, a_ai, a_ald, a_gr, a_iadd, a_icge, a_icne, a_ild, a_inc, a_push, a_zret, fx_71_0 hx, sh_71, sh_72, pu_rv, pu_as, Value.category, pu_bk, pu_kl, pu_qe0, pu_qe1, a0, hc, a1, c1]
      all_goals try simp [bX12_isWalked_2, bX12_isWalked_35, bX12_isWalked_29, a_ai, a_ald, a_gr, a_iadd, a_icge, a_icne, a_ild, a_inc, a_push, a_zret, fx_71_0 hx, sh_71, sh_72, pu_rv, pu_as, Value.category, pu_bk, pu_kl, List.replicate, pu_wi_1, pu_wi_2, nl_add, nl_ladd, nl_aa, nl_mul, nl_rmul, nl_mm, pu_qe0, pu_qe1, a0, hc, a1, c1]
      all_goals try simp (maxSteps := 400000) (disch := omega) [nl_tle, nl_fle, nl_tlt, nl_flt, nl_teq, nl_feq, nl_sub, nl_ss, nl_lt, nl_llt, nl_ltt, nl_le, nl_lle, nl_lee, nl_eq, nl_leq, nl_ee, nl_div, nl_rem, nl_cl, nl_n1, nl_n2, nl_n3, nl_n4, nl_add, nl_ladd, nl_aa, nl_mul, nl_rmul, nl_mm, pu_wi_1, pu_wi_2, bX12_isWalked_2, bX12_isWalked_35, bX12_isWalked_29, a_ai, a_ald, a_gr, a_iadd, a_icge, a_icne, a_ild, a_inc, a_push, a_zret, fx_71_0 hx, sh_71, sh_72, pu_rv, pu_as, Value.category, pu_bk, pu_kl, pu_qe0, pu_qe1, a0, hc, a1, c1]
    · have eq : (∃ l, i ≤ l ∧ l < cW I ∧ I 54 l = e) = (∃ l, i + 1 ≤ l ∧ l < cW I ∧ I 54 l = e) := by
        apply propext
        constructor
        · rintro ⟨l, l1, l2, l3⟩
          have : l ≠ i := fun z => c1 (by rw [← z]; exact l3)
          exact ⟨l, by omega, l2, l3⟩
        · rintro ⟨l, l1, l2, l3⟩
          exact ⟨l, by omega, l2, l3⟩
      rw [eq]
      rw [qX12_isWalked_2]
      simp [bX12_isWalked_2, bX12_isWalked_35, bX12_isWalked_29, a_ai, a_ald, a_gr, a_iadd, a_icge, a_icne, a_ild, a_inc, a_push, a_zret, fx_71_0 hx, sh_71, sh_72, pu_rv, pu_as, Value.category, pu_bk, pu_kl, List.replicate, pu_wi_1, pu_wi_2, nl_add, nl_ladd, nl_aa, nl_mul, nl_rmul, nl_mm, pu_qe0, pu_qe1, a0, hc, a1, c1, ih]
      all_goals try simp (maxSteps := 400000) (disch := omega) [nl_tle, nl_fle, nl_tlt, nl_flt, nl_teq, nl_feq, nl_sub, nl_ss, nl_lt, nl_llt, nl_ltt, nl_le, nl_lle, nl_lee, nl_eq, nl_leq, nl_ee, nl_div, nl_rem, nl_cl, nl_n1, nl_n2, nl_n3, nl_n4, nl_add, nl_ladd, nl_aa, nl_mul, nl_rmul, nl_mm, pu_wi_1, pu_wi_2, bX12_isWalked_2, bX12_isWalked_35, bX12_isWalked_29, a_ai, a_ald, a_gr, a_iadd, a_icge, a_icne, a_ild, a_inc, a_push, a_zret, fx_71_0 hx, sh_71, sh_72, pu_rv, pu_as, Value.category, pu_bk, pu_kl, pu_qe0, pu_qe1, a0, hc, a1, c1, ih]
      all_goals try simp [bX12_isWalked_2, bX12_isWalked_35, bX12_isWalked_29, a_ai, a_ald, a_gr, a_iadd, a_icge, a_icne, a_ild, a_inc, a_push, a_zret, fx_71_0 hx, sh_71, sh_72, pu_rv, pu_as, Value.category, pu_bk, pu_kl, List.replicate, pu_wi_1, pu_wi_2, nl_add, nl_ladd, nl_aa, nl_mul, nl_rmul, nl_mm, pu_qe0, pu_qe1, a0, hc, a1, c1, ih]
      all_goals try simp (maxSteps := 400000) (disch := omega) [nl_tle, nl_fle, nl_tlt, nl_flt, nl_teq, nl_feq, nl_sub, nl_ss, nl_lt, nl_llt, nl_ltt, nl_le, nl_lle, nl_lee, nl_eq, nl_leq, nl_ee, nl_div, nl_rem, nl_cl, nl_n1, nl_n2, nl_n3, nl_n4, nl_add, nl_ladd, nl_aa, nl_mul, nl_rmul, nl_mm, pu_wi_1, pu_wi_2, bX12_isWalked_2, bX12_isWalked_35, bX12_isWalked_29, a_ai, a_ald, a_gr, a_iadd, a_icge, a_icne, a_ild, a_inc, a_push, a_zret, fx_71_0 hx, sh_71, sh_72, pu_rv, pu_as, Value.category, pu_bk, pu_kl, pu_qe0, pu_qe1, a0, hc, a1, c1, ih]
theorem r_isWalked (hx : pu_fx M) (hw : pu_WF I L) (hd : pz_rd M I) (e : Int32) : pu_r 346 [some (.ref 71), some (.int e)] [] M = some (some (.int (pu_q (∃ l, l < cW I ∧ I 54 l = e))), M) := by
  have a := r_isWalked_l hx hw hd e (cW I) 0 0 rfl (by omega)
  have eq : (∃ l, 0 ≤ l ∧ l < cW I ∧ I 54 l = e) = (∃ l, l < cW I ∧ I 54 l = e) := by simp
  rw [eq] at a
  rw [qX12_isWalked]
  simp [a_ent, bX12_isWalked_0, a_ist, a_push, pu_rv, pu_as, Value.category, pu_bk, pu_kl, List.replicate, pu_wi_1, pu_wi_2, nl_add, nl_ladd, nl_aa, nl_mul, nl_rmul, nl_mm, pu_qe0, pu_qe1, a]
  all_goals try simp (maxSteps := 400000) (disch := omega) [nl_tle, nl_fle, nl_tlt, nl_flt, nl_teq, nl_feq, nl_sub, nl_ss, nl_lt, nl_llt, nl_ltt, nl_le, nl_lle, nl_lee, nl_eq, nl_leq, nl_ee, nl_div, nl_rem, nl_cl, nl_n1, nl_n2, nl_n3, nl_n4, nl_add, nl_ladd, nl_aa, nl_mul, nl_rmul, nl_mm, pu_wi_1, pu_wi_2, bX12_isWalked_0, a_ist, a_push, pu_rv, pu_as, Value.category, pu_bk, pu_kl, pu_qe0, pu_qe1, a]
  all_goals try simp [bX12_isWalked_0, a_ist, a_push, pu_rv, pu_as, Value.category, pu_bk, pu_kl, List.replicate, pu_wi_1, pu_wi_2, nl_add, nl_ladd, nl_aa, nl_mul, nl_rmul, nl_mm, pu_qe0, pu_qe1, a]
  all_goals try simp (maxSteps := 400000) (disch := omega) [nl_tle, nl_fle, nl_tlt, nl_flt, nl_teq, nl_feq, nl_sub, nl_ss, nl_lt, nl_llt, nl_ltt, nl_le, nl_lle, nl_lee, nl_eq, nl_leq, nl_ee, nl_div, nl_rem, nl_cl, nl_n1, nl_n2, nl_n3, nl_n4, nl_add, nl_ladd, nl_aa, nl_mul, nl_rmul, nl_mm, pu_wi_1, pu_wi_2, bX12_isWalked_0, a_ist, a_push, pu_rv, pu_as, Value.category, pu_bk, pu_kl, pu_qe0, pu_qe1, a]
theorem r_sort_f (hw : pu_WF I L) : ∀ (m k : Nat) (q : pz_Q) (M : pu_M) (t : Option Value), k + m = cE I → pu_fx M → pz_rd M I → pz_rq M I q → pz_q2 I k q → ∃ N, pz_72 M N ∧ pz_rq N I (pz_qf I m k q) ∧ pu_r 531 [some (.ref 71), some (.int (nI (cE I))), some (.int (nI q.2)), some (.int (nI k)), t] [] M = some (some (.int (nI (cE I))), pu_wi (pu_wi N 72 13 (nI (cE I))) 72 10 0)
  | 0, k, q, M, t, h, hx, hd, hc, hq => by
    have hE := wx_bE hw
    have z : nI (cE I) ≤ nI k := nI_le (by omega) (by omega)
    refine ⟨M, ⟨rfl, fun _ _ _ => rfl⟩, hc, ?_⟩
    rw [qX12_sort_115]
    simp [bX12_sort_115, bX12_sort_186, bX12_sort_140, bX12_sort_176, bX12_sort_180, a_ai, a_ald, a_cv, a_gr, a_iadd, a_icge, a_ifeq, a_ild, a_imul, a_inc, a_iret, a_push, a_wi, fx_71_0 hx, sh_71, sh_72, pu_rv, pu_as, Value.category, pu_bk, pu_kl, List.replicate, pu_wi_1, pu_wi_2, nl_add, nl_ladd, nl_aa, nl_mul, nl_rmul, nl_mm, pu_qe0, pu_qe1, z]
    all_goals try simp (maxSteps := 400000) (disch := omega) [nl_tle, nl_fle, nl_tlt, nl_flt, nl_teq, nl_feq, nl_sub, nl_ss, nl_lt, nl_llt, nl_ltt, nl_le, nl_lle, nl_lee, nl_eq, nl_leq, nl_ee, nl_div, nl_rem, nl_cl, nl_n1, nl_n2, nl_n3, nl_n4, nl_add, nl_ladd, nl_aa, nl_mul, nl_rmul, nl_mm, pu_wi_1, pu_wi_2, bX12_sort_115, bX12_sort_186, bX12_sort_140, bX12_sort_176, bX12_sort_180, a_ai, a_ald, a_cv, a_gr, a_iadd, a_icge, a_ifeq, a_ild, a_imul, a_inc, a_iret, a_push, a_wi, fx_71_0 hx, sh_71, sh_72, pu_rv, pu_as, Value.category, pu_bk, pu_kl, pu_qe0, pu_qe1, z]
    all_goals try simp [bX12_sort_115, bX12_sort_186, bX12_sort_140, bX12_sort_176, bX12_sort_180, a_ai, a_ald, a_cv, a_gr, a_iadd, a_icge, a_ifeq, a_ild, a_imul, a_inc, a_iret, a_push, a_wi, fx_71_0 hx, sh_71, sh_72, pu_rv, pu_as, Value.category, pu_bk, pu_kl, List.replicate, pu_wi_1, pu_wi_2, nl_add, nl_ladd, nl_aa, nl_mul, nl_rmul, nl_mm, pu_qe0, pu_qe1, z]
    all_goals try simp (maxSteps := 400000) (disch := omega) [nl_tle, nl_fle, nl_tlt, nl_flt, nl_teq, nl_feq, nl_sub, nl_ss, nl_lt, nl_llt, nl_ltt, nl_le, nl_lle, nl_lee, nl_eq, nl_leq, nl_ee, nl_div, nl_rem, nl_cl, nl_n1, nl_n2, nl_n3, nl_n4, nl_add, nl_ladd, nl_aa, nl_mul, nl_rmul, nl_mm, pu_wi_1, pu_wi_2, bX12_sort_115, bX12_sort_186, bX12_sort_140, bX12_sort_176, bX12_sort_180, a_ai, a_ald, a_cv, a_gr, a_iadd, a_icge, a_ifeq, a_ild, a_imul, a_inc, a_iret, a_push, a_wi, fx_71_0 hx, sh_71, sh_72, pu_rv, pu_as, Value.category, pu_bk, pu_kl, pu_qe0, pu_qe1, z]
  | m + 1, k, q, M, t, h, hx, hd, hc, hq => by
    have hE := wx_bE hw
    have z : ¬ nI (cE I) ≤ nI k := nI_ge (by omega) (by omega)
    obtain ⟨s1, s2⟩ := pz_q2_s (by omega) hq
    have a1 := hd.2.1 k (by omega)
    have ew := r_isWalked hx hw hd (I 55 k)
    rw [pz_qf]
    by_cases nw : ∃ i, i < cW I ∧ I 54 i = I 55 k
    · rw [if_pos nw]
      rw [pu_q1 nw] at ew
      obtain ⟨O, o1, o2, o3⟩ := r_sort_f hw m (k + 1) q M t (by omega) hx hd hc (s1 nw)
      refine ⟨O, o1, o2, ?_⟩
      rw [qX12_sort_115]
      simp [bX12_sort_115, bX12_sort_186, bX12_sort_140, bX12_sort_176, bX12_sort_180, a_ai, a_ald, a_cv, a_gr, a_iadd, a_icge, a_ifeq, a_ild, a_imul, a_inc, a_iret, a_push, a_wi, fx_71_0 hx, sh_71, sh_72, pu_rv, pu_as, Value.category, pu_bk, pu_kl, List.replicate, pu_wi_1, pu_wi_2, nl_add, nl_ladd, nl_aa, nl_mul, nl_rmul, nl_mm, pu_qe0, pu_qe1, z, a1, ew, o3]
      all_goals try simp (maxSteps := 400000) (disch := omega) [nl_tle, nl_fle, nl_tlt, nl_flt, nl_teq, nl_feq, nl_sub, nl_ss, nl_lt, nl_llt, nl_ltt, nl_le, nl_lle, nl_lee, nl_eq, nl_leq, nl_ee, nl_div, nl_rem, nl_cl, nl_n1, nl_n2, nl_n3, nl_n4, nl_add, nl_ladd, nl_aa, nl_mul, nl_rmul, nl_mm, pu_wi_1, pu_wi_2, bX12_sort_115, bX12_sort_186, bX12_sort_140, bX12_sort_176, bX12_sort_180, a_ai, a_ald, a_cv, a_gr, a_iadd, a_icge, a_ifeq, a_ild, a_imul, a_inc, a_iret, a_push, a_wi, fx_71_0 hx, sh_71, sh_72, pu_rv, pu_as, Value.category, pu_bk, pu_kl, pu_qe0, pu_qe1, z, a1, ew, o3]
      all_goals try simp [bX12_sort_115, bX12_sort_186, bX12_sort_140, bX12_sort_176, bX12_sort_180, a_ai, a_ald, a_cv, a_gr, a_iadd, a_icge, a_ifeq, a_ild, a_imul, a_inc, a_iret, a_push, a_wi, fx_71_0 hx, sh_71, sh_72, pu_rv, pu_as, Value.category, pu_bk, pu_kl, List.replicate, pu_wi_1, pu_wi_2, nl_add, nl_ladd, nl_aa, nl_mul, nl_rmul, nl_mm, pu_qe0, pu_qe1, z, a1, ew, o3]
      all_goals try simp (maxSteps := 400000) (disch := omega) [nl_tle, nl_fle, nl_tlt, nl_flt, nl_teq, nl_feq, nl_sub, nl_ss, nl_lt, nl_llt, nl_ltt, nl_le, nl_lle, nl_lee, nl_eq, nl_leq, nl_ee, nl_div, nl_rem, nl_cl, nl_n1, nl_n2, nl_n3, nl_n4, nl_add, nl_ladd, nl_aa, nl_mul, nl_rmul, nl_mm, pu_wi_1, pu_wi_2, bX12_sort_115, bX12_sort_186, bX12_sort_140, bX12_sort_176, bX12_sort_180, a_ai, a_ald, a_cv, a_gr, a_iadd, a_icge, a_ifeq, a_ild, a_imul, a_inc, a_iret, a_push, a_wi, fx_71_0 hx, sh_71, sh_72, pu_rv, pu_as, Value.category, pu_bk, pu_kl, pu_qe0, pu_qe1, z, a1, ew, o3]
    · rw [if_neg nw]
      rw [pu_q0 nw] at ew
      obtain ⟨s3, s4⟩ := s2 nw
      obtain ⟨n1, n2⟩ := pz_rq_a q k hc (by omega)
      obtain ⟨O, o1, o2, o3⟩ := r_sort_f hw m (k + 1) (pz_qa k q) _ t (by omega) (pz_72_x n1 hx) (pz_rd_t hw n1 hd) n2 s3
      refine ⟨O, pz_72_t n1 o1, o2, ?_⟩
      rw [← o3]
      have i1 : 59888 + 2 * q.2 ≠ 59528 + k := by omega
      show _ = pu_r _ [some (.ref 71), some (.int (nI (cE I))), some (.int (nI (q.2 + 1))), some (.int (nI (k + 1))), t] [] _
      rw [qX12_sort_115]
      simp [bX12_sort_115, bX12_sort_186, bX12_sort_140, bX12_sort_176, bX12_sort_180, a_ai, a_ald, a_cv, a_gr, a_iadd, a_icge, a_ifeq, a_ild, a_imul, a_inc, a_iret, a_push, a_wi, fx_71_0 hx, sh_71, sh_72, pu_rv, pu_as, Value.category, pu_bk, pu_kl, List.replicate, pu_wi_1, pu_wi_2, nl_add, nl_ladd, nl_aa, nl_mul, nl_rmul, nl_mm, pu_qe0, pu_qe1, z, a1, ew]
      all_goals try simp (maxSteps := 400000) (disch := omega) [nl_tle, nl_fle, nl_tlt, nl_flt, nl_teq, nl_feq, nl_sub, nl_ss, nl_lt, nl_llt, nl_ltt, nl_le, nl_lle, nl_lee, nl_eq, nl_leq, nl_ee, nl_div, nl_rem, nl_cl, nl_n1, nl_n2, nl_n3, nl_n4, nl_add, nl_ladd, nl_aa, nl_mul, nl_rmul, nl_mm, pu_wi_1, pu_wi_2, bX12_sort_115, bX12_sort_186, bX12_sort_140, bX12_sort_176, bX12_sort_180, a_ai, a_ald, a_cv, a_gr, a_iadd, a_icge, a_ifeq, a_ild, a_imul, a_inc, a_iret, a_push, a_wi, fx_71_0 hx, sh_71, sh_72, pu_rv, pu_as, Value.category, pu_bk, pu_kl, pu_qe0, pu_qe1, z, a1, ew]
      all_goals try simp [bX12_sort_115, bX12_sort_186, bX12_sort_140, bX12_sort_176, bX12_sort_180, a_ai, a_ald, a_cv, a_gr, a_iadd, a_icge, a_ifeq, a_ild, a_imul, a_inc, a_iret, a_push, a_wi, fx_71_0 hx, sh_71, sh_72, pu_rv, pu_as, Value.category, pu_bk, pu_kl, List.replicate, pu_wi_1, pu_wi_2, nl_add, nl_ladd, nl_aa, nl_mul, nl_rmul, nl_mm, pu_qe0, pu_qe1, z, a1, ew]
      all_goals try simp (maxSteps := 400000) (disch := omega) [nl_tle, nl_fle, nl_tlt, nl_flt, nl_teq, nl_feq, nl_sub, nl_ss, nl_lt, nl_llt, nl_ltt, nl_le, nl_lle, nl_lee, nl_eq, nl_leq, nl_ee, nl_div, nl_rem, nl_cl, nl_n1, nl_n2, nl_n3, nl_n4, nl_add, nl_ladd, nl_aa, nl_mul, nl_rmul, nl_mm, pu_wi_1, pu_wi_2, bX12_sort_115, bX12_sort_186, bX12_sort_140, bX12_sort_176, bX12_sort_180, a_ai, a_ald, a_cv, a_gr, a_iadd, a_icge, a_ifeq, a_ild, a_imul, a_inc, a_iret, a_push, a_wi, fx_71_0 hx, sh_71, sh_72, pu_rv, pu_as, Value.category, pu_bk, pu_kl, pu_qe0, pu_qe1, z, a1, ew]
end
theorem op_sort : pu_op pu_Inv 216 351 [] := by
  intro M h
  have hx := h.1
  have hI := pu_ag5 M
  have hr := pu_hR h
  have hw := pu_hS h
  have hE := wx_bE hw
  have hW := wx_bW hw
  have hSt := h.2.2.2.1
  obtain ⟨I, hJ⟩ : ∃ I, I = pu_si M 5 := ⟨_, rfl⟩
  rw [← hJ] at hI hr hw hE hW hSt
  have m5 : M.1 45 5 = nI (cW I) := by rw [ag_45 hI, wx_cW hw]
  have m6 : M.1 45 6 = nI (cE I) := by rw [ag_45 hI, wx_cE hw]
  have w0 : pz_qw I 0 0 ((fun _ => 0, 0) : pz_Q) := ⟨fun a ha => absurd ha (Nat.not_lt_zero a), fun a b _ hb => absurd hb (Nat.not_lt_zero b), fun c _ hs => by
    rcases hs with ⟨l, l1, _⟩ | ⟨_, l1⟩ <;> omega⟩
  -- the class
  obtain ⟨P, hP⟩ : ∃ P, P = pu_wi M 45 7 0 := ⟨_, rfl⟩
  have oP : ∀ a j, ¬ (a = 45 ∧ j = 7) → P.1 a j = M.1 a j := fun a j q => by
    rw [hP, pu_wi_1]
    grind
  have hxP : pu_fx P := by rw [hP]; exact hx
  obtain ⟨N, n1, n2, n3, n4⟩ := c_so_l hw (cW I) 0 ((fun _ => 0, 0) : pz_Q) P (by omega) hxP (by rw [oP _ _ (by omega)]; exact m5) (by rw [oP _ _ (by omega)]; exact m6) (fun j => by rw [oP _ _ (by omega)]; exact ag_55 hI j) (fun j => by rw [oP _ _ (by omega)]; exact ag_54 hI j) ⟨by rw [hP]; simp [pu_wi_1]; rfl, fun j hj => absurd hj (Nat.not_lt_zero j)⟩ w0
  have oN : ∀ a j, ¬ (a = 45 ∧ j = 7) → a ≠ 56 → a ≠ 57 → N.1 a j = M.1 a j := fun a j q1 q2 q3 => (n1.2 a j q1 q2 q3).trans (oP a j q1)
  obtain ⟨O, o1, o2, o3, o4⟩ := c_sf_l hw (cE I) 0 (pz_qo I (cW I) 0 ((fun _ => 0, 0) : pz_Q)) N (by omega) (pz_57_x n1 hxP) (by rw [oN _ _ (by omega) (by omega) (by omega)]; exact m5) (by rw [oN _ _ (by omega) (by omega) (by omega)]; exact m6) (fun j => by rw [oN _ _ (by omega) (by omega) (by omega)]; exact ag_55 hI j) (fun j => by rw [oN _ _ (by omega) (by omega) (by omega)]; exact ag_54 hI j) n2 (pz_q2_0 n3)
  have len := pz_q2_e o3
  -- the reference
  obtain ⟨Q, hQ⟩ : ∃ Q, Q = pu_wi O 45 6 0 := ⟨_, rfl⟩
  have oQ : ∀ a j, ¬ (a = 45 ∧ (j = 6 ∨ j = 7)) → a ≠ 56 → a ≠ 57 → Q.1 a j = M.1 a j := fun a j q1 q2 q3 => by
    rw [hQ, pu_wi_1]
    have := (o1.2 a j (by omega) q2 q3).trans (oN a j (by omega) q2 q3)
    grind
  have hQ2 : Q.2 = M.2 := by rw [hQ]; exact (o1.1.trans n1.1).trans (by rw [hP]; rfl)
  have hxQ : pu_fx Q := fun a k r q => by
    rw [hQ2]
    exact hx a k r q
  have s72 : Q.1 72 = M.1 72 := funext (fun j => oQ 72 j (by omega) (by omega) (by omega))
  have rd : pz_rd Q I := by
    unfold pz_rd
    rw [s72]
    exact ⟨rl_h12 hr, rl_eE hr, rl_eW hr⟩
  obtain ⟨R, u, r1, r2, r3, r4⟩ := r_sort_o hw (cW I) 0 ((fun _ => 0, 0) : pz_Q) Q none (by omega) hxQ rd (fun j hj => absurd hj (Nat.not_lt_zero j)) w0
  obtain ⟨T, t1, t2, t3⟩ := r_sort_f hw (cE I) 0 (pz_qo I (cW I) 0 ((fun _ => 0, 0) : pz_Q)) R u (by omega) (pz_72_x r1 hxQ) (pz_rd_t hw r1 rd) r2 (pz_q2_0 r3)
  have r5 := r4.trans t3
  rw [show nI ((fun _ => 0, 0) : pz_Q).2 = 0 from rfl] at r5
  rw [len] at o4
  have o5 := n4.trans o4
  rw [nI_0] at o5
  rw [← hQ] at o5
  generalize hz : pz_qf I (cE I) 0 (pz_qo I (cW I) 0 ((fun _ => 0, 0) : pz_Q)) = z at *
  have oT : ∀ a j, ¬ (a = 72 ∧ 59888 ≤ j ∧ j < 60008) → T.1 a j = Q.1 a j := fun a j q => (t1.2 a j q).trans (r1.2 a j q)
  refine ⟨nI (cE I), Q, pu_wi (pu_wi T 72 13 (nI (cE I))) 72 10 0, ?_, ?_, ?_⟩
  · have sl : pu_r 215 [some (.ref 45)] [] M = some (some (.int (nI (cE I))), Q) := by
      rw [hP] at o5
      rw [qX1_sortLetters]
      simp [a_ent, bX1_sortLetters_0, a_ald, a_ist, a_pi, a_push, sh_45, pu_rv, pu_as, Value.category, pu_bk, pu_kl, List.replicate, pu_wi_1, pu_wi_2, nl_add, nl_ladd, nl_aa, nl_mul, nl_rmul, nl_mm, pu_qe0, pu_qe1, o5]
      all_goals try simp (maxSteps := 400000) (disch := omega) [nl_tle, nl_fle, nl_tlt, nl_flt, nl_teq, nl_feq, nl_sub, nl_ss, nl_lt, nl_llt, nl_ltt, nl_le, nl_lle, nl_lee, nl_eq, nl_leq, nl_ee, nl_div, nl_rem, nl_cl, nl_n1, nl_n2, nl_n3, nl_n4, nl_add, nl_ladd, nl_aa, nl_mul, nl_rmul, nl_mm, pu_wi_1, pu_wi_2, bX1_sortLetters_0, a_ald, a_ist, a_pi, a_push, sh_45, pu_rv, pu_as, Value.category, pu_bk, pu_kl, pu_qe0, pu_qe1, o5]
      all_goals try simp [bX1_sortLetters_0, a_ald, a_ist, a_pi, a_push, sh_45, pu_rv, pu_as, Value.category, pu_bk, pu_kl, List.replicate, pu_wi_1, pu_wi_2, nl_add, nl_ladd, nl_aa, nl_mul, nl_rmul, nl_mm, pu_qe0, pu_qe1, o5]
      all_goals try simp (maxSteps := 400000) (disch := omega) [nl_tle, nl_fle, nl_tlt, nl_flt, nl_teq, nl_feq, nl_sub, nl_ss, nl_lt, nl_llt, nl_ltt, nl_le, nl_lle, nl_lee, nl_eq, nl_leq, nl_ee, nl_div, nl_rem, nl_cl, nl_n1, nl_n2, nl_n3, nl_n4, nl_add, nl_ladd, nl_aa, nl_mul, nl_rmul, nl_mm, pu_wi_1, pu_wi_2, bX1_sortLetters_0, a_ald, a_ist, a_pi, a_push, sh_45, pu_rv, pu_as, Value.category, pu_bk, pu_kl, pu_qe0, pu_qe1, o5]
    rw [qX11_sort]
    simp [a_ent, bX11_sort_0, a_ald, a_cv, a_gr, a_iret, fx_0_2 hx, fx_5_6 hx, sh_0, sh_45, sh_5, pu_rv, pu_as, Value.category, pu_bk, pu_kl, List.replicate, pu_wi_1, pu_wi_2, nl_add, nl_ladd, nl_aa, nl_mul, nl_rmul, nl_mm, pu_qe0, pu_qe1, sl]
    all_goals try simp (maxSteps := 400000) (disch := omega) [nl_tle, nl_fle, nl_tlt, nl_flt, nl_teq, nl_feq, nl_sub, nl_ss, nl_lt, nl_llt, nl_ltt, nl_le, nl_lle, nl_lee, nl_eq, nl_leq, nl_ee, nl_div, nl_rem, nl_cl, nl_n1, nl_n2, nl_n3, nl_n4, nl_add, nl_ladd, nl_aa, nl_mul, nl_rmul, nl_mm, pu_wi_1, pu_wi_2, bX11_sort_0, a_ald, a_cv, a_gr, a_iret, fx_0_2 hx, fx_5_6 hx, sh_0, sh_45, sh_5, pu_rv, pu_as, Value.category, pu_bk, pu_kl, pu_qe0, pu_qe1, sl]
    all_goals try simp [bX11_sort_0, a_ald, a_cv, a_gr, a_iret, fx_0_2 hx, fx_5_6 hx, sh_0, sh_45, sh_5, pu_rv, pu_as, Value.category, pu_bk, pu_kl, List.replicate, pu_wi_1, pu_wi_2, nl_add, nl_ladd, nl_aa, nl_mul, nl_rmul, nl_mm, pu_qe0, pu_qe1, sl]
    all_goals try simp (maxSteps := 400000) (disch := omega) [nl_tle, nl_fle, nl_tlt, nl_flt, nl_teq, nl_feq, nl_sub, nl_ss, nl_lt, nl_llt, nl_ltt, nl_le, nl_lle, nl_lee, nl_eq, nl_leq, nl_ee, nl_div, nl_rem, nl_cl, nl_n1, nl_n2, nl_n3, nl_n4, nl_add, nl_ladd, nl_aa, nl_mul, nl_rmul, nl_mm, pu_wi_1, pu_wi_2, bX11_sort_0, a_ald, a_cv, a_gr, a_iret, fx_0_2 hx, fx_5_6 hx, sh_0, sh_45, sh_5, pu_rv, pu_as, Value.category, pu_bk, pu_kl, pu_qe0, pu_qe1, sl]
  · have a10 : Q.1 72 10 = nI (cE I) := by rw [s72]; exact rl_h10 hr
    have hx := hxQ
    rw [qX12_sort]
    simp [a_ent, bX12_sort_0, a_ai, a_ald, a_gr, a_ist, a_push, fx_71_0 hx, sh_71, sh_72, pu_rv, pu_as, Value.category, pu_bk, pu_kl, List.replicate, pu_wi_1, pu_wi_2, nl_add, nl_ladd, nl_aa, nl_mul, nl_rmul, nl_mm, pu_qe0, pu_qe1, a10, r5]
    all_goals try simp (maxSteps := 400000) (disch := omega) [nl_tle, nl_fle, nl_tlt, nl_flt, nl_teq, nl_feq, nl_sub, nl_ss, nl_lt, nl_llt, nl_ltt, nl_le, nl_lle, nl_lee, nl_eq, nl_leq, nl_ee, nl_div, nl_rem, nl_cl, nl_n1, nl_n2, nl_n3, nl_n4, nl_add, nl_ladd, nl_aa, nl_mul, nl_rmul, nl_mm, pu_wi_1, pu_wi_2, bX12_sort_0, a_ai, a_ald, a_gr, a_ist, a_push, fx_71_0 hx, sh_71, sh_72, pu_rv, pu_as, Value.category, pu_bk, pu_kl, pu_qe0, pu_qe1, a10, r5]
    all_goals try simp [bX12_sort_0, a_ai, a_ald, a_gr, a_ist, a_push, fx_71_0 hx, sh_71, sh_72, pu_rv, pu_as, Value.category, pu_bk, pu_kl, List.replicate, pu_wi_1, pu_wi_2, nl_add, nl_ladd, nl_aa, nl_mul, nl_rmul, nl_mm, pu_qe0, pu_qe1, a10, r5]
    all_goals try simp (maxSteps := 400000) (disch := omega) [nl_tle, nl_fle, nl_tlt, nl_flt, nl_teq, nl_feq, nl_sub, nl_ss, nl_lt, nl_llt, nl_ltt, nl_le, nl_lle, nl_lee, nl_eq, nl_leq, nl_ee, nl_div, nl_rem, nl_cl, nl_n1, nl_n2, nl_n3, nl_n4, nl_add, nl_ladd, nl_aa, nl_mul, nl_rmul, nl_mm, pu_wi_1, pu_wi_2, bX12_sort_0, a_ai, a_ald, a_gr, a_ist, a_push, fx_71_0 hx, sh_71, sh_72, pu_rv, pu_as, Value.category, pu_bk, pu_kl, pu_qe0, pu_qe1, a10, r5]
  · have e2 : (pu_wi (pu_wi T 72 13 (nI (cE I))) 72 10 0).2 = M.2 := (t1.1.trans r1.1).trans hQ2
    have oW : ∀ a j, a ≠ 72 → (pu_wi (pu_wi T 72 13 (nI (cE I))) 72 10 0).1 a j = Q.1 a j := fun a j q => by
      simp only [pu_wi_1]
      rw [if_neg q, if_neg q]
      exact oT a j (fun y => q y.1)
    have oS : ∀ j, j ≠ 10 → j ≠ 13 → ¬ (59888 ≤ j ∧ j < 60008) → (pu_wi (pu_wi T 72 13 (nI (cE I))) 72 10 0).1 72 j = M.1 72 j := fun j q1 q2 q3 => by
      simp only [pu_wi_1, q1, q2, if_true, if_false]
      rw [oT 72 j (fun y => q3 y.2), s72]
    have oZ : ∀ j, 59888 ≤ j → (pu_wi (pu_wi T 72 13 (nI (cE I))) 72 10 0).1 72 j = T.1 72 j := fun j q1 => by
      simp only [pu_wi_1, if_true]
      rw [if_neg (by omega), if_neg (by omega)]
    have s13 : (pu_wi (pu_wi T 72 13 (nI (cE I))) 72 10 0).1 72 13 = nI (cE I) := by simp [pu_wi_1]
    have s10 : (pu_wi (pu_wi T 72 13 (nI (cE I))) 72 10 0).1 72 10 = 0 := by simp [pu_wi_1]
    generalize pu_wi (pu_wi T 72 13 (nI (cE I))) 72 10 0 = X at *
    refine pu_Inv_ws h e2 (fun a j q => ?_) ?_
    · rw [oW a j (by omega), oQ a j (by omega) (by omega) (by omega)]
    · have eX : pu_si X 5 = pu_si Q 5 := pu_si_eq (fun a j q1 q2 => oW a j (by omega))
      rw [eX]
      have aQ := pu_ag5 Q
      obtain ⟨K, hK⟩ : ∃ K, K = pu_si Q 5 := ⟨_, rfl⟩
      rw [← hK] at aQ ⊢
      have kI : ∀ a j, 5 ≤ a → a < 58 → ¬ (a = 45 ∧ (j = 6 ∨ j = 7)) → a ≠ 56 → a ≠ 57 → K a j = I a j := fun a j q1 q2 q3 q4 q5 => by
        rw [← aQ a j q1 q2, oQ a j q3 q4 q5, hI a j q1 q2]
      have k6 : K 45 6 = 0 := by
        rw [← aQ 45 6 (by omega) (by omega), hQ]
        simp [pu_wi_1]
      have k7 : K 45 7 = nI (cE I) := by
        rw [← aQ 45 7 (by omega) (by omega), hQ]
        simp only [pu_wi_1]
        simp
        rw [o2.1, len]
      have kz : ∀ j, j < cE I → K 56 j = nI (z.1 j) ∧ K 57 j = I 55 (z.1 j) := fun j hj => by
        rw [← aQ 56 j (by omega) (by omega), ← aQ 57 j (by omega) (by omega), hQ]
        simp only [pu_wi_1]
        simp
        exact o2.2 j (by omega)
      have c6 : cE K = 0 := by unfold cE; rw [k6]; decide
      have c7 : cO K = cE I := by unfold cO; rw [k7, nI_clamp (by omega)]
      have cq : cQ K = cQ I := by unfold cQ; rw [kI _ _ (by omega) (by omega) (by omega) (by omega) (by omega)]
      have cr : cR K = cR I := by unfold cR; rw [kI _ _ (by omega) (by omega) (by omega) (by omega) (by omega)]
      have cs : cS K = cS I := by unfold cS; rw [kI _ _ (by omega) (by omega) (by omega) (by omega) (by omega)]
      have cw : cW K = cW I := by unfold cW; rw [kI _ _ (by omega) (by omega) (by omega) (by omega) (by omega)]
      have eK : K = pu_dk I K := pu_dk_e (fun a j ha => by
        by_cases q : 5 ≤ a
        · exact kI a j q (by omega) (by omega) (by omega) (by omega)
        · rw [hK, hJ]
          unfold pu_si
          rw [if_neg (by omega), if_neg (by omega)])
      rw [eK]
      obtain ⟨⟨k1, k2, k3⟩, hh, he⟩ : w_dk I ∧ h_dk I (M.1 72) ∧ rl_e I (M.1 72) := ⟨w_dk_of hw, h_dk_of hr, rg_e hr⟩
      have kk : ∀ a j, 46 ≤ a → a < 56 → K a j = I a j := fun a j q1 q2 => kI a j (by omega) (by omega) (by omega) (by omega) (by omega)
      refine St_desk hSt (fun j hj => oS j (by omega) (by omega) (by omega)) ⟨⟨?_, ?_, ?_, ?_, ?_, ?_⟩, ⟨by omega, by omega, by omega, by omega, by omega, by omega⟩, fun k hk => ?_, fun a b hab hb => ?_⟩ ⟨?_, ?_, ?_, ?_, ?_, ?_, ?_, ?_⟩ ⟨fun k hk => ?_, fun k hk => ?_, fun k hk => ?_, fun k hk => ?_, fun k hk => ?_, fun k hk => ?_, fun k hk => ?_, fun k hk => ?_, fun k hk => ?_, fun k hk => ?_⟩
      · rw [cq, kI _ _ (by omega) (by omega) (by omega) (by omega) (by omega)]; exact k1.1
      · rw [cr, kI _ _ (by omega) (by omega) (by omega) (by omega) (by omega)]; exact k1.2.1
      · rw [cs, kI _ _ (by omega) (by omega) (by omega) (by omega) (by omega)]; exact k1.2.2.1
      · rw [cw, kI _ _ (by omega) (by omega) (by omega) (by omega) (by omega)]; exact k1.2.2.2.1
      · rw [c6, k6]; rfl
      · rw [c7, k7]
      · rw [kk _ _ (by omega) (by omega)]
        exact k3.1 k (by omega)
      · rw [kk _ _ (by omega) (by omega), kk _ _ (by omega) (by omega)]
        exact k3.2 a b hab (by omega)
      · rw [oS _ (by omega) (by omega) (by omega), cs]; exact hh.1
      · rw [s10, c6]; rfl
      · rw [oS _ (by omega) (by omega) (by omega), cq]; exact hh.2.2.1
      · rw [oS _ (by omega) (by omega) (by omega), cw]; exact hh.2.2.2.1
      · rw [s13, c7]
      · rw [oS _ (by omega) (by omega) (by omega), cr]; exact hh.2.2.2.2.2.1
      · rw [oS _ (by omega) (by omega) (by omega), kI _ _ (by omega) (by omega) (by omega) (by omega) (by omega)]; exact hh.2.2.2.2.2.2.1
      · rw [oS _ (by omega) (by omega) (by omega), kI _ _ (by omega) (by omega) (by omega) (by omega) (by omega)]; exact hh.2.2.2.2.2.2.2
      · rw [oS _ (by omega) (by omega) (by omega), kk _ _ (by omega) (by omega)]; exact he.1 k (by omega)
      · rw [oS _ (by omega) (by omega) (by omega), kk _ _ (by omega) (by omega)]; exact he.2.1 k (by omega)
      · omega
      · rw [oS _ (by omega) (by omega) (by omega), kk _ _ (by omega) (by omega)]; exact he.2.2.2.1 k (by omega)
      · rw [oS _ (by omega) (by omega) (by omega), kk _ _ (by omega) (by omega)]; exact he.2.2.2.2.1 k (by omega)
      · rw [oS _ (by omega) (by omega) (by omega), kk _ _ (by omega) (by omega)]; exact he.2.2.2.2.2.1 k (by omega)
      · rw [oZ _ (by omega), (kz k (by omega)).1]; exact (t2 k (by omega)).1
      · rw [oZ _ (by omega), (kz k (by omega)).2]; exact (t2 k (by omega)).2
      · rw [oS _ (by omega) (by omega) (by omega), kk _ _ (by omega) (by omega)]; exact he.2.2.2.2.2.2.2.2.1 k (by omega)
      · rw [oS _ (by omega) (by omega) (by omega), kk _ _ (by omega) (by omega)]; exact he.2.2.2.2.2.2.2.2.2 k (by omega)
