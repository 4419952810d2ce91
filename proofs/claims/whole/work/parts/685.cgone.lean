/-! gone: the class's loops -/
def py_c18 (M N : pu_M) (a p : Int32) (i : Nat) : Prop := N.2 = M.2 ∧ (∀ x k, x ≠ 18 → N.1 x k = M.1 x k) ∧ ∀ k, (k < i ∧ M.1 15 k = a ∧ M.1 18 k = -1 → N.1 18 k = p) ∧ (¬ (k < i ∧ M.1 15 k = a ∧ M.1 18 k = -1) → N.1 18 k = M.1 18 k)
theorem c_close_l {M : pu_M} (hx : pu_fx M) (n : Nat) (hn : M.1 14 0 = nI n) (hl : n ≤ 3000) (a p : Int32) : ∀ m i (N : pu_M), i + m = n → py_c18 M N a p i → ∃ F, py_c18 M F a p n ∧ pu_r 379 [some (.ref 14), some (.int a), some (.int p), some (.int (nI i))] [] N = some (none, F)
  | 0, i, N, h, g => by
    have hxN : pu_fx N := pz_fx_of hx g.1
    have hnN : N.1 14 0 = nI n := by rw [g.2.1 14 0 (by omega)]; exact hn
    refine ⟨N, by rw [← h]; exact g, ?_⟩
    have hc : nI n ≤ nI i := nI_le (by omega) (by omega)
    rw [qX4_close_2]
    simp [bX4_close_2, bX4_close_43, bX4_close_37, a_ai, a_ald, a_gi, a_gr, a_icge, a_icne, a_ild, a_inc, a_push, a_vret, a_wi, sh_14, sh_15, sh_18, pu_rv, pu_as, Value.category, pu_bk, pu_kl, List.replicate, pu_wi_1, pu_wi_2, nl_add, nl_ladd, nl_aa, nl_mul, nl_rmul, nl_mm, pu_qe0, pu_qe1, hnN, hc]
    all_goals try simp (maxSteps := 400000) (disch := omega) [nl_tle, nl_fle, nl_tlt, nl_flt, nl_teq, nl_feq, nl_sub, nl_ss, nl_lt, nl_llt, nl_ltt, nl_le, nl_lle, nl_lee, nl_eq, nl_leq, nl_ee, nl_div, nl_rem, nl_cl, nl_n1, nl_n2, nl_n3, nl_n4, nl_add, nl_ladd, nl_aa, nl_mul, nl_rmul, nl_mm, pu_wi_1, pu_wi_2, bX4_close_2, bX4_close_43, bX4_close_37, a_ai, a_ald, a_gi, a_gr, a_icge, a_icne, a_ild, a_inc, a_push, a_vret, a_wi, sh_14, sh_15, sh_18, pu_rv, pu_as, Value.category, pu_bk, pu_kl, pu_qe0, pu_qe1, hnN, hc]
    all_goals try simp [bX4_close_2, bX4_close_43, bX4_close_37, a_ai, a_ald, a_gi, a_gr, a_icge, a_icne, a_ild, a_inc, a_push, a_vret, a_wi, sh_14, sh_15, sh_18, pu_rv, pu_as, Value.category, pu_bk, pu_kl, List.replicate, pu_wi_1, pu_wi_2, nl_add, nl_ladd, nl_aa, nl_mul, nl_rmul, nl_mm, pu_qe0, pu_qe1, hnN, hc]
    all_goals try simp (maxSteps := 400000) (disch := omega) [nl_tle, nl_fle, nl_tlt, nl_flt, nl_teq, nl_feq, nl_sub, nl_ss, nl_lt, nl_llt, nl_ltt, nl_le, nl_lle, nl_lee, nl_eq, nl_leq, nl_ee, nl_div, nl_rem, nl_cl, nl_n1, nl_n2, nl_n3, nl_n4, nl_add, nl_ladd, nl_aa, nl_mul, nl_rmul, nl_mm, pu_wi_1, pu_wi_2, bX4_close_2, bX4_close_43, bX4_close_37, a_ai, a_ald, a_gi, a_gr, a_icge, a_icne, a_ild, a_inc, a_push, a_vret, a_wi, sh_14, sh_15, sh_18, pu_rv, pu_as, Value.category, pu_bk, pu_kl, pu_qe0, pu_qe1, hnN, hc]
  | m + 1, i, N, h, g => by
    have hxN : pu_fx N := pz_fx_of hx g.1
    have hnN : N.1 14 0 = nI n := by rw [g.2.1 14 0 (by omega)]; exact hn
    have hc : ¬ nI n ≤ nI i := nI_ge (by omega) (by omega)
    have q1 : N.1 15 i = M.1 15 i := g.2.1 15 i (by omega)
    have q2 : N.1 18 i = M.1 18 i := (g.2.2 i).2 (by omega)
    have f1 := fx_14_1 hxN
    have f4 := fx_14_4 hxN
    by_cases c1 : M.1 15 i = a
    · by_cases c2 : M.1 18 i = -1
      · have g2 : py_c18 M (pu_wi N 18 i p) a p (i + 1) := by
          refine ⟨g.1, fun x k hk => ?_, fun k => ⟨fun hk => ?_, fun hk => ?_⟩⟩
          · rw [py_wi_o (by omega)]
            exact g.2.1 x k hk
          · by_cases z : k = i
            · subst z
              simp [pu_wi_1]
            · rw [py_wi_o (by omega)]
              exact (g.2.2 k).1 ⟨by omega, hk.2⟩
          · by_cases z : k = i
            · subst z
              exact absurd ⟨by omega, c1, c2⟩ hk
            · rw [py_wi_o (by omega)]
              exact (g.2.2 k).2 (fun y => hk ⟨by omega, y.2⟩)
        obtain ⟨F, F1, F2⟩ := c_close_l hx n hn hl a p m (i + 1) (pu_wi N 18 i p) (by omega) g2
        refine ⟨F, F1, ?_⟩
        rw [qX4_close_2]
        simp [bX4_close_2, bX4_close_43, bX4_close_37, a_ai, a_ald, a_gi, a_gr, a_icge, a_icne, a_ild, a_inc, a_push, a_vret, a_wi, sh_14, sh_15, sh_18, pu_rv, pu_as, Value.category, pu_bk, pu_kl, List.replicate, pu_wi_1, pu_wi_2, nl_add, nl_ladd, nl_aa, nl_mul, nl_rmul, nl_mm, pu_qe0, pu_qe1, hnN, hc, f1, f4, q1, q2, c1, c2, F2]
        all_goals try simp (maxSteps := 400000) (disch := omega) [nl_tle, nl_fle, nl_tlt, nl_flt, nl_teq, nl_feq, nl_sub, nl_ss, nl_lt, nl_llt, nl_ltt, nl_le, nl_lle, nl_lee, nl_eq, nl_leq, nl_ee, nl_div, nl_rem, nl_cl, nl_n1, nl_n2, nl_n3, nl_n4, nl_add, nl_ladd, nl_aa, nl_mul, nl_rmul, nl_mm, pu_wi_1, pu_wi_2, bX4_close_2, bX4_close_43, bX4_close_37, a_ai, a_ald, a_gi, a_gr, a_icge, a_icne, a_ild, a_inc, a_push, a_vret, a_wi, sh_14, sh_15, sh_18, pu_rv, pu_as, Value.category, pu_bk, pu_kl, pu_qe0, pu_qe1, hnN, hc, f1, f4, q1, q2, c1, c2, F2]
        all_goals try simp [bX4_close_2, bX4_close_43, bX4_close_37, a_ai, a_ald, a_gi, a_gr, a_icge, a_icne, a_ild, a_inc, a_push, a_vret, a_wi, sh_14, sh_15, sh_18, pu_rv, pu_as, Value.category, pu_bk, pu_kl, List.replicate, pu_wi_1, pu_wi_2, nl_add, nl_ladd, nl_aa, nl_mul, nl_rmul, nl_mm, pu_qe0, pu_qe1, hnN, hc, f1, f4, q1, q2, c1, c2, F2]
        all_goals try simp (maxSteps := 400000) (disch := omega) [nl_tle, nl_fle, nl_tlt, nl_flt, nl_teq, nl_feq, nl_sub, nl_ss, nl_lt, nl_llt, nl_ltt, nl_le, nl_lle, nl_lee, nl_eq, nl_leq, nl_ee, nl_div, nl_rem, nl_cl, nl_n1, nl_n2, nl_n3, nl_n4, nl_add, nl_ladd, nl_aa, nl_mul, nl_rmul, nl_mm, pu_wi_1, pu_wi_2, bX4_close_2, bX4_close_43, bX4_close_37, a_ai, a_ald, a_gi, a_gr, a_icge, a_icne, a_ild, a_inc, a_push, a_vret, a_wi, sh_14, sh_15, sh_18, pu_rv, pu_as, Value.category, pu_bk, pu_kl, pu_qe0, pu_qe1, hnN, hc, f1, f4, q1, q2, c1, c2, F2]
      · have g2 : py_c18 M N a p (i + 1) := by
          refine ⟨g.1, g.2.1, fun k => ⟨fun hk => ?_, fun hk => ?_⟩⟩
          · have z : k ≠ i := fun z => by
              rw [z] at hk
              exact c2 hk.2.2
            exact (g.2.2 k).1 ⟨by omega, hk.2⟩
          · exact (g.2.2 k).2 (fun y => hk ⟨by omega, y.2⟩)
        obtain ⟨F, F1, F2⟩ := c_close_l hx n hn hl a p m (i + 1) N (by omega) g2
        refine ⟨F, F1, ?_⟩
        rw [qX4_close_2]
        simp [bX4_close_2, bX4_close_43, bX4_close_37, a_ai, a_ald, a_gi, a_gr, a_icge, a_icne, a_ild, a_inc, a_push, a_vret, a_wi, sh_14, sh_15, sh_18, pu_rv, pu_as, Value.category, pu_bk, pu_kl, List.replicate, pu_wi_1, pu_wi_2, nl_add, nl_ladd, nl_aa, nl_mul, nl_rmul, nl_mm, pu_qe0, pu_qe1, hnN, hc, f1, f4, q1, q2, c1, c2, F2]
        all_goals try simp (maxSteps := 400000) (disch := omega) [nl_tle, nl_fle, nl_tlt, nl_flt, nl_teq, nl_feq, nl_sub, nl_ss, nl_lt, nl_llt, nl_ltt, nl_le, nl_lle, nl_lee, nl_eq, nl_leq, nl_ee, nl_div, nl_rem, nl_cl, nl_n1, nl_n2, nl_n3, nl_n4, nl_add, nl_ladd, nl_aa, nl_mul, nl_rmul, nl_mm, pu_wi_1, pu_wi_2, bX4_close_2, bX4_close_43, bX4_close_37, a_ai, a_ald, a_gi, a_gr, a_icge, a_icne, a_ild, a_inc, a_push, a_vret, a_wi, sh_14, sh_15, sh_18, pu_rv, pu_as, Value.category, pu_bk, pu_kl, pu_qe0, pu_qe1, hnN, hc, f1, f4, q1, q2, c1, c2, F2]
        all_goals try simp [bX4_close_2, bX4_close_43, bX4_close_37, a_ai, a_ald, a_gi, a_gr, a_icge, a_icne, a_ild, a_inc, a_push, a_vret, a_wi, sh_14, sh_15, sh_18, pu_rv, pu_as, Value.category, pu_bk, pu_kl, List.replicate, pu_wi_1, pu_wi_2, nl_add, nl_ladd, nl_aa, nl_mul, nl_rmul, nl_mm, pu_qe0, pu_qe1, hnN, hc, f1, f4, q1, q2, c1, c2, F2]
        all_goals try simp (maxSteps := 400000) (disch := omega) [nl_tle, nl_fle, nl_tlt, nl_flt, nl_teq, nl_feq, nl_sub, nl_ss, nl_lt, nl_llt, nl_ltt, nl_le, nl_lle, nl_lee, nl_eq, nl_leq, nl_ee, nl_div, nl_rem, nl_cl, nl_n1, nl_n2, nl_n3, nl_n4, nl_add, nl_ladd, nl_aa, nl_mul, nl_rmul, nl_mm, pu_wi_1, pu_wi_2, bX4_close_2, bX4_close_43, bX4_close_37, a_ai, a_ald, a_gi, a_gr, a_icge, a_icne, a_ild, a_inc, a_push, a_vret, a_wi, sh_14, sh_15, sh_18, pu_rv, pu_as, Value.category, pu_bk, pu_kl, pu_qe0, pu_qe1, hnN, hc, f1, f4, q1, q2, c1, c2, F2]
    · have g2 : py_c18 M N a p (i + 1) := by
        refine ⟨g.1, g.2.1, fun k => ⟨fun hk => ?_, fun hk => ?_⟩⟩
        · have z : k ≠ i := fun z => by
            rw [z] at hk
            exact c1 hk.2.1
          exact (g.2.2 k).1 ⟨by omega, hk.2⟩
        · exact (g.2.2 k).2 (fun y => hk ⟨by omega, y.2⟩)
      obtain ⟨F, F1, F2⟩ := c_close_l hx n hn hl a p m (i + 1) N (by omega) g2
      refine ⟨F, F1, ?_⟩
      rw [qX4_close_2]
      simp [bX4_close_2, bX4_close_43, bX4_close_37, a_ai, a_ald, a_gi, a_gr, a_icge, a_icne, a_ild, a_inc, a_push, a_vret, a_wi, sh_14, sh_15, sh_18, pu_rv, pu_as, Value.category, pu_bk, pu_kl, List.replicate, pu_wi_1, pu_wi_2, nl_add, nl_ladd, nl_aa, nl_mul, nl_rmul, nl_mm, pu_qe0, pu_qe1, hnN, hc, f1, f4, q1, q2, c1, F2]
      all_goals try simp (maxSteps := 400000) (disch := omega) [nl_tle, nl_fle, nl_tlt, nl_flt, nl_teq, nl_feq, nl_sub, nl_ss, nl_lt, nl_llt, nl_ltt, nl_le, nl_lle, nl_lee, nl_eq, nl_leq, nl_ee, nl_div, nl_rem, nl_cl, nl_n1, nl_n2, nl_n3, nl_n4, nl_add, nl_ladd, nl_aa, nl_mul, nl_rmul, nl_mm, pu_wi_1, pu_wi_2, bX4_close_2, bX4_close_43, bX4_close_37, a_ai, a_ald, a_gi, a_gr, a_icge, a_icne, a_ild, a_inc, a_push, a_vret, a_wi, sh_14, sh_15, sh_18, pu_rv, pu_as, Value.category, pu_bk, pu_kl, pu_qe0, pu_qe1, hnN, hc, f1, f4, q1, q2, c1, F2]
      all_goals try simp [bX4_close_2, bX4_close_43, bX4_close_37, a_ai, a_ald, a_gi, a_gr, a_icge, a_icne, a_ild, a_inc, a_push, a_vret, a_wi, sh_14, sh_15, sh_18, pu_rv, pu_as, Value.category, pu_bk, pu_kl, List.replicate, pu_wi_1, pu_wi_2, nl_add, nl_ladd, nl_aa, nl_mul, nl_rmul, nl_mm, pu_qe0, pu_qe1, hnN, hc, f1, f4, q1, q2, c1, F2]
      all_goals try simp (maxSteps := 400000) (disch := omega) [nl_tle, nl_fle, nl_tlt, nl_flt, nl_teq, nl_feq, nl_sub, nl_ss, nl_lt, nl_llt, nl_ltt, nl_le, nl_lle, nl_lee, nl_eq, nl_leq, nl_ee, nl_div, nl_rem, nl_cl, nl_n1, nl_n2, nl_n3, nl_n4, nl_add, nl_ladd, nl_aa, nl_mul, nl_rmul, nl_mm, pu_wi_1, pu_wi_2, bX4_close_2, bX4_close_43, bX4_close_37, a_ai, a_ald, a_gi, a_gr, a_icge, a_icne, a_ild, a_inc, a_push, a_vret, a_wi, sh_14, sh_15, sh_18, pu_rv, pu_as, Value.category, pu_bk, pu_kl, pu_qe0, pu_qe1, hnN, hc, f1, f4, q1, q2, c1, F2]
theorem c_close {M : pu_M} (hx : pu_fx M) (n : Nat) (hn : M.1 14 0 = nI n) (hl : n ≤ 3000) (a p : Int32) : ∃ F, py_c18 M F a p n ∧ pu_r 102 [some (.ref 14), some (.int a), some (.int p)] [] M = some (none, F) := by
  obtain ⟨F, F1, F2⟩ := c_close_l hx n hn hl a p n 0 M (by omega) ⟨rfl, fun _ _ _ => rfl, fun k => ⟨fun z => absurd z.1 (by omega), fun _ => rfl⟩⟩
  refine ⟨F, F1, ?_⟩
  rw [nI_0] at F2
  rw [qX4_close]
  simp [a_ent, bX4_close_0, a_ist, a_push, pu_rv, pu_as, Value.category, pu_bk, pu_kl, List.replicate, pu_wi_1, pu_wi_2, nl_add, nl_ladd, nl_aa, nl_mul, nl_rmul, nl_mm, pu_qe0, pu_qe1, F2]
  all_goals try simp (maxSteps := 400000) (disch := omega) [nl_tle, nl_fle, nl_tlt, nl_flt, nl_teq, nl_feq, nl_sub, nl_ss, nl_lt, nl_llt, nl_ltt, nl_le, nl_lle, nl_lee, nl_eq, nl_leq, nl_ee, nl_div, nl_rem, nl_cl, nl_n1, nl_n2, nl_n3, nl_n4, nl_add, nl_ladd, nl_aa, nl_mul, nl_rmul, nl_mm, pu_wi_1, pu_wi_2, bX4_close_0, a_ist, a_push, pu_rv, pu_as, Value.category, pu_bk, pu_kl, pu_qe0, pu_qe1, F2]
  all_goals try simp [bX4_close_0, a_ist, a_push, pu_rv, pu_as, Value.category, pu_bk, pu_kl, List.replicate, pu_wi_1, pu_wi_2, nl_add, nl_ladd, nl_aa, nl_mul, nl_rmul, nl_mm, pu_qe0, pu_qe1, F2]
  all_goals try simp (maxSteps := 400000) (disch := omega) [nl_tle, nl_fle, nl_tlt, nl_flt, nl_teq, nl_feq, nl_sub, nl_ss, nl_lt, nl_llt, nl_ltt, nl_le, nl_lle, nl_lee, nl_eq, nl_leq, nl_ee, nl_div, nl_rem, nl_cl, nl_n1, nl_n2, nl_n3, nl_n4, nl_add, nl_ladd, nl_aa, nl_mul, nl_rmul, nl_mm, pu_wi_1, pu_wi_2, bX4_close_0, a_ist, a_push, pu_rv, pu_as, Value.category, pu_bk, pu_kl, pu_qe0, pu_qe1, F2]
section
variable {I : Nat → Nat → Int32} {L : Nat → Nat → Int64}
def py_c37 (M N : pu_M) (c : Nat → Prop) (p : Int32) (i : Nat) : Prop := N.2 = M.2 ∧ (∀ x k, x ≠ 37 → N.1 x k = M.1 x k) ∧ ∀ k, (k < i ∧ c k → N.1 37 k = p) ∧ (¬ (k < i ∧ c k) → N.1 37 k = M.1 37 k)
theorem c_cwu_l {M : pu_M} (hx : pu_fx M) (hw : pu_WF I L) (h31 : M.1 31 0 = nI (cD I)) (h33 : ∀ d, d < cD I → M.1 33 d = I 33 d) (h37 : ∀ d, d < cD I → M.1 37 d = I 37 d) (hP : cP I < 200) {top : Nat} (ht : top < cD I) : ∀ m i n (N : pu_M) (t : Option Value), i + m = cD I → n ≤ i → py_c37 M N (py_S I top) (nI (cP I)) i → ∃ F, py_c37 M F (py_S I top) (nI (cP I)) (cD I) ∧ pu_r 380 [some (.ref 31), some (.int (nI top)), some (.int (nI (cP I))), some (.int (nI n)), some (.int (nI i)), t] [] N = some (some (.int (nI (py_ct (py_S I top) m i n))), F)
  | 0, i, n, N, t, h, hni, g => by
    have bD := wx_bD hw
    have hxN : pu_fx N := pz_fx_of hx g.1
    have hnN : N.1 31 0 = nI (cD I) := by rw [g.2.1 31 0 (by omega)]; exact h31
    refine ⟨N, by rw [← h]; exact g, ?_⟩
    have hc : nI (cD I) ≤ nI i := nI_le (by omega) (by omega)
    rw [qX2_closeWithUnder_5]
    simp [bX2_closeWithUnder_5, bX2_closeWithUnder_88, bX2_closeWithUnder_48, bX2_closeWithUnder_49, bX2_closeWithUnder_82, bX2_closeWithUnder_71, a_ai, a_ald, a_cv, a_gi, a_gr, a_iceq, a_icge, a_icne, a_ifeq, a_ild, a_inc, a_iret, a_ist, a_push, a_wi, sh_31, sh_33, sh_37, pu_rv, pu_as, Value.category, pu_bk, pu_kl, List.replicate, pu_wi_1, pu_wi_2, nl_add, nl_ladd, nl_aa, nl_mul, nl_rmul, nl_mm, pu_qe0, pu_qe1, hnN, hc, py_ct]
    all_goals try simp (maxSteps := 400000) (disch := omega) [nl_tle, nl_fle, nl_tlt, nl_flt, nl_teq, nl_feq, nl_sub, nl_ss, nl_lt, nl_llt, nl_ltt, nl_le, nl_lle, nl_lee, nl_eq, nl_leq, nl_ee, nl_div, nl_rem, nl_cl, nl_n1, nl_n2, nl_n3, nl_n4, nl_add, nl_ladd, nl_aa, nl_mul, nl_rmul, nl_mm, pu_wi_1, pu_wi_2, bX2_closeWithUnder_5, bX2_closeWithUnder_88, bX2_closeWithUnder_48, bX2_closeWithUnder_49, bX2_closeWithUnder_82, bX2_closeWithUnder_71, a_ai, a_ald, a_cv, a_gi, a_gr, a_iceq, a_icge, a_icne, a_ifeq, a_ild, a_inc, a_iret, a_ist, a_push, a_wi, sh_31, sh_33, sh_37, pu_rv, pu_as, Value.category, pu_bk, pu_kl, pu_qe0, pu_qe1, hnN, hc, py_ct]
    all_goals try simp [bX2_closeWithUnder_5, bX2_closeWithUnder_88, bX2_closeWithUnder_48, bX2_closeWithUnder_49, bX2_closeWithUnder_82, bX2_closeWithUnder_71, a_ai, a_ald, a_cv, a_gi, a_gr, a_iceq, a_icge, a_icne, a_ifeq, a_ild, a_inc, a_iret, a_ist, a_push, a_wi, sh_31, sh_33, sh_37, pu_rv, pu_as, Value.category, pu_bk, pu_kl, List.replicate, pu_wi_1, pu_wi_2, nl_add, nl_ladd, nl_aa, nl_mul, nl_rmul, nl_mm, pu_qe0, pu_qe1, hnN, hc, py_ct]
    all_goals try simp (maxSteps := 400000) (disch := omega) [nl_tle, nl_fle, nl_tlt, nl_flt, nl_teq, nl_feq, nl_sub, nl_ss, nl_lt, nl_llt, nl_ltt, nl_le, nl_lle, nl_lee, nl_eq, nl_leq, nl_ee, nl_div, nl_rem, nl_cl, nl_n1, nl_n2, nl_n3, nl_n4, nl_add, nl_ladd, nl_aa, nl_mul, nl_rmul, nl_mm, pu_wi_1, pu_wi_2, bX2_closeWithUnder_5, bX2_closeWithUnder_88, bX2_closeWithUnder_48, bX2_closeWithUnder_49, bX2_closeWithUnder_82, bX2_closeWithUnder_71, a_ai, a_ald, a_cv, a_gi, a_gr, a_iceq, a_icge, a_icne, a_ifeq, a_ild, a_inc, a_iret, a_ist, a_push, a_wi, sh_31, sh_33, sh_37, pu_rv, pu_as, Value.category, pu_bk, pu_kl, pu_qe0, pu_qe1, hnN, hc, py_ct]
  | m + 1, i, n, N, t, h, hni, g => by
    have bD := wx_bD hw
    have hxN : pu_fx N := pz_fx_of hx g.1
    have hi : i < cD I := by omega
    have hnN : N.1 31 0 = nI (cD I) := by rw [g.2.1 31 0 (by omega)]; exact h31
    have hc : ¬ nI (cD I) ≤ nI i := nI_ge (by omega) (by omega)
    have q1 : N.1 33 i = I 33 i := by rw [g.2.1 33 i (by omega)]; exact h33 i hi
    have q2 : N.1 37 i = I 37 i := by rw [(g.2.2 i).2 (by omega)]; exact h37 i hi
    have f1 := fx_31_2 hxN
    have f4 := fx_31_6 hxN
    have i1 := c_isDoorM hxN (cD I) i hnN bD hi
    have i2 : pu_r 90 [some (.ref 31), some (.int (nI i))] [] N = some (some (.int (pu_q (I 37 i = -1))), N) := by
      by_cases c : I 37 i = -1
      · rw [pu_q1 c]
        rw [qX2_isOpen]
        simp [a_ent, bX2_isOpen_0, bX2_isOpen_22, bX2_isOpen_23, a_ai, a_ald, a_cv, a_gr, a_icne, a_ifeq, a_ild, a_push, a_zret, sh_31, sh_37, pu_rv, pu_as, Value.category, pu_bk, pu_kl, List.replicate, pu_wi_1, pu_wi_2, nl_add, nl_ladd, nl_aa, nl_mul, nl_rmul, nl_mm, pu_qe0, pu_qe1, i1, q2, f4, c]
        all_goals try simp (maxSteps := 400000) (disch := omega) [nl_tle, nl_fle, nl_tlt, nl_flt, nl_teq, nl_feq, nl_sub, nl_ss, nl_lt, nl_llt, nl_ltt, nl_le, nl_lle, nl_lee, nl_eq, nl_leq, nl_ee, nl_div, nl_rem, nl_cl, nl_n1, nl_n2, nl_n3, nl_n4, nl_add, nl_ladd, nl_aa, nl_mul, nl_rmul, nl_mm, pu_wi_1, pu_wi_2, bX2_isOpen_0, bX2_isOpen_22, bX2_isOpen_23, a_ai, a_ald, a_cv, a_gr, a_icne, a_ifeq, a_ild, a_push, a_zret, sh_31, sh_37, pu_rv, pu_as, Value.category, pu_bk, pu_kl, pu_qe0, pu_qe1, i1, q2, f4, c]
        all_goals try simp [bX2_isOpen_0, bX2_isOpen_22, bX2_isOpen_23, a_ai, a_ald, a_cv, a_gr, a_icne, a_ifeq, a_ild, a_push, a_zret, sh_31, sh_37, pu_rv, pu_as, Value.category, pu_bk, pu_kl, List.replicate, pu_wi_1, pu_wi_2, nl_add, nl_ladd, nl_aa, nl_mul, nl_rmul, nl_mm, pu_qe0, pu_qe1, i1, q2, f4, c]
        all_goals try simp (maxSteps := 400000) (disch := omega) [nl_tle, nl_fle, nl_tlt, nl_flt, nl_teq, nl_feq, nl_sub, nl_ss, nl_lt, nl_llt, nl_ltt, nl_le, nl_lle, nl_lee, nl_eq, nl_leq, nl_ee, nl_div, nl_rem, nl_cl, nl_n1, nl_n2, nl_n3, nl_n4, nl_add, nl_ladd, nl_aa, nl_mul, nl_rmul, nl_mm, pu_wi_1, pu_wi_2, bX2_isOpen_0, bX2_isOpen_22, bX2_isOpen_23, a_ai, a_ald, a_cv, a_gr, a_icne, a_ifeq, a_ild, a_push, a_zret, sh_31, sh_37, pu_rv, pu_as, Value.category, pu_bk, pu_kl, pu_qe0, pu_qe1, i1, q2, f4, c]
      · rw [pu_q0 c]
        rw [qX2_isOpen]
        simp [a_ent, bX2_isOpen_0, bX2_isOpen_22, bX2_isOpen_23, a_ai, a_ald, a_cv, a_gr, a_icne, a_ifeq, a_ild, a_push, a_zret, sh_31, sh_37, pu_rv, pu_as, Value.category, pu_bk, pu_kl, List.replicate, pu_wi_1, pu_wi_2, nl_add, nl_ladd, nl_aa, nl_mul, nl_rmul, nl_mm, pu_qe0, pu_qe1, i1, q2, f4, c]
        all_goals try simp (maxSteps := 400000) (disch := omega) [nl_tle, nl_fle, nl_tlt, nl_flt, nl_teq, nl_feq, nl_sub, nl_ss, nl_lt, nl_llt, nl_ltt, nl_le, nl_lle, nl_lee, nl_eq, nl_leq, nl_ee, nl_div, nl_rem, nl_cl, nl_n1, nl_n2, nl_n3, nl_n4, nl_add, nl_ladd, nl_aa, nl_mul, nl_rmul, nl_mm, pu_wi_1, pu_wi_2, bX2_isOpen_0, bX2_isOpen_22, bX2_isOpen_23, a_ai, a_ald, a_cv, a_gr, a_icne, a_ifeq, a_ild, a_push, a_zret, sh_31, sh_37, pu_rv, pu_as, Value.category, pu_bk, pu_kl, pu_qe0, pu_qe1, i1, q2, f4, c]
        all_goals try simp [bX2_isOpen_0, bX2_isOpen_22, bX2_isOpen_23, a_ai, a_ald, a_cv, a_gr, a_icne, a_ifeq, a_ild, a_push, a_zret, sh_31, sh_37, pu_rv, pu_as, Value.category, pu_bk, pu_kl, List.replicate, pu_wi_1, pu_wi_2, nl_add, nl_ladd, nl_aa, nl_mul, nl_rmul, nl_mm, pu_qe0, pu_qe1, i1, q2, f4, c]
        all_goals try simp (maxSteps := 400000) (disch := omega) [nl_tle, nl_fle, nl_tlt, nl_flt, nl_teq, nl_feq, nl_sub, nl_ss, nl_lt, nl_llt, nl_ltt, nl_le, nl_lle, nl_lee, nl_eq, nl_leq, nl_ee, nl_div, nl_rem, nl_cl, nl_n1, nl_n2, nl_n3, nl_n4, nl_add, nl_ladd, nl_aa, nl_mul, nl_rmul, nl_mm, pu_wi_1, pu_wi_2, bX2_isOpen_0, bX2_isOpen_22, bX2_isOpen_23, a_ai, a_ald, a_cv, a_gr, a_icne, a_ifeq, a_ild, a_push, a_zret, sh_31, sh_37, pu_rv, pu_as, Value.category, pu_bk, pu_kl, pu_qe0, pu_qe1, i1, q2, f4, c]
    -- is the door over it closed by this paper
    have ov : (¬ (I 32 i ≠ 0 ∧ py_S I top (I 33 i).toNatClampNeg) ∧ (I 33 i = -1 ∨ ∃ o, o < i ∧ I 33 i = nI o ∧ ¬ N.1 37 o = nI (cP I))) ∨ ((I 32 i ≠ 0 ∧ py_S I top (I 33 i).toNatClampNeg) ∧ ∃ o, o < i ∧ I 33 i = nI o ∧ N.1 37 o = nI (cP I)) := by
      by_cases c : I 32 i = 0
      · exact Or.inl ⟨fun z => z.1 c, Or.inl (wx_d0 hw i hi c).1⟩
      · have o := py_ov hw hi c
        by_cases s : py_S I top (I 33 i).toNatClampNeg
        · exact Or.inr ⟨⟨c, s⟩, _, o.1, o.2, (g.2.2 _).1 ⟨o.1, s⟩⟩
        · refine Or.inl ⟨fun z => s z.2, Or.inr ⟨_, o.1, o.2, ?_⟩⟩
          rw [(g.2.2 _).2 (fun z => s z.2), h37 _ (by omega)]
          intro z
          have := (wx_dc hw _ (show (I 33 i).toNatClampNeg < cD I by omega)).2.1
          rw [z, nl_n0 (by omega)] at this
          omega
    have eS : py_S I top i ↔ (I 37 i = -1 ∧ (i = top ∨ (I 32 i ≠ 0 ∧ py_S I top (I 33 i).toNatClampNeg))) := by
      unfold py_S
      constructor
      · rintro ⟨a, b⟩
        refine ⟨a, ?_⟩
        rcases (py_iu_s hw top hi).mp b with w | w
        · exact Or.inl w
        · exact Or.inr ⟨w.1, (pz_dcur hw hi a).1 w.1, w.2⟩
      · rintro ⟨a, b⟩
        refine ⟨a, (py_iu_s hw top hi).mpr ?_⟩
        rcases b with w | w
        · exact Or.inl w
        · exact Or.inr ⟨w.1, w.2.2⟩
    have no : ¬ py_S I top i → py_c37 M N (py_S I top) (nI (cP I)) (i + 1) := fun s => by
      refine ⟨g.1, g.2.1, fun k => ⟨fun hk => ?_, fun hk => ?_⟩⟩
      · have z : k ≠ i := fun z => by
          rw [z] at hk
          exact s hk.2
        exact (g.2.2 k).1 ⟨by omega, hk.2⟩
      · exact (g.2.2 k).2 (fun y => hk ⟨by omega, y.2⟩)
    have ys : py_S I top i → py_c37 M (pu_wi N 37 i (nI (cP I))) (py_S I top) (nI (cP I)) (i + 1) := fun s => by
      refine ⟨g.1, fun x k hk => ?_, fun k => ⟨fun hk => ?_, fun hk => ?_⟩⟩
      · rw [py_wi_o (by omega)]
        exact g.2.1 x k hk
      · by_cases z : k = i
        · subst z
          simp [pu_wi_1]
        · rw [py_wi_o (by omega)]
          exact (g.2.2 k).1 ⟨by omega, hk.2⟩
      · by_cases z : k = i
        · subst z
          exact absurd ⟨by omega, s⟩ hk
        · rw [py_wi_o (by omega)]
          exact (g.2.2 k).2 (fun y => hk ⟨by omega, y.2⟩)
    by_cases s : py_S I top i
    · have e : py_ct (py_S I top) (m + 1) i n = py_ct (py_S I top) m (i + 1) (n + 1) := by
        show py_ct (py_S I top) m (i + 1) _ = _
        rw [if_pos s]
      rw [e]
      have ih := fun t => c_cwu_l hx hw h31 h33 h37 hP ht m (i + 1) (n + 1) _ t (by omega) (by omega) (ys s)
      have s2 := eS.mp s
      rw [pu_q1 s2.1] at i2
      rcases ov with ⟨v1, v2⟩ | ⟨v1, o, o1, o2, o3⟩
      · have it : i = top := s2.2.resolve_right v1
        obtain ⟨F, F1, F2⟩ := ih (some (.int 0))
        refine ⟨F, F1, ?_⟩
        rcases v2 with v2 | ⟨o, o1, o2, o3⟩
        · have dn := c_isDoorN hxN
          subst it
          rw [qX2_closeWithUnder_5]
          simp [bX2_closeWithUnder_5, bX2_closeWithUnder_88, bX2_closeWithUnder_48, bX2_closeWithUnder_49, bX2_closeWithUnder_82, bX2_closeWithUnder_71, a_ai, a_ald, a_cv, a_gi, a_gr, a_iceq, a_icge, a_icne, a_ifeq, a_ild, a_inc, a_iret, a_ist, a_push, a_wi, sh_31, sh_33, sh_37, pu_rv, pu_as, Value.category, pu_bk, pu_kl, List.replicate, pu_wi_1, pu_wi_2, nl_add, nl_ladd, nl_aa, nl_mul, nl_rmul, nl_mm, pu_qe0, pu_qe1, hnN, hc, f1, f4, q1, v2, dn, i2, F2]
          all_goals try simp (maxSteps := 400000) (disch := omega) [nl_tle, nl_fle, nl_tlt, nl_flt, nl_teq, nl_feq, nl_sub, nl_ss, nl_lt, nl_llt, nl_ltt, nl_le, nl_lle, nl_lee, nl_eq, nl_leq, nl_ee, nl_div, nl_rem, nl_cl, nl_n1, nl_n2, nl_n3, nl_n4, nl_add, nl_ladd, nl_aa, nl_mul, nl_rmul, nl_mm, pu_wi_1, pu_wi_2, bX2_closeWithUnder_5, bX2_closeWithUnder_88, bX2_closeWithUnder_48, bX2_closeWithUnder_49, bX2_closeWithUnder_82, bX2_closeWithUnder_71, a_ai, a_ald, a_cv, a_gi, a_gr, a_iceq, a_icge, a_icne, a_ifeq, a_ild, a_inc, a_iret, a_ist, a_push, a_wi, sh_31, sh_33, sh_37, pu_rv, pu_as, Value.category, pu_bk, pu_kl, pu_qe0, pu_qe1, hnN, hc, f1, f4, q1, v2, dn, i2, F2]
          all_goals try simp [bX2_closeWithUnder_5, bX2_closeWithUnder_88, bX2_closeWithUnder_48, bX2_closeWithUnder_49, bX2_closeWithUnder_82, bX2_closeWithUnder_71, a_ai, a_ald, a_cv, a_gi, a_gr, a_iceq, a_icge, a_icne, a_ifeq, a_ild, a_inc, a_iret, a_ist, a_push, a_wi, sh_31, sh_33, sh_37, pu_rv, pu_as, Value.category, pu_bk, pu_kl, List.replicate, pu_wi_1, pu_wi_2, nl_add, nl_ladd, nl_aa, nl_mul, nl_rmul, nl_mm, pu_qe0, pu_qe1, hnN, hc, f1, f4, q1, v2, dn, i2, F2]
          all_goals try simp (maxSteps := 400000) (disch := omega) [nl_tle, nl_fle, nl_tlt, nl_flt, nl_teq, nl_feq, nl_sub, nl_ss, nl_lt, nl_llt, nl_ltt, nl_le, nl_lle, nl_lee, nl_eq, nl_leq, nl_ee, nl_div, nl_rem, nl_cl, nl_n1, nl_n2, nl_n3, nl_n4, nl_add, nl_ladd, nl_aa, nl_mul, nl_rmul, nl_mm, pu_wi_1, pu_wi_2, bX2_closeWithUnder_5, bX2_closeWithUnder_88, bX2_closeWithUnder_48, bX2_closeWithUnder_49, bX2_closeWithUnder_82, bX2_closeWithUnder_71, a_ai, a_ald, a_cv, a_gi, a_gr, a_iceq, a_icge, a_icne, a_ifeq, a_ild, a_inc, a_iret, a_ist, a_push, a_wi, sh_31, sh_33, sh_37, pu_rv, pu_as, Value.category, pu_bk, pu_kl, pu_qe0, pu_qe1, hnN, hc, f1, f4, q1, v2, dn, i2, F2]
        · have dn := c_isDoorM hxN (cD I) o hnN bD (by omega)
          subst it
          rw [qX2_closeWithUnder_5]
          simp [bX2_closeWithUnder_5, bX2_closeWithUnder_88, bX2_closeWithUnder_48, bX2_closeWithUnder_49, bX2_closeWithUnder_82, bX2_closeWithUnder_71, a_ai, a_ald, a_cv, a_gi, a_gr, a_iceq, a_icge, a_icne, a_ifeq, a_ild, a_inc, a_iret, a_ist, a_push, a_wi, sh_31, sh_33, sh_37, pu_rv, pu_as, Value.category, pu_bk, pu_kl, List.replicate, pu_wi_1, pu_wi_2, nl_add, nl_ladd, nl_aa, nl_mul, nl_rmul, nl_mm, pu_qe0, pu_qe1, hnN, hc, f1, f4, q1, o2, o3, dn, i2, F2]
          all_goals try simp (maxSteps := 400000) (disch := omega) [nl_tle, nl_fle, nl_tlt, nl_flt, nl_teq, nl_feq, nl_sub, nl_ss, nl_lt, nl_llt, nl_ltt, nl_le, nl_lle, nl_lee, nl_eq, nl_leq, nl_ee, nl_div, nl_rem, nl_cl, nl_n1, nl_n2, nl_n3, nl_n4, nl_add, nl_ladd, nl_aa, nl_mul, nl_rmul, nl_mm, pu_wi_1, pu_wi_2, bX2_closeWithUnder_5, bX2_closeWithUnder_88, bX2_closeWithUnder_48, bX2_closeWithUnder_49, bX2_closeWithUnder_82, bX2_closeWithUnder_71, a_ai, a_ald, a_cv, a_gi, a_gr, a_iceq, a_icge, a_icne, a_ifeq, a_ild, a_inc, a_iret, a_ist, a_push, a_wi, sh_31, sh_33, sh_37, pu_rv, pu_as, Value.category, pu_bk, pu_kl, pu_qe0, pu_qe1, hnN, hc, f1, f4, q1, o2, o3, dn, i2, F2]
          all_goals try simp [bX2_closeWithUnder_5, bX2_closeWithUnder_88, bX2_closeWithUnder_48, bX2_closeWithUnder_49, bX2_closeWithUnder_82, bX2_closeWithUnder_71, a_ai, a_ald, a_cv, a_gi, a_gr, a_iceq, a_icge, a_icne, a_ifeq, a_ild, a_inc, a_iret, a_ist, a_push, a_wi, sh_31, sh_33, sh_37, pu_rv, pu_as, Value.category, pu_bk, pu_kl, List.replicate, pu_wi_1, pu_wi_2, nl_add, nl_ladd, nl_aa, nl_mul, nl_rmul, nl_mm, pu_qe0, pu_qe1, hnN, hc, f1, f4, q1, o2, o3, dn, i2, F2]
          all_goals try simp (maxSteps := 400000) (disch := omega) [nl_tle, nl_fle, nl_tlt, nl_flt, nl_teq, nl_feq, nl_sub, nl_ss, nl_lt, nl_llt, nl_ltt, nl_le, nl_lle, nl_lee, nl_eq, nl_leq, nl_ee, nl_div, nl_rem, nl_cl, nl_n1, nl_n2, nl_n3, nl_n4, nl_add, nl_ladd, nl_aa, nl_mul, nl_rmul, nl_mm, pu_wi_1, pu_wi_2, bX2_closeWithUnder_5, bX2_closeWithUnder_88, bX2_closeWithUnder_48, bX2_closeWithUnder_49, bX2_closeWithUnder_82, bX2_closeWithUnder_71, a_ai, a_ald, a_cv, a_gi, a_gr, a_iceq, a_icge, a_icne, a_ifeq, a_ild, a_inc, a_iret, a_ist, a_push, a_wi, sh_31, sh_33, sh_37, pu_rv, pu_as, Value.category, pu_bk, pu_kl, pu_qe0, pu_qe1, hnN, hc, f1, f4, q1, o2, o3, dn, i2, F2]
      · have dn := c_isDoorM hxN (cD I) o hnN bD (by omega)
        obtain ⟨F, F1, F2⟩ := ih (some (.int 1))
        refine ⟨F, F1, ?_⟩
        by_cases it : i = top
        · subst it
          rw [qX2_closeWithUnder_5]
          simp [bX2_closeWithUnder_5, bX2_closeWithUnder_88, bX2_closeWithUnder_48, bX2_closeWithUnder_49, bX2_closeWithUnder_82, bX2_closeWithUnder_71, a_ai, a_ald, a_cv, a_gi, a_gr, a_iceq, a_icge, a_icne, a_ifeq, a_ild, a_inc, a_iret, a_ist, a_push, a_wi, sh_31, sh_33, sh_37, pu_rv, pu_as, Value.category, pu_bk, pu_kl, List.replicate, pu_wi_1, pu_wi_2, nl_add, nl_ladd, nl_aa, nl_mul, nl_rmul, nl_mm, pu_qe0, pu_qe1, hnN, hc, f1, f4, q1, o2, o3, dn, i2, F2]
          all_goals try simp (maxSteps := 400000) (disch := omega) [nl_tle, nl_fle, nl_tlt, nl_flt, nl_teq, nl_feq, nl_sub, nl_ss, nl_lt, nl_llt, nl_ltt, nl_le, nl_lle, nl_lee, nl_eq, nl_leq, nl_ee, nl_div, nl_rem, nl_cl, nl_n1, nl_n2, nl_n3, nl_n4, nl_add, nl_ladd, nl_aa, nl_mul, nl_rmul, nl_mm, pu_wi_1, pu_wi_2, bX2_closeWithUnder_5, bX2_closeWithUnder_88, bX2_closeWithUnder_48, bX2_closeWithUnder_49, bX2_closeWithUnder_82, bX2_closeWithUnder_71, a_ai, a_ald, a_cv, a_gi, a_gr, a_iceq, a_icge, a_icne, a_ifeq, a_ild, a_inc, a_iret, a_ist, a_push, a_wi, sh_31, sh_33, sh_37, pu_rv, pu_as, Value.category, pu_bk, pu_kl, pu_qe0, pu_qe1, hnN, hc, f1, f4, q1, o2, o3, dn, i2, F2]
          all_goals try simp [bX2_closeWithUnder_5, bX2_closeWithUnder_88, bX2_closeWithUnder_48, bX2_closeWithUnder_49, bX2_closeWithUnder_82, bX2_closeWithUnder_71, a_ai, a_ald, a_cv, a_gi, a_gr, a_iceq, a_icge, a_icne, a_ifeq, a_ild, a_inc, a_iret, a_ist, a_push, a_wi, sh_31, sh_33, sh_37, pu_rv, pu_as, Value.category, pu_bk, pu_kl, List.replicate, pu_wi_1, pu_wi_2, nl_add, nl_ladd, nl_aa, nl_mul, nl_rmul, nl_mm, pu_qe0, pu_qe1, hnN, hc, f1, f4, q1, o2, o3, dn, i2, F2]
          all_goals try simp (maxSteps := 400000) (disch := omega) [nl_tle, nl_fle, nl_tlt, nl_flt, nl_teq, nl_feq, nl_sub, nl_ss, nl_lt, nl_llt, nl_ltt, nl_le, nl_lle, nl_lee, nl_eq, nl_leq, nl_ee, nl_div, nl_rem, nl_cl, nl_n1, nl_n2, nl_n3, nl_n4, nl_add, nl_ladd, nl_aa, nl_mul, nl_rmul, nl_mm, pu_wi_1, pu_wi_2, bX2_closeWithUnder_5, bX2_closeWithUnder_88, bX2_closeWithUnder_48, bX2_closeWithUnder_49, bX2_closeWithUnder_82, bX2_closeWithUnder_71, a_ai, a_ald, a_cv, a_gi, a_gr, a_iceq, a_icge, a_icne, a_ifeq, a_ild, a_inc, a_iret, a_ist, a_push, a_wi, sh_31, sh_33, sh_37, pu_rv, pu_as, Value.category, pu_bk, pu_kl, pu_qe0, pu_qe1, hnN, hc, f1, f4, q1, o2, o3, dn, i2, F2]
        · have it2 : ¬ nI i = nI top := fun z => it (by rw [nI_eq (by omega) (by omega)] at z; exact z)
          rw [qX2_closeWithUnder_5]
          simp [bX2_closeWithUnder_5, bX2_closeWithUnder_88, bX2_closeWithUnder_48, bX2_closeWithUnder_49, bX2_closeWithUnder_82, bX2_closeWithUnder_71, a_ai, a_ald, a_cv, a_gi, a_gr, a_iceq, a_icge, a_icne, a_ifeq, a_ild, a_inc, a_iret, a_ist, a_push, a_wi, sh_31, sh_33, sh_37, pu_rv, pu_as, Value.category, pu_bk, pu_kl, List.replicate, pu_wi_1, pu_wi_2, nl_add, nl_ladd, nl_aa, nl_mul, nl_rmul, nl_mm, pu_qe0, pu_qe1, hnN, hc, f1, f4, q1, o2, o3, dn, i2, it2, F2]
          all_goals try simp (maxSteps := 400000) (disch := omega) [nl_tle, nl_fle, nl_tlt, nl_flt, nl_teq, nl_feq, nl_sub, nl_ss, nl_lt, nl_llt, nl_ltt, nl_le, nl_lle, nl_lee, nl_eq, nl_leq, nl_ee, nl_div, nl_rem, nl_cl, nl_n1, nl_n2, nl_n3, nl_n4, nl_add, nl_ladd, nl_aa, nl_mul, nl_rmul, nl_mm, pu_wi_1, pu_wi_2, bX2_closeWithUnder_5, bX2_closeWithUnder_88, bX2_closeWithUnder_48, bX2_closeWithUnder_49, bX2_closeWithUnder_82, bX2_closeWithUnder_71, a_ai, a_ald, a_cv, a_gi, a_gr, a_iceq, a_icge, a_icne, a_ifeq, a_ild, a_inc, a_iret, a_ist, a_push, a_wi, sh_31, sh_33, sh_37, pu_rv, pu_as, Value.category, pu_bk, pu_kl, pu_qe0, pu_qe1, hnN, hc, f1, f4, q1, o2, o3, dn, i2, it2, F2]
          all_goals try simp [bX2_closeWithUnder_5, bX2_closeWithUnder_88, bX2_closeWithUnder_48, bX2_closeWithUnder_49, bX2_closeWithUnder_82, bX2_closeWithUnder_71, a_ai, a_ald, a_cv, a_gi, a_gr, a_iceq, a_icge, a_icne, a_ifeq, a_ild, a_inc, a_iret, a_ist, a_push, a_wi, sh_31, sh_33, sh_37, pu_rv, pu_as, Value.category, pu_bk, pu_kl, List.replicate, pu_wi_1, pu_wi_2, nl_add, nl_ladd, nl_aa, nl_mul, nl_rmul, nl_mm, pu_qe0, pu_qe1, hnN, hc, f1, f4, q1, o2, o3, dn, i2, it2, F2]
          all_goals try simp (maxSteps := 400000) (disch := omega) [nl_tle, nl_fle, nl_tlt, nl_flt, nl_teq, nl_feq, nl_sub, nl_ss, nl_lt, nl_llt, nl_ltt, nl_le, nl_lle, nl_lee, nl_eq, nl_leq, nl_ee, nl_div, nl_rem, nl_cl, nl_n1, nl_n2, nl_n3, nl_n4, nl_add, nl_ladd, nl_aa, nl_mul, nl_rmul, nl_mm, pu_wi_1, pu_wi_2, bX2_closeWithUnder_5, bX2_closeWithUnder_88, bX2_closeWithUnder_48, bX2_closeWithUnder_49, bX2_closeWithUnder_82, bX2_closeWithUnder_71, a_ai, a_ald, a_cv, a_gi, a_gr, a_iceq, a_icge, a_icne, a_ifeq, a_ild, a_inc, a_iret, a_ist, a_push, a_wi, sh_31, sh_33, sh_37, pu_rv, pu_as, Value.category, pu_bk, pu_kl, pu_qe0, pu_qe1, hnN, hc, f1, f4, q1, o2, o3, dn, i2, it2, F2]
    · have e : py_ct (py_S I top) (m + 1) i n = py_ct (py_S I top) m (i + 1) n := by
        show py_ct (py_S I top) m (i + 1) _ = _
        rw [if_neg s]
      rw [e]
      have ih := fun t => c_cwu_l hx hw h31 h33 h37 hP ht m (i + 1) n N t (by omega) (by omega) (no s)
      by_cases c : I 37 i = -1
      · rw [pu_q1 c] at i2
        have v : ¬ (i = top ∨ (I 32 i ≠ 0 ∧ py_S I top (I 33 i).toNatClampNeg)) := fun z => s (eS.mpr ⟨c, z⟩)
        have it : ¬ i = top := fun z => v (Or.inl z)
        have it2 : ¬ nI i = nI top := fun z => it (by rw [nI_eq (by omega) (by omega)] at z; exact z)
        obtain ⟨F, F1, F2⟩ := ih (some (.int 0))
        refine ⟨F, F1, ?_⟩
        rcases ov with ⟨v1, v2⟩ | ⟨v1, _⟩
        · rcases v2 with v2 | ⟨o, o1, o2, o3⟩
          · have dn := c_isDoorN hxN
            rw [qX2_closeWithUnder_5]
            simp [bX2_closeWithUnder_5, bX2_closeWithUnder_88, bX2_closeWithUnder_48, bX2_closeWithUnder_49, bX2_closeWithUnder_82, bX2_closeWithUnder_71, a_ai, a_ald, a_cv, a_gi, a_gr, a_iceq, a_icge, a_icne, a_ifeq, a_ild, a_inc, a_iret, a_ist, a_push, a_wi, sh_31, sh_33, sh_37, pu_rv, pu_as, Value.category, pu_bk, pu_kl, List.replicate, pu_wi_1, pu_wi_2, nl_add, nl_ladd, nl_aa, nl_mul, nl_rmul, nl_mm, pu_qe0, pu_qe1, hnN, hc, f1, f4, q1, v2, dn, i2, it2, F2]
            all_goals try simp (maxSteps := 400000) (disch := omega) [nl_tle, nl_fle, nl_tlt, nl_flt, nl_teq, nl_feq, nl_sub, nl_ss, nl_lt, nl_llt, nl_ltt, nl_le, nl_lle, nl_lee, nl_eq, nl_leq, nl_ee, nl_div, nl_rem, nl_cl, nl_n1, nl_n2, nl_n3, nl_n4, nl_add, nl_ladd, nl_aa, nl_mul, nl_rmul, nl_mm, pu_wi_1, pu_wi_2, bX2_closeWithUnder_5, bX2_closeWithUnder_88, bX2_closeWithUnder_48, bX2_closeWithUnder_49, bX2_closeWithUnder_82, bX2_closeWithUnder_71, a_ai, a_ald, a_cv, a_gi, a_gr, a_iceq, a_icge, a_icne, a_ifeq, a_ild, a_inc, a_iret, a_ist, a_push, a_wi, sh_31, sh_33, sh_37, pu_rv, pu_as, Value.category, pu_bk, pu_kl, pu_qe0, pu_qe1, hnN, hc, f1, f4, q1, v2, dn, i2, it2, F2]
            all_goals try simp [bX2_closeWithUnder_5, bX2_closeWithUnder_88, bX2_closeWithUnder_48, bX2_closeWithUnder_49, bX2_closeWithUnder_82, bX2_closeWithUnder_71, a_ai, a_ald, a_cv, a_gi, a_gr, a_iceq, a_icge, a_icne, a_ifeq, a_ild, a_inc, a_iret, a_ist, a_push, a_wi, sh_31, sh_33, sh_37, pu_rv, pu_as, Value.category, pu_bk, pu_kl, List.replicate, pu_wi_1, pu_wi_2, nl_add, nl_ladd, nl_aa, nl_mul, nl_rmul, nl_mm, pu_qe0, pu_qe1, hnN, hc, f1, f4, q1, v2, dn, i2, it2, F2]
            all_goals try simp (maxSteps := 400000) (disch := omega) [nl_tle, nl_fle, nl_tlt, nl_flt, nl_teq, nl_feq, nl_sub, nl_ss, nl_lt, nl_llt, nl_ltt, nl_le, nl_lle, nl_lee, nl_eq, nl_leq, nl_ee, nl_div, nl_rem, nl_cl, nl_n1, nl_n2, nl_n3, nl_n4, nl_add, nl_ladd, nl_aa, nl_mul, nl_rmul, nl_mm, pu_wi_1, pu_wi_2, bX2_closeWithUnder_5, bX2_closeWithUnder_88, bX2_closeWithUnder_48, bX2_closeWithUnder_49, bX2_closeWithUnder_82, bX2_closeWithUnder_71, a_ai, a_ald, a_cv, a_gi, a_gr, a_iceq, a_icge, a_icne, a_ifeq, a_ild, a_inc, a_iret, a_ist, a_push, a_wi, sh_31, sh_33, sh_37, pu_rv, pu_as, Value.category, pu_bk, pu_kl, pu_qe0, pu_qe1, hnN, hc, f1, f4, q1, v2, dn, i2, it2, F2]
          · have dn := c_isDoorM hxN (cD I) o hnN bD (by omega)
            rw [qX2_closeWithUnder_5]
            simp [bX2_closeWithUnder_5, bX2_closeWithUnder_88, bX2_closeWithUnder_48, bX2_closeWithUnder_49, bX2_closeWithUnder_82, bX2_closeWithUnder_71, a_ai, a_ald, a_cv, a_gi, a_gr, a_iceq, a_icge, a_icne, a_ifeq, a_ild, a_inc, a_iret, a_ist, a_push, a_wi, sh_31, sh_33, sh_37, pu_rv, pu_as, Value.category, pu_bk, pu_kl, List.replicate, pu_wi_1, pu_wi_2, nl_add, nl_ladd, nl_aa, nl_mul, nl_rmul, nl_mm, pu_qe0, pu_qe1, hnN, hc, f1, f4, q1, o2, o3, dn, i2, it2, F2]
            all_goals try simp (maxSteps := 400000) (disch := omega) [nl_tle, nl_fle, nl_tlt, nl_flt, nl_teq, nl_feq, nl_sub, nl_ss, nl_lt, nl_llt, nl_ltt, nl_le, nl_lle, nl_lee, nl_eq, nl_leq, nl_ee, nl_div, nl_rem, nl_cl, nl_n1, nl_n2, nl_n3, nl_n4, nl_add, nl_ladd, nl_aa, nl_mul, nl_rmul, nl_mm, pu_wi_1, pu_wi_2, bX2_closeWithUnder_5, bX2_closeWithUnder_88, bX2_closeWithUnder_48, bX2_closeWithUnder_49, bX2_closeWithUnder_82, bX2_closeWithUnder_71, a_ai, a_ald, a_cv, a_gi, a_gr, a_iceq, a_icge, a_icne, a_ifeq, a_ild, a_inc, a_iret, a_ist, a_push, a_wi, sh_31, sh_33, sh_37, pu_rv, pu_as, Value.category, pu_bk, pu_kl, pu_qe0, pu_qe1, hnN, hc, f1, f4, q1, o2, o3, dn, i2, it2, F2]
            all_goals try simp [bX2_closeWithUnder_5, bX2_closeWithUnder_88, bX2_closeWithUnder_48, bX2_closeWithUnder_49, bX2_closeWithUnder_82, bX2_closeWithUnder_71, a_ai, a_ald, a_cv, a_gi, a_gr, a_iceq, a_icge, a_icne, a_ifeq, a_ild, a_inc, a_iret, a_ist, a_push, a_wi, sh_31, sh_33, sh_37, pu_rv, pu_as, Value.category, pu_bk, pu_kl, List.replicate, pu_wi_1, pu_wi_2, nl_add, nl_ladd, nl_aa, nl_mul, nl_rmul, nl_mm, pu_qe0, pu_qe1, hnN, hc, f1, f4, q1, o2, o3, dn, i2, it2, F2]
            all_goals try simp (maxSteps := 400000) (disch := omega) [nl_tle, nl_fle, nl_tlt, nl_flt, nl_teq, nl_feq, nl_sub, nl_ss, nl_lt, nl_llt, nl_ltt, nl_le, nl_lle, nl_lee, nl_eq, nl_leq, nl_ee, nl_div, nl_rem, nl_cl, nl_n1, nl_n2, nl_n3, nl_n4, nl_add, nl_ladd, nl_aa, nl_mul, nl_rmul, nl_mm, pu_wi_1, pu_wi_2, bX2_closeWithUnder_5, bX2_closeWithUnder_88, bX2_closeWithUnder_48, bX2_closeWithUnder_49, bX2_closeWithUnder_82, bX2_closeWithUnder_71, a_ai, a_ald, a_cv, a_gi, a_gr, a_iceq, a_icge, a_icne, a_ifeq, a_ild, a_inc, a_iret, a_ist, a_push, a_wi, sh_31, sh_33, sh_37, pu_rv, pu_as, Value.category, pu_bk, pu_kl, pu_qe0, pu_qe1, hnN, hc, f1, f4, q1, o2, o3, dn, i2, it2, F2]
        · exact absurd (Or.inr v1) v
      · rw [pu_q0 c] at i2
        rcases ov with ⟨v1, v2⟩ | ⟨v1, o, o1, o2, o3⟩
        · obtain ⟨F, F1, F2⟩ := ih (some (.int 0))
          refine ⟨F, F1, ?_⟩
          rcases v2 with v2 | ⟨o, o1, o2, o3⟩
          · have dn := c_isDoorN hxN
            rw [qX2_closeWithUnder_5]
            simp [bX2_closeWithUnder_5, bX2_closeWithUnder_88, bX2_closeWithUnder_48, bX2_closeWithUnder_49, bX2_closeWithUnder_82, bX2_closeWithUnder_71, a_ai, a_ald, a_cv, a_gi, a_gr, a_iceq, a_icge, a_icne, a_ifeq, a_ild, a_inc, a_iret, a_ist, a_push, a_wi, sh_31, sh_33, sh_37, pu_rv, pu_as, Value.category, pu_bk, pu_kl, List.replicate, pu_wi_1, pu_wi_2, nl_add, nl_ladd, nl_aa, nl_mul, nl_rmul, nl_mm, pu_qe0, pu_qe1, hnN, hc, f1, f4, q1, v2, dn, i2, F2]
            all_goals try simp (maxSteps := 400000) (disch := omega) [nl_tle, nl_fle, nl_tlt, nl_flt, nl_teq, nl_feq, nl_sub, nl_ss, nl_lt, nl_llt, nl_ltt, nl_le, nl_lle, nl_lee, nl_eq, nl_leq, nl_ee, nl_div, nl_rem, nl_cl, nl_n1, nl_n2, nl_n3, nl_n4, nl_add, nl_ladd, nl_aa, nl_mul, nl_rmul, nl_mm, pu_wi_1, pu_wi_2, bX2_closeWithUnder_5, bX2_closeWithUnder_88, bX2_closeWithUnder_48, bX2_closeWithUnder_49, bX2_closeWithUnder_82, bX2_closeWithUnder_71, a_ai, a_ald, a_cv, a_gi, a_gr, a_iceq, a_icge, a_icne, a_ifeq, a_ild, a_inc, a_iret, a_ist, a_push, a_wi, sh_31, sh_33, sh_37, pu_rv, pu_as, Value.category, pu_bk, pu_kl, pu_qe0, pu_qe1, hnN, hc, f1, f4, q1, v2, dn, i2, F2]
            all_goals try simp [bX2_closeWithUnder_5, bX2_closeWithUnder_88, bX2_closeWithUnder_48, bX2_closeWithUnder_49, bX2_closeWithUnder_82, bX2_closeWithUnder_71, a_ai, a_ald, a_cv, a_gi, a_gr, a_iceq, a_icge, a_icne, a_ifeq, a_ild, a_inc, a_iret, a_ist, a_push, a_wi, sh_31, sh_33, sh_37, pu_rv, pu_as, Value.category, pu_bk, pu_kl, List.replicate, pu_wi_1, pu_wi_2, nl_add, nl_ladd, nl_aa, nl_mul, nl_rmul, nl_mm, pu_qe0, pu_qe1, hnN, hc, f1, f4, q1, v2, dn, i2, F2]
            all_goals try simp (maxSteps := 400000) (disch := omega) [nl_tle, nl_fle, nl_tlt, nl_flt, nl_teq, nl_feq, nl_sub, nl_ss, nl_lt, nl_llt, nl_ltt, nl_le, nl_lle, nl_lee, nl_eq, nl_leq, nl_ee, nl_div, nl_rem, nl_cl, nl_n1, nl_n2, nl_n3, nl_n4, nl_add, nl_ladd, nl_aa, nl_mul, nl_rmul, nl_mm, pu_wi_1, pu_wi_2, bX2_closeWithUnder_5, bX2_closeWithUnder_88, bX2_closeWithUnder_48, bX2_closeWithUnder_49, bX2_closeWithUnder_82, bX2_closeWithUnder_71, a_ai, a_ald, a_cv, a_gi, a_gr, a_iceq, a_icge, a_icne, a_ifeq, a_ild, a_inc, a_iret, a_ist, a_push, a_wi, sh_31, sh_33, sh_37, pu_rv, pu_as, Value.category, pu_bk, pu_kl, pu_qe0, pu_qe1, hnN, hc, f1, f4, q1, v2, dn, i2, F2]
          · have dn := c_isDoorM hxN (cD I) o hnN bD (by omega)
            rw [qX2_closeWithUnder_5]
            simp [bX2_closeWithUnder_5, bX2_closeWithUnder_88, bX2_closeWithUnder_48, bX2_closeWithUnder_49, bX2_closeWithUnder_82, bX2_closeWithUnder_71, a_ai, a_ald, a_cv, a_gi, a_gr, a_iceq, a_icge, a_icne, a_ifeq, a_ild, a_inc, a_iret, a_ist, a_push, a_wi, sh_31, sh_33, sh_37, pu_rv, pu_as, Value.category, pu_bk, pu_kl, List.replicate, pu_wi_1, pu_wi_2, nl_add, nl_ladd, nl_aa, nl_mul, nl_rmul, nl_mm, pu_qe0, pu_qe1, hnN, hc, f1, f4, q1, o2, o3, dn, i2, F2]
            all_goals try simp (maxSteps := 400000) (disch := omega) [nl_tle, nl_fle, nl_tlt, nl_flt, nl_teq, nl_feq, nl_sub, nl_ss, nl_lt, nl_llt, nl_ltt, nl_le, nl_lle, nl_lee, nl_eq, nl_leq, nl_ee, nl_div, nl_rem, nl_cl, nl_n1, nl_n2, nl_n3, nl_n4, nl_add, nl_ladd, nl_aa, nl_mul, nl_rmul, nl_mm, pu_wi_1, pu_wi_2, bX2_closeWithUnder_5, bX2_closeWithUnder_88, bX2_closeWithUnder_48, bX2_closeWithUnder_49, bX2_closeWithUnder_82, bX2_closeWithUnder_71, a_ai, a_ald, a_cv, a_gi, a_gr, a_iceq, a_icge, a_icne, a_ifeq, a_ild, a_inc, a_iret, a_ist, a_push, a_wi, sh_31, sh_33, sh_37, pu_rv, pu_as, Value.category, pu_bk, pu_kl, pu_qe0, pu_qe1, hnN, hc, f1, f4, q1, o2, o3, dn, i2, F2]
            all_goals try simp [bX2_closeWithUnder_5, bX2_closeWithUnder_88, bX2_closeWithUnder_48, bX2_closeWithUnder_49, bX2_closeWithUnder_82, bX2_closeWithUnder_71, a_ai, a_ald, a_cv, a_gi, a_gr, a_iceq, a_icge, a_icne, a_ifeq, a_ild, a_inc, a_iret, a_ist, a_push, a_wi, sh_31, sh_33, sh_37, pu_rv, pu_as, Value.category, pu_bk, pu_kl, List.replicate, pu_wi_1, pu_wi_2, nl_add, nl_ladd, nl_aa, nl_mul, nl_rmul, nl_mm, pu_qe0, pu_qe1, hnN, hc, f1, f4, q1, o2, o3, dn, i2, F2]
            all_goals try simp (maxSteps := 400000) (disch := omega) [nl_tle, nl_fle, nl_tlt, nl_flt, nl_teq, nl_feq, nl_sub, nl_ss, nl_lt, nl_llt, nl_ltt, nl_le, nl_lle, nl_lee, nl_eq, nl_leq, nl_ee, nl_div, nl_rem, nl_cl, nl_n1, nl_n2, nl_n3, nl_n4, nl_add, nl_ladd, nl_aa, nl_mul, nl_rmul, nl_mm, pu_wi_1, pu_wi_2, bX2_closeWithUnder_5, bX2_closeWithUnder_88, bX2_closeWithUnder_48, bX2_closeWithUnder_49, bX2_closeWithUnder_82, bX2_closeWithUnder_71, a_ai, a_ald, a_cv, a_gi, a_gr, a_iceq, a_icge, a_icne, a_ifeq, a_ild, a_inc, a_iret, a_ist, a_push, a_wi, sh_31, sh_33, sh_37, pu_rv, pu_as, Value.category, pu_bk, pu_kl, pu_qe0, pu_qe1, hnN, hc, f1, f4, q1, o2, o3, dn, i2, F2]
        · have dn := c_isDoorM hxN (cD I) o hnN bD (by omega)
          obtain ⟨F, F1, F2⟩ := ih (some (.int 1))
          refine ⟨F, F1, ?_⟩
          rw [qX2_closeWithUnder_5]
          simp [bX2_closeWithUnder_5, bX2_closeWithUnder_88, bX2_closeWithUnder_48, bX2_closeWithUnder_49, bX2_closeWithUnder_82, bX2_closeWithUnder_71, a_ai, a_ald, a_cv, a_gi, a_gr, a_iceq, a_icge, a_icne, a_ifeq, a_ild, a_inc, a_iret, a_ist, a_push, a_wi, sh_31, sh_33, sh_37, pu_rv, pu_as, Value.category, pu_bk, pu_kl, List.replicate, pu_wi_1, pu_wi_2, nl_add, nl_ladd, nl_aa, nl_mul, nl_rmul, nl_mm, pu_qe0, pu_qe1, hnN, hc, f1, f4, q1, o2, o3, dn, i2, F2]
          all_goals try simp (maxSteps := 400000) (disch := omega) [nl_tle, nl_fle, nl_tlt, nl_flt, nl_teq, nl_feq, nl_sub, nl_ss, nl_lt, nl_llt, nl_ltt, nl_le, nl_lle, nl_lee, nl_eq, nl_leq, nl_ee, nl_div, nl_rem, nl_cl, nl_n1, nl_n2, nl_n3, nl_n4, nl_add, nl_ladd, nl_aa, nl_mul, nl_rmul, nl_mm, pu_wi_1, pu_wi_2, bX2_closeWithUnder_5, bX2_closeWithUnder_88, bX2_closeWithUnder_48, bX2_closeWithUnder_49, bX2_closeWithUnder_82, bX2_closeWithUnder_71, a_ai, a_ald, a_cv, a_gi, a_gr, a_iceq, a_icge, a_icne, a_ifeq, a_ild, a_inc, a_iret, a_ist, a_push, a_wi, sh_31, sh_33, sh_37, pu_rv, pu_as, Value.category, pu_bk, pu_kl, pu_qe0, pu_qe1, hnN, hc, f1, f4, q1, o2, o3, dn, i2, F2]
          all_goals try simp [bX2_closeWithUnder_5, bX2_closeWithUnder_88, bX2_closeWithUnder_48, bX2_closeWithUnder_49, bX2_closeWithUnder_82, bX2_closeWithUnder_71, a_ai, a_ald, a_cv, a_gi, a_gr, a_iceq, a_icge, a_icne, a_ifeq, a_ild, a_inc, a_iret, a_ist, a_push, a_wi, sh_31, sh_33, sh_37, pu_rv, pu_as, Value.category, pu_bk, pu_kl, List.replicate, pu_wi_1, pu_wi_2, nl_add, nl_ladd, nl_aa, nl_mul, nl_rmul, nl_mm, pu_qe0, pu_qe1, hnN, hc, f1, f4, q1, o2, o3, dn, i2, F2]
          all_goals try simp (maxSteps := 400000) (disch := omega) [nl_tle, nl_fle, nl_tlt, nl_flt, nl_teq, nl_feq, nl_sub, nl_ss, nl_lt, nl_llt, nl_ltt, nl_le, nl_lle, nl_lee, nl_eq, nl_leq, nl_ee, nl_div, nl_rem, nl_cl, nl_n1, nl_n2, nl_n3, nl_n4, nl_add, nl_ladd, nl_aa, nl_mul, nl_rmul, nl_mm, pu_wi_1, pu_wi_2, bX2_closeWithUnder_5, bX2_closeWithUnder_88, bX2_closeWithUnder_48, bX2_closeWithUnder_49, bX2_closeWithUnder_82, bX2_closeWithUnder_71, a_ai, a_ald, a_cv, a_gi, a_gr, a_iceq, a_icge, a_icne, a_ifeq, a_ild, a_inc, a_iret, a_ist, a_push, a_wi, sh_31, sh_33, sh_37, pu_rv, pu_as, Value.category, pu_bk, pu_kl, pu_qe0, pu_qe1, hnN, hc, f1, f4, q1, o2, o3, dn, i2, F2]
theorem c_cwu {M : pu_M} (hx : pu_fx M) (hw : pu_WF I L) (h31 : M.1 31 0 = nI (cD I)) (h33 : ∀ d, d < cD I → M.1 33 d = I 33 d) (h37 : ∀ d, d < cD I → M.1 37 d = I 37 d) (hP : cP I < 200) {top : Nat} (ht : top < cD I) : ∃ F, py_c37 M F (py_S I top) (nI (cP I)) (cD I) ∧ pu_r 103 [some (.ref 31), some (.int (nI top)), some (.int (nI (cP I)))] [] M = some (some (.int (nI (py_ct (py_S I top) (cD I) 0 0))), F) := by
  obtain ⟨F, F1, F2⟩ := c_cwu_l hx hw h31 h33 h37 hP ht (cD I) 0 0 M none (by omega) (by omega) ⟨rfl, fun _ _ _ => rfl, fun k => ⟨fun z => absurd z.1 (by omega), fun _ => rfl⟩⟩
  refine ⟨F, F1, ?_⟩
  rw [nI_0] at F2
  rw [qX2_closeWithUnder]
  simp [a_ent, bX2_closeWithUnder_0, a_ist, a_push, pu_rv, pu_as, Value.category, pu_bk, pu_kl, List.replicate, pu_wi_1, pu_wi_2, nl_add, nl_ladd, nl_aa, nl_mul, nl_rmul, nl_mm, pu_qe0, pu_qe1, F2]
  all_goals try simp (maxSteps := 400000) (disch := omega) [nl_tle, nl_fle, nl_tlt, nl_flt, nl_teq, nl_feq, nl_sub, nl_ss, nl_lt, nl_llt, nl_ltt, nl_le, nl_lle, nl_lee, nl_eq, nl_leq, nl_ee, nl_div, nl_rem, nl_cl, nl_n1, nl_n2, nl_n3, nl_n4, nl_add, nl_ladd, nl_aa, nl_mul, nl_rmul, nl_mm, pu_wi_1, pu_wi_2, bX2_closeWithUnder_0, a_ist, a_push, pu_rv, pu_as, Value.category, pu_bk, pu_kl, pu_qe0, pu_qe1, F2]
  all_goals try simp [bX2_closeWithUnder_0, a_ist, a_push, pu_rv, pu_as, Value.category, pu_bk, pu_kl, List.replicate, pu_wi_1, pu_wi_2, nl_add, nl_ladd, nl_aa, nl_mul, nl_rmul, nl_mm, pu_qe0, pu_qe1, F2]
  all_goals try simp (maxSteps := 400000) (disch := omega) [nl_tle, nl_fle, nl_tlt, nl_flt, nl_teq, nl_feq, nl_sub, nl_ss, nl_lt, nl_llt, nl_ltt, nl_le, nl_lle, nl_lee, nl_eq, nl_leq, nl_ee, nl_div, nl_rem, nl_cl, nl_n1, nl_n2, nl_n3, nl_n4, nl_add, nl_ladd, nl_aa, nl_mul, nl_rmul, nl_mm, pu_wi_1, pu_wi_2, bX2_closeWithUnder_0, a_ist, a_push, pu_rv, pu_as, Value.category, pu_bk, pu_kl, pu_qe0, pu_qe1, F2]
end
