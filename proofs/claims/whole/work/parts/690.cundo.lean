/-! undo: what is kept; the class's side -/
theorem py_pref {o : Nat → Int32} {P : Int} : ∀ n, (∀ k l, k ≤ l → l < n → (o k).toInt ≤ (o l).toInt) → ∃ u, u ≤ n ∧ ∀ k, k < n → (k < u ↔ (o k).toInt < P)
  | 0, _ => ⟨0, Nat.le_refl _, fun k hk => by omega⟩
  | n + 1, h => by
    obtain ⟨u, u1, u2⟩ := py_pref n (fun k l a b => h k l a (by omega))
    by_cases c : (o n).toInt < P
    · refine ⟨n + 1, Nat.le_refl _, fun k hk => ⟨fun _ => ?_, fun _ => hk⟩⟩
      have := h k n (by omega) (by omega)
      omega
    · refine ⟨u, by omega, fun k hk => ?_⟩
      by_cases z : k = n
      · subst z
        exact ⟨fun q => absurd q (by omega), fun q => absurd q c⟩
      · exact u2 k (by omega)
theorem py_ct_no {c : Nat → Prop} : ∀ m i n, (∀ k, i ≤ k → k < i + m → ¬ c k) → py_ct c m i n = n
  | 0, i, n, h => rfl
  | m + 1, i, n, h => by
    unfold py_ct
    rw [if_neg (h i (by omega) (by omega))]
    exact py_ct_no m (i + 1) n (fun k a b => h k (by omega) (by omega))
theorem py_ct_pref {c : Nat → Prop} {u : Nat} : ∀ m i n, i ≤ u → u ≤ i + m → (∀ k, i ≤ k → k < i + m → (k < u ↔ c k)) → py_ct c m i n = n + (u - i)
  | 0, i, n, h1, h2, h => by
    show n = _
    omega
  | m + 1, i, n, h1, h2, h => by
    by_cases z : i = u
    · rw [py_ct_no (m + 1) i n (fun k a b q => by
        have := (h k a b).mpr q
        omega)]
      omega
    · unfold py_ct
      rw [if_pos ((h i (by omega) (by omega)).mp (by omega)), py_ct_pref m (i + 1) (n + 1) (by omega) (by omega) (fun k a b => h k (by omega) (by omega))]
      omega
def py_kw (M N : pu_M) (rc : Nat) (p : Int32) (i : Nat) : Prop := N.2 = M.2 ∧ (∀ x k, x ≠ rc → N.1 x k = M.1 x k) ∧ ∀ k, (k < i ∧ M.1 rc k = p → N.1 rc k = -1) ∧ (¬ (k < i ∧ M.1 rc k = p) → N.1 rc k = M.1 rc k)
theorem c_kept_l {M : pu_M} {ro rc lo : Nat} (hne : ro ≠ rc) (so : pu_sh ro = (1, lo)) (sc : pu_sh rc = (1, lo)) (p : Int32) (n : Nat) (hn : n ≤ lo) (hlo : lo < 5000) : ∀ m i j (N : pu_M), i + m = n → j ≤ i → py_kw M N rc p i → ∃ F, py_kw M F rc p n ∧ pu_r 391 [some (.int p), some (.ref ro), some (.ref rc), some (.int (nI n)), some (.int (nI j)), some (.int (nI i))] [] N = some (some (.int (nI (py_ct (fun k => M.1 ro k ≠ p) m i j))), F)
  | 0, i, j, N, h, hj, g => by
    refine ⟨N, by rw [← h]; exact g, ?_⟩
    have hc : nI n ≤ nI i := nI_le (by omega) (by omega)
    rw [qX6_keptWithout_6]
    simp [bX6_keptWithout_6, bX6_keptWithout_42, bX6_keptWithout_25, bX6_keptWithout_36, a_ai, a_ald, a_iceq, a_icge, a_icne, a_ild, a_inc, a_iret, a_push, a_wi, pu_rv, pu_as, Value.category, pu_bk, pu_kl, List.replicate, pu_wi_1, pu_wi_2, nl_add, nl_ladd, nl_aa, nl_mul, nl_rmul, nl_mm, pu_qe0, pu_qe1, hc, py_ct]
    all_goals try simp (maxSteps := 400000) (disch := omega) [nl_tle, nl_fle, nl_tlt, nl_flt, nl_teq, nl_feq, nl_sub, nl_ss, nl_lt, nl_llt, nl_ltt, nl_le, nl_lle, nl_lee, nl_eq, nl_leq, nl_ee, nl_div, nl_rem, nl_cl, nl_n1, nl_n2, nl_n3, nl_n4, nl_add, nl_ladd, nl_aa, nl_mul, nl_rmul, nl_mm, pu_wi_1, pu_wi_2, bX6_keptWithout_6, bX6_keptWithout_42, bX6_keptWithout_25, bX6_keptWithout_36, a_ai, a_ald, a_iceq, a_icge, a_icne, a_ild, a_inc, a_iret, a_push, a_wi, pu_rv, pu_as, Value.category, pu_bk, pu_kl, pu_qe0, pu_qe1, hc, py_ct]
    all_goals try simp [bX6_keptWithout_6, bX6_keptWithout_42, bX6_keptWithout_25, bX6_keptWithout_36, a_ai, a_ald, a_iceq, a_icge, a_icne, a_ild, a_inc, a_iret, a_push, a_wi, pu_rv, pu_as, Value.category, pu_bk, pu_kl, List.replicate, pu_wi_1, pu_wi_2, nl_add, nl_ladd, nl_aa, nl_mul, nl_rmul, nl_mm, pu_qe0, pu_qe1, hc, py_ct]
    all_goals try simp (maxSteps := 400000) (disch := omega) [nl_tle, nl_fle, nl_tlt, nl_flt, nl_teq, nl_feq, nl_sub, nl_ss, nl_lt, nl_llt, nl_ltt, nl_le, nl_lle, nl_lee, nl_eq, nl_leq, nl_ee, nl_div, nl_rem, nl_cl, nl_n1, nl_n2, nl_n3, nl_n4, nl_add, nl_ladd, nl_aa, nl_mul, nl_rmul, nl_mm, pu_wi_1, pu_wi_2, bX6_keptWithout_6, bX6_keptWithout_42, bX6_keptWithout_25, bX6_keptWithout_36, a_ai, a_ald, a_iceq, a_icge, a_icne, a_ild, a_inc, a_iret, a_push, a_wi, pu_rv, pu_as, Value.category, pu_bk, pu_kl, pu_qe0, pu_qe1, hc, py_ct]
  | m + 1, i, j, N, h, hj, g => by
    have hc : ¬ nI n ≤ nI i := nI_ge (by omega) (by omega)
    have q1 : N.1 ro i = M.1 ro i := g.2.1 ro i hne
    have q2 : N.1 rc i = M.1 rc i := (g.2.2 i).2 (by omega)
    have e1 : ∀ c : M.1 ro i = p, py_ct (fun k => M.1 ro k ≠ p) (m + 1) i j = py_ct (fun k => M.1 ro k ≠ p) m (i + 1) j := fun c => by
      show py_ct _ m (i + 1) _ = _
      rw [if_neg (fun z => z c)]
    have e2 : ∀ c : ¬ M.1 ro i = p, py_ct (fun k => M.1 ro k ≠ p) (m + 1) i j = py_ct (fun k => M.1 ro k ≠ p) m (i + 1) (j + 1) := fun c => by
      show py_ct _ m (i + 1) _ = _
      rw [if_pos c]
    by_cases c : M.1 rc i = p
    · have g2 : py_kw M (pu_wi N rc i (-1)) rc p (i + 1) := ⟨g.1, fun x k hk => by
        rw [py_wi_o (by omega)]
        exact g.2.1 x k hk, fun k => ⟨fun hk => by
          by_cases z : k = i
          · subst z
            simp [pu_wi_1]
          · rw [py_wi_o (by omega)]
            exact (g.2.2 k).1 ⟨by omega, hk.2⟩, fun hk => by
          by_cases z : k = i
          · subst z
            exact absurd ⟨by omega, c⟩ hk
          · rw [py_wi_o (by omega)]
            exact (g.2.2 k).2 (fun y => hk ⟨by omega, y.2⟩)⟩⟩
      have q3 : (pu_wi N rc i (-1)).1 ro i = M.1 ro i := by rw [py_wi_o (by omega)]; exact q1
      have il : i < lo := by omega
      by_cases c2 : M.1 ro i = p
      · obtain ⟨F, F1, F2⟩ := c_kept_l hne so sc p n hn hlo m (i + 1) j _ (by omega) (by omega) g2
        refine ⟨F, F1, ?_⟩
        rw [e1 c2]
        rw [qX6_keptWithout_6]
        simp [bX6_keptWithout_6, bX6_keptWithout_42, bX6_keptWithout_25, bX6_keptWithout_36, a_ai, a_ald, a_iceq, a_icge, a_icne, a_ild, a_inc, a_iret, a_push, a_wi, pu_rv, pu_as, Value.category, pu_bk, pu_kl, List.replicate, pu_wi_1, pu_wi_2, nl_add, nl_ladd, nl_aa, nl_mul, nl_rmul, nl_mm, pu_qe0, pu_qe1, hc, so, sc, q2, c, q3, q1, c2, F2, il]
        all_goals try simp (maxSteps := 400000) (disch := omega) [nl_tle, nl_fle, nl_tlt, nl_flt, nl_teq, nl_feq, nl_sub, nl_ss, nl_lt, nl_llt, nl_ltt, nl_le, nl_lle, nl_lee, nl_eq, nl_leq, nl_ee, nl_div, nl_rem, nl_cl, nl_n1, nl_n2, nl_n3, nl_n4, nl_add, nl_ladd, nl_aa, nl_mul, nl_rmul, nl_mm, pu_wi_1, pu_wi_2, bX6_keptWithout_6, bX6_keptWithout_42, bX6_keptWithout_25, bX6_keptWithout_36, a_ai, a_ald, a_iceq, a_icge, a_icne, a_ild, a_inc, a_iret, a_push, a_wi, pu_rv, pu_as, Value.category, pu_bk, pu_kl, pu_qe0, pu_qe1, hc, so, sc, q2, c, q3, q1, c2, F2, il, hne]
        all_goals try simp [bX6_keptWithout_6, bX6_keptWithout_42, bX6_keptWithout_25, bX6_keptWithout_36, a_ai, a_ald, a_iceq, a_icge, a_icne, a_ild, a_inc, a_iret, a_push, a_wi, pu_rv, pu_as, Value.category, pu_bk, pu_kl, List.replicate, pu_wi_1, pu_wi_2, nl_add, nl_ladd, nl_aa, nl_mul, nl_rmul, nl_mm, pu_qe0, pu_qe1, hc, so, sc, q2, c, q3, q1, c2, F2, il]
        all_goals try simp (maxSteps := 400000) (disch := omega) [nl_tle, nl_fle, nl_tlt, nl_flt, nl_teq, nl_feq, nl_sub, nl_ss, nl_lt, nl_llt, nl_ltt, nl_le, nl_lle, nl_lee, nl_eq, nl_leq, nl_ee, nl_div, nl_rem, nl_cl, nl_n1, nl_n2, nl_n3, nl_n4, nl_add, nl_ladd, nl_aa, nl_mul, nl_rmul, nl_mm, pu_wi_1, pu_wi_2, bX6_keptWithout_6, bX6_keptWithout_42, bX6_keptWithout_25, bX6_keptWithout_36, a_ai, a_ald, a_iceq, a_icge, a_icne, a_ild, a_inc, a_iret, a_push, a_wi, pu_rv, pu_as, Value.category, pu_bk, pu_kl, pu_qe0, pu_qe1, hc, so, sc, q2, c, q3, q1, c2, F2, il, hne]
      · obtain ⟨F, F1, F2⟩ := c_kept_l hne so sc p n hn hlo m (i + 1) (j + 1) _ (by omega) (by omega) g2
        refine ⟨F, F1, ?_⟩
        rw [e2 c2]
        rw [qX6_keptWithout_6]
        simp [bX6_keptWithout_6, bX6_keptWithout_42, bX6_keptWithout_25, bX6_keptWithout_36, a_ai, a_ald, a_iceq, a_icge, a_icne, a_ild, a_inc, a_iret, a_push, a_wi, pu_rv, pu_as, Value.category, pu_bk, pu_kl, List.replicate, pu_wi_1, pu_wi_2, nl_add, nl_ladd, nl_aa, nl_mul, nl_rmul, nl_mm, pu_qe0, pu_qe1, hc, so, sc, q2, c, q3, q1, c2, F2, il]
        all_goals try simp (maxSteps := 400000) (disch := omega) [nl_tle, nl_fle, nl_tlt, nl_flt, nl_teq, nl_feq, nl_sub, nl_ss, nl_lt, nl_llt, nl_ltt, nl_le, nl_lle, nl_lee, nl_eq, nl_leq, nl_ee, nl_div, nl_rem, nl_cl, nl_n1, nl_n2, nl_n3, nl_n4, nl_add, nl_ladd, nl_aa, nl_mul, nl_rmul, nl_mm, pu_wi_1, pu_wi_2, bX6_keptWithout_6, bX6_keptWithout_42, bX6_keptWithout_25, bX6_keptWithout_36, a_ai, a_ald, a_iceq, a_icge, a_icne, a_ild, a_inc, a_iret, a_push, a_wi, pu_rv, pu_as, Value.category, pu_bk, pu_kl, pu_qe0, pu_qe1, hc, so, sc, q2, c, q3, q1, c2, F2, il, hne]
        all_goals try simp [bX6_keptWithout_6, bX6_keptWithout_42, bX6_keptWithout_25, bX6_keptWithout_36, a_ai, a_ald, a_iceq, a_icge, a_icne, a_ild, a_inc, a_iret, a_push, a_wi, pu_rv, pu_as, Value.category, pu_bk, pu_kl, List.replicate, pu_wi_1, pu_wi_2, nl_add, nl_ladd, nl_aa, nl_mul, nl_rmul, nl_mm, pu_qe0, pu_qe1, hc, so, sc, q2, c, q3, q1, c2, F2, il]
        all_goals try simp (maxSteps := 400000) (disch := omega) [nl_tle, nl_fle, nl_tlt, nl_flt, nl_teq, nl_feq, nl_sub, nl_ss, nl_lt, nl_llt, nl_ltt, nl_le, nl_lle, nl_lee, nl_eq, nl_leq, nl_ee, nl_div, nl_rem, nl_cl, nl_n1, nl_n2, nl_n3, nl_n4, nl_add, nl_ladd, nl_aa, nl_mul, nl_rmul, nl_mm, pu_wi_1, pu_wi_2, bX6_keptWithout_6, bX6_keptWithout_42, bX6_keptWithout_25, bX6_keptWithout_36, a_ai, a_ald, a_iceq, a_icge, a_icne, a_ild, a_inc, a_iret, a_push, a_wi, pu_rv, pu_as, Value.category, pu_bk, pu_kl, pu_qe0, pu_qe1, hc, so, sc, q2, c, q3, q1, c2, F2, il, hne]
    · have g2 : py_kw M N rc p (i + 1) := ⟨g.1, g.2.1, fun k => ⟨fun hk => by
        have z : k ≠ i := fun z => by
          rw [z] at hk
          exact c hk.2
        exact (g.2.2 k).1 ⟨by omega, hk.2⟩, fun hk => (g.2.2 k).2 (fun y => hk ⟨by omega, y.2⟩)⟩⟩
      have il : i < lo := by omega
      by_cases c2 : M.1 ro i = p
      · obtain ⟨F, F1, F2⟩ := c_kept_l hne so sc p n hn hlo m (i + 1) j _ (by omega) (by omega) g2
        refine ⟨F, F1, ?_⟩
        rw [e1 c2]
        rw [qX6_keptWithout_6]
        simp [bX6_keptWithout_6, bX6_keptWithout_42, bX6_keptWithout_25, bX6_keptWithout_36, a_ai, a_ald, a_iceq, a_icge, a_icne, a_ild, a_inc, a_iret, a_push, a_wi, pu_rv, pu_as, Value.category, pu_bk, pu_kl, List.replicate, pu_wi_1, pu_wi_2, nl_add, nl_ladd, nl_aa, nl_mul, nl_rmul, nl_mm, pu_qe0, pu_qe1, hc, so, sc, q2, c, q1, c2, F2, il]
        all_goals try simp (maxSteps := 400000) (disch := omega) [nl_tle, nl_fle, nl_tlt, nl_flt, nl_teq, nl_feq, nl_sub, nl_ss, nl_lt, nl_llt, nl_ltt, nl_le, nl_lle, nl_lee, nl_eq, nl_leq, nl_ee, nl_div, nl_rem, nl_cl, nl_n1, nl_n2, nl_n3, nl_n4, nl_add, nl_ladd, nl_aa, nl_mul, nl_rmul, nl_mm, pu_wi_1, pu_wi_2, bX6_keptWithout_6, bX6_keptWithout_42, bX6_keptWithout_25, bX6_keptWithout_36, a_ai, a_ald, a_iceq, a_icge, a_icne, a_ild, a_inc, a_iret, a_push, a_wi, pu_rv, pu_as, Value.category, pu_bk, pu_kl, pu_qe0, pu_qe1, hc, so, sc, q2, c, q1, c2, F2, il]
        all_goals try simp [bX6_keptWithout_6, bX6_keptWithout_42, bX6_keptWithout_25, bX6_keptWithout_36, a_ai, a_ald, a_iceq, a_icge, a_icne, a_ild, a_inc, a_iret, a_push, a_wi, pu_rv, pu_as, Value.category, pu_bk, pu_kl, List.replicate, pu_wi_1, pu_wi_2, nl_add, nl_ladd, nl_aa, nl_mul, nl_rmul, nl_mm, pu_qe0, pu_qe1, hc, so, sc, q2, c, q1, c2, F2, il]
        all_goals try simp (maxSteps := 400000) (disch := omega) [nl_tle, nl_fle, nl_tlt, nl_flt, nl_teq, nl_feq, nl_sub, nl_ss, nl_lt, nl_llt, nl_ltt, nl_le, nl_lle, nl_lee, nl_eq, nl_leq, nl_ee, nl_div, nl_rem, nl_cl, nl_n1, nl_n2, nl_n3, nl_n4, nl_add, nl_ladd, nl_aa, nl_mul, nl_rmul, nl_mm, pu_wi_1, pu_wi_2, bX6_keptWithout_6, bX6_keptWithout_42, bX6_keptWithout_25, bX6_keptWithout_36, a_ai, a_ald, a_iceq, a_icge, a_icne, a_ild, a_inc, a_iret, a_push, a_wi, pu_rv, pu_as, Value.category, pu_bk, pu_kl, pu_qe0, pu_qe1, hc, so, sc, q2, c, q1, c2, F2, il]
      · obtain ⟨F, F1, F2⟩ := c_kept_l hne so sc p n hn hlo m (i + 1) (j + 1) _ (by omega) (by omega) g2
        refine ⟨F, F1, ?_⟩
        rw [e2 c2]
        rw [qX6_keptWithout_6]
        simp [bX6_keptWithout_6, bX6_keptWithout_42, bX6_keptWithout_25, bX6_keptWithout_36, a_ai, a_ald, a_iceq, a_icge, a_icne, a_ild, a_inc, a_iret, a_push, a_wi, pu_rv, pu_as, Value.category, pu_bk, pu_kl, List.replicate, pu_wi_1, pu_wi_2, nl_add, nl_ladd, nl_aa, nl_mul, nl_rmul, nl_mm, pu_qe0, pu_qe1, hc, so, sc, q2, c, q1, c2, F2, il]
        all_goals try simp (maxSteps := 400000) (disch := omega) [nl_tle, nl_fle, nl_tlt, nl_flt, nl_teq, nl_feq, nl_sub, nl_ss, nl_lt, nl_llt, nl_ltt, nl_le, nl_lle, nl_lee, nl_eq, nl_leq, nl_ee, nl_div, nl_rem, nl_cl, nl_n1, nl_n2, nl_n3, nl_n4, nl_add, nl_ladd, nl_aa, nl_mul, nl_rmul, nl_mm, pu_wi_1, pu_wi_2, bX6_keptWithout_6, bX6_keptWithout_42, bX6_keptWithout_25, bX6_keptWithout_36, a_ai, a_ald, a_iceq, a_icge, a_icne, a_ild, a_inc, a_iret, a_push, a_wi, pu_rv, pu_as, Value.category, pu_bk, pu_kl, pu_qe0, pu_qe1, hc, so, sc, q2, c, q1, c2, F2, il]
        all_goals try simp [bX6_keptWithout_6, bX6_keptWithout_42, bX6_keptWithout_25, bX6_keptWithout_36, a_ai, a_ald, a_iceq, a_icge, a_icne, a_ild, a_inc, a_iret, a_push, a_wi, pu_rv, pu_as, Value.category, pu_bk, pu_kl, List.replicate, pu_wi_1, pu_wi_2, nl_add, nl_ladd, nl_aa, nl_mul, nl_rmul, nl_mm, pu_qe0, pu_qe1, hc, so, sc, q2, c, q1, c2, F2, il]
        all_goals try simp (maxSteps := 400000) (disch := omega) [nl_tle, nl_fle, nl_tlt, nl_flt, nl_teq, nl_feq, nl_sub, nl_ss, nl_lt, nl_llt, nl_ltt, nl_le, nl_lle, nl_lee, nl_eq, nl_leq, nl_ee, nl_div, nl_rem, nl_cl, nl_n1, nl_n2, nl_n3, nl_n4, nl_add, nl_ladd, nl_aa, nl_mul, nl_rmul, nl_mm, pu_wi_1, pu_wi_2, bX6_keptWithout_6, bX6_keptWithout_42, bX6_keptWithout_25, bX6_keptWithout_36, a_ai, a_ald, a_iceq, a_icge, a_icne, a_ild, a_inc, a_iret, a_push, a_wi, pu_rv, pu_as, Value.category, pu_bk, pu_kl, pu_qe0, pu_qe1, hc, so, sc, q2, c, q1, c2, F2, il]
theorem c_kept {M : pu_M} {ro rc lo : Nat} (hne : ro ≠ rc) (so : pu_sh ro = (1, lo)) (sc : pu_sh rc = (1, lo)) (p : Int32) (n u : Nat) (hn : n ≤ lo) (hlo : lo < 5000) (hu : u ≤ n) (hk : ∀ k, k < n → (k < u ↔ M.1 ro k ≠ p)) : ∃ F, py_kw M F rc p n ∧ pu_r 127 [some (.int p), some (.ref ro), some (.ref rc), some (.int (nI n))] [] M = some (some (.int (nI u)), F) := by
  obtain ⟨F, F1, F2⟩ := c_kept_l (M := M) hne so sc p n hn hlo n 0 0 M (by omega) (by omega) ⟨rfl, fun _ _ _ => rfl, fun k => ⟨fun z => absurd z.1 (by omega), fun _ => rfl⟩⟩
  refine ⟨F, F1, ?_⟩
  rw [py_ct_pref (u := u) n 0 0 (by omega) (by omega) (fun k _ b => hk k (by omega)), nI_0, show 0 + (u - 0) = u by omega] at F2
  rw [qX6_keptWithout]
  simp [a_ent, bX6_keptWithout_0, a_ist, a_push, pu_rv, pu_as, Value.category, pu_bk, pu_kl, List.replicate, pu_wi_1, pu_wi_2, nl_add, nl_ladd, nl_aa, nl_mul, nl_rmul, nl_mm, pu_qe0, pu_qe1, F2]
  all_goals try simp (maxSteps := 400000) (disch := omega) [nl_tle, nl_fle, nl_tlt, nl_flt, nl_teq, nl_feq, nl_sub, nl_ss, nl_lt, nl_llt, nl_ltt, nl_le, nl_lle, nl_lee, nl_eq, nl_leq, nl_ee, nl_div, nl_rem, nl_cl, nl_n1, nl_n2, nl_n3, nl_n4, nl_add, nl_ladd, nl_aa, nl_mul, nl_rmul, nl_mm, pu_wi_1, pu_wi_2, bX6_keptWithout_0, a_ist, a_push, pu_rv, pu_as, Value.category, pu_bk, pu_kl, pu_qe0, pu_qe1, F2]
  all_goals try simp [bX6_keptWithout_0, a_ist, a_push, pu_rv, pu_as, Value.category, pu_bk, pu_kl, List.replicate, pu_wi_1, pu_wi_2, nl_add, nl_ladd, nl_aa, nl_mul, nl_rmul, nl_mm, pu_qe0, pu_qe1, F2]
  all_goals try simp (maxSteps := 400000) (disch := omega) [nl_tle, nl_fle, nl_tlt, nl_flt, nl_teq, nl_feq, nl_sub, nl_ss, nl_lt, nl_llt, nl_ltt, nl_le, nl_lle, nl_lee, nl_eq, nl_leq, nl_ee, nl_div, nl_rem, nl_cl, nl_n1, nl_n2, nl_n3, nl_n4, nl_add, nl_ladd, nl_aa, nl_mul, nl_rmul, nl_mm, pu_wi_1, pu_wi_2, bX6_keptWithout_0, a_ist, a_push, pu_rv, pu_as, Value.category, pu_bk, pu_kl, pu_qe0, pu_qe1, F2]
theorem c_tb4 {M : pu_M} (hx : pu_fx M) (p : Int32) (n u : Nat) (hn : n ≤ 3000) (h14 : M.1 14 0 = nI n) (hu : u ≤ n) (hk : ∀ k, k < n → (k < u ↔ M.1 17 k ≠ p)) : ∃ F, py_kw M F 18 p n ∧ pu_r 128 [some (.ref 14), some (.int p)] [] M = some (none, pu_wi F 14 0 (nI u)) := by
  obtain ⟨F, F1, F2⟩ := c_kept (M := M) (ro := 17) (rc := 18) (by omega) sh_17 sh_18 p n u hn (by omega) hu hk
  refine ⟨F, F1, ?_⟩
  have e : (F.2 = M.2) := F1.1
  rw [qX4_takeBack]
  simp [a_ent, bX4_takeBack_0, a_ald, a_cs, a_gi, a_gr, a_ild, a_pi, a_vret, fx_14_3 hx, fx_14_4 hx, sh_14, sh_17, sh_18, pu_rv, pu_as, Value.category, pu_bk, pu_kl, List.replicate, pu_wi_1, pu_wi_2, nl_add, nl_ladd, nl_aa, nl_mul, nl_rmul, nl_mm, pu_qe0, pu_qe1, h14, F2]
  all_goals try simp (maxSteps := 400000) (disch := omega) [nl_tle, nl_fle, nl_tlt, nl_flt, nl_teq, nl_feq, nl_sub, nl_ss, nl_lt, nl_llt, nl_ltt, nl_le, nl_lle, nl_lee, nl_eq, nl_leq, nl_ee, nl_div, nl_rem, nl_cl, nl_n1, nl_n2, nl_n3, nl_n4, nl_add, nl_ladd, nl_aa, nl_mul, nl_rmul, nl_mm, pu_wi_1, pu_wi_2, bX4_takeBack_0, a_ald, a_cs, a_gi, a_gr, a_ild, a_pi, a_vret, fx_14_3 hx, fx_14_4 hx, sh_14, sh_17, sh_18, pu_rv, pu_as, Value.category, pu_bk, pu_kl, pu_qe0, pu_qe1, h14, F2]
  all_goals try simp [bX4_takeBack_0, a_ald, a_cs, a_gi, a_gr, a_ild, a_pi, a_vret, fx_14_3 hx, fx_14_4 hx, sh_14, sh_17, sh_18, pu_rv, pu_as, Value.category, pu_bk, pu_kl, List.replicate, pu_wi_1, pu_wi_2, nl_add, nl_ladd, nl_aa, nl_mul, nl_rmul, nl_mm, pu_qe0, pu_qe1, h14, F2]
  all_goals try simp (maxSteps := 400000) (disch := omega) [nl_tle, nl_fle, nl_tlt, nl_flt, nl_teq, nl_feq, nl_sub, nl_ss, nl_lt, nl_llt, nl_ltt, nl_le, nl_lle, nl_lee, nl_eq, nl_leq, nl_ee, nl_div, nl_rem, nl_cl, nl_n1, nl_n2, nl_n3, nl_n4, nl_add, nl_ladd, nl_aa, nl_mul, nl_rmul, nl_mm, pu_wi_1, pu_wi_2, bX4_takeBack_0, a_ald, a_cs, a_gi, a_gr, a_ild, a_pi, a_vret, fx_14_3 hx, fx_14_4 hx, sh_14, sh_17, sh_18, pu_rv, pu_as, Value.category, pu_bk, pu_kl, pu_qe0, pu_qe1, h14, F2]
theorem c_tb3 {M : pu_M} (hx : pu_fx M) (p : Int32) (n u : Nat) (hn : n ≤ 400) (h14 : M.1 19 0 = nI n) (hu : u ≤ n) (hk : ∀ k, k < n → (k < u ↔ M.1 22 k ≠ p)) : ∃ F, py_kw M F 23 p n ∧ pu_r 129 [some (.ref 19), some (.int p)] [] M = some (none, pu_wi F 19 0 (nI u)) := by
  obtain ⟨F, F1, F2⟩ := c_kept (M := M) (ro := 22) (rc := 23) (by omega) sh_22 sh_23 p n u (by omega) (by omega) hu hk
  refine ⟨F, F1, ?_⟩
  rw [qX3_takeBack]
  simp [a_ent, bX3_takeBack_0, a_ald, a_cs, a_gi, a_gr, a_ild, a_pi, a_vret, fx_19_3 hx, fx_19_4 hx, sh_19, sh_22, sh_23, pu_rv, pu_as, Value.category, pu_bk, pu_kl, List.replicate, pu_wi_1, pu_wi_2, nl_add, nl_ladd, nl_aa, nl_mul, nl_rmul, nl_mm, pu_qe0, pu_qe1, h14, F2]
  all_goals try simp (maxSteps := 400000) (disch := omega) [nl_tle, nl_fle, nl_tlt, nl_flt, nl_teq, nl_feq, nl_sub, nl_ss, nl_lt, nl_llt, nl_ltt, nl_le, nl_lle, nl_lee, nl_eq, nl_leq, nl_ee, nl_div, nl_rem, nl_cl, nl_n1, nl_n2, nl_n3, nl_n4, nl_add, nl_ladd, nl_aa, nl_mul, nl_rmul, nl_mm, pu_wi_1, pu_wi_2, bX3_takeBack_0, a_ald, a_cs, a_gi, a_gr, a_ild, a_pi, a_vret, fx_19_3 hx, fx_19_4 hx, sh_19, sh_22, sh_23, pu_rv, pu_as, Value.category, pu_bk, pu_kl, pu_qe0, pu_qe1, h14, F2]
  all_goals try simp [bX3_takeBack_0, a_ald, a_cs, a_gi, a_gr, a_ild, a_pi, a_vret, fx_19_3 hx, fx_19_4 hx, sh_19, sh_22, sh_23, pu_rv, pu_as, Value.category, pu_bk, pu_kl, List.replicate, pu_wi_1, pu_wi_2, nl_add, nl_ladd, nl_aa, nl_mul, nl_rmul, nl_mm, pu_qe0, pu_qe1, h14, F2]
  all_goals try simp (maxSteps := 400000) (disch := omega) [nl_tle, nl_fle, nl_tlt, nl_flt, nl_teq, nl_feq, nl_sub, nl_ss, nl_lt, nl_llt, nl_ltt, nl_le, nl_lle, nl_lee, nl_eq, nl_leq, nl_ee, nl_div, nl_rem, nl_cl, nl_n1, nl_n2, nl_n3, nl_n4, nl_add, nl_ladd, nl_aa, nl_mul, nl_rmul, nl_mm, pu_wi_1, pu_wi_2, bX3_takeBack_0, a_ald, a_cs, a_gi, a_gr, a_ild, a_pi, a_vret, fx_19_3 hx, fx_19_4 hx, sh_19, sh_22, sh_23, pu_rv, pu_as, Value.category, pu_bk, pu_kl, pu_qe0, pu_qe1, h14, F2]
theorem c_tb10 {M : pu_M} (hx : pu_fx M) (p : Int32) (n u : Nat) (hn : n ≤ 24) (h14 : M.1 25 1 = nI n) (hu : u = n ∨ u + 1 = n) (hk : ∀ k, k < n → (k < u ↔ M.1 28 k ≠ p)) : ∃ F, F.2 = M.2 ∧ (∀ x k, ¬ (x = 25 ∧ k = 1) → F.1 x k = M.1 x k) ∧ F.1 25 1 = nI u ∧ pu_r 130 [some (.ref 25), some (.int p)] [] M = some (none, F) := by
  by_cases z : n = 0
  · subst z
    have : u = 0 := by omega
    subst this
    refine ⟨M, rfl, fun _ _ _ => rfl, h14, ?_⟩
    rw [nI_0] at h14
    rw [qX10_takeBack]
    simp [a_ent, bX10_takeBack_0, bX10_takeBack_32, a_ai, a_ald, a_dup, a_gi, a_gr, a_icne, a_ifle, a_ild, a_isub, a_pi, a_push, a_vret, fx_25_4 hx, sh_25, sh_28, pu_rv, pu_as, Value.category, pu_bk, pu_kl, List.replicate, pu_wi_1, pu_wi_2, nl_add, nl_ladd, nl_aa, nl_mul, nl_rmul, nl_mm, pu_qe0, pu_qe1, h14]
    all_goals try simp (maxSteps := 400000) (disch := omega) [nl_tle, nl_fle, nl_tlt, nl_flt, nl_teq, nl_feq, nl_sub, nl_ss, nl_lt, nl_llt, nl_ltt, nl_le, nl_lle, nl_lee, nl_eq, nl_leq, nl_ee, nl_div, nl_rem, nl_cl, nl_n1, nl_n2, nl_n3, nl_n4, nl_add, nl_ladd, nl_aa, nl_mul, nl_rmul, nl_mm, pu_wi_1, pu_wi_2, bX10_takeBack_0, bX10_takeBack_32, a_ai, a_ald, a_dup, a_gi, a_gr, a_icne, a_ifle, a_ild, a_isub, a_pi, a_push, a_vret, fx_25_4 hx, sh_25, sh_28, pu_rv, pu_as, Value.category, pu_bk, pu_kl, pu_qe0, pu_qe1, h14]
    all_goals try simp [bX10_takeBack_0, bX10_takeBack_32, a_ai, a_ald, a_dup, a_gi, a_gr, a_icne, a_ifle, a_ild, a_isub, a_pi, a_push, a_vret, fx_25_4 hx, sh_25, sh_28, pu_rv, pu_as, Value.category, pu_bk, pu_kl, List.replicate, pu_wi_1, pu_wi_2, nl_add, nl_ladd, nl_aa, nl_mul, nl_rmul, nl_mm, pu_qe0, pu_qe1, h14]
    all_goals try simp (maxSteps := 400000) (disch := omega) [nl_tle, nl_fle, nl_tlt, nl_flt, nl_teq, nl_feq, nl_sub, nl_ss, nl_lt, nl_llt, nl_ltt, nl_le, nl_lle, nl_lee, nl_eq, nl_leq, nl_ee, nl_div, nl_rem, nl_cl, nl_n1, nl_n2, nl_n3, nl_n4, nl_add, nl_ladd, nl_aa, nl_mul, nl_rmul, nl_mm, pu_wi_1, pu_wi_2, bX10_takeBack_0, bX10_takeBack_32, a_ai, a_ald, a_dup, a_gi, a_gr, a_icne, a_ifle, a_ild, a_isub, a_pi, a_push, a_vret, fx_25_4 hx, sh_25, sh_28, pu_rv, pu_as, Value.category, pu_bk, pu_kl, pu_qe0, pu_qe1, h14]
  · have p1 : nI n - 1 = nI (n - 1) := by
      have := nI_pred (n - 1)
      rw [show n - 1 + 1 = n by omega] at this
      exact this
    have p2 : ¬ nI n ≤ 0 := by
      rw [show (0 : Int32) = nI 0 from rfl, nl_lee _ _ (by omega) (by omega)]
      omega
    rcases hu with hu | hu
    · subst hu
      have c : ¬ M.1 28 (u - 1) = p := (hk (u - 1) (by omega)).mp (by omega)
      refine ⟨M, rfl, fun _ _ _ => rfl, h14, ?_⟩
      rw [qX10_takeBack]
      simp [a_ent, bX10_takeBack_0, bX10_takeBack_32, a_ai, a_ald, a_dup, a_gi, a_gr, a_icne, a_ifle, a_ild, a_isub, a_pi, a_push, a_vret, fx_25_4 hx, sh_25, sh_28, pu_rv, pu_as, Value.category, pu_bk, pu_kl, List.replicate, pu_wi_1, pu_wi_2, nl_add, nl_ladd, nl_aa, nl_mul, nl_rmul, nl_mm, pu_qe0, pu_qe1, h14, p1, p2, c]
      all_goals try simp (maxSteps := 400000) (disch := omega) [nl_tle, nl_fle, nl_tlt, nl_flt, nl_teq, nl_feq, nl_sub, nl_ss, nl_lt, nl_llt, nl_ltt, nl_le, nl_lle, nl_lee, nl_eq, nl_leq, nl_ee, nl_div, nl_rem, nl_cl, nl_n1, nl_n2, nl_n3, nl_n4, nl_add, nl_ladd, nl_aa, nl_mul, nl_rmul, nl_mm, pu_wi_1, pu_wi_2, bX10_takeBack_0, bX10_takeBack_32, a_ai, a_ald, a_dup, a_gi, a_gr, a_icne, a_ifle, a_ild, a_isub, a_pi, a_push, a_vret, fx_25_4 hx, sh_25, sh_28, pu_rv, pu_as, Value.category, pu_bk, pu_kl, pu_qe0, pu_qe1, h14, p1, p2, c]
      all_goals try simp [bX10_takeBack_0, bX10_takeBack_32, a_ai, a_ald, a_dup, a_gi, a_gr, a_icne, a_ifle, a_ild, a_isub, a_pi, a_push, a_vret, fx_25_4 hx, sh_25, sh_28, pu_rv, pu_as, Value.category, pu_bk, pu_kl, List.replicate, pu_wi_1, pu_wi_2, nl_add, nl_ladd, nl_aa, nl_mul, nl_rmul, nl_mm, pu_qe0, pu_qe1, h14, p1, p2, c]
      all_goals try simp (maxSteps := 400000) (disch := omega) [nl_tle, nl_fle, nl_tlt, nl_flt, nl_teq, nl_feq, nl_sub, nl_ss, nl_lt, nl_llt, nl_ltt, nl_le, nl_lle, nl_lee, nl_eq, nl_leq, nl_ee, nl_div, nl_rem, nl_cl, nl_n1, nl_n2, nl_n3, nl_n4, nl_add, nl_ladd, nl_aa, nl_mul, nl_rmul, nl_mm, pu_wi_1, pu_wi_2, bX10_takeBack_0, bX10_takeBack_32, a_ai, a_ald, a_dup, a_gi, a_gr, a_icne, a_ifle, a_ild, a_isub, a_pi, a_push, a_vret, fx_25_4 hx, sh_25, sh_28, pu_rv, pu_as, Value.category, pu_bk, pu_kl, pu_qe0, pu_qe1, h14, p1, p2, c]
    · have c : M.1 28 (n - 1) = p := Classical.byContradiction (fun q => by
        have := (hk (n - 1) (by omega)).mpr q
        omega)
      have e : n - 1 = u := by omega
      rw [e] at c p1
      refine ⟨pu_wi M 25 1 (nI u), rfl, fun x k hk => py_wi_o hk, by simp [pu_wi_1], ?_⟩
      rw [qX10_takeBack]
      simp [a_ent, bX10_takeBack_0, bX10_takeBack_32, a_ai, a_ald, a_dup, a_gi, a_gr, a_icne, a_ifle, a_ild, a_isub, a_pi, a_push, a_vret, fx_25_4 hx, sh_25, sh_28, pu_rv, pu_as, Value.category, pu_bk, pu_kl, List.replicate, pu_wi_1, pu_wi_2, nl_add, nl_ladd, nl_aa, nl_mul, nl_rmul, nl_mm, pu_qe0, pu_qe1, h14, p1, p2, c]
      all_goals try simp (maxSteps := 400000) (disch := omega) [nl_tle, nl_fle, nl_tlt, nl_flt, nl_teq, nl_feq, nl_sub, nl_ss, nl_lt, nl_llt, nl_ltt, nl_le, nl_lle, nl_lee, nl_eq, nl_leq, nl_ee, nl_div, nl_rem, nl_cl, nl_n1, nl_n2, nl_n3, nl_n4, nl_add, nl_ladd, nl_aa, nl_mul, nl_rmul, nl_mm, pu_wi_1, pu_wi_2, bX10_takeBack_0, bX10_takeBack_32, a_ai, a_ald, a_dup, a_gi, a_gr, a_icne, a_ifle, a_ild, a_isub, a_pi, a_push, a_vret, fx_25_4 hx, sh_25, sh_28, pu_rv, pu_as, Value.category, pu_bk, pu_kl, pu_qe0, pu_qe1, h14, p1, p2, c]
      all_goals try simp [bX10_takeBack_0, bX10_takeBack_32, a_ai, a_ald, a_dup, a_gi, a_gr, a_icne, a_ifle, a_ild, a_isub, a_pi, a_push, a_vret, fx_25_4 hx, sh_25, sh_28, pu_rv, pu_as, Value.category, pu_bk, pu_kl, List.replicate, pu_wi_1, pu_wi_2, nl_add, nl_ladd, nl_aa, nl_mul, nl_rmul, nl_mm, pu_qe0, pu_qe1, h14, p1, p2, c]
      all_goals try simp (maxSteps := 400000) (disch := omega) [nl_tle, nl_fle, nl_tlt, nl_flt, nl_teq, nl_feq, nl_sub, nl_ss, nl_lt, nl_llt, nl_ltt, nl_le, nl_lle, nl_lee, nl_eq, nl_leq, nl_ee, nl_div, nl_rem, nl_cl, nl_n1, nl_n2, nl_n3, nl_n4, nl_add, nl_ladd, nl_aa, nl_mul, nl_rmul, nl_mm, pu_wi_1, pu_wi_2, bX10_takeBack_0, bX10_takeBack_32, a_ai, a_ald, a_dup, a_gi, a_gr, a_icne, a_ifle, a_ild, a_isub, a_pi, a_push, a_vret, fx_25_4 hx, sh_25, sh_28, pu_rv, pu_as, Value.category, pu_bk, pu_kl, pu_qe0, pu_qe1, h14, p1, p2, c]
/-- what taking a corner back leaves -/
def py_kc (M N : pu_M) (p : Int32) (i : Nat) : Prop := N.2 = M.2 ∧ (∀ x k, x ≠ 38 → ¬ (39 ≤ x ∧ x ≤ 41) → N.1 x k = M.1 x k) ∧ (∀ k, (k < i ∧ M.1 38 k = p → N.1 38 k = -1 ∧ N.1 39 (2 * k + 1) = -1 ∧ N.1 40 (2 * k + 1) = -1 ∧ N.1 41 (2 * k + 1) = -1) ∧ (¬ (k < i ∧ M.1 38 k = p) → N.1 38 k = M.1 38 k ∧ ∀ x, 39 ≤ x → x ≤ 41 → N.1 x (2 * k + 1) = M.1 x (2 * k + 1))) ∧ ∀ x k, 39 ≤ x → x ≤ 41 → N.1 x (2 * k) = M.1 x (2 * k)
theorem c_corn_l {M : pu_M} (hx : pu_fx M) (p : Int32) (n : Nat) (hn : n ≤ 100) (h31 : M.1 31 0 = nI n) : ∀ m i (N : pu_M), i + m = n → py_kc M N p i → ∃ F, py_kc M F p n ∧ pu_r 392 [some (.ref 31), some (.int p), some (.int (nI i))] [] N = some (none, F)
  | 0, i, N, h, g => by
    have hxN := pz_fx_of hx g.1
    have hnN : N.1 31 0 = nI n := by rw [g.2.1 31 0 (by omega) (by omega)]; exact h31
    refine ⟨N, by rw [← h]; exact g, ?_⟩
    have hc : nI n ≤ nI i := nI_le (by omega) (by omega)
    rw [qX2_takeBack_22]
    simp [bX2_takeBack_22, bX2_takeBack_65, bX2_takeBack_59, bX2_takeBack_56, a_ai, a_ald, a_cv, a_gi, a_gr, a_iadd, a_icge, a_icne, a_ild, a_imul, a_inc, a_push, a_vret, a_wi, sh_31, sh_38, pu_rv, pu_as, Value.category, pu_bk, pu_kl, List.replicate, pu_wi_1, pu_wi_2, nl_add, nl_ladd, nl_aa, nl_mul, nl_rmul, nl_mm, pu_qe0, pu_qe1, hnN, hc]
    all_goals try simp (maxSteps := 400000) (disch := omega) [nl_tle, nl_fle, nl_tlt, nl_flt, nl_teq, nl_feq, nl_sub, nl_ss, nl_lt, nl_llt, nl_ltt, nl_le, nl_lle, nl_lee, nl_eq, nl_leq, nl_ee, nl_div, nl_rem, nl_cl, nl_n1, nl_n2, nl_n3, nl_n4, nl_add, nl_ladd, nl_aa, nl_mul, nl_rmul, nl_mm, pu_wi_1, pu_wi_2, bX2_takeBack_22, bX2_takeBack_65, bX2_takeBack_59, bX2_takeBack_56, a_ai, a_ald, a_cv, a_gi, a_gr, a_iadd, a_icge, a_icne, a_ild, a_imul, a_inc, a_push, a_vret, a_wi, sh_31, sh_38, pu_rv, pu_as, Value.category, pu_bk, pu_kl, pu_qe0, pu_qe1, hnN, hc]
    all_goals try simp [bX2_takeBack_22, bX2_takeBack_65, bX2_takeBack_59, bX2_takeBack_56, a_ai, a_ald, a_cv, a_gi, a_gr, a_iadd, a_icge, a_icne, a_ild, a_imul, a_inc, a_push, a_vret, a_wi, sh_31, sh_38, pu_rv, pu_as, Value.category, pu_bk, pu_kl, List.replicate, pu_wi_1, pu_wi_2, nl_add, nl_ladd, nl_aa, nl_mul, nl_rmul, nl_mm, pu_qe0, pu_qe1, hnN, hc]
    all_goals try simp (maxSteps := 400000) (disch := omega) [nl_tle, nl_fle, nl_tlt, nl_flt, nl_teq, nl_feq, nl_sub, nl_ss, nl_lt, nl_llt, nl_ltt, nl_le, nl_lle, nl_lee, nl_eq, nl_leq, nl_ee, nl_div, nl_rem, nl_cl, nl_n1, nl_n2, nl_n3, nl_n4, nl_add, nl_ladd, nl_aa, nl_mul, nl_rmul, nl_mm, pu_wi_1, pu_wi_2, bX2_takeBack_22, bX2_takeBack_65, bX2_takeBack_59, bX2_takeBack_56, a_ai, a_ald, a_cv, a_gi, a_gr, a_iadd, a_icge, a_icne, a_ild, a_imul, a_inc, a_push, a_vret, a_wi, sh_31, sh_38, pu_rv, pu_as, Value.category, pu_bk, pu_kl, pu_qe0, pu_qe1, hnN, hc]
  | m + 1, i, N, h, g => by
    have hxN := pz_fx_of hx g.1
    have hnN : N.1 31 0 = nI n := by rw [g.2.1 31 0 (by omega) (by omega)]; exact h31
    have hc : ¬ nI n ≤ nI i := nI_ge (by omega) (by omega)
    have q := (g.2.2.1 i).2 (by omega)
    have q1 := q.1
    have f7 := fx_31_7 hxN
    by_cases c : M.1 38 i = p
    · have sp := c_setPlace (M := pu_wi N 38 i (-1)) (pz_fx_of hxN rfl) (2 * i + 1) (by omega) (-1) (-1) (-1)
      obtain ⟨F, F1, F2⟩ := c_corn_l hx p n hn h31 m (i + 1) (pz_sp (pu_wi N 38 i (-1)) (2 * i + 1) (-1) (-1) (-1)) (by omega) (by
        have V := pz_sp_v (M := pu_wi N 38 i (-1)) (k := 2 * i + 1) (st := -1) (sd := -1) (pc := -1)
        refine ⟨g.1, fun x k h1 h2 => ?_, fun k => ⟨fun hk => ?_, fun hk => ?_⟩, fun x k h1 h2 => ?_⟩
        · rw [pz_sp_o (by omega), py_wi_o (by omega)]
          exact g.2.1 x k h1 h2
        · by_cases z : k = i
          · subst z
            refine ⟨?_, V.1, V.2.1, V.2.2⟩
            rw [pz_sp_o (by omega)]
            simp [pu_wi_1]
          · have y := (g.2.2.1 k).1 ⟨by omega, hk.2⟩
            rw [pz_sp_o (by omega), py_wi_o (by omega), pz_sp_o (by omega), py_wi_o (by omega), pz_sp_o (by omega), py_wi_o (by omega), pz_sp_o (by omega), py_wi_o (by omega)]
            exact y
        · have z : k ≠ i := fun z => by
            subst z
            exact hk ⟨by omega, c⟩
          have y := (g.2.2.1 k).2 (fun y => hk ⟨by omega, y.2⟩)
          refine ⟨?_, fun x h1 h2 => ?_⟩
          · rw [pz_sp_o (by omega), py_wi_o (by omega)]
            exact y.1
          · rw [pz_sp_o (by omega), py_wi_o (by omega)]
            exact y.2 x h1 h2
        · rw [pz_sp_o (by omega), py_wi_o (by omega)]
          exact g.2.2.2 x k h1 h2)
      refine ⟨F, F1, ?_⟩
      rw [qX2_takeBack_22]
      simp [bX2_takeBack_22, bX2_takeBack_65, bX2_takeBack_59, bX2_takeBack_56, a_ai, a_ald, a_cv, a_gi, a_gr, a_iadd, a_icge, a_icne, a_ild, a_imul, a_inc, a_push, a_vret, a_wi, sh_31, sh_38, pu_rv, pu_as, Value.category, pu_bk, pu_kl, List.replicate, pu_wi_1, pu_wi_2, nl_add, nl_ladd, nl_aa, nl_mul, nl_rmul, nl_mm, pu_qe0, pu_qe1, hnN, hc, f7, q1, c, sp, F2]
      all_goals try simp (maxSteps := 400000) (disch := omega) [nl_tle, nl_fle, nl_tlt, nl_flt, nl_teq, nl_feq, nl_sub, nl_ss, nl_lt, nl_llt, nl_ltt, nl_le, nl_lle, nl_lee, nl_eq, nl_leq, nl_ee, nl_div, nl_rem, nl_cl, nl_n1, nl_n2, nl_n3, nl_n4, nl_add, nl_ladd, nl_aa, nl_mul, nl_rmul, nl_mm, pu_wi_1, pu_wi_2, bX2_takeBack_22, bX2_takeBack_65, bX2_takeBack_59, bX2_takeBack_56, a_ai, a_ald, a_cv, a_gi, a_gr, a_iadd, a_icge, a_icne, a_ild, a_imul, a_inc, a_push, a_vret, a_wi, sh_31, sh_38, pu_rv, pu_as, Value.category, pu_bk, pu_kl, pu_qe0, pu_qe1, hnN, hc, f7, q1, c, sp, F2]
      all_goals try simp [bX2_takeBack_22, bX2_takeBack_65, bX2_takeBack_59, bX2_takeBack_56, a_ai, a_ald, a_cv, a_gi, a_gr, a_iadd, a_icge, a_icne, a_ild, a_imul, a_inc, a_push, a_vret, a_wi, sh_31, sh_38, pu_rv, pu_as, Value.category, pu_bk, pu_kl, List.replicate, pu_wi_1, pu_wi_2, nl_add, nl_ladd, nl_aa, nl_mul, nl_rmul, nl_mm, pu_qe0, pu_qe1, hnN, hc, f7, q1, c, sp, F2]
      all_goals try simp (maxSteps := 400000) (disch := omega) [nl_tle, nl_fle, nl_tlt, nl_flt, nl_teq, nl_feq, nl_sub, nl_ss, nl_lt, nl_llt, nl_ltt, nl_le, nl_lle, nl_lee, nl_eq, nl_leq, nl_ee, nl_div, nl_rem, nl_cl, nl_n1, nl_n2, nl_n3, nl_n4, nl_add, nl_ladd, nl_aa, nl_mul, nl_rmul, nl_mm, pu_wi_1, pu_wi_2, bX2_takeBack_22, bX2_takeBack_65, bX2_takeBack_59, bX2_takeBack_56, a_ai, a_ald, a_cv, a_gi, a_gr, a_iadd, a_icge, a_icne, a_ild, a_imul, a_inc, a_push, a_vret, a_wi, sh_31, sh_38, pu_rv, pu_as, Value.category, pu_bk, pu_kl, pu_qe0, pu_qe1, hnN, hc, f7, q1, c, sp, F2]
    · obtain ⟨F, F1, F2⟩ := c_corn_l hx p n hn h31 m (i + 1) N (by omega) ⟨g.1, g.2.1, fun k => ⟨fun hk => by
        have z : k ≠ i := fun z => by
          rw [z] at hk
          exact c hk.2
        exact (g.2.2.1 k).1 ⟨by omega, hk.2⟩, fun hk => (g.2.2.1 k).2 (fun y => hk ⟨by omega, y.2⟩)⟩, g.2.2.2⟩
      refine ⟨F, F1, ?_⟩
      rw [qX2_takeBack_22]
      simp [bX2_takeBack_22, bX2_takeBack_65, bX2_takeBack_59, bX2_takeBack_56, a_ai, a_ald, a_cv, a_gi, a_gr, a_iadd, a_icge, a_icne, a_ild, a_imul, a_inc, a_push, a_vret, a_wi, sh_31, sh_38, pu_rv, pu_as, Value.category, pu_bk, pu_kl, List.replicate, pu_wi_1, pu_wi_2, nl_add, nl_ladd, nl_aa, nl_mul, nl_rmul, nl_mm, pu_qe0, pu_qe1, hnN, hc, f7, q1, c, F2]
      all_goals try simp (maxSteps := 400000) (disch := omega) [nl_tle, nl_fle, nl_tlt, nl_flt, nl_teq, nl_feq, nl_sub, nl_ss, nl_lt, nl_llt, nl_ltt, nl_le, nl_lle, nl_lee, nl_eq, nl_leq, nl_ee, nl_div, nl_rem, nl_cl, nl_n1, nl_n2, nl_n3, nl_n4, nl_add, nl_ladd, nl_aa, nl_mul, nl_rmul, nl_mm, pu_wi_1, pu_wi_2, bX2_takeBack_22, bX2_takeBack_65, bX2_takeBack_59, bX2_takeBack_56, a_ai, a_ald, a_cv, a_gi, a_gr, a_iadd, a_icge, a_icne, a_ild, a_imul, a_inc, a_push, a_vret, a_wi, sh_31, sh_38, pu_rv, pu_as, Value.category, pu_bk, pu_kl, pu_qe0, pu_qe1, hnN, hc, f7, q1, c, F2]
      all_goals try simp [bX2_takeBack_22, bX2_takeBack_65, bX2_takeBack_59, bX2_takeBack_56, a_ai, a_ald, a_cv, a_gi, a_gr, a_iadd, a_icge, a_icne, a_ild, a_imul, a_inc, a_push, a_vret, a_wi, sh_31, sh_38, pu_rv, pu_as, Value.category, pu_bk, pu_kl, List.replicate, pu_wi_1, pu_wi_2, nl_add, nl_ladd, nl_aa, nl_mul, nl_rmul, nl_mm, pu_qe0, pu_qe1, hnN, hc, f7, q1, c, F2]
      all_goals try simp (maxSteps := 400000) (disch := omega) [nl_tle, nl_fle, nl_tlt, nl_flt, nl_teq, nl_feq, nl_sub, nl_ss, nl_lt, nl_llt, nl_ltt, nl_le, nl_lle, nl_lee, nl_eq, nl_leq, nl_ee, nl_div, nl_rem, nl_cl, nl_n1, nl_n2, nl_n3, nl_n4, nl_add, nl_ladd, nl_aa, nl_mul, nl_rmul, nl_mm, pu_wi_1, pu_wi_2, bX2_takeBack_22, bX2_takeBack_65, bX2_takeBack_59, bX2_takeBack_56, a_ai, a_ald, a_cv, a_gi, a_gr, a_iadd, a_icge, a_icne, a_ild, a_imul, a_inc, a_push, a_vret, a_wi, sh_31, sh_38, pu_rv, pu_as, Value.category, pu_bk, pu_kl, pu_qe0, pu_qe1, hnN, hc, f7, q1, c, F2]
theorem c_tb2 {M : pu_M} (hx : pu_fx M) (p : Int32) (n u : Nat) (hn : n ≤ 100) (h31 : M.1 31 0 = nI n) (hu : u ≤ n) (hk : ∀ k, k < n → (k < u ↔ M.1 36 k ≠ p)) : ∃ Q F, py_kw M Q 37 p n ∧ py_kc (pu_wi Q 31 0 (nI u)) F p u ∧ pu_r 131 [some (.ref 31), some (.int p)] [] M = some (none, F) := by
  obtain ⟨Q, F1, F2⟩ := c_kept (M := M) (ro := 36) (rc := 37) (by omega) sh_36 sh_37 p n u (by omega) (by omega) hu hk
  have hxQ : pu_fx (pu_wi Q 31 0 (nI u)) := pz_fx_of hx F1.1
  obtain ⟨F, F3, F4⟩ := c_corn_l (M := pu_wi Q 31 0 (nI u)) hxQ p u (by omega) (by simp [pu_wi_1]) u 0 _ (by omega) ⟨rfl, fun _ _ _ _ => rfl, fun k => ⟨fun z => absurd z.1 (by omega), fun _ => ⟨rfl, fun _ _ _ => rfl⟩⟩, fun _ _ _ _ => rfl⟩
  refine ⟨Q, F, F1, F3, ?_⟩
  rw [nI_0] at F4
  rw [qX2_takeBack]
  simp [a_ent, bX2_takeBack_0, a_ald, a_cs, a_gi, a_gr, a_ild, a_ist, a_pi, a_push, fx_31_5 hx, fx_31_6 hx, sh_31, sh_36, sh_37, pu_rv, pu_as, Value.category, pu_bk, pu_kl, List.replicate, pu_wi_1, pu_wi_2, nl_add, nl_ladd, nl_aa, nl_mul, nl_rmul, nl_mm, pu_qe0, pu_qe1, h31, F2, F4]
  all_goals try simp (maxSteps := 400000) (disch := omega) [nl_tle, nl_fle, nl_tlt, nl_flt, nl_teq, nl_feq, nl_sub, nl_ss, nl_lt, nl_llt, nl_ltt, nl_le, nl_lle, nl_lee, nl_eq, nl_leq, nl_ee, nl_div, nl_rem, nl_cl, nl_n1, nl_n2, nl_n3, nl_n4, nl_add, nl_ladd, nl_aa, nl_mul, nl_rmul, nl_mm, pu_wi_1, pu_wi_2, bX2_takeBack_0, a_ald, a_cs, a_gi, a_gr, a_ild, a_ist, a_pi, a_push, fx_31_5 hx, fx_31_6 hx, sh_31, sh_36, sh_37, pu_rv, pu_as, Value.category, pu_bk, pu_kl, pu_qe0, pu_qe1, h31, F2, F4]
  all_goals try simp [bX2_takeBack_0, a_ald, a_cs, a_gi, a_gr, a_ild, a_ist, a_pi, a_push, fx_31_5 hx, fx_31_6 hx, sh_31, sh_36, sh_37, pu_rv, pu_as, Value.category, pu_bk, pu_kl, List.replicate, pu_wi_1, pu_wi_2, nl_add, nl_ladd, nl_aa, nl_mul, nl_rmul, nl_mm, pu_qe0, pu_qe1, h31, F2, F4]
  all_goals try simp (maxSteps := 400000) (disch := omega) [nl_tle, nl_fle, nl_tlt, nl_flt, nl_teq, nl_feq, nl_sub, nl_ss, nl_lt, nl_llt, nl_ltt, nl_le, nl_lle, nl_lee, nl_eq, nl_leq, nl_ee, nl_div, nl_rem, nl_cl, nl_n1, nl_n2, nl_n3, nl_n4, nl_add, nl_ladd, nl_aa, nl_mul, nl_rmul, nl_mm, pu_wi_1, pu_wi_2, bX2_takeBack_0, a_ald, a_cs, a_gi, a_gr, a_ild, a_ist, a_pi, a_push, fx_31_5 hx, fx_31_6 hx, sh_31, sh_36, sh_37, pu_rv, pu_as, Value.category, pu_bk, pu_kl, pu_qe0, pu_qe1, h31, F2, F4]
