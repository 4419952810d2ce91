/-! near -/
theorem pz_k1 (s p s' p' sd pc : Int) (c : (if p < pc then pc - p else p - pc) < (if p' < pc then pc - p' else p' - pc) ∨ ((if p < pc then pc - p else p - pc) = (if p' < pc then pc - p' else p' - pc) ∧ s = sd ∧ ¬ s' = sd)) : pz_kz s p sd pc ≤ pz_kz s' p' sd pc := by
  unfold pz_kz
  grind
theorem pz_k2 (s p s' p' sd pc : Int) (c : ¬ ((if p < pc then pc - p else p - pc) < (if p' < pc then pc - p' else p' - pc) ∨ ((if p < pc then pc - p else p - pc) = (if p' < pc then pc - p' else p' - pc) ∧ s = sd ∧ ¬ s' = sd))) (so : 2 * p' + s' ≤ 2 * p + s) (h1 : 0 ≤ s ∧ s ≤ 1) (h2 : 0 ≤ s' ∧ s' ≤ 1) (h3 : sd = 0 ∨ sd = 1) : pz_kz s' p' sd pc ≤ pz_kz s p sd pc := by
  unfold pz_kz
  grind
theorem pz_k3 (s p s' p' sd pc : Int) (c : pz_kz s p sd pc = pz_kz s' p' sd pc) (h1 : 0 ≤ s ∧ s ≤ 1) (h2 : 0 ≤ s' ∧ s' ≤ 1) (h3 : sd = 0 ∨ sd = 1) : s = s' ∧ p = p' := by
  unfold pz_kz at c
  grind
section
variable {M : pu_M} {I : Nat → Nat → Int32} {L : Nat → Nat → Int64}
theorem c_isPlace (s p : Int32) (M : pu_M) : pu_r 58 [some (.int s), some (.int p)] [] M = some (some (.int (pu_q ((s = 0 ∨ s = 1) ∧ ¬ p < 0 ∧ ¬ 9999 < p))), M) := by
  have e := c_isSide s M
  by_cases c : s = 0 ∨ s = 1
  · rw [pu_q1 c] at e
    rw [qX11_isPlace]
    simp [a_ent, bX11_isPlace_0, bX11_isPlace_22, bX11_isPlace_23, a_cs, a_icgt, a_ifeq, a_iflt, a_ild, a_push, a_zret, pu_rv, pu_as, Value.category, pu_bk, pu_kl, List.replicate, pu_wi_1, pu_wi_2, nl_add, nl_ladd, nl_aa, nl_mul, nl_rmul, nl_mm, pu_qe0, pu_qe1, e]
    all_goals try simp (maxSteps := 400000) (disch := omega) [nl_tle, nl_fle, nl_tlt, nl_flt, nl_teq, nl_feq, nl_sub, nl_ss, nl_lt, nl_llt, nl_ltt, nl_le, nl_lle, nl_lee, nl_eq, nl_leq, nl_ee, nl_div, nl_rem, nl_cl, nl_n1, nl_n2, nl_n3, nl_n4, nl_add, nl_ladd, nl_aa, nl_mul, nl_rmul, nl_mm, pu_wi_1, pu_wi_2, bX11_isPlace_0, bX11_isPlace_22, bX11_isPlace_23, a_cs, a_icgt, a_ifeq, a_iflt, a_ild, a_push, a_zret, pu_rv, pu_as, Value.category, pu_bk, pu_kl, pu_qe0, pu_qe1, e]
    all_goals try simp [bX11_isPlace_0, bX11_isPlace_22, bX11_isPlace_23, a_cs, a_icgt, a_ifeq, a_iflt, a_ild, a_push, a_zret, pu_rv, pu_as, Value.category, pu_bk, pu_kl, List.replicate, pu_wi_1, pu_wi_2, nl_add, nl_ladd, nl_aa, nl_mul, nl_rmul, nl_mm, pu_qe0, pu_qe1, e]
    all_goals try simp (maxSteps := 400000) (disch := omega) [nl_tle, nl_fle, nl_tlt, nl_flt, nl_teq, nl_feq, nl_sub, nl_ss, nl_lt, nl_llt, nl_ltt, nl_le, nl_lle, nl_lee, nl_eq, nl_leq, nl_ee, nl_div, nl_rem, nl_cl, nl_n1, nl_n2, nl_n3, nl_n4, nl_add, nl_ladd, nl_aa, nl_mul, nl_rmul, nl_mm, pu_wi_1, pu_wi_2, bX11_isPlace_0, bX11_isPlace_22, bX11_isPlace_23, a_cs, a_icgt, a_ifeq, a_iflt, a_ild, a_push, a_zret, pu_rv, pu_as, Value.category, pu_bk, pu_kl, pu_qe0, pu_qe1, e]
    grind [pu_q]
  · rw [pu_q0 c] at e
    rw [pu_q0 (fun q => c q.1)]
    rw [qX11_isPlace]
    simp [a_ent, bX11_isPlace_0, bX11_isPlace_22, bX11_isPlace_23, a_cs, a_icgt, a_ifeq, a_iflt, a_ild, a_push, a_zret, pu_rv, pu_as, Value.category, pu_bk, pu_kl, List.replicate, pu_wi_1, pu_wi_2, nl_add, nl_ladd, nl_aa, nl_mul, nl_rmul, nl_mm, pu_qe0, pu_qe1, e]
    all_goals try simp (maxSteps := 400000) (disch := omega) [nl_tle, nl_fle, nl_tlt, nl_flt, nl_teq, nl_feq, nl_sub, nl_ss, nl_lt, nl_llt, nl_ltt, nl_le, nl_lle, nl_lee, nl_eq, nl_leq, nl_ee, nl_div, nl_rem, nl_cl, nl_n1, nl_n2, nl_n3, nl_n4, nl_add, nl_ladd, nl_aa, nl_mul, nl_rmul, nl_mm, pu_wi_1, pu_wi_2, bX11_isPlace_0, bX11_isPlace_22, bX11_isPlace_23, a_cs, a_icgt, a_ifeq, a_iflt, a_ild, a_push, a_zret, pu_rv, pu_as, Value.category, pu_bk, pu_kl, pu_qe0, pu_qe1, e]
    all_goals try simp [bX11_isPlace_0, bX11_isPlace_22, bX11_isPlace_23, a_cs, a_icgt, a_ifeq, a_iflt, a_ild, a_push, a_zret, pu_rv, pu_as, Value.category, pu_bk, pu_kl, List.replicate, pu_wi_1, pu_wi_2, nl_add, nl_ladd, nl_aa, nl_mul, nl_rmul, nl_mm, pu_qe0, pu_qe1, e]
    all_goals try simp (maxSteps := 400000) (disch := omega) [nl_tle, nl_fle, nl_tlt, nl_flt, nl_teq, nl_feq, nl_sub, nl_ss, nl_lt, nl_llt, nl_ltt, nl_le, nl_lle, nl_lee, nl_eq, nl_leq, nl_ee, nl_div, nl_rem, nl_cl, nl_n1, nl_n2, nl_n3, nl_n4, nl_add, nl_ladd, nl_aa, nl_mul, nl_rmul, nl_mm, pu_wi_1, pu_wi_2, bX11_isPlace_0, bX11_isPlace_22, bX11_isPlace_23, a_cs, a_icgt, a_ifeq, a_iflt, a_ild, a_push, a_zret, pu_rv, pu_as, Value.category, pu_bk, pu_kl, pu_qe0, pu_qe1, e]
theorem r_isPlace (s p : Int32) (M : pu_M) : pu_r 283 [some (.int s), some (.int p)] [] M = some (some (.int (pu_q ((s = 0 ∨ s = 1) ∧ ¬ p < 0 ∧ ¬ 9999 < p))), M) := by
  by_cases a : s < 0
  · rw [pu_q0 (by grind)]
    rw [qX12_isPlace]
    simp [a_ent, bX12_isPlace_0, bX12_isPlace_24, bX12_isPlace_25, a_icgt, a_iflt, a_ild, a_push, a_zret, pu_rv, pu_as, Value.category, pu_bk, pu_kl, List.replicate, pu_wi_1, pu_wi_2, nl_add, nl_ladd, nl_aa, nl_mul, nl_rmul, nl_mm, pu_qe0, pu_qe1, a]
    all_goals try simp (maxSteps := 400000) (disch := omega) [nl_tle, nl_fle, nl_tlt, nl_flt, nl_teq, nl_feq, nl_sub, nl_ss, nl_lt, nl_llt, nl_ltt, nl_le, nl_lle, nl_lee, nl_eq, nl_leq, nl_ee, nl_div, nl_rem, nl_cl, nl_n1, nl_n2, nl_n3, nl_n4, nl_add, nl_ladd, nl_aa, nl_mul, nl_rmul, nl_mm, pu_wi_1, pu_wi_2, bX12_isPlace_0, bX12_isPlace_24, bX12_isPlace_25, a_icgt, a_iflt, a_ild, a_push, a_zret, pu_rv, pu_as, Value.category, pu_bk, pu_kl, pu_qe0, pu_qe1, a]
    all_goals try simp [bX12_isPlace_0, bX12_isPlace_24, bX12_isPlace_25, a_icgt, a_iflt, a_ild, a_push, a_zret, pu_rv, pu_as, Value.category, pu_bk, pu_kl, List.replicate, pu_wi_1, pu_wi_2, nl_add, nl_ladd, nl_aa, nl_mul, nl_rmul, nl_mm, pu_qe0, pu_qe1, a]
    all_goals try simp (maxSteps := 400000) (disch := omega) [nl_tle, nl_fle, nl_tlt, nl_flt, nl_teq, nl_feq, nl_sub, nl_ss, nl_lt, nl_llt, nl_ltt, nl_le, nl_lle, nl_lee, nl_eq, nl_leq, nl_ee, nl_div, nl_rem, nl_cl, nl_n1, nl_n2, nl_n3, nl_n4, nl_add, nl_ladd, nl_aa, nl_mul, nl_rmul, nl_mm, pu_wi_1, pu_wi_2, bX12_isPlace_0, bX12_isPlace_24, bX12_isPlace_25, a_icgt, a_iflt, a_ild, a_push, a_zret, pu_rv, pu_as, Value.category, pu_bk, pu_kl, pu_qe0, pu_qe1, a]
  · by_cases b : 1 < s
    · rw [pu_q0 (by grind)]
      rw [qX12_isPlace]
      simp [a_ent, bX12_isPlace_0, bX12_isPlace_24, bX12_isPlace_25, a_icgt, a_iflt, a_ild, a_push, a_zret, pu_rv, pu_as, Value.category, pu_bk, pu_kl, List.replicate, pu_wi_1, pu_wi_2, nl_add, nl_ladd, nl_aa, nl_mul, nl_rmul, nl_mm, pu_qe0, pu_qe1, a, b]
      all_goals try simp (maxSteps := 400000) (disch := omega) [nl_tle, nl_fle, nl_tlt, nl_flt, nl_teq, nl_feq, nl_sub, nl_ss, nl_lt, nl_llt, nl_ltt, nl_le, nl_lle, nl_lee, nl_eq, nl_leq, nl_ee, nl_div, nl_rem, nl_cl, nl_n1, nl_n2, nl_n3, nl_n4, nl_add, nl_ladd, nl_aa, nl_mul, nl_rmul, nl_mm, pu_wi_1, pu_wi_2, bX12_isPlace_0, bX12_isPlace_24, bX12_isPlace_25, a_icgt, a_iflt, a_ild, a_push, a_zret, pu_rv, pu_as, Value.category, pu_bk, pu_kl, pu_qe0, pu_qe1, a, b]
      all_goals try simp [bX12_isPlace_0, bX12_isPlace_24, bX12_isPlace_25, a_icgt, a_iflt, a_ild, a_push, a_zret, pu_rv, pu_as, Value.category, pu_bk, pu_kl, List.replicate, pu_wi_1, pu_wi_2, nl_add, nl_ladd, nl_aa, nl_mul, nl_rmul, nl_mm, pu_qe0, pu_qe1, a, b]
      all_goals try simp (maxSteps := 400000) (disch := omega) [nl_tle, nl_fle, nl_tlt, nl_flt, nl_teq, nl_feq, nl_sub, nl_ss, nl_lt, nl_llt, nl_ltt, nl_le, nl_lle, nl_lee, nl_eq, nl_leq, nl_ee, nl_div, nl_rem, nl_cl, nl_n1, nl_n2, nl_n3, nl_n4, nl_add, nl_ladd, nl_aa, nl_mul, nl_rmul, nl_mm, pu_wi_1, pu_wi_2, bX12_isPlace_0, bX12_isPlace_24, bX12_isPlace_25, a_icgt, a_iflt, a_ild, a_push, a_zret, pu_rv, pu_as, Value.category, pu_bk, pu_kl, pu_qe0, pu_qe1, a, b]
    · have c : s = 0 ∨ s = 1 := by grind
      by_cases d : p < 0
      · rw [pu_q0 (fun q => q.2.1 d)]
        rw [qX12_isPlace]
        simp [a_ent, bX12_isPlace_0, bX12_isPlace_24, bX12_isPlace_25, a_icgt, a_iflt, a_ild, a_push, a_zret, pu_rv, pu_as, Value.category, pu_bk, pu_kl, List.replicate, pu_wi_1, pu_wi_2, nl_add, nl_ladd, nl_aa, nl_mul, nl_rmul, nl_mm, pu_qe0, pu_qe1, a, b, d]
        all_goals try simp (maxSteps := 400000) (disch := omega) [nl_tle, nl_fle, nl_tlt, nl_flt, nl_teq, nl_feq, nl_sub, nl_ss, nl_lt, nl_llt, nl_ltt, nl_le, nl_lle, nl_lee, nl_eq, nl_leq, nl_ee, nl_div, nl_rem, nl_cl, nl_n1, nl_n2, nl_n3, nl_n4, nl_add, nl_ladd, nl_aa, nl_mul, nl_rmul, nl_mm, pu_wi_1, pu_wi_2, bX12_isPlace_0, bX12_isPlace_24, bX12_isPlace_25, a_icgt, a_iflt, a_ild, a_push, a_zret, pu_rv, pu_as, Value.category, pu_bk, pu_kl, pu_qe0, pu_qe1, a, b, d]
        all_goals try simp [bX12_isPlace_0, bX12_isPlace_24, bX12_isPlace_25, a_icgt, a_iflt, a_ild, a_push, a_zret, pu_rv, pu_as, Value.category, pu_bk, pu_kl, List.replicate, pu_wi_1, pu_wi_2, nl_add, nl_ladd, nl_aa, nl_mul, nl_rmul, nl_mm, pu_qe0, pu_qe1, a, b, d]
        all_goals try simp (maxSteps := 400000) (disch := omega) [nl_tle, nl_fle, nl_tlt, nl_flt, nl_teq, nl_feq, nl_sub, nl_ss, nl_lt, nl_llt, nl_ltt, nl_le, nl_lle, nl_lee, nl_eq, nl_leq, nl_ee, nl_div, nl_rem, nl_cl, nl_n1, nl_n2, nl_n3, nl_n4, nl_add, nl_ladd, nl_aa, nl_mul, nl_rmul, nl_mm, pu_wi_1, pu_wi_2, bX12_isPlace_0, bX12_isPlace_24, bX12_isPlace_25, a_icgt, a_iflt, a_ild, a_push, a_zret, pu_rv, pu_as, Value.category, pu_bk, pu_kl, pu_qe0, pu_qe1, a, b, d]
      · by_cases e : 9999 < p
        · rw [pu_q0 (fun q => q.2.2 e)]
          rw [qX12_isPlace]
          simp [a_ent, bX12_isPlace_0, bX12_isPlace_24, bX12_isPlace_25, a_icgt, a_iflt, a_ild, a_push, a_zret, pu_rv, pu_as, Value.category, pu_bk, pu_kl, List.replicate, pu_wi_1, pu_wi_2, nl_add, nl_ladd, nl_aa, nl_mul, nl_rmul, nl_mm, pu_qe0, pu_qe1, a, b, d, e]
          all_goals try simp (maxSteps := 400000) (disch := omega) [nl_tle, nl_fle, nl_tlt, nl_flt, nl_teq, nl_feq, nl_sub, nl_ss, nl_lt, nl_llt, nl_ltt, nl_le, nl_lle, nl_lee, nl_eq, nl_leq, nl_ee, nl_div, nl_rem, nl_cl, nl_n1, nl_n2, nl_n3, nl_n4, nl_add, nl_ladd, nl_aa, nl_mul, nl_rmul, nl_mm, pu_wi_1, pu_wi_2, bX12_isPlace_0, bX12_isPlace_24, bX12_isPlace_25, a_icgt, a_iflt, a_ild, a_push, a_zret, pu_rv, pu_as, Value.category, pu_bk, pu_kl, pu_qe0, pu_qe1, a, b, d, e]
          all_goals try simp [bX12_isPlace_0, bX12_isPlace_24, bX12_isPlace_25, a_icgt, a_iflt, a_ild, a_push, a_zret, pu_rv, pu_as, Value.category, pu_bk, pu_kl, List.replicate, pu_wi_1, pu_wi_2, nl_add, nl_ladd, nl_aa, nl_mul, nl_rmul, nl_mm, pu_qe0, pu_qe1, a, b, d, e]
          all_goals try simp (maxSteps := 400000) (disch := omega) [nl_tle, nl_fle, nl_tlt, nl_flt, nl_teq, nl_feq, nl_sub, nl_ss, nl_lt, nl_llt, nl_ltt, nl_le, nl_lle, nl_lee, nl_eq, nl_leq, nl_ee, nl_div, nl_rem, nl_cl, nl_n1, nl_n2, nl_n3, nl_n4, nl_add, nl_ladd, nl_aa, nl_mul, nl_rmul, nl_mm, pu_wi_1, pu_wi_2, bX12_isPlace_0, bX12_isPlace_24, bX12_isPlace_25, a_icgt, a_iflt, a_ild, a_push, a_zret, pu_rv, pu_as, Value.category, pu_bk, pu_kl, pu_qe0, pu_qe1, a, b, d, e]
        · rw [pu_q1 ⟨c, d, e⟩]
          rw [qX12_isPlace]
          simp [a_ent, bX12_isPlace_0, bX12_isPlace_24, bX12_isPlace_25, a_icgt, a_iflt, a_ild, a_push, a_zret, pu_rv, pu_as, Value.category, pu_bk, pu_kl, List.replicate, pu_wi_1, pu_wi_2, nl_add, nl_ladd, nl_aa, nl_mul, nl_rmul, nl_mm, pu_qe0, pu_qe1, a, b, d, e]
          all_goals try simp (maxSteps := 400000) (disch := omega) [nl_tle, nl_fle, nl_tlt, nl_flt, nl_teq, nl_feq, nl_sub, nl_ss, nl_lt, nl_llt, nl_ltt, nl_le, nl_lle, nl_lee, nl_eq, nl_leq, nl_ee, nl_div, nl_rem, nl_cl, nl_n1, nl_n2, nl_n3, nl_n4, nl_add, nl_ladd, nl_aa, nl_mul, nl_rmul, nl_mm, pu_wi_1, pu_wi_2, bX12_isPlace_0, bX12_isPlace_24, bX12_isPlace_25, a_icgt, a_iflt, a_ild, a_push, a_zret, pu_rv, pu_as, Value.category, pu_bk, pu_kl, pu_qe0, pu_qe1, a, b, d, e]
          all_goals try simp [bX12_isPlace_0, bX12_isPlace_24, bX12_isPlace_25, a_icgt, a_iflt, a_ild, a_push, a_zret, pu_rv, pu_as, Value.category, pu_bk, pu_kl, List.replicate, pu_wi_1, pu_wi_2, nl_add, nl_ladd, nl_aa, nl_mul, nl_rmul, nl_mm, pu_qe0, pu_qe1, a, b, d, e]
          all_goals try simp (maxSteps := 400000) (disch := omega) [nl_tle, nl_fle, nl_tlt, nl_flt, nl_teq, nl_feq, nl_sub, nl_ss, nl_lt, nl_llt, nl_ltt, nl_le, nl_lle, nl_lee, nl_eq, nl_leq, nl_ee, nl_div, nl_rem, nl_cl, nl_n1, nl_n2, nl_n3, nl_n4, nl_add, nl_ladd, nl_aa, nl_mul, nl_rmul, nl_mm, pu_wi_1, pu_wi_2, bX12_isPlace_0, bX12_isPlace_24, bX12_isPlace_25, a_icgt, a_iflt, a_ild, a_push, a_zret, pu_rv, pu_as, Value.category, pu_bk, pu_kl, pu_qe0, pu_qe1, a, b, d, e]
/-- the nearest of a view: from place i on, b the best so far -/
theorem c_near_l (hx : pu_fx M) (hw : pu_WF I L) (st sd pc y : Int32) (n : Nat) (V : Nat → Nat) (hn : n ≤ 100) (hv : pu_vp M I 1 V n) (hp : 0 ≤ pc.toInt) (hp2 : pc.toInt ≤ 9999) (hs : ∀ a, a < n → 0 ≤ (I 40 (pu_sl0 I (V a))).toInt ∧ (I 40 (pu_sl0 I (V a))).toInt ≤ 1 ∧ 0 ≤ (I 41 (pu_sl0 I (V a))).toInt ∧ (I 41 (pu_sl0 I (V a))).toInt ≤ 9999) (hsd : sd.toInt = 0 ∨ sd.toInt = 1) (hso : ∀ a b, a < b → b < n → pu_rk I 1 (V a) ≤ pu_rk I 1 (V b)) (hsl : ∀ a, a < n → pu_sl0 I (V a) < 200 ∧ I 15 (V a) = nI (pu_sl0 I (V a))) :
    ∀ (m i : Nat) (b : Int32), i + m = n → ((b = -1 ∧ i = 0) ∨ ∃ a, a < i ∧ b = nI a ∧ ∀ l, l < i → pz_kz (I 40 (pu_sl0 I (V a))).toInt (I 41 (pu_sl0 I (V a))).toInt sd.toInt pc.toInt ≤ pz_kz (I 40 (pu_sl0 I (V l))).toInt (I 41 (pu_sl0 I (V l))).toInt sd.toInt pc.toInt) →
    ∃ r, pu_r 415 [some (.ref 0), some (.int st), some (.int sd), some (.int pc), some (.int y), some (.int b), some (.int (nI i))] [] M = some (some (.int r), M) ∧ ((r = -1 ∧ n = 0) ∨ ∃ a, a < n ∧ r = nI (pu_sl0 I (V a) / 2) ∧ ∀ l, l < n → pz_kz (I 40 (pu_sl0 I (V a))).toInt (I 41 (pu_sl0 I (V a))).toInt sd.toInt pc.toInt ≤ pz_kz (I 40 (pu_sl0 I (V l))).toInt (I 41 (pu_sl0 I (V l))).toInt sd.toInt pc.toInt)
  | 0, i, b, h, hb => by
    have hc : nI n ≤ nI i := nI_le (by omega) (by omega)
    have e : i = n := by omega
    subst e
    rcases hb with ⟨b1, b2⟩ | ⟨a, a1, a2, a3⟩
    · refine ⟨-1, ?_, Or.inl ⟨rfl, b2⟩⟩
      rw [qX11_near_53]
      simp [bX11_near_53, bX11_near_94, bX11_near_104, bX11_near_116, bX11_near_84, bX11_near_88, a_ai, a_ald, a_cv, a_gi, a_gr, a_iceq, a_icge, a_icne, a_idiv, a_ifeq, a_ild, a_inc, a_iret, a_ist, a_push, fx_0_5 hx, fx_62_4 hx, sh_0, sh_62, sh_64, pu_rv, pu_as, Value.category, pu_bk, pu_kl, List.replicate, pu_wi_1, pu_wi_2, nl_add, nl_ladd, nl_aa, nl_mul, nl_rmul, nl_mm, pu_qe0, pu_qe1, hv.1, hc, b1]
      all_goals try simp (maxSteps := 400000) (disch := omega) [nl_tle, nl_fle, nl_tlt, nl_flt, nl_teq, nl_feq, nl_sub, nl_ss, nl_lt, nl_llt, nl_ltt, nl_le, nl_lle, nl_lee, nl_eq, nl_leq, nl_ee, nl_div, nl_rem, nl_cl, nl_n1, nl_n2, nl_n3, nl_n4, nl_add, nl_ladd, nl_aa, nl_mul, nl_rmul, nl_mm, pu_wi_1, pu_wi_2, bX11_near_53, bX11_near_94, bX11_near_104, bX11_near_116, bX11_near_84, bX11_near_88, a_ai, a_ald, a_cv, a_gi, a_gr, a_iceq, a_icge, a_icne, a_idiv, a_ifeq, a_ild, a_inc, a_iret, a_ist, a_push, fx_0_5 hx, fx_62_4 hx, sh_0, sh_62, sh_64, pu_rv, pu_as, Value.category, pu_bk, pu_kl, pu_qe0, pu_qe1, hv.1, hc, b1]
      all_goals try simp [bX11_near_53, bX11_near_94, bX11_near_104, bX11_near_116, bX11_near_84, bX11_near_88, a_ai, a_ald, a_cv, a_gi, a_gr, a_iceq, a_icge, a_icne, a_idiv, a_ifeq, a_ild, a_inc, a_iret, a_ist, a_push, fx_0_5 hx, fx_62_4 hx, sh_0, sh_62, sh_64, pu_rv, pu_as, Value.category, pu_bk, pu_kl, List.replicate, pu_wi_1, pu_wi_2, nl_add, nl_ladd, nl_aa, nl_mul, nl_rmul, nl_mm, pu_qe0, pu_qe1, hv.1, hc, b1]
      all_goals try simp (maxSteps := 400000) (disch := omega) [nl_tle, nl_fle, nl_tlt, nl_flt, nl_teq, nl_feq, nl_sub, nl_ss, nl_lt, nl_llt, nl_ltt, nl_le, nl_lle, nl_lee, nl_eq, nl_leq, nl_ee, nl_div, nl_rem, nl_cl, nl_n1, nl_n2, nl_n3, nl_n4, nl_add, nl_ladd, nl_aa, nl_mul, nl_rmul, nl_mm, pu_wi_1, pu_wi_2, bX11_near_53, bX11_near_94, bX11_near_104, bX11_near_116, bX11_near_84, bX11_near_88, a_ai, a_ald, a_cv, a_gi, a_gr, a_iceq, a_icge, a_icne, a_idiv, a_ifeq, a_ild, a_inc, a_iret, a_ist, a_push, fx_0_5 hx, fx_62_4 hx, sh_0, sh_62, sh_64, pu_rv, pu_as, Value.category, pu_bk, pu_kl, pu_qe0, pu_qe1, hv.1, hc, b1]
    · refine ⟨nI (pu_sl0 I (V a) / 2), ?_, Or.inr ⟨a, a1, rfl, a3⟩⟩
      have v := hv.2 64 a (by omega) (by omega) a1
      have s2 := hsl a a1
      have v2 : M.1 64 a = nI (pu_sl0 I (V a)) := by
        rw [v, ← s2.2]
        rfl
      have n1 : ¬ nI a = -1 := fun q => by rw [nl_n1 a (by omega)] at q; exact q
      rw [qX11_near_53]
      simp [bX11_near_53, bX11_near_94, bX11_near_104, bX11_near_116, bX11_near_84, bX11_near_88, a_ai, a_ald, a_cv, a_gi, a_gr, a_iceq, a_icge, a_icne, a_idiv, a_ifeq, a_ild, a_inc, a_iret, a_ist, a_push, fx_0_5 hx, fx_62_4 hx, sh_0, sh_62, sh_64, pu_rv, pu_as, Value.category, pu_bk, pu_kl, List.replicate, pu_wi_1, pu_wi_2, nl_add, nl_ladd, nl_aa, nl_mul, nl_rmul, nl_mm, pu_qe0, pu_qe1, hv.1, hc, a2, n1, v2]
      all_goals try simp (maxSteps := 400000) (disch := omega) [nl_tle, nl_fle, nl_tlt, nl_flt, nl_teq, nl_feq, nl_sub, nl_ss, nl_lt, nl_llt, nl_ltt, nl_le, nl_lle, nl_lee, nl_eq, nl_leq, nl_ee, nl_div, nl_rem, nl_cl, nl_n1, nl_n2, nl_n3, nl_n4, nl_add, nl_ladd, nl_aa, nl_mul, nl_rmul, nl_mm, pu_wi_1, pu_wi_2, bX11_near_53, bX11_near_94, bX11_near_104, bX11_near_116, bX11_near_84, bX11_near_88, a_ai, a_ald, a_cv, a_gi, a_gr, a_iceq, a_icge, a_icne, a_idiv, a_ifeq, a_ild, a_inc, a_iret, a_ist, a_push, fx_0_5 hx, fx_62_4 hx, sh_0, sh_62, sh_64, pu_rv, pu_as, Value.category, pu_bk, pu_kl, pu_qe0, pu_qe1, hv.1, hc, a2, n1, v2]
      all_goals try simp [bX11_near_53, bX11_near_94, bX11_near_104, bX11_near_116, bX11_near_84, bX11_near_88, a_ai, a_ald, a_cv, a_gi, a_gr, a_iceq, a_icge, a_icne, a_idiv, a_ifeq, a_ild, a_inc, a_iret, a_ist, a_push, fx_0_5 hx, fx_62_4 hx, sh_0, sh_62, sh_64, pu_rv, pu_as, Value.category, pu_bk, pu_kl, List.replicate, pu_wi_1, pu_wi_2, nl_add, nl_ladd, nl_aa, nl_mul, nl_rmul, nl_mm, pu_qe0, pu_qe1, hv.1, hc, a2, n1, v2]
      all_goals try simp (maxSteps := 400000) (disch := omega) [nl_tle, nl_fle, nl_tlt, nl_flt, nl_teq, nl_feq, nl_sub, nl_ss, nl_lt, nl_llt, nl_ltt, nl_le, nl_lle, nl_lee, nl_eq, nl_leq, nl_ee, nl_div, nl_rem, nl_cl, nl_n1, nl_n2, nl_n3, nl_n4, nl_add, nl_ladd, nl_aa, nl_mul, nl_rmul, nl_mm, pu_wi_1, pu_wi_2, bX11_near_53, bX11_near_94, bX11_near_104, bX11_near_116, bX11_near_84, bX11_near_88, a_ai, a_ald, a_cv, a_gi, a_gr, a_iceq, a_icge, a_icne, a_idiv, a_ifeq, a_ild, a_inc, a_iret, a_ist, a_push, fx_0_5 hx, fx_62_4 hx, sh_0, sh_62, sh_64, pu_rv, pu_as, Value.category, pu_bk, pu_kl, pu_qe0, pu_qe1, hv.1, hc, a2, n1, v2]
  | m + 1, i, b, h, hb => by
    have hc : ¬ nI n ≤ nI i := nI_ge (by omega) (by omega)
    rcases hb with ⟨b1, b2⟩ | ⟨a, a1, a2, a3⟩
    · obtain ⟨r, r1, r2⟩ := c_near_l hx hw st sd pc y n V hn hv hp hp2 hs hsd hso hsl m (i + 1) (nI i) (by omega) (Or.inr ⟨i, by omega, rfl, fun l hl => by
        have : l = i := by omega
        rw [this]
        exact Int.le_refl _⟩)
      refine ⟨r, ?_, r2⟩
      rw [qX11_near_53]
      simp [bX11_near_53, bX11_near_94, bX11_near_104, bX11_near_116, bX11_near_84, bX11_near_88, a_ai, a_ald, a_cv, a_gi, a_gr, a_iceq, a_icge, a_icne, a_idiv, a_ifeq, a_ild, a_inc, a_iret, a_ist, a_push, fx_0_5 hx, fx_62_4 hx, sh_0, sh_62, sh_64, pu_rv, pu_as, Value.category, pu_bk, pu_kl, List.replicate, pu_wi_1, pu_wi_2, nl_add, nl_ladd, nl_aa, nl_mul, nl_rmul, nl_mm, pu_qe0, pu_qe1, hv.1, hc, b1, r1]
      all_goals try simp (maxSteps := 400000) (disch := omega) [nl_tle, nl_fle, nl_tlt, nl_flt, nl_teq, nl_feq, nl_sub, nl_ss, nl_lt, nl_llt, nl_ltt, nl_le, nl_lle, nl_lee, nl_eq, nl_leq, nl_ee, nl_div, nl_rem, nl_cl, nl_n1, nl_n2, nl_n3, nl_n4, nl_add, nl_ladd, nl_aa, nl_mul, nl_rmul, nl_mm, pu_wi_1, pu_wi_2, bX11_near_53, bX11_near_94, bX11_near_104, bX11_near_116, bX11_near_84, bX11_near_88, a_ai, a_ald, a_cv, a_gi, a_gr, a_iceq, a_icge, a_icne, a_idiv, a_ifeq, a_ild, a_inc, a_iret, a_ist, a_push, fx_0_5 hx, fx_62_4 hx, sh_0, sh_62, sh_64, pu_rv, pu_as, Value.category, pu_bk, pu_kl, pu_qe0, pu_qe1, hv.1, hc, b1, r1]
      all_goals try simp [bX11_near_53, bX11_near_94, bX11_near_104, bX11_near_116, bX11_near_84, bX11_near_88, a_ai, a_ald, a_cv, a_gi, a_gr, a_iceq, a_icge, a_icne, a_idiv, a_ifeq, a_ild, a_inc, a_iret, a_ist, a_push, fx_0_5 hx, fx_62_4 hx, sh_0, sh_62, sh_64, pu_rv, pu_as, Value.category, pu_bk, pu_kl, List.replicate, pu_wi_1, pu_wi_2, nl_add, nl_ladd, nl_aa, nl_mul, nl_rmul, nl_mm, pu_qe0, pu_qe1, hv.1, hc, b1, r1]
      all_goals try simp (maxSteps := 400000) (disch := omega) [nl_tle, nl_fle, nl_tlt, nl_flt, nl_teq, nl_feq, nl_sub, nl_ss, nl_lt, nl_llt, nl_ltt, nl_le, nl_lle, nl_lee, nl_eq, nl_leq, nl_ee, nl_div, nl_rem, nl_cl, nl_n1, nl_n2, nl_n3, nl_n4, nl_add, nl_ladd, nl_aa, nl_mul, nl_rmul, nl_mm, pu_wi_1, pu_wi_2, bX11_near_53, bX11_near_94, bX11_near_104, bX11_near_116, bX11_near_84, bX11_near_88, a_ai, a_ald, a_cv, a_gi, a_gr, a_iceq, a_icge, a_icne, a_idiv, a_ifeq, a_ild, a_inc, a_iret, a_ist, a_push, fx_0_5 hx, fx_62_4 hx, sh_0, sh_62, sh_64, pu_rv, pu_as, Value.category, pu_bk, pu_kl, pu_qe0, pu_qe1, hv.1, hc, b1, r1]
    · have n1 : ¬ nI a = -1 := fun q => by rw [nl_n1 a (by omega)] at q; exact q
      have vi := hv.2 67 i (by omega) (by omega) (by omega)
      have va := hv.2 67 a (by omega) (by omega) (by omega)
      have wi := hv.2 66 i (by omega) (by omega) (by omega)
      have wa := hv.2 66 a (by omega) (by omega) (by omega)
      have vi : M.1 67 i = I 41 (pu_sl0 I (V i)) := vi
      have va : M.1 67 a = I 41 (pu_sl0 I (V a)) := va
      have wi : M.1 66 i = I 40 (pu_sl0 I (V i)) := wi
      have wa : M.1 66 a = I 40 (pu_sl0 I (V a)) := wa
      have si := hs i (by omega)
      have sa := hs a (by omega)
      have g := c_isNearer hx sd pc i a (by omega) (by omega) hp hp2 (by rw [vi]; omega) (by rw [vi]; omega) (by rw [va]; omega) (by rw [va]; omega)
      rw [vi, va, wi, wa] at g
      have es : ∀ z : Int32, (z = sd) = (z.toInt = sd.toInt) := fun z => propext ⟨fun e => by rw [e], fun e => Int32.toInt_inj.mp e⟩
      rw [es, Ne, es] at g
      have so := hso a i a1 (by omega)
      have so2 : 2 * (I 41 (pu_sl0 I (V a))).toInt + (I 40 (pu_sl0 I (V a))).toInt ≤ 2 * (I 41 (pu_sl0 I (V i))).toInt + (I 40 (pu_sl0 I (V i))).toInt := by
        have tr : ∀ z1 z2 : Int32, 0 ≤ z1.toInt → z1.toInt ≤ 9999 → 0 ≤ z2.toInt → z2.toInt ≤ 1 → (2 * z1 + z2).toInt = 2 * z1.toInt + z2.toInt := fun z1 z2 y1 y2 y3 y4 => by
          have a1 := pu_nnT y1
          have a2 := pu_nnT y3
          rw [pu_nn0 y1, pu_nn0 y3, show (2 : Int32) = nI 2 from rfl, pk_mul, nI_add, nI_toInt (by omega), nI_toInt (by omega), nI_toInt (by omega)]
          omega
        have := Int32.le_iff_toInt_le.mp so
        have t1 : pu_rk I 1 (V a) = 2 * I 41 (pu_sl0 I (V a)) + I 40 (pu_sl0 I (V a)) := by simp [pu_rk, pu_rkx]
        have t2 : pu_rk I 1 (V i) = 2 * I 41 (pu_sl0 I (V i)) + I 40 (pu_sl0 I (V i)) := by simp [pu_rk, pu_rkx]
        rw [t1, t2, tr _ _ sa.2.2.1 sa.2.2.2 sa.1 sa.2.1, tr _ _ si.2.2.1 si.2.2.2 si.1 si.2.1] at this
        exact this
      by_cases c : (if (I 41 (pu_sl0 I (V i))).toInt < pc.toInt then pc.toInt - (I 41 (pu_sl0 I (V i))).toInt else (I 41 (pu_sl0 I (V i))).toInt - pc.toInt) < (if (I 41 (pu_sl0 I (V a))).toInt < pc.toInt then pc.toInt - (I 41 (pu_sl0 I (V a))).toInt else (I 41 (pu_sl0 I (V a))).toInt - pc.toInt) ∨ ((if (I 41 (pu_sl0 I (V i))).toInt < pc.toInt then pc.toInt - (I 41 (pu_sl0 I (V i))).toInt else (I 41 (pu_sl0 I (V i))).toInt - pc.toInt) = (if (I 41 (pu_sl0 I (V a))).toInt < pc.toInt then pc.toInt - (I 41 (pu_sl0 I (V a))).toInt else (I 41 (pu_sl0 I (V a))).toInt - pc.toInt) ∧ (I 40 (pu_sl0 I (V i))).toInt = sd.toInt ∧ ¬ (I 40 (pu_sl0 I (V a))).toInt = sd.toInt)
      · rw [pu_q1 c] at g
        have k1 := pz_k1 _ _ _ _ _ _ c
        obtain ⟨r, r1, r2⟩ := c_near_l hx hw st sd pc y n V hn hv hp hp2 hs hsd hso hsl m (i + 1) (nI i) (by omega) (Or.inr ⟨i, by omega, rfl, fun l hl => by
          by_cases e : l = i
          · rw [e]
            exact Int.le_refl _
          · exact Int.le_trans k1 (a3 l (by omega))⟩)
        refine ⟨r, ?_, r2⟩
        rw [qX11_near_53]
        simp [bX11_near_53, bX11_near_94, bX11_near_104, bX11_near_116, bX11_near_84, bX11_near_88, a_ai, a_ald, a_cv, a_gi, a_gr, a_iceq, a_icge, a_icne, a_idiv, a_ifeq, a_ild, a_inc, a_iret, a_ist, a_push, fx_0_5 hx, fx_62_4 hx, sh_0, sh_62, sh_64, pu_rv, pu_as, Value.category, pu_bk, pu_kl, List.replicate, pu_wi_1, pu_wi_2, nl_add, nl_ladd, nl_aa, nl_mul, nl_rmul, nl_mm, pu_qe0, pu_qe1, hv.1, hc, a2, n1, g, r1]
        all_goals try simp (maxSteps := 400000) (disch := omega) [nl_tle, nl_fle, nl_tlt, nl_flt, nl_teq, nl_feq, nl_sub, nl_ss, nl_lt, nl_llt, nl_ltt, nl_le, nl_lle, nl_lee, nl_eq, nl_leq, nl_ee, nl_div, nl_rem, nl_cl, nl_n1, nl_n2, nl_n3, nl_n4, nl_add, nl_ladd, nl_aa, nl_mul, nl_rmul, nl_mm, pu_wi_1, pu_wi_2, bX11_near_53, bX11_near_94, bX11_near_104, bX11_near_116, bX11_near_84, bX11_near_88, a_ai, a_ald, a_cv, a_gi, a_gr, a_iceq, a_icge, a_icne, a_idiv, a_ifeq, a_ild, a_inc, a_iret, a_ist, a_push, fx_0_5 hx, fx_62_4 hx, sh_0, sh_62, sh_64, pu_rv, pu_as, Value.category, pu_bk, pu_kl, pu_qe0, pu_qe1, hv.1, hc, a2, n1, g, r1]
        all_goals try simp [bX11_near_53, bX11_near_94, bX11_near_104, bX11_near_116, bX11_near_84, bX11_near_88, a_ai, a_ald, a_cv, a_gi, a_gr, a_iceq, a_icge, a_icne, a_idiv, a_ifeq, a_ild, a_inc, a_iret, a_ist, a_push, fx_0_5 hx, fx_62_4 hx, sh_0, sh_62, sh_64, pu_rv, pu_as, Value.category, pu_bk, pu_kl, List.replicate, pu_wi_1, pu_wi_2, nl_add, nl_ladd, nl_aa, nl_mul, nl_rmul, nl_mm, pu_qe0, pu_qe1, hv.1, hc, a2, n1, g, r1]
        all_goals try simp (maxSteps := 400000) (disch := omega) [nl_tle, nl_fle, nl_tlt, nl_flt, nl_teq, nl_feq, nl_sub, nl_ss, nl_lt, nl_llt, nl_ltt, nl_le, nl_lle, nl_lee, nl_eq, nl_leq, nl_ee, nl_div, nl_rem, nl_cl, nl_n1, nl_n2, nl_n3, nl_n4, nl_add, nl_ladd, nl_aa, nl_mul, nl_rmul, nl_mm, pu_wi_1, pu_wi_2, bX11_near_53, bX11_near_94, bX11_near_104, bX11_near_116, bX11_near_84, bX11_near_88, a_ai, a_ald, a_cv, a_gi, a_gr, a_iceq, a_icge, a_icne, a_idiv, a_ifeq, a_ild, a_inc, a_iret, a_ist, a_push, fx_0_5 hx, fx_62_4 hx, sh_0, sh_62, sh_64, pu_rv, pu_as, Value.category, pu_bk, pu_kl, pu_qe0, pu_qe1, hv.1, hc, a2, n1, g, r1]
      · rw [pu_q0 c] at g
        have k2 := pz_k2 _ _ _ _ _ _ c so2 ⟨si.1, si.2.1⟩ ⟨sa.1, sa.2.1⟩ hsd
        obtain ⟨r, r1, r2⟩ := c_near_l hx hw st sd pc y n V hn hv hp hp2 hs hsd hso hsl m (i + 1) (nI a) (by omega) (Or.inr ⟨a, by omega, rfl, fun l hl => by
          by_cases e : l = i
          · rw [e]
            exact k2
          · exact a3 l (by omega)⟩)
        refine ⟨r, ?_, r2⟩
        rw [qX11_near_53]
        simp [bX11_near_53, bX11_near_94, bX11_near_104, bX11_near_116, bX11_near_84, bX11_near_88, a_ai, a_ald, a_cv, a_gi, a_gr, a_iceq, a_icge, a_icne, a_idiv, a_ifeq, a_ild, a_inc, a_iret, a_ist, a_push, fx_0_5 hx, fx_62_4 hx, sh_0, sh_62, sh_64, pu_rv, pu_as, Value.category, pu_bk, pu_kl, List.replicate, pu_wi_1, pu_wi_2, nl_add, nl_ladd, nl_aa, nl_mul, nl_rmul, nl_mm, pu_qe0, pu_qe1, hv.1, hc, a2, n1, g, r1]
        all_goals try simp (maxSteps := 400000) (disch := omega) [nl_tle, nl_fle, nl_tlt, nl_flt, nl_teq, nl_feq, nl_sub, nl_ss, nl_lt, nl_llt, nl_ltt, nl_le, nl_lle, nl_lee, nl_eq, nl_leq, nl_ee, nl_div, nl_rem, nl_cl, nl_n1, nl_n2, nl_n3, nl_n4, nl_add, nl_ladd, nl_aa, nl_mul, nl_rmul, nl_mm, pu_wi_1, pu_wi_2, bX11_near_53, bX11_near_94, bX11_near_104, bX11_near_116, bX11_near_84, bX11_near_88, a_ai, a_ald, a_cv, a_gi, a_gr, a_iceq, a_icge, a_icne, a_idiv, a_ifeq, a_ild, a_inc, a_iret, a_ist, a_push, fx_0_5 hx, fx_62_4 hx, sh_0, sh_62, sh_64, pu_rv, pu_as, Value.category, pu_bk, pu_kl, pu_qe0, pu_qe1, hv.1, hc, a2, n1, g, r1]
        all_goals try simp [bX11_near_53, bX11_near_94, bX11_near_104, bX11_near_116, bX11_near_84, bX11_near_88, a_ai, a_ald, a_cv, a_gi, a_gr, a_iceq, a_icge, a_icne, a_idiv, a_ifeq, a_ild, a_inc, a_iret, a_ist, a_push, fx_0_5 hx, fx_62_4 hx, sh_0, sh_62, sh_64, pu_rv, pu_as, Value.category, pu_bk, pu_kl, List.replicate, pu_wi_1, pu_wi_2, nl_add, nl_ladd, nl_aa, nl_mul, nl_rmul, nl_mm, pu_qe0, pu_qe1, hv.1, hc, a2, n1, g, r1]
        all_goals try simp (maxSteps := 400000) (disch := omega) [nl_tle, nl_fle, nl_tlt, nl_flt, nl_teq, nl_feq, nl_sub, nl_ss, nl_lt, nl_llt, nl_ltt, nl_le, nl_lle, nl_lee, nl_eq, nl_leq, nl_ee, nl_div, nl_rem, nl_cl, nl_n1, nl_n2, nl_n3, nl_n4, nl_add, nl_ladd, nl_aa, nl_mul, nl_rmul, nl_mm, pu_wi_1, pu_wi_2, bX11_near_53, bX11_near_94, bX11_near_104, bX11_near_116, bX11_near_84, bX11_near_88, a_ai, a_ald, a_cv, a_gi, a_gr, a_iceq, a_icge, a_icne, a_idiv, a_ifeq, a_ild, a_inc, a_iret, a_ist, a_push, fx_0_5 hx, fx_62_4 hx, sh_0, sh_62, sh_64, pu_rv, pu_as, Value.category, pu_bk, pu_kl, pu_qe0, pu_qe1, hv.1, hc, a2, n1, g, r1]
end
theorem pz_sb {x : Int32} (h : x = 0 ∨ x = 1) : x.toInt = 0 ∨ x.toInt = 1 := by
  rcases h with rfl | rfl
  · exact Or.inl (by decide)
  · exact Or.inr (by decide)
theorem pu_Inv_vg {M N : pu_M} (h : pu_Inv M) (g : pu_vg M N) : pu_Inv N := by
  have e2 := g.1
  refine pu_Inv_sc h ?_ (by rw [e2]) (fun a j _ => by rw [e2]) (fun a j q => g.2 a j (by omega)) (fun a j _ => by rw [e2]) (pu_tp_fr h.2.1 (g.2 _ _ (by omega)) (g.2 _ _ (by omega)) (fun j => g.2 _ _ (by omega)) (fun j => g.2 _ _ (by omega))) (pu_ou_fr h.2.2.1 (g.2 _ _ (by omega)) (g.2 _ _ (by omega)) (fun j => g.2 _ _ (by omega)) (fun j => g.2 _ _ (by omega)))
  intro a k r q
  rw [e2]
  exact h.1 a k r q
theorem op_near (x sd pc y : Int32) : pu_op pu_Inv 200 343 [.int x, .int sd, .int pc, .int y] := by
  intro M h
  have hx := h.1
  have hI := pu_ag5 M
  have hr := pu_hR h
  have hw := pu_hS h
  have e1 := c_isStreet hx hI hw x
  have e2 := r_isStreet hx hr x
  have e3 := c_isPlace sd pc M
  have e4 := r_isPlace sd pc M
  have e5 := c_isDay y M
  have e6 := r_isDay y M
  have hK := wx_bK hw
  have hD := wx_bD hw
  by_cases hd : ¬ x < 0 ∧ x < nI (cK (pu_si M 5))
  · rw [pu_q1 hd] at e1 e2
    by_cases hp : (sd = 0 ∨ sd = 1) ∧ ¬ pc < 0 ∧ ¬ 9999 < pc
    · rw [pu_q1 hp] at e3 e4
      by_cases hy : ¬ y < 0 ∧ ¬ 109574 < y
      · rw [pu_q1 hy] at e5 e6
        obtain ⟨st, hst, rfl⟩ := pu_st_of (by omega) hd
        have y1 : y ≠ -1 := fun e => hy.1 (by rw [e]; decide)
        obtain ⟨V, n, N, n1, n2, n3, n4, n5, n6, n7⟩ := c_fill hx hI hw 1 st y (by omega) hst (pu_inj hw st (by omega) y)
        have hN := pu_Inv_vg h n2
        obtain ⟨q, q1, _, q2, q3⟩ := pu_tn_oq hw st (by omega) y
        have t0 : (0 : Int32).toInt = 0 := by decide
        have t9 : (9999 : Int32).toInt = 9999 := by decide
        have p1 := Int32.le_iff_toInt_le.mp (Int32.not_lt.mp hp.2.1)
        have p2 := Int32.le_iff_toInt_le.mp (Int32.not_lt.mp hp.2.2)
        have hV : ∀ a, a < n → V a < cU (pu_si M 5) ∧ pu_oq (pu_si M 5 17 (V a)) (pu_si M 5 18 (V a)) q := fun a ha => by
          have := n6.1 a ha
          refine ⟨this.1, ?_⟩
          have z := this.2.2
          rw [q3 _ this.1 this.2.1] at z
          exact z
        have hsl : ∀ a, a < n → pu_sl0 (pu_si M 5) (V a) < 200 ∧ pu_si M 5 15 (V a) = nI (pu_sl0 (pu_si M 5) (V a)) := fun a ha => by
          have := pu_sl_lt hw (hV a ha).1
          exact ⟨by omega, this.2⟩
        obtain ⟨r, r1, r2⟩ := c_near_l (M := N) (I := pu_si M 5) (L := pu_sj M 5) hN.1 hw (nI st) sd pc y n V n1 n5 (by omega) (by omega) (fun a ha => pz_pl hw (hV a ha).1 q1 (hV a ha).2) (pz_sb hp.1) (fun a b hab hb => (n6.2.2 a b hab hb).2) hsl n 0 (-1) (by omega) (Or.inl ⟨rfl, rfl⟩)
        refine ⟨r, N, N, ?_, ?_, hN⟩
        · rw [nI_0] at r1
          have n7 : pu_r 73 [some (.ref 62), some (.ref 5), some (.int (nI st)), some (.int y), some (.int 1)] [] M = some (none, N) := n7
          rw [qX11_near]
          simp [a_ent, bX11_near_0, bX11_near_30, bX11_near_32, a_ald, a_cs, a_cv, a_gr, a_ifeq, a_ifne, a_ild, a_iret, a_ist, a_push, ag_25 hI, fx_0_2 hx, fx_0_5 hx, fx_5_3 hx, sh_0, sh_25, sh_5, sh_62, pu_rv, pu_as, Value.category, pu_bk, pu_kl, List.replicate, pu_wi_1, pu_wi_2, nl_add, nl_ladd, nl_aa, nl_mul, nl_rmul, nl_mm, pu_qe0, pu_qe1, e1, e3, e5, n7, r1]
          all_goals try simp (maxSteps := 400000) (disch := omega) [nl_tle, nl_fle, nl_tlt, nl_flt, nl_teq, nl_feq, nl_sub, nl_ss, nl_lt, nl_llt, nl_ltt, nl_le, nl_lle, nl_lee, nl_eq, nl_leq, nl_ee, nl_div, nl_rem, nl_cl, nl_n1, nl_n2, nl_n3, nl_n4, nl_add, nl_ladd, nl_aa, nl_mul, nl_rmul, nl_mm, pu_wi_1, pu_wi_2, bX11_near_0, bX11_near_30, bX11_near_32, a_ald, a_cs, a_cv, a_gr, a_ifeq, a_ifne, a_ild, a_iret, a_ist, a_push, ag_25 hI, fx_0_2 hx, fx_0_5 hx, fx_5_3 hx, sh_0, sh_25, sh_5, sh_62, pu_rv, pu_as, Value.category, pu_bk, pu_kl, pu_qe0, pu_qe1, e1, e3, e5, n7, r1]
          all_goals try simp [bX11_near_0, bX11_near_30, bX11_near_32, a_ald, a_cs, a_cv, a_gr, a_ifeq, a_ifne, a_ild, a_iret, a_ist, a_push, ag_25 hI, fx_0_2 hx, fx_0_5 hx, fx_5_3 hx, sh_0, sh_25, sh_5, sh_62, pu_rv, pu_as, Value.category, pu_bk, pu_kl, List.replicate, pu_wi_1, pu_wi_2, nl_add, nl_ladd, nl_aa, nl_mul, nl_rmul, nl_mm, pu_qe0, pu_qe1, e1, e3, e5, n7, r1]
          all_goals try simp (maxSteps := 400000) (disch := omega) [nl_tle, nl_fle, nl_tlt, nl_flt, nl_teq, nl_feq, nl_sub, nl_ss, nl_lt, nl_llt, nl_ltt, nl_le, nl_lle, nl_lee, nl_eq, nl_leq, nl_ee, nl_div, nl_rem, nl_cl, nl_n1, nl_n2, nl_n3, nl_n4, nl_add, nl_ladd, nl_aa, nl_mul, nl_rmul, nl_mm, pu_wi_1, pu_wi_2, bX11_near_0, bX11_near_30, bX11_near_32, a_ald, a_cs, a_cv, a_gr, a_ifeq, a_ifne, a_ild, a_iret, a_ist, a_push, ag_25 hI, fx_0_2 hx, fx_0_5 hx, fx_5_3 hx, sh_0, sh_25, sh_5, sh_62, pu_rv, pu_as, Value.category, pu_bk, pu_kl, pu_qe0, pu_qe1, e1, e3, e5, n7, r1]
        · have hr2 : pu_Rel (pu_si M 5) (pu_sj M 5) (N.1 72) := by
            rw [show N.1 72 = M.1 72 from funext (fun j => n2.2 72 j (by omega))]
            exact hr
          have f2 := r_isStreet hN.1 hr2 (nI st)
          rw [pu_q1 hd] at f2
          have f4 := r_isPlace sd pc N
          rw [pu_q1 hp] at f4
          have f6 := r_isDay y N
          rw [pu_q1 hy] at f6
          have f7 := r_near_l hN.1 hr2 hw st sd pc y hy (cD (pu_si M 5)) 0 (-1, 0) none none none (by omega)
          have gd := pz_gd_n (c := pu_in (pu_si M 5) st y) (key := pu_ky (pu_si M 5) sd pc) (2 * cD (pu_si M 5)) 0 (-1, 0) (by omega) (Or.inl ⟨rfl, fun i hi => by omega⟩)
          rw [Nat.zero_add] at gd
          rw [Nat.mul_zero] at f7
          have fin : (pz_mn (pu_in (pu_si M 5) st y) (pu_ky (pu_si M 5) sd pc) (2 * cD (pu_si M 5)) 0 (-1, 0)).1 = r := by
            have mem : ∀ a, a < n → pu_in (pu_si M 5) st y (pu_sl0 (pu_si M 5) (V a)) := fun a ha => by
              have := n6.1 a ha
              have z := this.2.2
              unfold pu_tn at z
              rw [if_neg y1] at z
              exact ⟨V a, this.1, rfl, this.2.1, z⟩
            have mem2 : ∀ j, pu_in (pu_si M 5) st y j → ∃ a, a < n ∧ pu_sl0 (pu_si M 5) (V a) = j := fun j ⟨k, k1, k2, k3, k4⟩ => by
              obtain ⟨a, a1, a2⟩ := n6.2.1 k k1 ⟨by rw [k2]; exact k3, by
                unfold pu_tn
                rw [if_neg y1]
                exact k4⟩
              exact ⟨a, a1, by rw [a2, k2]⟩
            rcases r2 with ⟨r3, r4⟩ | ⟨a, a1, a2, a3⟩
            · rcases gd with ⟨g1, _⟩ | ⟨i, i1, i2, i3, i4⟩
              · rw [g1, r3]
              · obtain ⟨a, a1, _⟩ := mem2 i i2
                omega
            · rcases gd with ⟨_, g2⟩ | ⟨i, i1, i2, i3, i4⟩
              · have := pu_sl_lt hw (hV a a1).1
                exact absurd (mem a a1) (g2 _ (by omega))
              · obtain ⟨b, b1, b2⟩ := mem2 i i2
                have pa := pz_pl hw (hV a a1).1 q1 (hV a a1).2
                have pb := pz_pl hw (hV b b1).1 q1 (hV b b1).2
                have ka := pz_ky (I := pu_si M 5) sd pc (pu_sl0 (pu_si M 5) (V a)) pa.2.2.1 pa.2.2.2 (by omega) (by omega)
                have kb := pz_ky (I := pu_si M 5) sd pc (pu_sl0 (pu_si M 5) (V b)) pb.2.2.1 pb.2.2.2 (by omega) (by omega)
                have sl := pu_sl_lt hw (hV a a1).1
                have l1 := i4 _ (by omega) (mem a a1)
                rw [← b2] at l1
                have l2 := Int32.le_iff_toInt_le.mp (Int32.not_lt.mp l1)
                rw [ka, kb] at l2
                have l3 := a3 b b1
                have inj := pz_k3 _ _ _ _ _ _ (Int.le_antisymm l3 l2) ⟨pa.1, pa.2.1⟩ ⟨pb.1, pb.2.1⟩ (pz_sb hp.1)
                have ab : V a = V b := wx_u3 hw q _ _ q1 (hV a a1).1 (hV b b1).1 (hV a a1).2 (hV b b1).2 (by rw [(n6.1 a a1).2.1, (n6.1 b b1).2.1]) (Int32.toInt_inj.mp inj.1) (Int32.toInt_inj.mp inj.2)
                rw [i3, a2, ← b2, ab]
          rw [fin] at f7
          have f7 : pu_r 519 [some (.ref 71), some (.int (nI st)), some (.int sd), some (.int pc), some (.int y), some (.int (-1)), some (.int 0), some (.int 0), none, none, none] [] N = some (some (.int r), N) := f7
          rw [qX12_near]
          simp [a_ent, bX12_near_0, bX12_near_24, bX12_near_26, a_ald, a_cs, a_cv, a_ifeq, a_ifne, a_ild, a_iret, a_ist, a_push, sh_71, pu_rv, pu_as, Value.category, pu_bk, pu_kl, List.replicate, pu_wi_1, pu_wi_2, nl_add, nl_ladd, nl_aa, nl_mul, nl_rmul, nl_mm, pu_qe0, pu_qe1, f2, f4, f6, f7]
          all_goals try simp (maxSteps := 400000) (disch := omega) [nl_tle, nl_fle, nl_tlt, nl_flt, nl_teq, nl_feq, nl_sub, nl_ss, nl_lt, nl_llt, nl_ltt, nl_le, nl_lle, nl_lee, nl_eq, nl_leq, nl_ee, nl_div, nl_rem, nl_cl, nl_n1, nl_n2, nl_n3, nl_n4, nl_add, nl_ladd, nl_aa, nl_mul, nl_rmul, nl_mm, pu_wi_1, pu_wi_2, bX12_near_0, bX12_near_24, bX12_near_26, a_ald, a_cs, a_cv, a_ifeq, a_ifne, a_ild, a_iret, a_ist, a_push, sh_71, pu_rv, pu_as, Value.category, pu_bk, pu_kl, pu_qe0, pu_qe1, f2, f4, f6, f7]
          all_goals try simp [bX12_near_0, bX12_near_24, bX12_near_26, a_ald, a_cs, a_cv, a_ifeq, a_ifne, a_ild, a_iret, a_ist, a_push, sh_71, pu_rv, pu_as, Value.category, pu_bk, pu_kl, List.replicate, pu_wi_1, pu_wi_2, nl_add, nl_ladd, nl_aa, nl_mul, nl_rmul, nl_mm, pu_qe0, pu_qe1, f2, f4, f6, f7]
          all_goals try simp (maxSteps := 400000) (disch := omega) [nl_tle, nl_fle, nl_tlt, nl_flt, nl_teq, nl_feq, nl_sub, nl_ss, nl_lt, nl_llt, nl_ltt, nl_le, nl_lle, nl_lee, nl_eq, nl_leq, nl_ee, nl_div, nl_rem, nl_cl, nl_n1, nl_n2, nl_n3, nl_n4, nl_add, nl_ladd, nl_aa, nl_mul, nl_rmul, nl_mm, pu_wi_1, pu_wi_2, bX12_near_0, bX12_near_24, bX12_near_26, a_ald, a_cs, a_cv, a_ifeq, a_ifne, a_ild, a_iret, a_ist, a_push, sh_71, pu_rv, pu_as, Value.category, pu_bk, pu_kl, pu_qe0, pu_qe1, f2, f4, f6, f7]
      · rw [pu_q0 hy] at e5 e6
        refine ⟨-1, M, M, ?_, ?_, h⟩
        · rw [qX11_near]
          simp [a_ent, bX11_near_0, bX11_near_30, bX11_near_32, a_ald, a_cs, a_cv, a_gr, a_ifeq, a_ifne, a_ild, a_iret, a_ist, a_push, ag_25 hI, fx_0_2 hx, fx_0_5 hx, fx_5_3 hx, sh_0, sh_25, sh_5, sh_62, pu_rv, pu_as, Value.category, pu_bk, pu_kl, List.replicate, pu_wi_1, pu_wi_2, nl_add, nl_ladd, nl_aa, nl_mul, nl_rmul, nl_mm, pu_qe0, pu_qe1, e1, e3, e5]
          all_goals try simp (maxSteps := 400000) (disch := omega) [nl_tle, nl_fle, nl_tlt, nl_flt, nl_teq, nl_feq, nl_sub, nl_ss, nl_lt, nl_llt, nl_ltt, nl_le, nl_lle, nl_lee, nl_eq, nl_leq, nl_ee, nl_div, nl_rem, nl_cl, nl_n1, nl_n2, nl_n3, nl_n4, nl_add, nl_ladd, nl_aa, nl_mul, nl_rmul, nl_mm, pu_wi_1, pu_wi_2, bX11_near_0, bX11_near_30, bX11_near_32, a_ald, a_cs, a_cv, a_gr, a_ifeq, a_ifne, a_ild, a_iret, a_ist, a_push, ag_25 hI, fx_0_2 hx, fx_0_5 hx, fx_5_3 hx, sh_0, sh_25, sh_5, sh_62, pu_rv, pu_as, Value.category, pu_bk, pu_kl, pu_qe0, pu_qe1, e1, e3, e5]
          all_goals try simp [bX11_near_0, bX11_near_30, bX11_near_32, a_ald, a_cs, a_cv, a_gr, a_ifeq, a_ifne, a_ild, a_iret, a_ist, a_push, ag_25 hI, fx_0_2 hx, fx_0_5 hx, fx_5_3 hx, sh_0, sh_25, sh_5, sh_62, pu_rv, pu_as, Value.category, pu_bk, pu_kl, List.replicate, pu_wi_1, pu_wi_2, nl_add, nl_ladd, nl_aa, nl_mul, nl_rmul, nl_mm, pu_qe0, pu_qe1, e1, e3, e5]
          all_goals try simp (maxSteps := 400000) (disch := omega) [nl_tle, nl_fle, nl_tlt, nl_flt, nl_teq, nl_feq, nl_sub, nl_ss, nl_lt, nl_llt, nl_ltt, nl_le, nl_lle, nl_lee, nl_eq, nl_leq, nl_ee, nl_div, nl_rem, nl_cl, nl_n1, nl_n2, nl_n3, nl_n4, nl_add, nl_ladd, nl_aa, nl_mul, nl_rmul, nl_mm, pu_wi_1, pu_wi_2, bX11_near_0, bX11_near_30, bX11_near_32, a_ald, a_cs, a_cv, a_gr, a_ifeq, a_ifne, a_ild, a_iret, a_ist, a_push, ag_25 hI, fx_0_2 hx, fx_0_5 hx, fx_5_3 hx, sh_0, sh_25, sh_5, sh_62, pu_rv, pu_as, Value.category, pu_bk, pu_kl, pu_qe0, pu_qe1, e1, e3, e5]
        · rw [qX12_near]
          simp [a_ent, bX12_near_0, bX12_near_24, bX12_near_26, a_ald, a_cs, a_cv, a_ifeq, a_ifne, a_ild, a_iret, a_ist, a_push, sh_71, pu_rv, pu_as, Value.category, pu_bk, pu_kl, List.replicate, pu_wi_1, pu_wi_2, nl_add, nl_ladd, nl_aa, nl_mul, nl_rmul, nl_mm, pu_qe0, pu_qe1, e2, e4, e6]
          all_goals try simp (maxSteps := 400000) (disch := omega) [nl_tle, nl_fle, nl_tlt, nl_flt, nl_teq, nl_feq, nl_sub, nl_ss, nl_lt, nl_llt, nl_ltt, nl_le, nl_lle, nl_lee, nl_eq, nl_leq, nl_ee, nl_div, nl_rem, nl_cl, nl_n1, nl_n2, nl_n3, nl_n4, nl_add, nl_ladd, nl_aa, nl_mul, nl_rmul, nl_mm, pu_wi_1, pu_wi_2, bX12_near_0, bX12_near_24, bX12_near_26, a_ald, a_cs, a_cv, a_ifeq, a_ifne, a_ild, a_iret, a_ist, a_push, sh_71, pu_rv, pu_as, Value.category, pu_bk, pu_kl, pu_qe0, pu_qe1, e2, e4, e6]
          all_goals try simp [bX12_near_0, bX12_near_24, bX12_near_26, a_ald, a_cs, a_cv, a_ifeq, a_ifne, a_ild, a_iret, a_ist, a_push, sh_71, pu_rv, pu_as, Value.category, pu_bk, pu_kl, List.replicate, pu_wi_1, pu_wi_2, nl_add, nl_ladd, nl_aa, nl_mul, nl_rmul, nl_mm, pu_qe0, pu_qe1, e2, e4, e6]
          all_goals try simp (maxSteps := 400000) (disch := omega) [nl_tle, nl_fle, nl_tlt, nl_flt, nl_teq, nl_feq, nl_sub, nl_ss, nl_lt, nl_llt, nl_ltt, nl_le, nl_lle, nl_lee, nl_eq, nl_leq, nl_ee, nl_div, nl_rem, nl_cl, nl_n1, nl_n2, nl_n3, nl_n4, nl_add, nl_ladd, nl_aa, nl_mul, nl_rmul, nl_mm, pu_wi_1, pu_wi_2, bX12_near_0, bX12_near_24, bX12_near_26, a_ald, a_cs, a_cv, a_ifeq, a_ifne, a_ild, a_iret, a_ist, a_push, sh_71, pu_rv, pu_as, Value.category, pu_bk, pu_kl, pu_qe0, pu_qe1, e2, e4, e6]
    · rw [pu_q0 hp] at e3 e4
      refine ⟨-1, M, M, ?_, ?_, h⟩
      · rw [qX11_near]
        simp [a_ent, bX11_near_0, bX11_near_30, bX11_near_32, a_ald, a_cs, a_cv, a_gr, a_ifeq, a_ifne, a_ild, a_iret, a_ist, a_push, ag_25 hI, fx_0_2 hx, fx_0_5 hx, fx_5_3 hx, sh_0, sh_25, sh_5, sh_62, pu_rv, pu_as, Value.category, pu_bk, pu_kl, List.replicate, pu_wi_1, pu_wi_2, nl_add, nl_ladd, nl_aa, nl_mul, nl_rmul, nl_mm, pu_qe0, pu_qe1, e1, e3]
        all_goals try simp (maxSteps := 400000) (disch := omega) [nl_tle, nl_fle, nl_tlt, nl_flt, nl_teq, nl_feq, nl_sub, nl_ss, nl_lt, nl_llt, nl_ltt, nl_le, nl_lle, nl_lee, nl_eq, nl_leq, nl_ee, nl_div, nl_rem, nl_cl, nl_n1, nl_n2, nl_n3, nl_n4, nl_add, nl_ladd, nl_aa, nl_mul, nl_rmul, nl_mm, pu_wi_1, pu_wi_2, bX11_near_0, bX11_near_30, bX11_near_32, a_ald, a_cs, a_cv, a_gr, a_ifeq, a_ifne, a_ild, a_iret, a_ist, a_push, ag_25 hI, fx_0_2 hx, fx_0_5 hx, fx_5_3 hx, sh_0, sh_25, sh_5, sh_62, pu_rv, pu_as, Value.category, pu_bk, pu_kl, pu_qe0, pu_qe1, e1, e3]
        all_goals try simp [bX11_near_0, bX11_near_30, bX11_near_32, a_ald, a_cs, a_cv, a_gr, a_ifeq, a_ifne, a_ild, a_iret, a_ist, a_push, ag_25 hI, fx_0_2 hx, fx_0_5 hx, fx_5_3 hx, sh_0, sh_25, sh_5, sh_62, pu_rv, pu_as, Value.category, pu_bk, pu_kl, List.replicate, pu_wi_1, pu_wi_2, nl_add, nl_ladd, nl_aa, nl_mul, nl_rmul, nl_mm, pu_qe0, pu_qe1, e1, e3]
        all_goals try simp (maxSteps := 400000) (disch := omega) [nl_tle, nl_fle, nl_tlt, nl_flt, nl_teq, nl_feq, nl_sub, nl_ss, nl_lt, nl_llt, nl_ltt, nl_le, nl_lle, nl_lee, nl_eq, nl_leq, nl_ee, nl_div, nl_rem, nl_cl, nl_n1, nl_n2, nl_n3, nl_n4, nl_add, nl_ladd, nl_aa, nl_mul, nl_rmul, nl_mm, pu_wi_1, pu_wi_2, bX11_near_0, bX11_near_30, bX11_near_32, a_ald, a_cs, a_cv, a_gr, a_ifeq, a_ifne, a_ild, a_iret, a_ist, a_push, ag_25 hI, fx_0_2 hx, fx_0_5 hx, fx_5_3 hx, sh_0, sh_25, sh_5, sh_62, pu_rv, pu_as, Value.category, pu_bk, pu_kl, pu_qe0, pu_qe1, e1, e3]
      · rw [qX12_near]
        simp [a_ent, bX12_near_0, bX12_near_24, bX12_near_26, a_ald, a_cs, a_cv, a_ifeq, a_ifne, a_ild, a_iret, a_ist, a_push, sh_71, pu_rv, pu_as, Value.category, pu_bk, pu_kl, List.replicate, pu_wi_1, pu_wi_2, nl_add, nl_ladd, nl_aa, nl_mul, nl_rmul, nl_mm, pu_qe0, pu_qe1, e2, e4]
        all_goals try simp (maxSteps := 400000) (disch := omega) [nl_tle, nl_fle, nl_tlt, nl_flt, nl_teq, nl_feq, nl_sub, nl_ss, nl_lt, nl_llt, nl_ltt, nl_le, nl_lle, nl_lee, nl_eq, nl_leq, nl_ee, nl_div, nl_rem, nl_cl, nl_n1, nl_n2, nl_n3, nl_n4, nl_add, nl_ladd, nl_aa, nl_mul, nl_rmul, nl_mm, pu_wi_1, pu_wi_2, bX12_near_0, bX12_near_24, bX12_near_26, a_ald, a_cs, a_cv, a_ifeq, a_ifne, a_ild, a_iret, a_ist, a_push, sh_71, pu_rv, pu_as, Value.category, pu_bk, pu_kl, pu_qe0, pu_qe1, e2, e4]
        all_goals try simp [bX12_near_0, bX12_near_24, bX12_near_26, a_ald, a_cs, a_cv, a_ifeq, a_ifne, a_ild, a_iret, a_ist, a_push, sh_71, pu_rv, pu_as, Value.category, pu_bk, pu_kl, List.replicate, pu_wi_1, pu_wi_2, nl_add, nl_ladd, nl_aa, nl_mul, nl_rmul, nl_mm, pu_qe0, pu_qe1, e2, e4]
        all_goals try simp (maxSteps := 400000) (disch := omega) [nl_tle, nl_fle, nl_tlt, nl_flt, nl_teq, nl_feq, nl_sub, nl_ss, nl_lt, nl_llt, nl_ltt, nl_le, nl_lle, nl_lee, nl_eq, nl_leq, nl_ee, nl_div, nl_rem, nl_cl, nl_n1, nl_n2, nl_n3, nl_n4, nl_add, nl_ladd, nl_aa, nl_mul, nl_rmul, nl_mm, pu_wi_1, pu_wi_2, bX12_near_0, bX12_near_24, bX12_near_26, a_ald, a_cs, a_cv, a_ifeq, a_ifne, a_ild, a_iret, a_ist, a_push, sh_71, pu_rv, pu_as, Value.category, pu_bk, pu_kl, pu_qe0, pu_qe1, e2, e4]
  · rw [pu_q0 hd] at e1 e2
    refine ⟨-1, M, M, ?_, ?_, h⟩
    · rw [qX11_near]
      simp [a_ent, bX11_near_0, bX11_near_30, bX11_near_32, a_ald, a_cs, a_cv, a_gr, a_ifeq, a_ifne, a_ild, a_iret, a_ist, a_push, ag_25 hI, fx_0_2 hx, fx_0_5 hx, fx_5_3 hx, sh_0, sh_25, sh_5, sh_62, pu_rv, pu_as, Value.category, pu_bk, pu_kl, List.replicate, pu_wi_1, pu_wi_2, nl_add, nl_ladd, nl_aa, nl_mul, nl_rmul, nl_mm, pu_qe0, pu_qe1, e1]
      all_goals try simp (maxSteps := 400000) (disch := omega) [nl_tle, nl_fle, nl_tlt, nl_flt, nl_teq, nl_feq, nl_sub, nl_ss, nl_lt, nl_llt, nl_ltt, nl_le, nl_lle, nl_lee, nl_eq, nl_leq, nl_ee, nl_div, nl_rem, nl_cl, nl_n1, nl_n2, nl_n3, nl_n4, nl_add, nl_ladd, nl_aa, nl_mul, nl_rmul, nl_mm, pu_wi_1, pu_wi_2, bX11_near_0, bX11_near_30, bX11_near_32, a_ald, a_cs, a_cv, a_gr, a_ifeq, a_ifne, a_ild, a_iret, a_ist, a_push, ag_25 hI, fx_0_2 hx, fx_0_5 hx, fx_5_3 hx, sh_0, sh_25, sh_5, sh_62, pu_rv, pu_as, Value.category, pu_bk, pu_kl, pu_qe0, pu_qe1, e1]
      all_goals try simp [bX11_near_0, bX11_near_30, bX11_near_32, a_ald, a_cs, a_cv, a_gr, a_ifeq, a_ifne, a_ild, a_iret, a_ist, a_push, ag_25 hI, fx_0_2 hx, fx_0_5 hx, fx_5_3 hx, sh_0, sh_25, sh_5, sh_62, pu_rv, pu_as, Value.category, pu_bk, pu_kl, List.replicate, pu_wi_1, pu_wi_2, nl_add, nl_ladd, nl_aa, nl_mul, nl_rmul, nl_mm, pu_qe0, pu_qe1, e1]
      all_goals try simp (maxSteps := 400000) (disch := omega) [nl_tle, nl_fle, nl_tlt, nl_flt, nl_teq, nl_feq, nl_sub, nl_ss, nl_lt, nl_llt, nl_ltt, nl_le, nl_lle, nl_lee, nl_eq, nl_leq, nl_ee, nl_div, nl_rem, nl_cl, nl_n1, nl_n2, nl_n3, nl_n4, nl_add, nl_ladd, nl_aa, nl_mul, nl_rmul, nl_mm, pu_wi_1, pu_wi_2, bX11_near_0, bX11_near_30, bX11_near_32, a_ald, a_cs, a_cv, a_gr, a_ifeq, a_ifne, a_ild, a_iret, a_ist, a_push, ag_25 hI, fx_0_2 hx, fx_0_5 hx, fx_5_3 hx, sh_0, sh_25, sh_5, sh_62, pu_rv, pu_as, Value.category, pu_bk, pu_kl, pu_qe0, pu_qe1, e1]
    · rw [qX12_near]
      simp [a_ent, bX12_near_0, bX12_near_24, bX12_near_26, a_ald, a_cs, a_cv, a_ifeq, a_ifne, a_ild, a_iret, a_ist, a_push, sh_71, pu_rv, pu_as, Value.category, pu_bk, pu_kl, List.replicate, pu_wi_1, pu_wi_2, nl_add, nl_ladd, nl_aa, nl_mul, nl_rmul, nl_mm, pu_qe0, pu_qe1, e2]
      all_goals try simp (maxSteps := 400000) (disch := omega) [nl_tle, nl_fle, nl_tlt, nl_flt, nl_teq, nl_feq, nl_sub, nl_ss, nl_lt, nl_llt, nl_ltt, nl_le, nl_lle, nl_lee, nl_eq, nl_leq, nl_ee, nl_div, nl_rem, nl_cl, nl_n1, nl_n2, nl_n3, nl_n4, nl_add, nl_ladd, nl_aa, nl_mul, nl_rmul, nl_mm, pu_wi_1, pu_wi_2, bX12_near_0, bX12_near_24, bX12_near_26, a_ald, a_cs, a_cv, a_ifeq, a_ifne, a_ild, a_iret, a_ist, a_push, sh_71, pu_rv, pu_as, Value.category, pu_bk, pu_kl, pu_qe0, pu_qe1, e2]
      all_goals try simp [bX12_near_0, bX12_near_24, bX12_near_26, a_ald, a_cs, a_cv, a_ifeq, a_ifne, a_ild, a_iret, a_ist, a_push, sh_71, pu_rv, pu_as, Value.category, pu_bk, pu_kl, List.replicate, pu_wi_1, pu_wi_2, nl_add, nl_ladd, nl_aa, nl_mul, nl_rmul, nl_mm, pu_qe0, pu_qe1, e2]
      all_goals try simp (maxSteps := 400000) (disch := omega) [nl_tle, nl_fle, nl_tlt, nl_flt, nl_teq, nl_feq, nl_sub, nl_ss, nl_lt, nl_llt, nl_ltt, nl_le, nl_lle, nl_lee, nl_eq, nl_leq, nl_ee, nl_div, nl_rem, nl_cl, nl_n1, nl_n2, nl_n3, nl_n4, nl_add, nl_ladd, nl_aa, nl_mul, nl_rmul, nl_mm, pu_wi_1, pu_wi_2, bX12_near_0, bX12_near_24, bX12_near_26, a_ald, a_cs, a_cv, a_ifeq, a_ifne, a_ild, a_iret, a_ist, a_push, sh_71, pu_rv, pu_as, Value.category, pu_bk, pu_kl, pu_qe0, pu_qe1, e2]
