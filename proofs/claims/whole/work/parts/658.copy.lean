/-! copies of an office's parts -/
theorem pz_cpp {M : pu_M} {u v n : Nat} (hn : n ≤ 200) (hd : u + 7 < v ∨ v + 7 < u) (h2 : M.1 v 2 = nI n) (su : pu_sh u = (0, 6)) (sv : pu_sh v = (0, 6)) (tu : ∀ k, 1 ≤ k → k ≤ 7 → pu_sh (u + k) = (1, 200)) (tv : ∀ k, 1 ≤ k → k ≤ 7 → pu_sh (v + k) = (1, 200)) (ru : ∀ k, 1 ≤ k → k ≤ 7 → M.2.2.1 u (k + 2) = some (u + k)) (rv : ∀ k, 1 ≤ k → k ≤ 7 → M.2.2.1 v (k + 2) = some (v + k)) : pu_r 134 [some (.ref u), some (.ref v)] [] M = some (none, pu_ci (pu_ci (pu_ci (pu_ci (pu_ci (pu_ci (pu_ci (pu_wi (pu_wi (pu_wi M u 0 (M.1 v 0)) u 1 (M.1 v 1)) u 2 (nI n)) (v + 1) 0 (u + 1) 0 n) (v + 2) 0 (u + 2) 0 n) (v + 3) 0 (u + 3) 0 n) (v + 4) 0 (u + 4) 0 n) (v + 5) 0 (u + 5) 0 n) (v + 6) 0 (u + 6) 0 n) (v + 7) 0 (u + 7) 0 n) := by
  have u1 := ru 1 (by omega) (by omega)
  have u2 := ru 2 (by omega) (by omega)
  have u3 := ru 3 (by omega) (by omega)
  have u4 := ru 4 (by omega) (by omega)
  have u5 := ru 5 (by omega) (by omega)
  have u6 := ru 6 (by omega) (by omega)
  have u7 := ru 7 (by omega) (by omega)
  have v1 := rv 1 (by omega) (by omega)
  have v2 := rv 2 (by omega) (by omega)
  have v3 := rv 3 (by omega) (by omega)
  have v4 := rv 4 (by omega) (by omega)
  have v5 := rv 5 (by omega) (by omega)
  have v6 := rv 6 (by omega) (by omega)
  have v7 := rv 7 (by omega) (by omega)
  have a1 := tu 1 (by omega) (by omega)
  have a2 := tu 2 (by omega) (by omega)
  have a3 := tu 3 (by omega) (by omega)
  have a4 := tu 4 (by omega) (by omega)
  have a5 := tu 5 (by omega) (by omega)
  have a6 := tu 6 (by omega) (by omega)
  have a7 := tu 7 (by omega) (by omega)
  have b1 := tv 1 (by omega) (by omega)
  have b2 := tv 2 (by omega) (by omega)
  have b3 := tv 3 (by omega) (by omega)
  have b4 := tv 4 (by omega) (by omega)
  have b5 := tv 5 (by omega) (by omega)
  have b6 := tv 6 (by omega) (by omega)
  have b7 := tv 7 (by omega) (by omega)
  have d0 : ¬ v = u := by omega
  have p0 : ¬ nI n < 0 := nI_pos (by omega)
  have p1 := nI_clamp (n := n) (by omega)
  rw [qX6_copyFrom]
  simp [a_ent, bX6_copyFrom_0, bX6_copyFrom_46, bX6_copyFrom_92, bX6_copyFrom_136, a_ald, a_cp1, a_gi, a_gr, a_pi, a_push, a_vret, sh_10, sh_11, sh_12, sh_13, sh_6, sh_7, sh_8, sh_9, pu_rv, pu_as, Value.category, pu_bk, pu_kl, List.replicate, pu_wi_1, pu_wi_2, nl_add, nl_ladd, nl_aa, nl_mul, nl_rmul, nl_mm, pu_qe0, pu_qe1, h2, su, sv, u1, u2, u3, u4, u5, u6, u7, v1, v2, v3, v4, v5, v6, v7, a1, a2, a3, a4, a5, a6, a7, b1, b2, b3, b4, b5, b6, b7, d0, p0, p1, hn, pu_ci_1, pu_ci_2]
  all_goals try simp (maxSteps := 400000) (disch := omega) [nl_tle, nl_fle, nl_tlt, nl_flt, nl_teq, nl_feq, nl_sub, nl_ss, nl_lt, nl_llt, nl_ltt, nl_le, nl_lle, nl_lee, nl_eq, nl_leq, nl_ee, nl_div, nl_rem, nl_cl, nl_n1, nl_n2, nl_n3, nl_n4, nl_add, nl_ladd, nl_aa, nl_mul, nl_rmul, nl_mm, pu_wi_1, pu_wi_2, bX6_copyFrom_0, bX6_copyFrom_46, bX6_copyFrom_92, bX6_copyFrom_136, a_ald, a_cp1, a_gi, a_gr, a_pi, a_push, a_vret, sh_10, sh_11, sh_12, sh_13, sh_6, sh_7, sh_8, sh_9, pu_rv, pu_as, Value.category, pu_bk, pu_kl, pu_qe0, pu_qe1, h2, su, sv, u1, u2, u3, u4, u5, u6, u7, v1, v2, v3, v4, v5, v6, v7, a1, a2, a3, a4, a5, a6, a7, b1, b2, b3, b4, b5, b6, b7, d0, p0, p1, hn, pu_ci_1, pu_ci_2]
  all_goals try simp [bX6_copyFrom_0, bX6_copyFrom_46, bX6_copyFrom_92, bX6_copyFrom_136, a_ald, a_cp1, a_gi, a_gr, a_pi, a_push, a_vret, sh_10, sh_11, sh_12, sh_13, sh_6, sh_7, sh_8, sh_9, pu_rv, pu_as, Value.category, pu_bk, pu_kl, List.replicate, pu_wi_1, pu_wi_2, nl_add, nl_ladd, nl_aa, nl_mul, nl_rmul, nl_mm, pu_qe0, pu_qe1, h2, su, sv, u1, u2, u3, u4, u5, u6, u7, v1, v2, v3, v4, v5, v6, v7, a1, a2, a3, a4, a5, a6, a7, b1, b2, b3, b4, b5, b6, b7, d0, p0, p1, hn, pu_ci_1, pu_ci_2]
  all_goals try simp (maxSteps := 400000) (disch := omega) [nl_tle, nl_fle, nl_tlt, nl_flt, nl_teq, nl_feq, nl_sub, nl_ss, nl_lt, nl_llt, nl_ltt, nl_le, nl_lle, nl_lee, nl_eq, nl_leq, nl_ee, nl_div, nl_rem, nl_cl, nl_n1, nl_n2, nl_n3, nl_n4, nl_add, nl_ladd, nl_aa, nl_mul, nl_rmul, nl_mm, pu_wi_1, pu_wi_2, bX6_copyFrom_0, bX6_copyFrom_46, bX6_copyFrom_92, bX6_copyFrom_136, a_ald, a_cp1, a_gi, a_gr, a_pi, a_push, a_vret, sh_10, sh_11, sh_12, sh_13, sh_6, sh_7, sh_8, sh_9, pu_rv, pu_as, Value.category, pu_bk, pu_kl, pu_qe0, pu_qe1, h2, su, sv, u1, u2, u3, u4, u5, u6, u7, v1, v2, v3, v4, v5, v6, v7, a1, a2, a3, a4, a5, a6, a7, b1, b2, b3, b4, b5, b6, b7, d0, p0, p1, hn, pu_ci_1, pu_ci_2]
