/-! candidates, and the least of them -/
/-- v may be the number -/
def pz_cd (I : Nat → Nat → Int32) (st s p lo hi v : Nat) : Prop := lo < v ∧ v < hi ∧ pz_mb (I 27 st).toNatClampNeg s p (v / 16) ∧ ¬ pz_us I st (nI v) 0
/-- a number of letter c and digits n -/
def pz_cn (I : Nat → Nat → Int32) (st s p lo hi c n : Nat) : Prop := c ≤ 9 ∧ 1 ≤ n ∧ n ≤ 9999 ∧ pz_cd I st s p lo hi (16 * n + c)
/-- the first by letter, then by digits; -1 for none -/
def pz_fr (C : Nat → Nat → Prop) (r : Int32) : Prop := (r = -1 ∧ ∀ c n, ¬ C c n) ∨ ∃ c n, C c n ∧ r = nI (16 * n + c) ∧ ∀ c2 n2, C c2 n2 → c < c2 ∨ (c = c2 ∧ n ≤ n2)
theorem pz_fr_un {C : Nat → Nat → Prop} {r r2 : Int32} (h1 : pz_fr C r) (h2 : pz_fr C r2) : r = r2 := by
  rcases h1 with ⟨a1, a2⟩ | ⟨c, n, a1, a2, a3⟩
  · rcases h2 with ⟨b1, b2⟩ | ⟨d, m, b1, b2, b3⟩
    · rw [a1, b1]
    · exact absurd b1 (a2 d m)
  · rcases h2 with ⟨b1, b2⟩ | ⟨d, m, b1, b2, b3⟩
    · exact absurd a1 (b2 c n)
    · have x := a3 d m b1
      have y := b3 c n a1
      have e1 : c = d := by omega
      have e2 : n = m := by omega
      rw [a2, b2, e1, e2]
section
variable {M : pu_M} {I : Nat → Nat → Int32} {L : Nat → Nat → Int64}
theorem pz_rule (hw : pu_WF I L) {st : Nat} (hst : st < cK I) : I 27 st = nI (I 27 st).toNatClampNeg ∧ (I 27 st).toNatClampNeg < 4 := by
  have := wx_kr hw st hst
  exact pu_on (n := 4) ⟨this.1, by omega⟩
theorem r_isCandidate (hx : pu_fx M) (hr : pu_Rel I L (M.1 72)) (hw : pu_WF I L) (st s p lo hi v : Nat) (hst : st < cK I) (hs : s < 2) (hp : p < 10000) (h1 : M.1 71 10 = nI lo) (h2 : M.1 71 11 = nI hi) (hlo : lo < 200000) (hhi : hi < 200000) (hv : v < 200000) : pu_r 280 [some (.ref 71), some (.int (nI st)), some (.int (nI s)), some (.int (nI p)), some (.int (nI v))] [] M = some (some (.int (pu_q (pz_cd I st s p lo hi v))), M) := by
  have hK := wx_bK hw
  have e1 := r_mayBe (I 27 st).toNatClampNeg s p (v / 16) (pz_rule hw hst).2 hs hp (by omega) M
  rw [← (pz_rule hw hst).1] at e1
  have e2 := r_isUsed hx hr hw st (nI v)
  by_cases a : lo < v
  · have a2 : ¬ nI v ≤ nI lo := nI_ge a (by omega)
    by_cases b : v < hi
    · have b2 : ¬ nI hi ≤ nI v := nI_ge b (by omega)
      by_cases c : pz_mb (I 27 st).toNatClampNeg s p (v / 16)
      · rw [pu_q1 c] at e1
        by_cases d : pz_us I st (nI v) 0
        · rw [pu_q1 d] at e2
          rw [pu_q0 (fun q => q.2.2.2 d)]
          rw [qX12_isCandidate]
          simp [a_ent, bX12_isCandidate_0, bX12_isCandidate_55, bX12_isCandidate_56, bX12_isCandidate_45, a_ai, a_ald, a_cs, a_cv, a_gi, a_gr, a_iadd, a_icge, a_icle, a_idiv, a_ifeq, a_ifne, a_ild, a_push, a_zret, fx_71_0 hx, sh_71, sh_72, pu_rv, pu_as, Value.category, pu_bk, pu_kl, List.replicate, pu_wi_1, pu_wi_2, nl_add, nl_ladd, nl_aa, nl_mul, nl_rmul, nl_mm, pu_qe0, pu_qe1, h1, h2, a2, b2, rl_k0 hr, e1, e2]
          all_goals try simp (maxSteps := 400000) (disch := omega) [nl_tle, nl_fle, nl_tlt, nl_flt, nl_teq, nl_feq, nl_sub, nl_ss, nl_lt, nl_llt, nl_ltt, nl_le, nl_lle, nl_lee, nl_eq, nl_leq, nl_ee, nl_div, nl_rem, nl_cl, nl_n1, nl_n2, nl_n3, nl_n4, nl_add, nl_ladd, nl_aa, nl_mul, nl_rmul, nl_mm, pu_wi_1, pu_wi_2, bX12_isCandidate_0, bX12_isCandidate_55, bX12_isCandidate_56, bX12_isCandidate_45, a_ai, a_ald, a_cs, a_cv, a_gi, a_gr, a_iadd, a_icge, a_icle, a_idiv, a_ifeq, a_ifne, a_ild, a_push, a_zret, fx_71_0 hx, sh_71, sh_72, pu_rv, pu_as, Value.category, pu_bk, pu_kl, pu_qe0, pu_qe1, h1, h2, a2, b2, rl_k0 hr, e1, e2]
          all_goals try simp [bX12_isCandidate_0, bX12_isCandidate_55, bX12_isCandidate_56, bX12_isCandidate_45, a_ai, a_ald, a_cs, a_cv, a_gi, a_gr, a_iadd, a_icge, a_icle, a_idiv, a_ifeq, a_ifne, a_ild, a_push, a_zret, fx_71_0 hx, sh_71, sh_72, pu_rv, pu_as, Value.category, pu_bk, pu_kl, List.replicate, pu_wi_1, pu_wi_2, nl_add, nl_ladd, nl_aa, nl_mul, nl_rmul, nl_mm, pu_qe0, pu_qe1, h1, h2, a2, b2, rl_k0 hr, e1, e2]
          all_goals try simp (maxSteps := 400000) (disch := omega) [nl_tle, nl_fle, nl_tlt, nl_flt, nl_teq, nl_feq, nl_sub, nl_ss, nl_lt, nl_llt, nl_ltt, nl_le, nl_lle, nl_lee, nl_eq, nl_leq, nl_ee, nl_div, nl_rem, nl_cl, nl_n1, nl_n2, nl_n3, nl_n4, nl_add, nl_ladd, nl_aa, nl_mul, nl_rmul, nl_mm, pu_wi_1, pu_wi_2, bX12_isCandidate_0, bX12_isCandidate_55, bX12_isCandidate_56, bX12_isCandidate_45, a_ai, a_ald, a_cs, a_cv, a_gi, a_gr, a_iadd, a_icge, a_icle, a_idiv, a_ifeq, a_ifne, a_ild, a_push, a_zret, fx_71_0 hx, sh_71, sh_72, pu_rv, pu_as, Value.category, pu_bk, pu_kl, pu_qe0, pu_qe1, h1, h2, a2, b2, rl_k0 hr, e1, e2]
        · rw [pu_q0 d] at e2
          rw [pu_q1 ⟨a, b, c, d⟩]
          rw [qX12_isCandidate]
          simp [a_ent, bX12_isCandidate_0, bX12_isCandidate_55, bX12_isCandidate_56, bX12_isCandidate_45, a_ai, a_ald, a_cs, a_cv, a_gi, a_gr, a_iadd, a_icge, a_icle, a_idiv, a_ifeq, a_ifne, a_ild, a_push, a_zret, fx_71_0 hx, sh_71, sh_72, pu_rv, pu_as, Value.category, pu_bk, pu_kl, List.replicate, pu_wi_1, pu_wi_2, nl_add, nl_ladd, nl_aa, nl_mul, nl_rmul, nl_mm, pu_qe0, pu_qe1, h1, h2, a2, b2, rl_k0 hr, e1, e2]
          all_goals try simp (maxSteps := 400000) (disch := omega) [nl_tle, nl_fle, nl_tlt, nl_flt, nl_teq, nl_feq, nl_sub, nl_ss, nl_lt, nl_llt, nl_ltt, nl_le, nl_lle, nl_lee, nl_eq, nl_leq, nl_ee, nl_div, nl_rem, nl_cl, nl_n1, nl_n2, nl_n3, nl_n4, nl_add, nl_ladd, nl_aa, nl_mul, nl_rmul, nl_mm, pu_wi_1, pu_wi_2, bX12_isCandidate_0, bX12_isCandidate_55, bX12_isCandidate_56, bX12_isCandidate_45, a_ai, a_ald, a_cs, a_cv, a_gi, a_gr, a_iadd, a_icge, a_icle, a_idiv, a_ifeq, a_ifne, a_ild, a_push, a_zret, fx_71_0 hx, sh_71, sh_72, pu_rv, pu_as, Value.category, pu_bk, pu_kl, pu_qe0, pu_qe1, h1, h2, a2, b2, rl_k0 hr, e1, e2]
          all_goals try simp [bX12_isCandidate_0, bX12_isCandidate_55, bX12_isCandidate_56, bX12_isCandidate_45, a_ai, a_ald, a_cs, a_cv, a_gi, a_gr, a_iadd, a_icge, a_icle, a_idiv, a_ifeq, a_ifne, a_ild, a_push, a_zret, fx_71_0 hx, sh_71, sh_72, pu_rv, pu_as, Value.category, pu_bk, pu_kl, List.replicate, pu_wi_1, pu_wi_2, nl_add, nl_ladd, nl_aa, nl_mul, nl_rmul, nl_mm, pu_qe0, pu_qe1, h1, h2, a2, b2, rl_k0 hr, e1, e2]
          all_goals try simp (maxSteps := 400000) (disch := omega) [nl_tle, nl_fle, nl_tlt, nl_flt, nl_teq, nl_feq, nl_sub, nl_ss, nl_lt, nl_llt, nl_ltt, nl_le, nl_lle, nl_lee, nl_eq, nl_leq, nl_ee, nl_div, nl_rem, nl_cl, nl_n1, nl_n2, nl_n3, nl_n4, nl_add, nl_ladd, nl_aa, nl_mul, nl_rmul, nl_mm, pu_wi_1, pu_wi_2, bX12_isCandidate_0, bX12_isCandidate_55, bX12_isCandidate_56, bX12_isCandidate_45, a_ai, a_ald, a_cs, a_cv, a_gi, a_gr, a_iadd, a_icge, a_icle, a_idiv, a_ifeq, a_ifne, a_ild, a_push, a_zret, fx_71_0 hx, sh_71, sh_72, pu_rv, pu_as, Value.category, pu_bk, pu_kl, pu_qe0, pu_qe1, h1, h2, a2, b2, rl_k0 hr, e1, e2]
      · rw [pu_q0 c] at e1
        rw [pu_q0 (fun q => c q.2.2.1)]
        rw [qX12_isCandidate]
        simp [a_ent, bX12_isCandidate_0, bX12_isCandidate_55, bX12_isCandidate_56, bX12_isCandidate_45, a_ai, a_ald, a_cs, a_cv, a_gi, a_gr, a_iadd, a_icge, a_icle, a_idiv, a_ifeq, a_ifne, a_ild, a_push, a_zret, fx_71_0 hx, sh_71, sh_72, pu_rv, pu_as, Value.category, pu_bk, pu_kl, List.replicate, pu_wi_1, pu_wi_2, nl_add, nl_ladd, nl_aa, nl_mul, nl_rmul, nl_mm, pu_qe0, pu_qe1, h1, h2, a2, b2, rl_k0 hr, e1]
        all_goals try simp (maxSteps := 400000) (disch := omega) [nl_tle, nl_fle, nl_tlt, nl_flt, nl_teq, nl_feq, nl_sub, nl_ss, nl_lt, nl_llt, nl_ltt, nl_le, nl_lle, nl_lee, nl_eq, nl_leq, nl_ee, nl_div, nl_rem, nl_cl, nl_n1, nl_n2, nl_n3, nl_n4, nl_add, nl_ladd, nl_aa, nl_mul, nl_rmul, nl_mm, pu_wi_1, pu_wi_2, bX12_isCandidate_0, bX12_isCandidate_55, bX12_isCandidate_56, bX12_isCandidate_45, a_ai, a_ald, a_cs, a_cv, a_gi, a_gr, a_iadd, a_icge, a_icle, a_idiv, a_ifeq, a_ifne, a_ild, a_push, a_zret, fx_71_0 hx, sh_71, sh_72, pu_rv, pu_as, Value.category, pu_bk, pu_kl, pu_qe0, pu_qe1, h1, h2, a2, b2, rl_k0 hr, e1]
        all_goals try simp [bX12_isCandidate_0, bX12_isCandidate_55, bX12_isCandidate_56, bX12_isCandidate_45, a_ai, a_ald, a_cs, a_cv, a_gi, a_gr, a_iadd, a_icge, a_icle, a_idiv, a_ifeq, a_ifne, a_ild, a_push, a_zret, fx_71_0 hx, sh_71, sh_72, pu_rv, pu_as, Value.category, pu_bk, pu_kl, List.replicate, pu_wi_1, pu_wi_2, nl_add, nl_ladd, nl_aa, nl_mul, nl_rmul, nl_mm, pu_qe0, pu_qe1, h1, h2, a2, b2, rl_k0 hr, e1]
        all_goals try simp (maxSteps := 400000) (disch := omega) [nl_tle, nl_fle, nl_tlt, nl_flt, nl_teq, nl_feq, nl_sub, nl_ss, nl_lt, nl_llt, nl_ltt, nl_le, nl_lle, nl_lee, nl_eq, nl_leq, nl_ee, nl_div, nl_rem, nl_cl, nl_n1, nl_n2, nl_n3, nl_n4, nl_add, nl_ladd, nl_aa, nl_mul, nl_rmul, nl_mm, pu_wi_1, pu_wi_2, bX12_isCandidate_0, bX12_isCandidate_55, bX12_isCandidate_56, bX12_isCandidate_45, a_ai, a_ald, a_cs, a_cv, a_gi, a_gr, a_iadd, a_icge, a_icle, a_idiv, a_ifeq, a_ifne, a_ild, a_push, a_zret, fx_71_0 hx, sh_71, sh_72, pu_rv, pu_as, Value.category, pu_bk, pu_kl, pu_qe0, pu_qe1, h1, h2, a2, b2, rl_k0 hr, e1]
    · have b2 : nI hi ≤ nI v := nI_le (by omega) (by omega)
      rw [pu_q0 (fun q => b q.2.1)]
      rw [qX12_isCandidate]
      simp [a_ent, bX12_isCandidate_0, bX12_isCandidate_55, bX12_isCandidate_56, bX12_isCandidate_45, a_ai, a_ald, a_cs, a_cv, a_gi, a_gr, a_iadd, a_icge, a_icle, a_idiv, a_ifeq, a_ifne, a_ild, a_push, a_zret, fx_71_0 hx, sh_71, sh_72, pu_rv, pu_as, Value.category, pu_bk, pu_kl, List.replicate, pu_wi_1, pu_wi_2, nl_add, nl_ladd, nl_aa, nl_mul, nl_rmul, nl_mm, pu_qe0, pu_qe1, h1, h2, a2, b2]
      all_goals try simp (maxSteps := 400000) (disch := omega) [nl_tle, nl_fle, nl_tlt, nl_flt, nl_teq, nl_feq, nl_sub, nl_ss, nl_lt, nl_llt, nl_ltt, nl_le, nl_lle, nl_lee, nl_eq, nl_leq, nl_ee, nl_div, nl_rem, nl_cl, nl_n1, nl_n2, nl_n3, nl_n4, nl_add, nl_ladd, nl_aa, nl_mul, nl_rmul, nl_mm, pu_wi_1, pu_wi_2, bX12_isCandidate_0, bX12_isCandidate_55, bX12_isCandidate_56, bX12_isCandidate_45, a_ai, a_ald, a_cs, a_cv, a_gi, a_gr, a_iadd, a_icge, a_icle, a_idiv, a_ifeq, a_ifne, a_ild, a_push, a_zret, fx_71_0 hx, sh_71, sh_72, pu_rv, pu_as, Value.category, pu_bk, pu_kl, pu_qe0, pu_qe1, h1, h2, a2, b2]
      all_goals try simp [bX12_isCandidate_0, bX12_isCandidate_55, bX12_isCandidate_56, bX12_isCandidate_45, a_ai, a_ald, a_cs, a_cv, a_gi, a_gr, a_iadd, a_icge, a_icle, a_idiv, a_ifeq, a_ifne, a_ild, a_push, a_zret, fx_71_0 hx, sh_71, sh_72, pu_rv, pu_as, Value.category, pu_bk, pu_kl, List.replicate, pu_wi_1, pu_wi_2, nl_add, nl_ladd, nl_aa, nl_mul, nl_rmul, nl_mm, pu_qe0, pu_qe1, h1, h2, a2, b2]
      all_goals try simp (maxSteps := 400000) (disch := omega) [nl_tle, nl_fle, nl_tlt, nl_flt, nl_teq, nl_feq, nl_sub, nl_ss, nl_lt, nl_llt, nl_ltt, nl_le, nl_lle, nl_lee, nl_eq, nl_leq, nl_ee, nl_div, nl_rem, nl_cl, nl_n1, nl_n2, nl_n3, nl_n4, nl_add, nl_ladd, nl_aa, nl_mul, nl_rmul, nl_mm, pu_wi_1, pu_wi_2, bX12_isCandidate_0, bX12_isCandidate_55, bX12_isCandidate_56, bX12_isCandidate_45, a_ai, a_ald, a_cs, a_cv, a_gi, a_gr, a_iadd, a_icge, a_icle, a_idiv, a_ifeq, a_ifne, a_ild, a_push, a_zret, fx_71_0 hx, sh_71, sh_72, pu_rv, pu_as, Value.category, pu_bk, pu_kl, pu_qe0, pu_qe1, h1, h2, a2, b2]
  · have a2 : nI v ≤ nI lo := nI_le (by omega) (by omega)
    rw [pu_q0 (fun q => a q.1)]
    rw [qX12_isCandidate]
    simp [a_ent, bX12_isCandidate_0, bX12_isCandidate_55, bX12_isCandidate_56, bX12_isCandidate_45, a_ai, a_ald, a_cs, a_cv, a_gi, a_gr, a_iadd, a_icge, a_icle, a_idiv, a_ifeq, a_ifne, a_ild, a_push, a_zret, fx_71_0 hx, sh_71, sh_72, pu_rv, pu_as, Value.category, pu_bk, pu_kl, List.replicate, pu_wi_1, pu_wi_2, nl_add, nl_ladd, nl_aa, nl_mul, nl_rmul, nl_mm, pu_qe0, pu_qe1, h1, a2]
    all_goals try simp (maxSteps := 400000) (disch := omega) [nl_tle, nl_fle, nl_tlt, nl_flt, nl_teq, nl_feq, nl_sub, nl_ss, nl_lt, nl_llt, nl_ltt, nl_le, nl_lle, nl_lee, nl_eq, nl_leq, nl_ee, nl_div, nl_rem, nl_cl, nl_n1, nl_n2, nl_n3, nl_n4, nl_add, nl_ladd, nl_aa, nl_mul, nl_rmul, nl_mm, pu_wi_1, pu_wi_2, bX12_isCandidate_0, bX12_isCandidate_55, bX12_isCandidate_56, bX12_isCandidate_45, a_ai, a_ald, a_cs, a_cv, a_gi, a_gr, a_iadd, a_icge, a_icle, a_idiv, a_ifeq, a_ifne, a_ild, a_push, a_zret, fx_71_0 hx, sh_71, sh_72, pu_rv, pu_as, Value.category, pu_bk, pu_kl, pu_qe0, pu_qe1, h1, a2]
    all_goals try simp [bX12_isCandidate_0, bX12_isCandidate_55, bX12_isCandidate_56, bX12_isCandidate_45, a_ai, a_ald, a_cs, a_cv, a_gi, a_gr, a_iadd, a_icge, a_icle, a_idiv, a_ifeq, a_ifne, a_ild, a_push, a_zret, fx_71_0 hx, sh_71, sh_72, pu_rv, pu_as, Value.category, pu_bk, pu_kl, List.replicate, pu_wi_1, pu_wi_2, nl_add, nl_ladd, nl_aa, nl_mul, nl_rmul, nl_mm, pu_qe0, pu_qe1, h1, a2]
    all_goals try simp (maxSteps := 400000) (disch := omega) [nl_tle, nl_fle, nl_tlt, nl_flt, nl_teq, nl_feq, nl_sub, nl_ss, nl_lt, nl_llt, nl_ltt, nl_le, nl_lle, nl_lee, nl_eq, nl_leq, nl_ee, nl_div, nl_rem, nl_cl, nl_n1, nl_n2, nl_n3, nl_n4, nl_add, nl_ladd, nl_aa, nl_mul, nl_rmul, nl_mm, pu_wi_1, pu_wi_2, bX12_isCandidate_0, bX12_isCandidate_55, bX12_isCandidate_56, bX12_isCandidate_45, a_ai, a_ald, a_cs, a_cv, a_gi, a_gr, a_iadd, a_icge, a_icle, a_idiv, a_ifeq, a_ifne, a_ild, a_push, a_zret, fx_71_0 hx, sh_71, sh_72, pu_rv, pu_as, Value.category, pu_bk, pu_kl, pu_qe0, pu_qe1, h1, a2]
theorem r_least_i (hx : pu_fx M) (hr : pu_Rel I L (M.1 72)) (hw : pu_WF I L) (st s p lo hi c : Nat) (told : Int32) (hst : st < cK I) (hs : s < 2) (hp : p < 10000) (h1 : M.1 71 10 = nI lo) (h2 : M.1 71 11 = nI hi) (hlo : lo < 200000) (hhi : hi < 200000) (hc : c ≤ 9) : ∀ (m n : Nat), n + m = 10000 → (∃ n2, n ≤ n2 ∧ pz_cn I st s p lo hi c n2 ∧ (∀ n3, n ≤ n3 → pz_cn I st s p lo hi c n3 → n2 ≤ n3) ∧ pu_r 463 [some (.ref 71), some (.int (nI st)), some (.int (nI s)), some (.int (nI p)), some (.int told), some (.int (nI c)), some (.int (nI n))] [] M = some (some (.int (nI (16 * n2 + c))), M)) ∨ ((∀ n3, n ≤ n3 → ¬ pz_cn I st s p lo hi c n3) ∧ ∃ x, pu_r 463 [some (.ref 71), some (.int (nI st)), some (.int (nI s)), some (.int (nI p)), some (.int told), some (.int (nI c)), some (.int (nI n))] [] M = pu_r 462 [some (.ref 71), some (.int (nI st)), some (.int (nI s)), some (.int (nI p)), some (.int told), some (.int (nI (c + 1))), some (.int x)] [] M)
  | 0, n, h => by
    have e : n = 10000 := by omega
    subst e
    refine Or.inr ⟨fun n3 a b => by have := b.2.2.1; omega, nI 10000, ?_⟩
    have q : (9999 : Int32) < nI 10000 := by decide
    rw [qX12_least_50]
    simp [bX12_least_50, bX12_least_112, bX12_least_106, bX12_least_94, a_ald, a_cv, a_gi, a_iadd, a_icge, a_icgt, a_iclt, a_ifeq, a_ild, a_imul, a_inc, a_iret, a_push, sh_71, pu_rv, pu_as, Value.category, pu_bk, pu_kl, List.replicate, pu_wi_1, pu_wi_2, nl_add, nl_ladd, nl_aa, nl_mul, nl_rmul, nl_mm, pu_qe0, pu_qe1, q]
    all_goals try simp (maxSteps := 400000) (disch := omega) [nl_tle, nl_fle, nl_tlt, nl_flt, nl_teq, nl_feq, nl_sub, nl_ss, nl_lt, nl_llt, nl_ltt, nl_le, nl_lle, nl_lee, nl_eq, nl_leq, nl_ee, nl_div, nl_rem, nl_cl, nl_n1, nl_n2, nl_n3, nl_n4, nl_add, nl_ladd, nl_aa, nl_mul, nl_rmul, nl_mm, pu_wi_1, pu_wi_2, bX12_least_50, bX12_least_112, bX12_least_106, bX12_least_94, a_ald, a_cv, a_gi, a_iadd, a_icge, a_icgt, a_iclt, a_ifeq, a_ild, a_imul, a_inc, a_iret, a_push, sh_71, pu_rv, pu_as, Value.category, pu_bk, pu_kl, pu_qe0, pu_qe1, q]
    all_goals try simp [bX12_least_50, bX12_least_112, bX12_least_106, bX12_least_94, a_ald, a_cv, a_gi, a_iadd, a_icge, a_icgt, a_iclt, a_ifeq, a_ild, a_imul, a_inc, a_iret, a_push, sh_71, pu_rv, pu_as, Value.category, pu_bk, pu_kl, List.replicate, pu_wi_1, pu_wi_2, nl_add, nl_ladd, nl_aa, nl_mul, nl_rmul, nl_mm, pu_qe0, pu_qe1, q]
    all_goals try simp (maxSteps := 400000) (disch := omega) [nl_tle, nl_fle, nl_tlt, nl_flt, nl_teq, nl_feq, nl_sub, nl_ss, nl_lt, nl_llt, nl_ltt, nl_le, nl_lle, nl_lee, nl_eq, nl_leq, nl_ee, nl_div, nl_rem, nl_cl, nl_n1, nl_n2, nl_n3, nl_n4, nl_add, nl_ladd, nl_aa, nl_mul, nl_rmul, nl_mm, pu_wi_1, pu_wi_2, bX12_least_50, bX12_least_112, bX12_least_106, bX12_least_94, a_ald, a_cv, a_gi, a_iadd, a_icge, a_icgt, a_iclt, a_ifeq, a_ild, a_imul, a_inc, a_iret, a_push, sh_71, pu_rv, pu_as, Value.category, pu_bk, pu_kl, pu_qe0, pu_qe1, q]
  | m + 1, n, h => by
    have q : ¬ (9999 : Int32) < nI n := fun z => by rw [show (9999 : Int32) = nI 9999 from rfl, nI_ltI (by omega) (by omega)] at z; omega
    by_cases a : 16 * n + c < hi
    · have a2 : ¬ nI hi ≤ nI (16 * n + c) := nI_ge a (by omega)
      have ih := r_least_i hx hr hw st s p lo hi c told hst hs hp h1 h2 hlo hhi hc m (n + 1) (by omega)
      by_cases b : n < 1
      · have e : n = 0 := by omega
        subst e
        have b2 : nI 0 < 1 := by decide
        have st1 : pu_r 463 [some (.ref 71), some (.int (nI st)), some (.int (nI s)), some (.int (nI p)), some (.int told), some (.int (nI c)), some (.int (nI 0))] [] M = pu_r 463 [some (.ref 71), some (.int (nI st)), some (.int (nI s)), some (.int (nI p)), some (.int told), some (.int (nI c)), some (.int (nI (0 + 1)))] [] M := by
          rw [qX12_least_50]
          simp [bX12_least_50, bX12_least_112, bX12_least_106, bX12_least_94, a_ald, a_cv, a_gi, a_iadd, a_icge, a_icgt, a_iclt, a_ifeq, a_ild, a_imul, a_inc, a_iret, a_push, sh_71, pu_rv, pu_as, Value.category, pu_bk, pu_kl, List.replicate, pu_wi_1, pu_wi_2, nl_add, nl_ladd, nl_aa, nl_mul, nl_rmul, nl_mm, pu_qe0, pu_qe1, q, h2, a2, b2]
          all_goals try simp (maxSteps := 400000) (disch := omega) [nl_tle, nl_fle, nl_tlt, nl_flt, nl_teq, nl_feq, nl_sub, nl_ss, nl_lt, nl_llt, nl_ltt, nl_le, nl_lle, nl_lee, nl_eq, nl_leq, nl_ee, nl_div, nl_rem, nl_cl, nl_n1, nl_n2, nl_n3, nl_n4, nl_add, nl_ladd, nl_aa, nl_mul, nl_rmul, nl_mm, pu_wi_1, pu_wi_2, bX12_least_50, bX12_least_112, bX12_least_106, bX12_least_94, a_ald, a_cv, a_gi, a_iadd, a_icge, a_icgt, a_iclt, a_ifeq, a_ild, a_imul, a_inc, a_iret, a_push, sh_71, pu_rv, pu_as, Value.category, pu_bk, pu_kl, pu_qe0, pu_qe1, q, h2, a2, b2]
          all_goals try simp [bX12_least_50, bX12_least_112, bX12_least_106, bX12_least_94, a_ald, a_cv, a_gi, a_iadd, a_icge, a_icgt, a_iclt, a_ifeq, a_ild, a_imul, a_inc, a_iret, a_push, sh_71, pu_rv, pu_as, Value.category, pu_bk, pu_kl, List.replicate, pu_wi_1, pu_wi_2, nl_add, nl_ladd, nl_aa, nl_mul, nl_rmul, nl_mm, pu_qe0, pu_qe1, q, h2, a2, b2]
          all_goals try simp (maxSteps := 400000) (disch := omega) [nl_tle, nl_fle, nl_tlt, nl_flt, nl_teq, nl_feq, nl_sub, nl_ss, nl_lt, nl_llt, nl_ltt, nl_le, nl_lle, nl_lee, nl_eq, nl_leq, nl_ee, nl_div, nl_rem, nl_cl, nl_n1, nl_n2, nl_n3, nl_n4, nl_add, nl_ladd, nl_aa, nl_mul, nl_rmul, nl_mm, pu_wi_1, pu_wi_2, bX12_least_50, bX12_least_112, bX12_least_106, bX12_least_94, a_ald, a_cv, a_gi, a_iadd, a_icge, a_icgt, a_iclt, a_ifeq, a_ild, a_imul, a_inc, a_iret, a_push, sh_71, pu_rv, pu_as, Value.category, pu_bk, pu_kl, pu_qe0, pu_qe1, q, h2, a2, b2]
        rw [st1]
        rcases ih with ⟨n2, x1, x2, x3, x4⟩ | ⟨x1, x, x2⟩
        · exact Or.inl ⟨n2, by omega, x2, fun n3 y1 y2 => x3 n3 (by have := y2.2.1; omega) y2, x4⟩
        · exact Or.inr ⟨fun n3 y1 y2 => x1 n3 (by have := y2.2.1; omega) y2, x, x2⟩
      · have b2 : ¬ nI n < 1 := fun z => by rw [show (1 : Int32) = nI 1 from rfl, nI_ltI (by omega) (by omega)] at z; omega
        have e1 := r_isCandidate hx hr hw st s p lo hi (16 * n + c) hst hs hp h1 h2 hlo hhi (by omega)
        by_cases d : pz_cd I st s p lo hi (16 * n + c)
        · rw [pu_q1 d] at e1
          refine Or.inl ⟨n, Nat.le_refl _, ⟨hc, by omega, by omega, d⟩, fun n3 y1 _ => y1, ?_⟩
          rw [qX12_least_50]
          simp [bX12_least_50, bX12_least_112, bX12_least_106, bX12_least_94, a_ald, a_cv, a_gi, a_iadd, a_icge, a_icgt, a_iclt, a_ifeq, a_ild, a_imul, a_inc, a_iret, a_push, sh_71, pu_rv, pu_as, Value.category, pu_bk, pu_kl, List.replicate, pu_wi_1, pu_wi_2, nl_add, nl_ladd, nl_aa, nl_mul, nl_rmul, nl_mm, pu_qe0, pu_qe1, q, h2, a2, b2, e1]
          all_goals try simp (maxSteps := 400000) (disch := omega) [nl_tle, nl_fle, nl_tlt, nl_flt, nl_teq, nl_feq, nl_sub, nl_ss, nl_lt, nl_llt, nl_ltt, nl_le, nl_lle, nl_lee, nl_eq, nl_leq, nl_ee, nl_div, nl_rem, nl_cl, nl_n1, nl_n2, nl_n3, nl_n4, nl_add, nl_ladd, nl_aa, nl_mul, nl_rmul, nl_mm, pu_wi_1, pu_wi_2, bX12_least_50, bX12_least_112, bX12_least_106, bX12_least_94, a_ald, a_cv, a_gi, a_iadd, a_icge, a_icgt, a_iclt, a_ifeq, a_ild, a_imul, a_inc, a_iret, a_push, sh_71, pu_rv, pu_as, Value.category, pu_bk, pu_kl, pu_qe0, pu_qe1, q, h2, a2, b2, e1]
          all_goals try simp [bX12_least_50, bX12_least_112, bX12_least_106, bX12_least_94, a_ald, a_cv, a_gi, a_iadd, a_icge, a_icgt, a_iclt, a_ifeq, a_ild, a_imul, a_inc, a_iret, a_push, sh_71, pu_rv, pu_as, Value.category, pu_bk, pu_kl, List.replicate, pu_wi_1, pu_wi_2, nl_add, nl_ladd, nl_aa, nl_mul, nl_rmul, nl_mm, pu_qe0, pu_qe1, q, h2, a2, b2, e1]
          all_goals try simp (maxSteps := 400000) (disch := omega) [nl_tle, nl_fle, nl_tlt, nl_flt, nl_teq, nl_feq, nl_sub, nl_ss, nl_lt, nl_llt, nl_ltt, nl_le, nl_lle, nl_lee, nl_eq, nl_leq, nl_ee, nl_div, nl_rem, nl_cl, nl_n1, nl_n2, nl_n3, nl_n4, nl_add, nl_ladd, nl_aa, nl_mul, nl_rmul, nl_mm, pu_wi_1, pu_wi_2, bX12_least_50, bX12_least_112, bX12_least_106, bX12_least_94, a_ald, a_cv, a_gi, a_iadd, a_icge, a_icgt, a_iclt, a_ifeq, a_ild, a_imul, a_inc, a_iret, a_push, sh_71, pu_rv, pu_as, Value.category, pu_bk, pu_kl, pu_qe0, pu_qe1, q, h2, a2, b2, e1]
        · rw [pu_q0 d] at e1
          have st1 : pu_r 463 [some (.ref 71), some (.int (nI st)), some (.int (nI s)), some (.int (nI p)), some (.int told), some (.int (nI c)), some (.int (nI n))] [] M = pu_r 463 [some (.ref 71), some (.int (nI st)), some (.int (nI s)), some (.int (nI p)), some (.int told), some (.int (nI c)), some (.int (nI (n + 1)))] [] M := by
            rw [qX12_least_50]
            simp [bX12_least_50, bX12_least_112, bX12_least_106, bX12_least_94, a_ald, a_cv, a_gi, a_iadd, a_icge, a_icgt, a_iclt, a_ifeq, a_ild, a_imul, a_inc, a_iret, a_push, sh_71, pu_rv, pu_as, Value.category, pu_bk, pu_kl, List.replicate, pu_wi_1, pu_wi_2, nl_add, nl_ladd, nl_aa, nl_mul, nl_rmul, nl_mm, pu_qe0, pu_qe1, q, h2, a2, b2, e1]
            all_goals try simp (maxSteps := 400000) (disch := omega) [nl_tle, nl_fle, nl_tlt, nl_flt, nl_teq, nl_feq, nl_sub, nl_ss, nl_lt, nl_llt, nl_ltt, nl_le, nl_lle, nl_lee, nl_eq, nl_leq, nl_ee, nl_div, nl_rem, nl_cl, nl_n1, nl_n2, nl_n3, nl_n4, nl_add, nl_ladd, nl_aa, nl_mul, nl_rmul, nl_mm, pu_wi_1, pu_wi_2, bX12_least_50, bX12_least_112, bX12_least_106, bX12_least_94, a_ald, a_cv, a_gi, a_iadd, a_icge, a_icgt, a_iclt, a_ifeq, a_ild, a_imul, a_inc, a_iret, a_push, sh_71, pu_rv, pu_as, Value.category, pu_bk, pu_kl, pu_qe0, pu_qe1, q, h2, a2, b2, e1]
            all_goals try simp [bX12_least_50, bX12_least_112, bX12_least_106, bX12_least_94, a_ald, a_cv, a_gi, a_iadd, a_icge, a_icgt, a_iclt, a_ifeq, a_ild, a_imul, a_inc, a_iret, a_push, sh_71, pu_rv, pu_as, Value.category, pu_bk, pu_kl, List.replicate, pu_wi_1, pu_wi_2, nl_add, nl_ladd, nl_aa, nl_mul, nl_rmul, nl_mm, pu_qe0, pu_qe1, q, h2, a2, b2, e1]
            all_goals try simp (maxSteps := 400000) (disch := omega) [nl_tle, nl_fle, nl_tlt, nl_flt, nl_teq, nl_feq, nl_sub, nl_ss, nl_lt, nl_llt, nl_ltt, nl_le, nl_lle, nl_lee, nl_eq, nl_leq, nl_ee, nl_div, nl_rem, nl_cl, nl_n1, nl_n2, nl_n3, nl_n4, nl_add, nl_ladd, nl_aa, nl_mul, nl_rmul, nl_mm, pu_wi_1, pu_wi_2, bX12_least_50, bX12_least_112, bX12_least_106, bX12_least_94, a_ald, a_cv, a_gi, a_iadd, a_icge, a_icgt, a_iclt, a_ifeq, a_ild, a_imul, a_inc, a_iret, a_push, sh_71, pu_rv, pu_as, Value.category, pu_bk, pu_kl, pu_qe0, pu_qe1, q, h2, a2, b2, e1]
          rw [st1]
          have ne : ∀ n3, n ≤ n3 → pz_cn I st s p lo hi c n3 → n + 1 ≤ n3 := fun n3 y1 y2 => by
            have : n3 ≠ n := fun z => d (by rw [← z]; exact y2.2.2.2)
            omega
          rcases ih with ⟨n2, x1, x2, x3, x4⟩ | ⟨x1, x, x2⟩
          · exact Or.inl ⟨n2, by omega, x2, fun n3 y1 y2 => x3 n3 (ne n3 y1 y2) y2, x4⟩
          · exact Or.inr ⟨fun n3 y1 y2 => x1 n3 (ne n3 y1 y2) y2, x, x2⟩
    · have a2 : nI hi ≤ nI (16 * n + c) := nI_le (by omega) (by omega)
      refine Or.inr ⟨fun n3 y1 y2 => by have := y2.2.2.2.2.1; omega, nI n, ?_⟩
      rw [qX12_least_50]
      simp [bX12_least_50, bX12_least_112, bX12_least_106, bX12_least_94, a_ald, a_cv, a_gi, a_iadd, a_icge, a_icgt, a_iclt, a_ifeq, a_ild, a_imul, a_inc, a_iret, a_push, sh_71, pu_rv, pu_as, Value.category, pu_bk, pu_kl, List.replicate, pu_wi_1, pu_wi_2, nl_add, nl_ladd, nl_aa, nl_mul, nl_rmul, nl_mm, pu_qe0, pu_qe1, q, h2, a2]
      all_goals try simp (maxSteps := 400000) (disch := omega) [nl_tle, nl_fle, nl_tlt, nl_flt, nl_teq, nl_feq, nl_sub, nl_ss, nl_lt, nl_llt, nl_ltt, nl_le, nl_lle, nl_lee, nl_eq, nl_leq, nl_ee, nl_div, nl_rem, nl_cl, nl_n1, nl_n2, nl_n3, nl_n4, nl_add, nl_ladd, nl_aa, nl_mul, nl_rmul, nl_mm, pu_wi_1, pu_wi_2, bX12_least_50, bX12_least_112, bX12_least_106, bX12_least_94, a_ald, a_cv, a_gi, a_iadd, a_icge, a_icgt, a_iclt, a_ifeq, a_ild, a_imul, a_inc, a_iret, a_push, sh_71, pu_rv, pu_as, Value.category, pu_bk, pu_kl, pu_qe0, pu_qe1, q, h2, a2]
      all_goals try simp [bX12_least_50, bX12_least_112, bX12_least_106, bX12_least_94, a_ald, a_cv, a_gi, a_iadd, a_icge, a_icgt, a_iclt, a_ifeq, a_ild, a_imul, a_inc, a_iret, a_push, sh_71, pu_rv, pu_as, Value.category, pu_bk, pu_kl, List.replicate, pu_wi_1, pu_wi_2, nl_add, nl_ladd, nl_aa, nl_mul, nl_rmul, nl_mm, pu_qe0, pu_qe1, q, h2, a2]
      all_goals try simp (maxSteps := 400000) (disch := omega) [nl_tle, nl_fle, nl_tlt, nl_flt, nl_teq, nl_feq, nl_sub, nl_ss, nl_lt, nl_llt, nl_ltt, nl_le, nl_lle, nl_lee, nl_eq, nl_leq, nl_ee, nl_div, nl_rem, nl_cl, nl_n1, nl_n2, nl_n3, nl_n4, nl_add, nl_ladd, nl_aa, nl_mul, nl_rmul, nl_mm, pu_wi_1, pu_wi_2, bX12_least_50, bX12_least_112, bX12_least_106, bX12_least_94, a_ald, a_cv, a_gi, a_iadd, a_icge, a_icgt, a_iclt, a_ifeq, a_ild, a_imul, a_inc, a_iret, a_push, sh_71, pu_rv, pu_as, Value.category, pu_bk, pu_kl, pu_qe0, pu_qe1, q, h2, a2]
theorem r_least_o (hx : pu_fx M) (hr : pu_Rel I L (M.1 72)) (hw : pu_WF I L) (st s p lo hi : Nat) (told : Int32) (hst : st < cK I) (hs : s < 2) (hp : p < 10000) (h1 : M.1 71 10 = nI lo) (h2 : M.1 71 11 = nI hi) (hlo : lo < 160000) (hhi : hi < 200000) : ∀ (m c : Nat) (t : Option Value), c + m = 10 → (∀ c2 n2, c2 < c → ¬ pz_cn I st s p lo hi c2 n2) → ∃ r, pz_fr (pz_cn I st s p lo hi) r ∧ pu_r 462 [some (.ref 71), some (.int (nI st)), some (.int (nI s)), some (.int (nI p)), some (.int told), some (.int (nI c)), t] [] M = some (some (.int r), M)
  | 0, c, t, h, hn => by
    have e : c = 10 := by omega
    subst e
    refine ⟨-1, Or.inl ⟨rfl, fun c2 n2 q => hn c2 n2 (by have := q.1; omega) q⟩, ?_⟩
    have q : (9 : Int32) < nI 10 := by decide
    rw [qX12_least_34]
    simp [bX12_least_34, bX12_least_118, a_ald, a_gi, a_icgt, a_idiv, a_ild, a_iret, a_ist, a_push, sh_71, pu_rv, pu_as, Value.category, pu_bk, pu_kl, List.replicate, pu_wi_1, pu_wi_2, nl_add, nl_ladd, nl_aa, nl_mul, nl_rmul, nl_mm, pu_qe0, pu_qe1, q]
    all_goals try simp (maxSteps := 400000) (disch := omega) [nl_tle, nl_fle, nl_tlt, nl_flt, nl_teq, nl_feq, nl_sub, nl_ss, nl_lt, nl_llt, nl_ltt, nl_le, nl_lle, nl_lee, nl_eq, nl_leq, nl_ee, nl_div, nl_rem, nl_cl, nl_n1, nl_n2, nl_n3, nl_n4, nl_add, nl_ladd, nl_aa, nl_mul, nl_rmul, nl_mm, pu_wi_1, pu_wi_2, bX12_least_34, bX12_least_118, a_ald, a_gi, a_icgt, a_idiv, a_ild, a_iret, a_ist, a_push, sh_71, pu_rv, pu_as, Value.category, pu_bk, pu_kl, pu_qe0, pu_qe1, q]
    all_goals try simp [bX12_least_34, bX12_least_118, a_ald, a_gi, a_icgt, a_idiv, a_ild, a_iret, a_ist, a_push, sh_71, pu_rv, pu_as, Value.category, pu_bk, pu_kl, List.replicate, pu_wi_1, pu_wi_2, nl_add, nl_ladd, nl_aa, nl_mul, nl_rmul, nl_mm, pu_qe0, pu_qe1, q]
    all_goals try simp (maxSteps := 400000) (disch := omega) [nl_tle, nl_fle, nl_tlt, nl_flt, nl_teq, nl_feq, nl_sub, nl_ss, nl_lt, nl_llt, nl_ltt, nl_le, nl_lle, nl_lee, nl_eq, nl_leq, nl_ee, nl_div, nl_rem, nl_cl, nl_n1, nl_n2, nl_n3, nl_n4, nl_add, nl_ladd, nl_aa, nl_mul, nl_rmul, nl_mm, pu_wi_1, pu_wi_2, bX12_least_34, bX12_least_118, a_ald, a_gi, a_icgt, a_idiv, a_ild, a_iret, a_ist, a_push, sh_71, pu_rv, pu_as, Value.category, pu_bk, pu_kl, pu_qe0, pu_qe1, q]
  | m + 1, c, t, h, hn => by
    have q : ¬ (9 : Int32) < nI c := fun z => by rw [show (9 : Int32) = nI 9 from rfl, nI_ltI (by omega) (by omega)] at z; omega
    have dv : nI lo / 16 = nI (lo / 16) := pk_div (d := 16) (by omega) (by omega) (by omega)
    have z : pu_r 462 [some (.ref 71), some (.int (nI st)), some (.int (nI s)), some (.int (nI p)), some (.int told), some (.int (nI c)), t] [] M = pu_r 463 [some (.ref 71), some (.int (nI st)), some (.int (nI s)), some (.int (nI p)), some (.int told), some (.int (nI c)), some (.int (nI (lo / 16)))] [] M := by
      rw [qX12_least_34]
      simp [bX12_least_34, bX12_least_118, a_ald, a_gi, a_icgt, a_idiv, a_ild, a_iret, a_ist, a_push, sh_71, pu_rv, pu_as, Value.category, pu_bk, pu_kl, List.replicate, pu_wi_1, pu_wi_2, nl_add, nl_ladd, nl_aa, nl_mul, nl_rmul, nl_mm, pu_qe0, pu_qe1, q, h1, dv]
      all_goals try simp (maxSteps := 400000) (disch := omega) [nl_tle, nl_fle, nl_tlt, nl_flt, nl_teq, nl_feq, nl_sub, nl_ss, nl_lt, nl_llt, nl_ltt, nl_le, nl_lle, nl_lee, nl_eq, nl_leq, nl_ee, nl_div, nl_rem, nl_cl, nl_n1, nl_n2, nl_n3, nl_n4, nl_add, nl_ladd, nl_aa, nl_mul, nl_rmul, nl_mm, pu_wi_1, pu_wi_2, bX12_least_34, bX12_least_118, a_ald, a_gi, a_icgt, a_idiv, a_ild, a_iret, a_ist, a_push, sh_71, pu_rv, pu_as, Value.category, pu_bk, pu_kl, pu_qe0, pu_qe1, q, h1, dv]
      all_goals try simp [bX12_least_34, bX12_least_118, a_ald, a_gi, a_icgt, a_idiv, a_ild, a_iret, a_ist, a_push, sh_71, pu_rv, pu_as, Value.category, pu_bk, pu_kl, List.replicate, pu_wi_1, pu_wi_2, nl_add, nl_ladd, nl_aa, nl_mul, nl_rmul, nl_mm, pu_qe0, pu_qe1, q, h1, dv]
      all_goals try simp (maxSteps := 400000) (disch := omega) [nl_tle, nl_fle, nl_tlt, nl_flt, nl_teq, nl_feq, nl_sub, nl_ss, nl_lt, nl_llt, nl_ltt, nl_le, nl_lle, nl_lee, nl_eq, nl_leq, nl_ee, nl_div, nl_rem, nl_cl, nl_n1, nl_n2, nl_n3, nl_n4, nl_add, nl_ladd, nl_aa, nl_mul, nl_rmul, nl_mm, pu_wi_1, pu_wi_2, bX12_least_34, bX12_least_118, a_ald, a_gi, a_icgt, a_idiv, a_ild, a_iret, a_ist, a_push, sh_71, pu_rv, pu_as, Value.category, pu_bk, pu_kl, pu_qe0, pu_qe1, q, h1, dv]
    have low : ∀ n3, pz_cn I st s p lo hi c n3 → lo / 16 ≤ n3 := fun n3 y => by
      have := y.2.2.2.1
      have := y.1
      omega
    rw [z]
    rcases r_least_i hx hr hw st s p lo hi c told hst hs hp h1 h2 (by omega) hhi (by omega) (10000 - lo / 16) (lo / 16) (by omega) with ⟨n2, x1, x2, x3, x4⟩ | ⟨x1, x, x2⟩
    · refine ⟨_, Or.inr ⟨c, n2, x2, rfl, fun c2 n3 y => ?_⟩, x4⟩
      by_cases a : c2 < c
      · exact absurd y (hn c2 n3 a)
      · by_cases b : c2 = c
        · rw [b] at y
          exact Or.inr ⟨b.symm, x3 n3 (low n3 y) y⟩
        · exact Or.inl (by omega)
    · obtain ⟨r, r1, r2⟩ := r_least_o hx hr hw st s p lo hi told hst hs hp h1 h2 hlo hhi m (c + 1) (some (.int x)) (by omega) (fun c2 n2 a y => by
        by_cases b : c2 = c
        · rw [b] at y
          exact x1 n2 (low n2 y) y
        · exact hn c2 n2 (by omega) y)
      exact ⟨r, r1, x2.trans r2⟩
end
