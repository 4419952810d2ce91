/-! least, on the reference's side -/
section
variable {M : pu_M} {I : Nat → Nat → Int32} {L : Nat → Nat → Int64}
theorem r_open3 (hx : pu_fx M) (hr : pu_Rel I L (M.1 72)) (hw : pu_WF I L) (d w st : Nat) (hd : d < cD I) (hw2 : w < 2) : (∃ k, pz_os I (2 * d + w) k ∧ I 39 (2 * d + w) = nI st ∧ pu_r 266 [some (.ref 71), some (.int (nI d))] [] M = some (some (.int 1), M) ∧ pu_r 267 [some (.ref 71), some (.int (nI d)), some (.int (nI w))] [] M = some (some (.int 1), M) ∧ pu_r 273 [some (.ref 71), some (.int (nI d)), some (.int (nI w))] [] M = some (some (.int (I 16 k)), M)) ∨ ((∀ k, pz_os I (2 * d + w) k → I 39 (2 * d + w) ≠ nI st) ∧ (pu_r 266 [some (.ref 71), some (.int (nI d))] [] M = some (some (.int 0), M) ∨ (pu_r 266 [some (.ref 71), some (.int (nI d))] [] M = some (some (.int 1), M) ∧ (pu_r 267 [some (.ref 71), some (.int (nI d)), some (.int (nI w))] [] M = some (some (.int 0), M) ∨ (pu_r 267 [some (.ref 71), some (.int (nI d)), some (.int (nI w))] [] M = some (some (.int 1), M) ∧ I 39 (2 * d + w) ≠ nI st))))) := by
  have e1 := r_isOpen hx hr hw d hd
  have e2 := r_hasPlace hx hr hw d w hd hw2
  have j1 : (2 * d + w) / 2 = d := by omega
  have j2 : (2 * d + w) % 2 = w := by omega
  by_cases c1 : I 37 d = -1
  · rw [pu_q1 c1] at e1
    by_cases c2 : pu_hp I d w
    · rw [pu_q1 c2] at e2
      by_cases c3 : I 39 (2 * d + w) = nI st
      · obtain ⟨k, hk⟩ := pz_os_ex hw hd hw2 c1 c2
        exact Or.inl ⟨k, hk, c3, e1, e2, r_wholeAt hx hr hw hw2 hk⟩
      · exact Or.inr ⟨fun k _ => c3, Or.inr ⟨e1, Or.inr ⟨e2, c3⟩⟩⟩
    · rw [pu_q0 c2] at e2
      refine Or.inr ⟨fun k hk _ => c2 ?_, Or.inr ⟨e1, Or.inl e2⟩⟩
      have := (pz_os_d hw hk).2.1
      rw [j1, j2] at this
      exact this
  · rw [pu_q0 c1] at e1
    refine Or.inr ⟨fun k hk _ => c1 ?_, Or.inl e1⟩
    have := (pz_os_d hw hk).1
    rw [j1] at this
    exact this
/-- a number is used in a street -/
def pz_us (I : Nat → Nat → Int32) (st : Nat) (v : Int32) (J : Nat) : Prop := ∃ k, k < cU I ∧ I 39 (pu_sl0 I k) = nI st ∧ I 18 k = -1 ∧ I 16 k = v ∧ J ≤ pu_sl0 I k
theorem r_isUsed_i (hx : pu_fx M) (hr : pu_Rel I L (M.1 72)) (hw : pu_WF I L) (d w st : Nat) (hd : d < cD I) (hw2 : w < 2) (v : Int32) : (pz_us I st v (2 * d + w) ∧ pu_r 461 [some (.ref 71), some (.int (nI st)), some (.int v), some (.int (nI d)), some (.int (nI w))] [] M = some (some (.int 1), M)) ∨ (pz_us I st v (2 * d + w) = pz_us I st v (2 * d + w + 1) ∧ pu_r 461 [some (.ref 71), some (.int (nI st)), some (.int v), some (.int (nI d)), some (.int (nI w))] [] M = pu_r 461 [some (.ref 71), some (.int (nI st)), some (.int v), some (.int (nI d)), some (.int (nI (w + 1)))] [] M) := by
  have hc : ¬ 2 ≤ nI w := nI_ge (b := 2) (by omega) (by omega)
  have e3 := r_streetAt hx hr hw d w hd hw2
  have st1 : ∀ (P : Prop), ¬ P → (∀ k, k < cU I → I 39 (pu_sl0 I k) = nI st → I 18 k = -1 → I 16 k = v → pu_sl0 I k = 2 * d + w → P) → pz_us I st v (2 * d + w) = pz_us I st v (2 * d + w + 1) := fun P h1 h2 => by
    apply propext
    constructor
    · rintro ⟨k, k1, k2, k3, k4, k5⟩
      refine ⟨k, k1, k2, k3, k4, ?_⟩
      have : pu_sl0 I k ≠ 2 * d + w := fun e => h1 (h2 k k1 k2 k3 k4 e)
      omega
    · rintro ⟨k, k1, k2, k3, k4, k5⟩
      exact ⟨k, k1, k2, k3, k4, by omega⟩
  rcases r_open3 hx hr hw d w st hd hw2 with ⟨k, hk, k1, k2, k3, k4⟩ | ⟨h1, h2⟩
  · by_cases c : I 16 k = v
    · refine Or.inl ⟨⟨k, hk.1, by rw [hk.2.1]; exact k1, hk.2.2, c, by rw [hk.2.1]; exact Nat.le_refl _⟩, ?_⟩
      rw [qX12_isUsed_15]
      simp [bX12_isUsed_15, bX12_isUsed_69, bX12_isUsed_63, bX12_isUsed_61, a_ald, a_cv, a_icge, a_icne, a_ifeq, a_ild, a_inc, a_push, a_zret, sh_71, pu_rv, pu_as, Value.category, pu_bk, pu_kl, List.replicate, pu_wi_1, pu_wi_2, nl_add, nl_ladd, nl_aa, nl_mul, nl_rmul, nl_mm, pu_qe0, pu_qe1, hc, k2, k3, e3, k1, k4, c]
      all_goals try simp (maxSteps := 400000) (disch := omega) [nl_tle, nl_fle, nl_tlt, nl_flt, nl_teq, nl_feq, nl_sub, nl_ss, nl_lt, nl_llt, nl_ltt, nl_le, nl_lle, nl_lee, nl_eq, nl_leq, nl_ee, nl_div, nl_rem, nl_cl, nl_n1, nl_n2, nl_n3, nl_n4, nl_add, nl_ladd, nl_aa, nl_mul, nl_rmul, nl_mm, pu_wi_1, pu_wi_2, bX12_isUsed_15, bX12_isUsed_69, bX12_isUsed_63, bX12_isUsed_61, a_ald, a_cv, a_icge, a_icne, a_ifeq, a_ild, a_inc, a_push, a_zret, sh_71, pu_rv, pu_as, Value.category, pu_bk, pu_kl, pu_qe0, pu_qe1, hc, k2, k3, e3, k1, k4, c]
      all_goals try simp [bX12_isUsed_15, bX12_isUsed_69, bX12_isUsed_63, bX12_isUsed_61, a_ald, a_cv, a_icge, a_icne, a_ifeq, a_ild, a_inc, a_push, a_zret, sh_71, pu_rv, pu_as, Value.category, pu_bk, pu_kl, List.replicate, pu_wi_1, pu_wi_2, nl_add, nl_ladd, nl_aa, nl_mul, nl_rmul, nl_mm, pu_qe0, pu_qe1, hc, k2, k3, e3, k1, k4, c]
      all_goals try simp (maxSteps := 400000) (disch := omega) [nl_tle, nl_fle, nl_tlt, nl_flt, nl_teq, nl_feq, nl_sub, nl_ss, nl_lt, nl_llt, nl_ltt, nl_le, nl_lle, nl_lee, nl_eq, nl_leq, nl_ee, nl_div, nl_rem, nl_cl, nl_n1, nl_n2, nl_n3, nl_n4, nl_add, nl_ladd, nl_aa, nl_mul, nl_rmul, nl_mm, pu_wi_1, pu_wi_2, bX12_isUsed_15, bX12_isUsed_69, bX12_isUsed_63, bX12_isUsed_61, a_ald, a_cv, a_icge, a_icne, a_ifeq, a_ild, a_inc, a_push, a_zret, sh_71, pu_rv, pu_as, Value.category, pu_bk, pu_kl, pu_qe0, pu_qe1, hc, k2, k3, e3, k1, k4, c]
    · refine Or.inr ⟨st1 (I 16 k = v) c (fun l l1 l2 l3 l4 l5 => by rw [← pz_os_un hw ⟨l1, l5, l3⟩ hk]; exact l4), ?_⟩
      rw [qX12_isUsed_15]
      simp [bX12_isUsed_15, bX12_isUsed_69, bX12_isUsed_63, bX12_isUsed_61, a_ald, a_cv, a_icge, a_icne, a_ifeq, a_ild, a_inc, a_push, a_zret, sh_71, pu_rv, pu_as, Value.category, pu_bk, pu_kl, List.replicate, pu_wi_1, pu_wi_2, nl_add, nl_ladd, nl_aa, nl_mul, nl_rmul, nl_mm, pu_qe0, pu_qe1, hc, k2, k3, e3, k1, k4, c]
      all_goals try simp (maxSteps := 400000) (disch := omega) [nl_tle, nl_fle, nl_tlt, nl_flt, nl_teq, nl_feq, nl_sub, nl_ss, nl_lt, nl_llt, nl_ltt, nl_le, nl_lle, nl_lee, nl_eq, nl_leq, nl_ee, nl_div, nl_rem, nl_cl, nl_n1, nl_n2, nl_n3, nl_n4, nl_add, nl_ladd, nl_aa, nl_mul, nl_rmul, nl_mm, pu_wi_1, pu_wi_2, bX12_isUsed_15, bX12_isUsed_69, bX12_isUsed_63, bX12_isUsed_61, a_ald, a_cv, a_icge, a_icne, a_ifeq, a_ild, a_inc, a_push, a_zret, sh_71, pu_rv, pu_as, Value.category, pu_bk, pu_kl, pu_qe0, pu_qe1, hc, k2, k3, e3, k1, k4, c]
      all_goals try simp [bX12_isUsed_15, bX12_isUsed_69, bX12_isUsed_63, bX12_isUsed_61, a_ald, a_cv, a_icge, a_icne, a_ifeq, a_ild, a_inc, a_push, a_zret, sh_71, pu_rv, pu_as, Value.category, pu_bk, pu_kl, List.replicate, pu_wi_1, pu_wi_2, nl_add, nl_ladd, nl_aa, nl_mul, nl_rmul, nl_mm, pu_qe0, pu_qe1, hc, k2, k3, e3, k1, k4, c]
      all_goals try simp (maxSteps := 400000) (disch := omega) [nl_tle, nl_fle, nl_tlt, nl_flt, nl_teq, nl_feq, nl_sub, nl_ss, nl_lt, nl_llt, nl_ltt, nl_le, nl_lle, nl_lee, nl_eq, nl_leq, nl_ee, nl_div, nl_rem, nl_cl, nl_n1, nl_n2, nl_n3, nl_n4, nl_add, nl_ladd, nl_aa, nl_mul, nl_rmul, nl_mm, pu_wi_1, pu_wi_2, bX12_isUsed_15, bX12_isUsed_69, bX12_isUsed_63, bX12_isUsed_61, a_ald, a_cv, a_icge, a_icne, a_ifeq, a_ild, a_inc, a_push, a_zret, sh_71, pu_rv, pu_as, Value.category, pu_bk, pu_kl, pu_qe0, pu_qe1, hc, k2, k3, e3, k1, k4, c]
  · refine Or.inr ⟨st1 False (fun z => z) (fun l l1 l2 l3 l4 l5 => h1 l ⟨l1, l5, l3⟩ (by rw [← l5]; exact l2)), ?_⟩
    rcases h2 with h2 | ⟨h2, h3 | ⟨h3, h4⟩⟩
    · rw [qX12_isUsed_15]
      simp [bX12_isUsed_15, bX12_isUsed_69, bX12_isUsed_63, bX12_isUsed_61, a_ald, a_cv, a_icge, a_icne, a_ifeq, a_ild, a_inc, a_push, a_zret, sh_71, pu_rv, pu_as, Value.category, pu_bk, pu_kl, List.replicate, pu_wi_1, pu_wi_2, nl_add, nl_ladd, nl_aa, nl_mul, nl_rmul, nl_mm, pu_qe0, pu_qe1, hc, h2]
      all_goals try simp (maxSteps := 400000) (disch := omega) [nl_tle, nl_fle, nl_tlt, nl_flt, nl_teq, nl_feq, nl_sub, nl_ss, nl_lt, nl_llt, nl_ltt, nl_le, nl_lle, nl_lee, nl_eq, nl_leq, nl_ee, nl_div, nl_rem, nl_cl, nl_n1, nl_n2, nl_n3, nl_n4, nl_add, nl_ladd, nl_aa, nl_mul, nl_rmul, nl_mm, pu_wi_1, pu_wi_2, bX12_isUsed_15, bX12_isUsed_69, bX12_isUsed_63, bX12_isUsed_61, a_ald, a_cv, a_icge, a_icne, a_ifeq, a_ild, a_inc, a_push, a_zret, sh_71, pu_rv, pu_as, Value.category, pu_bk, pu_kl, pu_qe0, pu_qe1, hc, h2]
      all_goals try simp [bX12_isUsed_15, bX12_isUsed_69, bX12_isUsed_63, bX12_isUsed_61, a_ald, a_cv, a_icge, a_icne, a_ifeq, a_ild, a_inc, a_push, a_zret, sh_71, pu_rv, pu_as, Value.category, pu_bk, pu_kl, List.replicate, pu_wi_1, pu_wi_2, nl_add, nl_ladd, nl_aa, nl_mul, nl_rmul, nl_mm, pu_qe0, pu_qe1, hc, h2]
      all_goals try simp (maxSteps := 400000) (disch := omega) [nl_tle, nl_fle, nl_tlt, nl_flt, nl_teq, nl_feq, nl_sub, nl_ss, nl_lt, nl_llt, nl_ltt, nl_le, nl_lle, nl_lee, nl_eq, nl_leq, nl_ee, nl_div, nl_rem, nl_cl, nl_n1, nl_n2, nl_n3, nl_n4, nl_add, nl_ladd, nl_aa, nl_mul, nl_rmul, nl_mm, pu_wi_1, pu_wi_2, bX12_isUsed_15, bX12_isUsed_69, bX12_isUsed_63, bX12_isUsed_61, a_ald, a_cv, a_icge, a_icne, a_ifeq, a_ild, a_inc, a_push, a_zret, sh_71, pu_rv, pu_as, Value.category, pu_bk, pu_kl, pu_qe0, pu_qe1, hc, h2]
    · rw [qX12_isUsed_15]
      simp [bX12_isUsed_15, bX12_isUsed_69, bX12_isUsed_63, bX12_isUsed_61, a_ald, a_cv, a_icge, a_icne, a_ifeq, a_ild, a_inc, a_push, a_zret, sh_71, pu_rv, pu_as, Value.category, pu_bk, pu_kl, List.replicate, pu_wi_1, pu_wi_2, nl_add, nl_ladd, nl_aa, nl_mul, nl_rmul, nl_mm, pu_qe0, pu_qe1, hc, h2, h3]
      all_goals try simp (maxSteps := 400000) (disch := omega) [nl_tle, nl_fle, nl_tlt, nl_flt, nl_teq, nl_feq, nl_sub, nl_ss, nl_lt, nl_llt, nl_ltt, nl_le, nl_lle, nl_lee, nl_eq, nl_leq, nl_ee, nl_div, nl_rem, nl_cl, nl_n1, nl_n2, nl_n3, nl_n4, nl_add, nl_ladd, nl_aa, nl_mul, nl_rmul, nl_mm, pu_wi_1, pu_wi_2, bX12_isUsed_15, bX12_isUsed_69, bX12_isUsed_63, bX12_isUsed_61, a_ald, a_cv, a_icge, a_icne, a_ifeq, a_ild, a_inc, a_push, a_zret, sh_71, pu_rv, pu_as, Value.category, pu_bk, pu_kl, pu_qe0, pu_qe1, hc, h2, h3]
      all_goals try simp [bX12_isUsed_15, bX12_isUsed_69, bX12_isUsed_63, bX12_isUsed_61, a_ald, a_cv, a_icge, a_icne, a_ifeq, a_ild, a_inc, a_push, a_zret, sh_71, pu_rv, pu_as, Value.category, pu_bk, pu_kl, List.replicate, pu_wi_1, pu_wi_2, nl_add, nl_ladd, nl_aa, nl_mul, nl_rmul, nl_mm, pu_qe0, pu_qe1, hc, h2, h3]
      all_goals try simp (maxSteps := 400000) (disch := omega) [nl_tle, nl_fle, nl_tlt, nl_flt, nl_teq, nl_feq, nl_sub, nl_ss, nl_lt, nl_llt, nl_ltt, nl_le, nl_lle, nl_lee, nl_eq, nl_leq, nl_ee, nl_div, nl_rem, nl_cl, nl_n1, nl_n2, nl_n3, nl_n4, nl_add, nl_ladd, nl_aa, nl_mul, nl_rmul, nl_mm, pu_wi_1, pu_wi_2, bX12_isUsed_15, bX12_isUsed_69, bX12_isUsed_63, bX12_isUsed_61, a_ald, a_cv, a_icge, a_icne, a_ifeq, a_ild, a_inc, a_push, a_zret, sh_71, pu_rv, pu_as, Value.category, pu_bk, pu_kl, pu_qe0, pu_qe1, hc, h2, h3]
    · rw [qX12_isUsed_15]
      simp [bX12_isUsed_15, bX12_isUsed_69, bX12_isUsed_63, bX12_isUsed_61, a_ald, a_cv, a_icge, a_icne, a_ifeq, a_ild, a_inc, a_push, a_zret, sh_71, pu_rv, pu_as, Value.category, pu_bk, pu_kl, List.replicate, pu_wi_1, pu_wi_2, nl_add, nl_ladd, nl_aa, nl_mul, nl_rmul, nl_mm, pu_qe0, pu_qe1, hc, h2, h3, e3, h4]
      all_goals try simp (maxSteps := 400000) (disch := omega) [nl_tle, nl_fle, nl_tlt, nl_flt, nl_teq, nl_feq, nl_sub, nl_ss, nl_lt, nl_llt, nl_ltt, nl_le, nl_lle, nl_lee, nl_eq, nl_leq, nl_ee, nl_div, nl_rem, nl_cl, nl_n1, nl_n2, nl_n3, nl_n4, nl_add, nl_ladd, nl_aa, nl_mul, nl_rmul, nl_mm, pu_wi_1, pu_wi_2, bX12_isUsed_15, bX12_isUsed_69, bX12_isUsed_63, bX12_isUsed_61, a_ald, a_cv, a_icge, a_icne, a_ifeq, a_ild, a_inc, a_push, a_zret, sh_71, pu_rv, pu_as, Value.category, pu_bk, pu_kl, pu_qe0, pu_qe1, hc, h2, h3, e3, h4]
      all_goals try simp [bX12_isUsed_15, bX12_isUsed_69, bX12_isUsed_63, bX12_isUsed_61, a_ald, a_cv, a_icge, a_icne, a_ifeq, a_ild, a_inc, a_push, a_zret, sh_71, pu_rv, pu_as, Value.category, pu_bk, pu_kl, List.replicate, pu_wi_1, pu_wi_2, nl_add, nl_ladd, nl_aa, nl_mul, nl_rmul, nl_mm, pu_qe0, pu_qe1, hc, h2, h3, e3, h4]
      all_goals try simp (maxSteps := 400000) (disch := omega) [nl_tle, nl_fle, nl_tlt, nl_flt, nl_teq, nl_feq, nl_sub, nl_ss, nl_lt, nl_llt, nl_ltt, nl_le, nl_lle, nl_lee, nl_eq, nl_leq, nl_ee, nl_div, nl_rem, nl_cl, nl_n1, nl_n2, nl_n3, nl_n4, nl_add, nl_ladd, nl_aa, nl_mul, nl_rmul, nl_mm, pu_wi_1, pu_wi_2, bX12_isUsed_15, bX12_isUsed_69, bX12_isUsed_63, bX12_isUsed_61, a_ald, a_cv, a_icge, a_icne, a_ifeq, a_ild, a_inc, a_push, a_zret, sh_71, pu_rv, pu_as, Value.category, pu_bk, pu_kl, pu_qe0, pu_qe1, hc, h2, h3, e3, h4]
theorem r_isUsed_l (hx : pu_fx M) (hr : pu_Rel I L (M.1 72)) (hw : pu_WF I L) (st : Nat) (v : Int32) : ∀ (m d : Nat) (t : Option Value), d + m = cD I → pu_r 460 [some (.ref 71), some (.int (nI st)), some (.int v), some (.int (nI d)), t] [] M = some (some (.int (pu_q (pz_us I st v (2 * d)))), M)
  | 0, d, t, h => by
    have hD := wx_bD hw
    have hc : nI (cD I) ≤ nI d := nI_le (by omega) (by omega)
    rw [pu_q0 (fun ⟨k, k1, _, _, _, k5⟩ => by have := (pu_sl_lt hw k1).1; omega)]
    rw [qX12_isUsed_2]
    simp [bX12_isUsed_2, bX12_isUsed_75, a_ai, a_ald, a_gr, a_icge, a_ild, a_ist, a_push, a_zret, fx_71_0 hx, sh_71, sh_72, pu_rv, pu_as, Value.category, pu_bk, pu_kl, List.replicate, pu_wi_1, pu_wi_2, nl_add, nl_ladd, nl_aa, nl_mul, nl_rmul, nl_mm, pu_qe0, pu_qe1, rl_h4 hr, hc]
    all_goals try simp (maxSteps := 400000) (disch := omega) [nl_tle, nl_fle, nl_tlt, nl_flt, nl_teq, nl_feq, nl_sub, nl_ss, nl_lt, nl_llt, nl_ltt, nl_le, nl_lle, nl_lee, nl_eq, nl_leq, nl_ee, nl_div, nl_rem, nl_cl, nl_n1, nl_n2, nl_n3, nl_n4, nl_add, nl_ladd, nl_aa, nl_mul, nl_rmul, nl_mm, pu_wi_1, pu_wi_2, bX12_isUsed_2, bX12_isUsed_75, a_ai, a_ald, a_gr, a_icge, a_ild, a_ist, a_push, a_zret, fx_71_0 hx, sh_71, sh_72, pu_rv, pu_as, Value.category, pu_bk, pu_kl, pu_qe0, pu_qe1, rl_h4 hr, hc]
    all_goals try simp [bX12_isUsed_2, bX12_isUsed_75, a_ai, a_ald, a_gr, a_icge, a_ild, a_ist, a_push, a_zret, fx_71_0 hx, sh_71, sh_72, pu_rv, pu_as, Value.category, pu_bk, pu_kl, List.replicate, pu_wi_1, pu_wi_2, nl_add, nl_ladd, nl_aa, nl_mul, nl_rmul, nl_mm, pu_qe0, pu_qe1, rl_h4 hr, hc]
    all_goals try simp (maxSteps := 400000) (disch := omega) [nl_tle, nl_fle, nl_tlt, nl_flt, nl_teq, nl_feq, nl_sub, nl_ss, nl_lt, nl_llt, nl_ltt, nl_le, nl_lle, nl_lee, nl_eq, nl_leq, nl_ee, nl_div, nl_rem, nl_cl, nl_n1, nl_n2, nl_n3, nl_n4, nl_add, nl_ladd, nl_aa, nl_mul, nl_rmul, nl_mm, pu_wi_1, pu_wi_2, bX12_isUsed_2, bX12_isUsed_75, a_ai, a_ald, a_gr, a_icge, a_ild, a_ist, a_push, a_zret, fx_71_0 hx, sh_71, sh_72, pu_rv, pu_as, Value.category, pu_bk, pu_kl, pu_qe0, pu_qe1, rl_h4 hr, hc]
  | m + 1, d, t, h => by
    have hD := wx_bD hw
    have hc : ¬ nI (cD I) ≤ nI d := nI_ge (by omega) (by omega)
    have ih := r_isUsed_l hx hr hw st v m (d + 1) (some (.int (nI (1 + 1)))) (by omega)
    have h2 : 2 ≤ nI (1 + 1) := by decide
    have z : pu_r 461 [some (.ref 71), some (.int (nI st)), some (.int v), some (.int (nI d)), some (.int (nI 0))] [] M = some (some (.int (pu_q (pz_us I st v (2 * d)))), M) := by
      rcases r_isUsed_i hx hr hw d 0 st (by omega) (by omega) v with ⟨a1, a2⟩ | ⟨a1, a2⟩
      · rw [a2, pu_q1 (show pz_us I st v (2 * d) from a1)]
      · rw [a2, show pz_us I st v (2 * d) = pz_us I st v (2 * d + 1) from a1]
        rcases r_isUsed_i hx hr hw d 1 st (by omega) (by omega) v with ⟨b1, b2⟩ | ⟨b1, b2⟩
        · rw [b2, pu_q1 b1]
        · rw [b2, b1, show 2 * d + 1 + 1 = 2 * (d + 1) by omega, ← ih]
          rw [qX12_isUsed_15]
          simp [bX12_isUsed_15, bX12_isUsed_69, bX12_isUsed_63, bX12_isUsed_61, a_ald, a_cv, a_icge, a_icne, a_ifeq, a_ild, a_inc, a_push, a_zret, sh_71, pu_rv, pu_as, Value.category, pu_bk, pu_kl, List.replicate, pu_wi_1, pu_wi_2, nl_add, nl_ladd, nl_aa, nl_mul, nl_rmul, nl_mm, pu_qe0, pu_qe1, h2]
          all_goals try simp (maxSteps := 400000) (disch := omega) [nl_tle, nl_fle, nl_tlt, nl_flt, nl_teq, nl_feq, nl_sub, nl_ss, nl_lt, nl_llt, nl_ltt, nl_le, nl_lle, nl_lee, nl_eq, nl_leq, nl_ee, nl_div, nl_rem, nl_cl, nl_n1, nl_n2, nl_n3, nl_n4, nl_add, nl_ladd, nl_aa, nl_mul, nl_rmul, nl_mm, pu_wi_1, pu_wi_2, bX12_isUsed_15, bX12_isUsed_69, bX12_isUsed_63, bX12_isUsed_61, a_ald, a_cv, a_icge, a_icne, a_ifeq, a_ild, a_inc, a_push, a_zret, sh_71, pu_rv, pu_as, Value.category, pu_bk, pu_kl, pu_qe0, pu_qe1, h2]
          all_goals try simp [bX12_isUsed_15, bX12_isUsed_69, bX12_isUsed_63, bX12_isUsed_61, a_ald, a_cv, a_icge, a_icne, a_ifeq, a_ild, a_inc, a_push, a_zret, sh_71, pu_rv, pu_as, Value.category, pu_bk, pu_kl, List.replicate, pu_wi_1, pu_wi_2, nl_add, nl_ladd, nl_aa, nl_mul, nl_rmul, nl_mm, pu_qe0, pu_qe1, h2]
          all_goals try simp (maxSteps := 400000) (disch := omega) [nl_tle, nl_fle, nl_tlt, nl_flt, nl_teq, nl_feq, nl_sub, nl_ss, nl_lt, nl_llt, nl_ltt, nl_le, nl_lle, nl_lee, nl_eq, nl_leq, nl_ee, nl_div, nl_rem, nl_cl, nl_n1, nl_n2, nl_n3, nl_n4, nl_add, nl_ladd, nl_aa, nl_mul, nl_rmul, nl_mm, pu_wi_1, pu_wi_2, bX12_isUsed_15, bX12_isUsed_69, bX12_isUsed_63, bX12_isUsed_61, a_ald, a_cv, a_icge, a_icne, a_ifeq, a_ild, a_inc, a_push, a_zret, sh_71, pu_rv, pu_as, Value.category, pu_bk, pu_kl, pu_qe0, pu_qe1, h2]
    rw [nI_0] at z
    rw [qX12_isUsed_2]
    simp [bX12_isUsed_2, bX12_isUsed_75, a_ai, a_ald, a_gr, a_icge, a_ild, a_ist, a_push, a_zret, fx_71_0 hx, sh_71, sh_72, pu_rv, pu_as, Value.category, pu_bk, pu_kl, List.replicate, pu_wi_1, pu_wi_2, nl_add, nl_ladd, nl_aa, nl_mul, nl_rmul, nl_mm, pu_qe0, pu_qe1, rl_h4 hr, hc, z]
    all_goals try simp (maxSteps := 400000) (disch := omega) [nl_tle, nl_fle, nl_tlt, nl_flt, nl_teq, nl_feq, nl_sub, nl_ss, nl_lt, nl_llt, nl_ltt, nl_le, nl_lle, nl_lee, nl_eq, nl_leq, nl_ee, nl_div, nl_rem, nl_cl, nl_n1, nl_n2, nl_n3, nl_n4, nl_add, nl_ladd, nl_aa, nl_mul, nl_rmul, nl_mm, pu_wi_1, pu_wi_2, bX12_isUsed_2, bX12_isUsed_75, a_ai, a_ald, a_gr, a_icge, a_ild, a_ist, a_push, a_zret, fx_71_0 hx, sh_71, sh_72, pu_rv, pu_as, Value.category, pu_bk, pu_kl, pu_qe0, pu_qe1, rl_h4 hr, hc, z]
    all_goals try simp [bX12_isUsed_2, bX12_isUsed_75, a_ai, a_ald, a_gr, a_icge, a_ild, a_ist, a_push, a_zret, fx_71_0 hx, sh_71, sh_72, pu_rv, pu_as, Value.category, pu_bk, pu_kl, List.replicate, pu_wi_1, pu_wi_2, nl_add, nl_ladd, nl_aa, nl_mul, nl_rmul, nl_mm, pu_qe0, pu_qe1, rl_h4 hr, hc, z]
    all_goals try simp (maxSteps := 400000) (disch := omega) [nl_tle, nl_fle, nl_tlt, nl_flt, nl_teq, nl_feq, nl_sub, nl_ss, nl_lt, nl_llt, nl_ltt, nl_le, nl_lle, nl_lee, nl_eq, nl_leq, nl_ee, nl_div, nl_rem, nl_cl, nl_n1, nl_n2, nl_n3, nl_n4, nl_add, nl_ladd, nl_aa, nl_mul, nl_rmul, nl_mm, pu_wi_1, pu_wi_2, bX12_isUsed_2, bX12_isUsed_75, a_ai, a_ald, a_gr, a_icge, a_ild, a_ist, a_push, a_zret, fx_71_0 hx, sh_71, sh_72, pu_rv, pu_as, Value.category, pu_bk, pu_kl, pu_qe0, pu_qe1, rl_h4 hr, hc, z]
theorem r_isUsed (hx : pu_fx M) (hr : pu_Rel I L (M.1 72)) (hw : pu_WF I L) (st : Nat) (v : Int32) : pu_r 278 [some (.ref 71), some (.int (nI st)), some (.int v)] [] M = some (some (.int (pu_q (pz_us I st v 0))), M) := by
  have e := r_isUsed_l hx hr hw st v (cD I) 0 none (by omega)
  rw [nI_0] at e
  rw [qX12_isUsed]
  simp [a_ent, bX12_isUsed_0, a_ist, a_push, pu_rv, pu_as, Value.category, pu_bk, pu_kl, List.replicate, pu_wi_1, pu_wi_2, nl_add, nl_ladd, nl_aa, nl_mul, nl_rmul, nl_mm, pu_qe0, pu_qe1, e]
  all_goals try simp (maxSteps := 400000) (disch := omega) [nl_tle, nl_fle, nl_tlt, nl_flt, nl_teq, nl_feq, nl_sub, nl_ss, nl_lt, nl_llt, nl_ltt, nl_le, nl_lle, nl_lee, nl_eq, nl_leq, nl_ee, nl_div, nl_rem, nl_cl, nl_n1, nl_n2, nl_n3, nl_n4, nl_add, nl_ladd, nl_aa, nl_mul, nl_rmul, nl_mm, pu_wi_1, pu_wi_2, bX12_isUsed_0, a_ist, a_push, pu_rv, pu_as, Value.category, pu_bk, pu_kl, pu_qe0, pu_qe1, e]
  all_goals try simp [bX12_isUsed_0, a_ist, a_push, pu_rv, pu_as, Value.category, pu_bk, pu_kl, List.replicate, pu_wi_1, pu_wi_2, nl_add, nl_ladd, nl_aa, nl_mul, nl_rmul, nl_mm, pu_qe0, pu_qe1, e]
  all_goals try simp (maxSteps := 400000) (disch := omega) [nl_tle, nl_fle, nl_tlt, nl_flt, nl_teq, nl_feq, nl_sub, nl_ss, nl_lt, nl_llt, nl_ltt, nl_le, nl_lle, nl_lee, nl_eq, nl_leq, nl_ee, nl_div, nl_rem, nl_cl, nl_n1, nl_n2, nl_n3, nl_n4, nl_add, nl_ladd, nl_aa, nl_mul, nl_rmul, nl_mm, pu_wi_1, pu_wi_2, bX12_isUsed_0, a_ist, a_push, pu_rv, pu_as, Value.category, pu_bk, pu_kl, pu_qe0, pu_qe1, e]
/-- a place is taken in a street -/
def pz_oc (I : Nat → Nat → Int32) (st : Nat) (sd pc : Int32) (J : Nat) : Prop := ∃ k, k < cU I ∧ I 39 (pu_sl0 I k) = nI st ∧ I 18 k = -1 ∧ I 40 (pu_sl0 I k) = sd ∧ I 41 (pu_sl0 I k) = pc ∧ J ≤ pu_sl0 I k
theorem r_isOcc_i (hx : pu_fx M) (hr : pu_Rel I L (M.1 72)) (hw : pu_WF I L) (d w st : Nat) (hd : d < cD I) (hw2 : w < 2) (sd pc : Int32) : (pz_oc I st sd pc (2 * d + w) ∧ pu_r 465 [some (.ref 71), some (.int (nI st)), some (.int sd), some (.int pc), some (.int (nI d)), some (.int (nI w))] [] M = some (some (.int 1), M)) ∨ (pz_oc I st sd pc (2 * d + w) = pz_oc I st sd pc (2 * d + w + 1) ∧ pu_r 465 [some (.ref 71), some (.int (nI st)), some (.int sd), some (.int pc), some (.int (nI d)), some (.int (nI w))] [] M = pu_r 465 [some (.ref 71), some (.int (nI st)), some (.int sd), some (.int pc), some (.int (nI d)), some (.int (nI (w + 1)))] [] M) := by
  have hc : ¬ 2 ≤ nI w := nI_ge (b := 2) (by omega) (by omega)
  have e3 := r_streetAt hx hr hw d w hd hw2
  have e4 := r_sideAt hx hr hw d w hd hw2
  have e5 := r_pacesAt hx hr hw d w hd hw2
  have st1 : ∀ (P : Prop), ¬ P → (∀ k, k < cU I → I 39 (pu_sl0 I k) = nI st → I 18 k = -1 → I 40 (pu_sl0 I k) = sd → I 41 (pu_sl0 I k) = pc → pu_sl0 I k = 2 * d + w → P) → pz_oc I st sd pc (2 * d + w) = pz_oc I st sd pc (2 * d + w + 1) := fun P h1 h2 => by
    apply propext
    constructor
    · rintro ⟨k, k1, k2, k3, k4, k5, k6⟩
      refine ⟨k, k1, k2, k3, k4, k5, ?_⟩
      have : pu_sl0 I k ≠ 2 * d + w := fun e => h1 (h2 k k1 k2 k3 k4 k5 e)
      omega
    · rintro ⟨k, k1, k2, k3, k4, k5, k6⟩
      exact ⟨k, k1, k2, k3, k4, k5, by omega⟩
  rcases r_open3 hx hr hw d w st hd hw2 with ⟨k, hk, k1, k2, k3, k4⟩ | ⟨h1, h2⟩
  · by_cases c : I 40 (2 * d + w) = sd
    · by_cases c2 : I 41 (2 * d + w) = pc
      · refine Or.inl ⟨⟨k, hk.1, by rw [hk.2.1]; exact k1, hk.2.2, by rw [hk.2.1]; exact c, by rw [hk.2.1]; exact c2, by rw [hk.2.1]; exact Nat.le_refl _⟩, ?_⟩
        rw [qX12_isOccupied_17]
        simp [bX12_isOccupied_17, bX12_isOccupied_87, bX12_isOccupied_81, bX12_isOccupied_67, a_ald, a_cv, a_icge, a_icne, a_ifeq, a_ild, a_inc, a_push, a_zret, sh_71, pu_rv, pu_as, Value.category, pu_bk, pu_kl, List.replicate, pu_wi_1, pu_wi_2, nl_add, nl_ladd, nl_aa, nl_mul, nl_rmul, nl_mm, pu_qe0, pu_qe1, hc, k2, k3, e3, k1, e4, c, e5, c2]
        all_goals try simp (maxSteps := 400000) (disch := omega) [nl_tle, nl_fle, nl_tlt, nl_flt, nl_teq, nl_feq, nl_sub, nl_ss, nl_lt, nl_llt, nl_ltt, nl_le, nl_lle, nl_lee, nl_eq, nl_leq, nl_ee, nl_div, nl_rem, nl_cl, nl_n1, nl_n2, nl_n3, nl_n4, nl_add, nl_ladd, nl_aa, nl_mul, nl_rmul, nl_mm, pu_wi_1, pu_wi_2, bX12_isOccupied_17, bX12_isOccupied_87, bX12_isOccupied_81, bX12_isOccupied_67, a_ald, a_cv, a_icge, a_icne, a_ifeq, a_ild, a_inc, a_push, a_zret, sh_71, pu_rv, pu_as, Value.category, pu_bk, pu_kl, pu_qe0, pu_qe1, hc, k2, k3, e3, k1, e4, c, e5, c2]
        all_goals try simp [bX12_isOccupied_17, bX12_isOccupied_87, bX12_isOccupied_81, bX12_isOccupied_67, a_ald, a_cv, a_icge, a_icne, a_ifeq, a_ild, a_inc, a_push, a_zret, sh_71, pu_rv, pu_as, Value.category, pu_bk, pu_kl, List.replicate, pu_wi_1, pu_wi_2, nl_add, nl_ladd, nl_aa, nl_mul, nl_rmul, nl_mm, pu_qe0, pu_qe1, hc, k2, k3, e3, k1, e4, c, e5, c2]
        all_goals try simp (maxSteps := 400000) (disch := omega) [nl_tle, nl_fle, nl_tlt, nl_flt, nl_teq, nl_feq, nl_sub, nl_ss, nl_lt, nl_llt, nl_ltt, nl_le, nl_lle, nl_lee, nl_eq, nl_leq, nl_ee, nl_div, nl_rem, nl_cl, nl_n1, nl_n2, nl_n3, nl_n4, nl_add, nl_ladd, nl_aa, nl_mul, nl_rmul, nl_mm, pu_wi_1, pu_wi_2, bX12_isOccupied_17, bX12_isOccupied_87, bX12_isOccupied_81, bX12_isOccupied_67, a_ald, a_cv, a_icge, a_icne, a_ifeq, a_ild, a_inc, a_push, a_zret, sh_71, pu_rv, pu_as, Value.category, pu_bk, pu_kl, pu_qe0, pu_qe1, hc, k2, k3, e3, k1, e4, c, e5, c2]
      · refine Or.inr ⟨st1 (I 41 (2 * d + w) = pc) c2 (fun l l1 l2 l3 l4 l5 l6 => by rw [← l6]; exact l5), ?_⟩
        rw [qX12_isOccupied_17]
        simp [bX12_isOccupied_17, bX12_isOccupied_87, bX12_isOccupied_81, bX12_isOccupied_67, a_ald, a_cv, a_icge, a_icne, a_ifeq, a_ild, a_inc, a_push, a_zret, sh_71, pu_rv, pu_as, Value.category, pu_bk, pu_kl, List.replicate, pu_wi_1, pu_wi_2, nl_add, nl_ladd, nl_aa, nl_mul, nl_rmul, nl_mm, pu_qe0, pu_qe1, hc, k2, k3, e3, k1, e4, c, e5, c2]
        all_goals try simp (maxSteps := 400000) (disch := omega) [nl_tle, nl_fle, nl_tlt, nl_flt, nl_teq, nl_feq, nl_sub, nl_ss, nl_lt, nl_llt, nl_ltt, nl_le, nl_lle, nl_lee, nl_eq, nl_leq, nl_ee, nl_div, nl_rem, nl_cl, nl_n1, nl_n2, nl_n3, nl_n4, nl_add, nl_ladd, nl_aa, nl_mul, nl_rmul, nl_mm, pu_wi_1, pu_wi_2, bX12_isOccupied_17, bX12_isOccupied_87, bX12_isOccupied_81, bX12_isOccupied_67, a_ald, a_cv, a_icge, a_icne, a_ifeq, a_ild, a_inc, a_push, a_zret, sh_71, pu_rv, pu_as, Value.category, pu_bk, pu_kl, pu_qe0, pu_qe1, hc, k2, k3, e3, k1, e4, c, e5, c2]
        all_goals try simp [bX12_isOccupied_17, bX12_isOccupied_87, bX12_isOccupied_81, bX12_isOccupied_67, a_ald, a_cv, a_icge, a_icne, a_ifeq, a_ild, a_inc, a_push, a_zret, sh_71, pu_rv, pu_as, Value.category, pu_bk, pu_kl, List.replicate, pu_wi_1, pu_wi_2, nl_add, nl_ladd, nl_aa, nl_mul, nl_rmul, nl_mm, pu_qe0, pu_qe1, hc, k2, k3, e3, k1, e4, c, e5, c2]
        all_goals try simp (maxSteps := 400000) (disch := omega) [nl_tle, nl_fle, nl_tlt, nl_flt, nl_teq, nl_feq, nl_sub, nl_ss, nl_lt, nl_llt, nl_ltt, nl_le, nl_lle, nl_lee, nl_eq, nl_leq, nl_ee, nl_div, nl_rem, nl_cl, nl_n1, nl_n2, nl_n3, nl_n4, nl_add, nl_ladd, nl_aa, nl_mul, nl_rmul, nl_mm, pu_wi_1, pu_wi_2, bX12_isOccupied_17, bX12_isOccupied_87, bX12_isOccupied_81, bX12_isOccupied_67, a_ald, a_cv, a_icge, a_icne, a_ifeq, a_ild, a_inc, a_push, a_zret, sh_71, pu_rv, pu_as, Value.category, pu_bk, pu_kl, pu_qe0, pu_qe1, hc, k2, k3, e3, k1, e4, c, e5, c2]
    · refine Or.inr ⟨st1 (I 40 (2 * d + w) = sd) c (fun l l1 l2 l3 l4 l5 l6 => by rw [← l6]; exact l4), ?_⟩
      rw [qX12_isOccupied_17]
      simp [bX12_isOccupied_17, bX12_isOccupied_87, bX12_isOccupied_81, bX12_isOccupied_67, a_ald, a_cv, a_icge, a_icne, a_ifeq, a_ild, a_inc, a_push, a_zret, sh_71, pu_rv, pu_as, Value.category, pu_bk, pu_kl, List.replicate, pu_wi_1, pu_wi_2, nl_add, nl_ladd, nl_aa, nl_mul, nl_rmul, nl_mm, pu_qe0, pu_qe1, hc, k2, k3, e3, k1, e4, c]
      all_goals try simp (maxSteps := 400000) (disch := omega) [nl_tle, nl_fle, nl_tlt, nl_flt, nl_teq, nl_feq, nl_sub, nl_ss, nl_lt, nl_llt, nl_ltt, nl_le, nl_lle, nl_lee, nl_eq, nl_leq, nl_ee, nl_div, nl_rem, nl_cl, nl_n1, nl_n2, nl_n3, nl_n4, nl_add, nl_ladd, nl_aa, nl_mul, nl_rmul, nl_mm, pu_wi_1, pu_wi_2, bX12_isOccupied_17, bX12_isOccupied_87, bX12_isOccupied_81, bX12_isOccupied_67, a_ald, a_cv, a_icge, a_icne, a_ifeq, a_ild, a_inc, a_push, a_zret, sh_71, pu_rv, pu_as, Value.category, pu_bk, pu_kl, pu_qe0, pu_qe1, hc, k2, k3, e3, k1, e4, c]
      all_goals try simp [bX12_isOccupied_17, bX12_isOccupied_87, bX12_isOccupied_81, bX12_isOccupied_67, a_ald, a_cv, a_icge, a_icne, a_ifeq, a_ild, a_inc, a_push, a_zret, sh_71, pu_rv, pu_as, Value.category, pu_bk, pu_kl, List.replicate, pu_wi_1, pu_wi_2, nl_add, nl_ladd, nl_aa, nl_mul, nl_rmul, nl_mm, pu_qe0, pu_qe1, hc, k2, k3, e3, k1, e4, c]
      all_goals try simp (maxSteps := 400000) (disch := omega) [nl_tle, nl_fle, nl_tlt, nl_flt, nl_teq, nl_feq, nl_sub, nl_ss, nl_lt, nl_llt, nl_ltt, nl_le, nl_lle, nl_lee, nl_eq, nl_leq, nl_ee, nl_div, nl_rem, nl_cl, nl_n1, nl_n2, nl_n3, nl_n4, nl_add, nl_ladd, nl_aa, nl_mul, nl_rmul, nl_mm, pu_wi_1, pu_wi_2, bX12_isOccupied_17, bX12_isOccupied_87, bX12_isOccupied_81, bX12_isOccupied_67, a_ald, a_cv, a_icge, a_icne, a_ifeq, a_ild, a_inc, a_push, a_zret, sh_71, pu_rv, pu_as, Value.category, pu_bk, pu_kl, pu_qe0, pu_qe1, hc, k2, k3, e3, k1, e4, c]
  · refine Or.inr ⟨st1 False (fun z => z) (fun l l1 l2 l3 l4 l5 l6 => h1 l ⟨l1, l6, l3⟩ (by rw [← l6]; exact l2)), ?_⟩
    rcases h2 with h2 | ⟨h2, h3 | ⟨h3, h4⟩⟩
    · rw [qX12_isOccupied_17]
      simp [bX12_isOccupied_17, bX12_isOccupied_87, bX12_isOccupied_81, bX12_isOccupied_67, a_ald, a_cv, a_icge, a_icne, a_ifeq, a_ild, a_inc, a_push, a_zret, sh_71, pu_rv, pu_as, Value.category, pu_bk, pu_kl, List.replicate, pu_wi_1, pu_wi_2, nl_add, nl_ladd, nl_aa, nl_mul, nl_rmul, nl_mm, pu_qe0, pu_qe1, hc, h2]
      all_goals try simp (maxSteps := 400000) (disch := omega) [nl_tle, nl_fle, nl_tlt, nl_flt, nl_teq, nl_feq, nl_sub, nl_ss, nl_lt, nl_llt, nl_ltt, nl_le, nl_lle, nl_lee, nl_eq, nl_leq, nl_ee, nl_div, nl_rem, nl_cl, nl_n1, nl_n2, nl_n3, nl_n4, nl_add, nl_ladd, nl_aa, nl_mul, nl_rmul, nl_mm, pu_wi_1, pu_wi_2, bX12_isOccupied_17, bX12_isOccupied_87, bX12_isOccupied_81, bX12_isOccupied_67, a_ald, a_cv, a_icge, a_icne, a_ifeq, a_ild, a_inc, a_push, a_zret, sh_71, pu_rv, pu_as, Value.category, pu_bk, pu_kl, pu_qe0, pu_qe1, hc, h2]
      all_goals try simp [bX12_isOccupied_17, bX12_isOccupied_87, bX12_isOccupied_81, bX12_isOccupied_67, a_ald, a_cv, a_icge, a_icne, a_ifeq, a_ild, a_inc, a_push, a_zret, sh_71, pu_rv, pu_as, Value.category, pu_bk, pu_kl, List.replicate, pu_wi_1, pu_wi_2, nl_add, nl_ladd, nl_aa, nl_mul, nl_rmul, nl_mm, pu_qe0, pu_qe1, hc, h2]
      all_goals try simp (maxSteps := 400000) (disch := omega) [nl_tle, nl_fle, nl_tlt, nl_flt, nl_teq, nl_feq, nl_sub, nl_ss, nl_lt, nl_llt, nl_ltt, nl_le, nl_lle, nl_lee, nl_eq, nl_leq, nl_ee, nl_div, nl_rem, nl_cl, nl_n1, nl_n2, nl_n3, nl_n4, nl_add, nl_ladd, nl_aa, nl_mul, nl_rmul, nl_mm, pu_wi_1, pu_wi_2, bX12_isOccupied_17, bX12_isOccupied_87, bX12_isOccupied_81, bX12_isOccupied_67, a_ald, a_cv, a_icge, a_icne, a_ifeq, a_ild, a_inc, a_push, a_zret, sh_71, pu_rv, pu_as, Value.category, pu_bk, pu_kl, pu_qe0, pu_qe1, hc, h2]
    · rw [qX12_isOccupied_17]
      simp [bX12_isOccupied_17, bX12_isOccupied_87, bX12_isOccupied_81, bX12_isOccupied_67, a_ald, a_cv, a_icge, a_icne, a_ifeq, a_ild, a_inc, a_push, a_zret, sh_71, pu_rv, pu_as, Value.category, pu_bk, pu_kl, List.replicate, pu_wi_1, pu_wi_2, nl_add, nl_ladd, nl_aa, nl_mul, nl_rmul, nl_mm, pu_qe0, pu_qe1, hc, h2, h3]
      all_goals try simp (maxSteps := 400000) (disch := omega) [nl_tle, nl_fle, nl_tlt, nl_flt, nl_teq, nl_feq, nl_sub, nl_ss, nl_lt, nl_llt, nl_ltt, nl_le, nl_lle, nl_lee, nl_eq, nl_leq, nl_ee, nl_div, nl_rem, nl_cl, nl_n1, nl_n2, nl_n3, nl_n4, nl_add, nl_ladd, nl_aa, nl_mul, nl_rmul, nl_mm, pu_wi_1, pu_wi_2, bX12_isOccupied_17, bX12_isOccupied_87, bX12_isOccupied_81, bX12_isOccupied_67, a_ald, a_cv, a_icge, a_icne, a_ifeq, a_ild, a_inc, a_push, a_zret, sh_71, pu_rv, pu_as, Value.category, pu_bk, pu_kl, pu_qe0, pu_qe1, hc, h2, h3]
      all_goals try simp [bX12_isOccupied_17, bX12_isOccupied_87, bX12_isOccupied_81, bX12_isOccupied_67, a_ald, a_cv, a_icge, a_icne, a_ifeq, a_ild, a_inc, a_push, a_zret, sh_71, pu_rv, pu_as, Value.category, pu_bk, pu_kl, List.replicate, pu_wi_1, pu_wi_2, nl_add, nl_ladd, nl_aa, nl_mul, nl_rmul, nl_mm, pu_qe0, pu_qe1, hc, h2, h3]
      all_goals try simp (maxSteps := 400000) (disch := omega) [nl_tle, nl_fle, nl_tlt, nl_flt, nl_teq, nl_feq, nl_sub, nl_ss, nl_lt, nl_llt, nl_ltt, nl_le, nl_lle, nl_lee, nl_eq, nl_leq, nl_ee, nl_div, nl_rem, nl_cl, nl_n1, nl_n2, nl_n3, nl_n4, nl_add, nl_ladd, nl_aa, nl_mul, nl_rmul, nl_mm, pu_wi_1, pu_wi_2, bX12_isOccupied_17, bX12_isOccupied_87, bX12_isOccupied_81, bX12_isOccupied_67, a_ald, a_cv, a_icge, a_icne, a_ifeq, a_ild, a_inc, a_push, a_zret, sh_71, pu_rv, pu_as, Value.category, pu_bk, pu_kl, pu_qe0, pu_qe1, hc, h2, h3]
    · rw [qX12_isOccupied_17]
      simp [bX12_isOccupied_17, bX12_isOccupied_87, bX12_isOccupied_81, bX12_isOccupied_67, a_ald, a_cv, a_icge, a_icne, a_ifeq, a_ild, a_inc, a_push, a_zret, sh_71, pu_rv, pu_as, Value.category, pu_bk, pu_kl, List.replicate, pu_wi_1, pu_wi_2, nl_add, nl_ladd, nl_aa, nl_mul, nl_rmul, nl_mm, pu_qe0, pu_qe1, hc, h2, h3, e3, h4]
      all_goals try simp (maxSteps := 400000) (disch := omega) [nl_tle, nl_fle, nl_tlt, nl_flt, nl_teq, nl_feq, nl_sub, nl_ss, nl_lt, nl_llt, nl_ltt, nl_le, nl_lle, nl_lee, nl_eq, nl_leq, nl_ee, nl_div, nl_rem, nl_cl, nl_n1, nl_n2, nl_n3, nl_n4, nl_add, nl_ladd, nl_aa, nl_mul, nl_rmul, nl_mm, pu_wi_1, pu_wi_2, bX12_isOccupied_17, bX12_isOccupied_87, bX12_isOccupied_81, bX12_isOccupied_67, a_ald, a_cv, a_icge, a_icne, a_ifeq, a_ild, a_inc, a_push, a_zret, sh_71, pu_rv, pu_as, Value.category, pu_bk, pu_kl, pu_qe0, pu_qe1, hc, h2, h3, e3, h4]
      all_goals try simp [bX12_isOccupied_17, bX12_isOccupied_87, bX12_isOccupied_81, bX12_isOccupied_67, a_ald, a_cv, a_icge, a_icne, a_ifeq, a_ild, a_inc, a_push, a_zret, sh_71, pu_rv, pu_as, Value.category, pu_bk, pu_kl, List.replicate, pu_wi_1, pu_wi_2, nl_add, nl_ladd, nl_aa, nl_mul, nl_rmul, nl_mm, pu_qe0, pu_qe1, hc, h2, h3, e3, h4]
      all_goals try simp (maxSteps := 400000) (disch := omega) [nl_tle, nl_fle, nl_tlt, nl_flt, nl_teq, nl_feq, nl_sub, nl_ss, nl_lt, nl_llt, nl_ltt, nl_le, nl_lle, nl_lee, nl_eq, nl_leq, nl_ee, nl_div, nl_rem, nl_cl, nl_n1, nl_n2, nl_n3, nl_n4, nl_add, nl_ladd, nl_aa, nl_mul, nl_rmul, nl_mm, pu_wi_1, pu_wi_2, bX12_isOccupied_17, bX12_isOccupied_87, bX12_isOccupied_81, bX12_isOccupied_67, a_ald, a_cv, a_icge, a_icne, a_ifeq, a_ild, a_inc, a_push, a_zret, sh_71, pu_rv, pu_as, Value.category, pu_bk, pu_kl, pu_qe0, pu_qe1, hc, h2, h3, e3, h4]
theorem r_isOcc_l (hx : pu_fx M) (hr : pu_Rel I L (M.1 72)) (hw : pu_WF I L) (st : Nat) (sd pc : Int32) : ∀ (m d : Nat) (t : Option Value), d + m = cD I → pu_r 464 [some (.ref 71), some (.int (nI st)), some (.int sd), some (.int pc), some (.int (nI d)), t] [] M = some (some (.int (pu_q (pz_oc I st sd pc (2 * d)))), M)
  | 0, d, t, h => by
    have hD := wx_bD hw
    have hc : nI (cD I) ≤ nI d := nI_le (by omega) (by omega)
    rw [pu_q0 (fun ⟨k, k1, _, _, _, _, k5⟩ => by have := (pu_sl_lt hw k1).1; omega)]
    rw [qX12_isOccupied_3]
    simp [bX12_isOccupied_3, bX12_isOccupied_93, a_ai, a_ald, a_gr, a_icge, a_ild, a_ist, a_push, a_zret, fx_71_0 hx, sh_71, sh_72, pu_rv, pu_as, Value.category, pu_bk, pu_kl, List.replicate, pu_wi_1, pu_wi_2, nl_add, nl_ladd, nl_aa, nl_mul, nl_rmul, nl_mm, pu_qe0, pu_qe1, rl_h4 hr, hc]
    all_goals try simp (maxSteps := 400000) (disch := omega) [nl_tle, nl_fle, nl_tlt, nl_flt, nl_teq, nl_feq, nl_sub, nl_ss, nl_lt, nl_llt, nl_ltt, nl_le, nl_lle, nl_lee, nl_eq, nl_leq, nl_ee, nl_div, nl_rem, nl_cl, nl_n1, nl_n2, nl_n3, nl_n4, nl_add, nl_ladd, nl_aa, nl_mul, nl_rmul, nl_mm, pu_wi_1, pu_wi_2, bX12_isOccupied_3, bX12_isOccupied_93, a_ai, a_ald, a_gr, a_icge, a_ild, a_ist, a_push, a_zret, fx_71_0 hx, sh_71, sh_72, pu_rv, pu_as, Value.category, pu_bk, pu_kl, pu_qe0, pu_qe1, rl_h4 hr, hc]
    all_goals try simp [bX12_isOccupied_3, bX12_isOccupied_93, a_ai, a_ald, a_gr, a_icge, a_ild, a_ist, a_push, a_zret, fx_71_0 hx, sh_71, sh_72, pu_rv, pu_as, Value.category, pu_bk, pu_kl, List.replicate, pu_wi_1, pu_wi_2, nl_add, nl_ladd, nl_aa, nl_mul, nl_rmul, nl_mm, pu_qe0, pu_qe1, rl_h4 hr, hc]
    all_goals try simp (maxSteps := 400000) (disch := omega) [nl_tle, nl_fle, nl_tlt, nl_flt, nl_teq, nl_feq, nl_sub, nl_ss, nl_lt, nl_llt, nl_ltt, nl_le, nl_lle, nl_lee, nl_eq, nl_leq, nl_ee, nl_div, nl_rem, nl_cl, nl_n1, nl_n2, nl_n3, nl_n4, nl_add, nl_ladd, nl_aa, nl_mul, nl_rmul, nl_mm, pu_wi_1, pu_wi_2, bX12_isOccupied_3, bX12_isOccupied_93, a_ai, a_ald, a_gr, a_icge, a_ild, a_ist, a_push, a_zret, fx_71_0 hx, sh_71, sh_72, pu_rv, pu_as, Value.category, pu_bk, pu_kl, pu_qe0, pu_qe1, rl_h4 hr, hc]
  | m + 1, d, t, h => by
    have hD := wx_bD hw
    have hc : ¬ nI (cD I) ≤ nI d := nI_ge (by omega) (by omega)
    have ih := r_isOcc_l hx hr hw st sd pc m (d + 1) (some (.int (nI (1 + 1)))) (by omega)
    have h2 : 2 ≤ nI (1 + 1) := by decide
    have z : pu_r 465 [some (.ref 71), some (.int (nI st)), some (.int sd), some (.int pc), some (.int (nI d)), some (.int (nI 0))] [] M = some (some (.int (pu_q (pz_oc I st sd pc (2 * d)))), M) := by
      rcases r_isOcc_i hx hr hw d 0 st (by omega) (by omega) sd pc with ⟨a1, a2⟩ | ⟨a1, a2⟩
      · rw [a2, pu_q1 (show pz_oc I st sd pc (2 * d) from a1)]
      · rw [a2, show pz_oc I st sd pc (2 * d) = pz_oc I st sd pc (2 * d + 1) from a1]
        rcases r_isOcc_i hx hr hw d 1 st (by omega) (by omega) sd pc with ⟨b1, b2⟩ | ⟨b1, b2⟩
        · rw [b2, pu_q1 b1]
        · rw [b2, b1, show 2 * d + 1 + 1 = 2 * (d + 1) by omega, ← ih]
          rw [qX12_isOccupied_17]
          simp [bX12_isOccupied_17, bX12_isOccupied_87, bX12_isOccupied_81, bX12_isOccupied_67, a_ald, a_cv, a_icge, a_icne, a_ifeq, a_ild, a_inc, a_push, a_zret, sh_71, pu_rv, pu_as, Value.category, pu_bk, pu_kl, List.replicate, pu_wi_1, pu_wi_2, nl_add, nl_ladd, nl_aa, nl_mul, nl_rmul, nl_mm, pu_qe0, pu_qe1, h2]
          all_goals try simp (maxSteps := 400000) (disch := omega) [nl_tle, nl_fle, nl_tlt, nl_flt, nl_teq, nl_feq, nl_sub, nl_ss, nl_lt, nl_llt, nl_ltt, nl_le, nl_lle, nl_lee, nl_eq, nl_leq, nl_ee, nl_div, nl_rem, nl_cl, nl_n1, nl_n2, nl_n3, nl_n4, nl_add, nl_ladd, nl_aa, nl_mul, nl_rmul, nl_mm, pu_wi_1, pu_wi_2, bX12_isOccupied_17, bX12_isOccupied_87, bX12_isOccupied_81, bX12_isOccupied_67, a_ald, a_cv, a_icge, a_icne, a_ifeq, a_ild, a_inc, a_push, a_zret, sh_71, pu_rv, pu_as, Value.category, pu_bk, pu_kl, pu_qe0, pu_qe1, h2]
          all_goals try simp [bX12_isOccupied_17, bX12_isOccupied_87, bX12_isOccupied_81, bX12_isOccupied_67, a_ald, a_cv, a_icge, a_icne, a_ifeq, a_ild, a_inc, a_push, a_zret, sh_71, pu_rv, pu_as, Value.category, pu_bk, pu_kl, List.replicate, pu_wi_1, pu_wi_2, nl_add, nl_ladd, nl_aa, nl_mul, nl_rmul, nl_mm, pu_qe0, pu_qe1, h2]
          all_goals try simp (maxSteps := 400000) (disch := omega) [nl_tle, nl_fle, nl_tlt, nl_flt, nl_teq, nl_feq, nl_sub, nl_ss, nl_lt, nl_llt, nl_ltt, nl_le, nl_lle, nl_lee, nl_eq, nl_leq, nl_ee, nl_div, nl_rem, nl_cl, nl_n1, nl_n2, nl_n3, nl_n4, nl_add, nl_ladd, nl_aa, nl_mul, nl_rmul, nl_mm, pu_wi_1, pu_wi_2, bX12_isOccupied_17, bX12_isOccupied_87, bX12_isOccupied_81, bX12_isOccupied_67, a_ald, a_cv, a_icge, a_icne, a_ifeq, a_ild, a_inc, a_push, a_zret, sh_71, pu_rv, pu_as, Value.category, pu_bk, pu_kl, pu_qe0, pu_qe1, h2]
    rw [nI_0] at z
    rw [qX12_isOccupied_3]
    simp [bX12_isOccupied_3, bX12_isOccupied_93, a_ai, a_ald, a_gr, a_icge, a_ild, a_ist, a_push, a_zret, fx_71_0 hx, sh_71, sh_72, pu_rv, pu_as, Value.category, pu_bk, pu_kl, List.replicate, pu_wi_1, pu_wi_2, nl_add, nl_ladd, nl_aa, nl_mul, nl_rmul, nl_mm, pu_qe0, pu_qe1, rl_h4 hr, hc, z]
    all_goals try simp (maxSteps := 400000) (disch := omega) [nl_tle, nl_fle, nl_tlt, nl_flt, nl_teq, nl_feq, nl_sub, nl_ss, nl_lt, nl_llt, nl_ltt, nl_le, nl_lle, nl_lee, nl_eq, nl_leq, nl_ee, nl_div, nl_rem, nl_cl, nl_n1, nl_n2, nl_n3, nl_n4, nl_add, nl_ladd, nl_aa, nl_mul, nl_rmul, nl_mm, pu_wi_1, pu_wi_2, bX12_isOccupied_3, bX12_isOccupied_93, a_ai, a_ald, a_gr, a_icge, a_ild, a_ist, a_push, a_zret, fx_71_0 hx, sh_71, sh_72, pu_rv, pu_as, Value.category, pu_bk, pu_kl, pu_qe0, pu_qe1, rl_h4 hr, hc, z]
    all_goals try simp [bX12_isOccupied_3, bX12_isOccupied_93, a_ai, a_ald, a_gr, a_icge, a_ild, a_ist, a_push, a_zret, fx_71_0 hx, sh_71, sh_72, pu_rv, pu_as, Value.category, pu_bk, pu_kl, List.replicate, pu_wi_1, pu_wi_2, nl_add, nl_ladd, nl_aa, nl_mul, nl_rmul, nl_mm, pu_qe0, pu_qe1, rl_h4 hr, hc, z]
    all_goals try simp (maxSteps := 400000) (disch := omega) [nl_tle, nl_fle, nl_tlt, nl_flt, nl_teq, nl_feq, nl_sub, nl_ss, nl_lt, nl_llt, nl_ltt, nl_le, nl_lle, nl_lee, nl_eq, nl_leq, nl_ee, nl_div, nl_rem, nl_cl, nl_n1, nl_n2, nl_n3, nl_n4, nl_add, nl_ladd, nl_aa, nl_mul, nl_rmul, nl_mm, pu_wi_1, pu_wi_2, bX12_isOccupied_3, bX12_isOccupied_93, a_ai, a_ald, a_gr, a_icge, a_ild, a_ist, a_push, a_zret, fx_71_0 hx, sh_71, sh_72, pu_rv, pu_as, Value.category, pu_bk, pu_kl, pu_qe0, pu_qe1, rl_h4 hr, hc, z]
theorem r_isOccupied (hx : pu_fx M) (hr : pu_Rel I L (M.1 72)) (hw : pu_WF I L) (st : Nat) (sd pc : Int32) : pu_r 282 [some (.ref 71), some (.int (nI st)), some (.int sd), some (.int pc)] [] M = some (some (.int (pu_q (pz_oc I st sd pc 0))), M) := by
  have e := r_isOcc_l hx hr hw st sd pc (cD I) 0 none (by omega)
  rw [nI_0] at e
  rw [qX12_isOccupied]
  simp [a_ent, bX12_isOccupied_0, a_ist, a_push, pu_rv, pu_as, Value.category, pu_bk, pu_kl, List.replicate, pu_wi_1, pu_wi_2, nl_add, nl_ladd, nl_aa, nl_mul, nl_rmul, nl_mm, pu_qe0, pu_qe1, e]
  all_goals try simp (maxSteps := 400000) (disch := omega) [nl_tle, nl_fle, nl_tlt, nl_flt, nl_teq, nl_feq, nl_sub, nl_ss, nl_lt, nl_llt, nl_ltt, nl_le, nl_lle, nl_lee, nl_eq, nl_leq, nl_ee, nl_div, nl_rem, nl_cl, nl_n1, nl_n2, nl_n3, nl_n4, nl_add, nl_ladd, nl_aa, nl_mul, nl_rmul, nl_mm, pu_wi_1, pu_wi_2, bX12_isOccupied_0, a_ist, a_push, pu_rv, pu_as, Value.category, pu_bk, pu_kl, pu_qe0, pu_qe1, e]
  all_goals try simp [bX12_isOccupied_0, a_ist, a_push, pu_rv, pu_as, Value.category, pu_bk, pu_kl, List.replicate, pu_wi_1, pu_wi_2, nl_add, nl_ladd, nl_aa, nl_mul, nl_rmul, nl_mm, pu_qe0, pu_qe1, e]
  all_goals try simp (maxSteps := 400000) (disch := omega) [nl_tle, nl_fle, nl_tlt, nl_flt, nl_teq, nl_feq, nl_sub, nl_ss, nl_lt, nl_llt, nl_ltt, nl_le, nl_lle, nl_lee, nl_eq, nl_leq, nl_ee, nl_div, nl_rem, nl_cl, nl_n1, nl_n2, nl_n3, nl_n4, nl_add, nl_ladd, nl_aa, nl_mul, nl_rmul, nl_mm, pu_wi_1, pu_wi_2, bX12_isOccupied_0, a_ist, a_push, pu_rv, pu_as, Value.category, pu_bk, pu_kl, pu_qe0, pu_qe1, e]
/-- what a rule allows of the digits -/
def pz_mb (r s p g : Nat) : Prop := (r = 0 → g % 2 = 1 - s) ∧ (r = 2 → g = 2 * (p / 10) + 1 + s)
theorem r_mayBe (r s p g : Nat) (hr : r < 4) (hs : s < 2) (hp : p < 10000) (hg : g < 20000) (M : pu_M) : pu_r 279 [some (.int (nI r)), some (.int (nI s)), some (.int (nI p)), some (.int (nI g))] [] M = some (some (.int (pu_q (pz_mb r s p g))), M) := by
  unfold pz_mb
  have e0 : (nI r = 0) = (r = 0) := propext (nI_eq (b := 0) (by omega) (by omega))
  have e2 : (nI r = 2) = (r = 2) := propext (nI_eq (b := 2) (by omega) (by omega))
  by_cases c : r = 0
  · subst c
    have s1 : (1 : Int32) - nI s = nI (1 - s) := pk_sub (a := 1) (by omega)
    rw [qX12_mayBe]
    simp [a_ent, bX12_mayBe_0, bX12_mayBe_19, bX12_mayBe_44, bX12_mayBe_42, bX12_mayBe_43, bX12_mayBe_17, bX12_mayBe_18, a_iadd, a_icne, a_idiv, a_ifne, a_ild, a_imul, a_irem, a_isub, a_push, a_zret, pu_rv, pu_as, Value.category, pu_bk, pu_kl, List.replicate, pu_wi_1, pu_wi_2, nl_add, nl_ladd, nl_aa, nl_mul, nl_rmul, nl_mm, pu_qe0, pu_qe1, s1]
    all_goals try simp (maxSteps := 400000) (disch := omega) [nl_tle, nl_fle, nl_tlt, nl_flt, nl_teq, nl_feq, nl_sub, nl_ss, nl_lt, nl_llt, nl_ltt, nl_le, nl_lle, nl_lee, nl_eq, nl_leq, nl_ee, nl_div, nl_rem, nl_cl, nl_n1, nl_n2, nl_n3, nl_n4, nl_add, nl_ladd, nl_aa, nl_mul, nl_rmul, nl_mm, pu_wi_1, pu_wi_2, bX12_mayBe_0, bX12_mayBe_19, bX12_mayBe_44, bX12_mayBe_42, bX12_mayBe_43, bX12_mayBe_17, bX12_mayBe_18, a_iadd, a_icne, a_idiv, a_ifne, a_ild, a_imul, a_irem, a_isub, a_push, a_zret, pu_rv, pu_as, Value.category, pu_bk, pu_kl, pu_qe0, pu_qe1, s1]
    all_goals try simp [bX12_mayBe_0, bX12_mayBe_19, bX12_mayBe_44, bX12_mayBe_42, bX12_mayBe_43, bX12_mayBe_17, bX12_mayBe_18, a_iadd, a_icne, a_idiv, a_ifne, a_ild, a_imul, a_irem, a_isub, a_push, a_zret, pu_rv, pu_as, Value.category, pu_bk, pu_kl, List.replicate, pu_wi_1, pu_wi_2, nl_add, nl_ladd, nl_aa, nl_mul, nl_rmul, nl_mm, pu_qe0, pu_qe1, s1]
    all_goals try simp (maxSteps := 400000) (disch := omega) [nl_tle, nl_fle, nl_tlt, nl_flt, nl_teq, nl_feq, nl_sub, nl_ss, nl_lt, nl_llt, nl_ltt, nl_le, nl_lle, nl_lee, nl_eq, nl_leq, nl_ee, nl_div, nl_rem, nl_cl, nl_n1, nl_n2, nl_n3, nl_n4, nl_add, nl_ladd, nl_aa, nl_mul, nl_rmul, nl_mm, pu_wi_1, pu_wi_2, bX12_mayBe_0, bX12_mayBe_19, bX12_mayBe_44, bX12_mayBe_42, bX12_mayBe_43, bX12_mayBe_17, bX12_mayBe_18, a_iadd, a_icne, a_idiv, a_ifne, a_ild, a_imul, a_irem, a_isub, a_push, a_zret, pu_rv, pu_as, Value.category, pu_bk, pu_kl, pu_qe0, pu_qe1, s1]
    by_cases d : g % 2 = 1 - s
    · rw [pu_q1 d]
      simp [d]
    · rw [pu_q0 d]
      have d2 : ¬ nI (g % 2) = nI (1 - s) := fun q => d (by rw [nI_eq (by omega) (by omega)] at q; exact q)
      simp [d, d2]
  · by_cases c2 : r = 2
    · subst c2
      rw [qX12_mayBe]
      simp [a_ent, bX12_mayBe_0, bX12_mayBe_19, bX12_mayBe_44, bX12_mayBe_42, bX12_mayBe_43, bX12_mayBe_17, bX12_mayBe_18, a_iadd, a_icne, a_idiv, a_ifne, a_ild, a_imul, a_irem, a_isub, a_push, a_zret, pu_rv, pu_as, Value.category, pu_bk, pu_kl, List.replicate, pu_wi_1, pu_wi_2, nl_add, nl_ladd, nl_aa, nl_mul, nl_rmul, nl_mm, pu_qe0, pu_qe1]
      all_goals try simp (maxSteps := 400000) (disch := omega) [nl_tle, nl_fle, nl_tlt, nl_flt, nl_teq, nl_feq, nl_sub, nl_ss, nl_lt, nl_llt, nl_ltt, nl_le, nl_lle, nl_lee, nl_eq, nl_leq, nl_ee, nl_div, nl_rem, nl_cl, nl_n1, nl_n2, nl_n3, nl_n4, nl_add, nl_ladd, nl_aa, nl_mul, nl_rmul, nl_mm, pu_wi_1, pu_wi_2, bX12_mayBe_0, bX12_mayBe_19, bX12_mayBe_44, bX12_mayBe_42, bX12_mayBe_43, bX12_mayBe_17, bX12_mayBe_18, a_iadd, a_icne, a_idiv, a_ifne, a_ild, a_imul, a_irem, a_isub, a_push, a_zret, pu_rv, pu_as, Value.category, pu_bk, pu_kl, pu_qe0, pu_qe1]
      all_goals try simp [bX12_mayBe_0, bX12_mayBe_19, bX12_mayBe_44, bX12_mayBe_42, bX12_mayBe_43, bX12_mayBe_17, bX12_mayBe_18, a_iadd, a_icne, a_idiv, a_ifne, a_ild, a_imul, a_irem, a_isub, a_push, a_zret, pu_rv, pu_as, Value.category, pu_bk, pu_kl, List.replicate, pu_wi_1, pu_wi_2, nl_add, nl_ladd, nl_aa, nl_mul, nl_rmul, nl_mm, pu_qe0, pu_qe1]
      all_goals try simp (maxSteps := 400000) (disch := omega) [nl_tle, nl_fle, nl_tlt, nl_flt, nl_teq, nl_feq, nl_sub, nl_ss, nl_lt, nl_llt, nl_ltt, nl_le, nl_lle, nl_lee, nl_eq, nl_leq, nl_ee, nl_div, nl_rem, nl_cl, nl_n1, nl_n2, nl_n3, nl_n4, nl_add, nl_ladd, nl_aa, nl_mul, nl_rmul, nl_mm, pu_wi_1, pu_wi_2, bX12_mayBe_0, bX12_mayBe_19, bX12_mayBe_44, bX12_mayBe_42, bX12_mayBe_43, bX12_mayBe_17, bX12_mayBe_18, a_iadd, a_icne, a_idiv, a_ifne, a_ild, a_imul, a_irem, a_isub, a_push, a_zret, pu_rv, pu_as, Value.category, pu_bk, pu_kl, pu_qe0, pu_qe1]
      by_cases d : g = 2 * (p / 10) + 1 + s
      · rw [pu_q1 d]
        simp [← d]
      · rw [pu_q0 d]
        have d2 : ¬ nI g = nI (2 * (p / 10) + 1 + s) := fun q => d (by rw [nI_eq (by omega) (by omega)] at q; exact q)
        simp [d, d2]
    · rw [pu_q1 ⟨fun q => absurd q c, fun q => absurd q c2⟩]
      rw [qX12_mayBe]
      simp [a_ent, bX12_mayBe_0, bX12_mayBe_19, bX12_mayBe_44, bX12_mayBe_42, bX12_mayBe_43, bX12_mayBe_17, bX12_mayBe_18, a_iadd, a_icne, a_idiv, a_ifne, a_ild, a_imul, a_irem, a_isub, a_push, a_zret, pu_rv, pu_as, Value.category, pu_bk, pu_kl, List.replicate, pu_wi_1, pu_wi_2, nl_add, nl_ladd, nl_aa, nl_mul, nl_rmul, nl_mm, pu_qe0, pu_qe1, e0, e2, c, c2]
      all_goals try simp (maxSteps := 400000) (disch := omega) [nl_tle, nl_fle, nl_tlt, nl_flt, nl_teq, nl_feq, nl_sub, nl_ss, nl_lt, nl_llt, nl_ltt, nl_le, nl_lle, nl_lee, nl_eq, nl_leq, nl_ee, nl_div, nl_rem, nl_cl, nl_n1, nl_n2, nl_n3, nl_n4, nl_add, nl_ladd, nl_aa, nl_mul, nl_rmul, nl_mm, pu_wi_1, pu_wi_2, bX12_mayBe_0, bX12_mayBe_19, bX12_mayBe_44, bX12_mayBe_42, bX12_mayBe_43, bX12_mayBe_17, bX12_mayBe_18, a_iadd, a_icne, a_idiv, a_ifne, a_ild, a_imul, a_irem, a_isub, a_push, a_zret, pu_rv, pu_as, Value.category, pu_bk, pu_kl, pu_qe0, pu_qe1, e0, e2, c, c2]
      all_goals try simp [bX12_mayBe_0, bX12_mayBe_19, bX12_mayBe_44, bX12_mayBe_42, bX12_mayBe_43, bX12_mayBe_17, bX12_mayBe_18, a_iadd, a_icne, a_idiv, a_ifne, a_ild, a_imul, a_irem, a_isub, a_push, a_zret, pu_rv, pu_as, Value.category, pu_bk, pu_kl, List.replicate, pu_wi_1, pu_wi_2, nl_add, nl_ladd, nl_aa, nl_mul, nl_rmul, nl_mm, pu_qe0, pu_qe1, e0, e2, c, c2]
      all_goals try simp (maxSteps := 400000) (disch := omega) [nl_tle, nl_fle, nl_tlt, nl_flt, nl_teq, nl_feq, nl_sub, nl_ss, nl_lt, nl_llt, nl_ltt, nl_le, nl_lle, nl_lee, nl_eq, nl_leq, nl_ee, nl_div, nl_rem, nl_cl, nl_n1, nl_n2, nl_n3, nl_n4, nl_add, nl_ladd, nl_aa, nl_mul, nl_rmul, nl_mm, pu_wi_1, pu_wi_2, bX12_mayBe_0, bX12_mayBe_19, bX12_mayBe_44, bX12_mayBe_42, bX12_mayBe_43, bX12_mayBe_17, bX12_mayBe_18, a_iadd, a_icne, a_idiv, a_ifne, a_ild, a_imul, a_irem, a_isub, a_push, a_zret, pu_rv, pu_as, Value.category, pu_bk, pu_kl, pu_qe0, pu_qe1, e0, e2, c, c2]
end
