/-! near -/
/-- a door's place is in the street on a day -/
def pu_in (I : Nat → Nat → Int32) (st : Nat) (y : Int32) (j : Nat) : Prop := ∃ k, k < cU I ∧ pu_sl0 I k = j ∧ I 39 j = nI st ∧ pu_sh1 I y k
/-- the least of the places j: door and key -/
noncomputable def pz_ms (c : Nat → Prop) (key : Nat → Int32) (j : Nat) (p : Int32 × Int32) : Int32 × Int32 := @ite _ (c j ∧ (p.1 = -1 ∨ key j < p.2)) (Classical.propDecidable _) (nI (j / 2), key j) p
noncomputable def pz_mn (c : Nat → Prop) (key : Nat → Int32) : Nat → Nat → Int32 × Int32 → Int32 × Int32
  | 0, _, p => p
  | m + 1, j, p => pz_mn c key m (j + 1) (pz_ms c key j p)
def pz_gd (c : Nat → Prop) (key : Nat → Int32) (p : Int32 × Int32) (J : Nat) : Prop := (p.1 = -1 ∧ ∀ i, i < J → ¬ c i) ∨ ∃ i, i < J ∧ c i ∧ p = (nI (i / 2), key i) ∧ ∀ l, l < J → c l → ¬ key l < key i
theorem pz_gd_s {c : Nat → Prop} {key : Nat → Int32} {p : Int32 × Int32} {j : Nat} (hj : j < 2147483648) (h : pz_gd c key p j) : pz_gd c key (pz_ms c key j p) (j + 1) := by
  unfold pz_ms
  by_cases q : c j ∧ (p.1 = -1 ∨ key j < p.2)
  · rw [if_pos q]
    refine Or.inr ⟨j, by omega, q.1, rfl, fun l hl hc => ?_⟩
    by_cases e : l = j
    · rw [e]
      exact fun z => Int32.lt_irrefl z
    · rcases h with ⟨h1, h2⟩ | ⟨i, h1, h2, h3, h4⟩
      · exact absurd hc (h2 l (by omega))
      · rcases q.2 with z | z
        · rw [h3] at z
          exact absurd z (fun w => by rw [nl_n1 (i / 2) (by omega)] at w; exact w)
        · rw [h3] at z
          have := h4 l (by omega) hc
          exact fun w => this (Int32.lt_trans w z)
  · rw [if_neg q]
    rcases h with ⟨h1, h2⟩ | ⟨i, h1, h2, h3, h4⟩
    · refine Or.inl ⟨h1, fun l hl hc => ?_⟩
      by_cases e : l = j
      · rw [e] at hc
        exact q ⟨hc, Or.inl h1⟩
      · exact h2 l (by omega) hc
    · refine Or.inr ⟨i, by omega, h2, h3, fun l hl hc => ?_⟩
      by_cases e : l = j
      · rw [e] at hc ⊢
        intro z
        exact q ⟨hc, Or.inr (by rw [h3]; exact z)⟩
      · exact h4 l (by omega) hc
theorem pz_gd_n {c : Nat → Prop} {key : Nat → Int32} : ∀ (m j : Nat) (p : Int32 × Int32), j + m < 2147483648 → pz_gd c key p j → pz_gd c key (pz_mn c key m j p) (j + m)
  | 0, j, p, _, h => h
  | m + 1, j, p, hj, h => by
    have := pz_gd_n m (j + 1) (pz_ms c key j p) (by omega) (pz_gd_s (by omega) h)
    rw [show j + (m + 1) = j + 1 + m by omega]
    exact this
/-- the key of place j -/
def pu_ky (I : Nat → Nat → Int32) (sd pc : Int32) (j : Nat) : Int32 := 4 * (if I 41 j - pc < 0 then -(I 41 j - pc) else I 41 j - pc) + (if I 40 j = sd then 0 else 2) + (if I 41 j - pc < 0 then 0 else 1)
section
variable {M : pu_M} {I : Nat → Nat → Int32} {L : Nat → Nat → Int64}
theorem r_isIn (hx : pu_fx M) (hr : pu_Rel I L (M.1 72)) (hw : pu_WF I L) (d w st : Nat) (hd : d < cD I) (hw2 : w < 2) (y : Int32) (hy : ¬ y < 0 ∧ ¬ 109574 < y) : pu_r 342 [some (.ref 71), some (.int (nI d)), some (.int (nI w)), some (.int (nI st)), some (.int y)] [] M = some (some (.int (pu_q (pu_in I st y (2 * d + w)))), M) := by
  have hD := wx_bD hw
  have hU := wx_bU hw
  have e1 := r_of0 hx hr hw d hd
  have e2 := pu_srt_lt hw hd
  have e3 := r_standsOn hx hr hw d hd y
  have e4 := r_spanOn hx hr hw d w hd hw2 y hy
  by_cases c1 : I 32 d = 0
  · have c2 : ¬ 1 < pu_srt I d := fun z => by
      have : 2 ≤ pu_srt I d := by grind
      rw [e2] at this
      exact this c1
    have d0 := (wx_d0 hw d hd c1).2.2.1
    rw [d0, nI_clamp (by omega)] at e4
    by_cases c3 : pu_sd I d y
    · rw [pu_q1 c3] at e3
      rcases pu_f1_spec (fun k => I 15 k = nI (2 * d + w) ∧ pu_sh1 I y k) (cU I) 0 with ⟨q, q2⟩ | ⟨k, _, hk, q, q2, _⟩
      · rw [q] at e4
        rw [pu_q0 (fun ⟨k, k1, k2, k3, k4⟩ => q2 k (by omega) (by omega) ⟨by rw [(pu_sl_lt hw k1).2, k2], k4⟩)]
        rw [qX12_isIn]
        simp [a_ent, bX12_isIn_0, bX12_isIn_20, bX12_isIn_22, bX12_isIn_62, bX12_isIn_63, a_ai, a_ald, a_cv, a_gr, a_iadd, a_iceq, a_icgt, a_icne, a_ifne, a_ild, a_imul, a_ist, a_push, a_zret, fx_71_0 hx, sh_71, sh_72, pu_rv, pu_as, Value.category, pu_bk, pu_kl, List.replicate, pu_wi_1, pu_wi_2, nl_add, nl_ladd, nl_aa, nl_mul, nl_rmul, nl_mm, pu_qe0, pu_qe1, e1, c2, e3, e4]
        all_goals try simp (maxSteps := 400000) (disch := omega) [nl_tle, nl_fle, nl_tlt, nl_flt, nl_teq, nl_feq, nl_sub, nl_ss, nl_lt, nl_llt, nl_ltt, nl_le, nl_lle, nl_lee, nl_eq, nl_leq, nl_ee, nl_div, nl_rem, nl_cl, nl_n1, nl_n2, nl_n3, nl_n4, nl_add, nl_ladd, nl_aa, nl_mul, nl_rmul, nl_mm, pu_wi_1, pu_wi_2, bX12_isIn_0, bX12_isIn_20, bX12_isIn_22, bX12_isIn_62, bX12_isIn_63, a_ai, a_ald, a_cv, a_gr, a_iadd, a_iceq, a_icgt, a_icne, a_ifne, a_ild, a_imul, a_ist, a_push, a_zret, fx_71_0 hx, sh_71, sh_72, pu_rv, pu_as, Value.category, pu_bk, pu_kl, pu_qe0, pu_qe1, e1, c2, e3, e4]
        all_goals try simp [bX12_isIn_0, bX12_isIn_20, bX12_isIn_22, bX12_isIn_62, bX12_isIn_63, a_ai, a_ald, a_cv, a_gr, a_iadd, a_iceq, a_icgt, a_icne, a_ifne, a_ild, a_imul, a_ist, a_push, a_zret, fx_71_0 hx, sh_71, sh_72, pu_rv, pu_as, Value.category, pu_bk, pu_kl, List.replicate, pu_wi_1, pu_wi_2, nl_add, nl_ladd, nl_aa, nl_mul, nl_rmul, nl_mm, pu_qe0, pu_qe1, e1, c2, e3, e4]
        all_goals try simp (maxSteps := 400000) (disch := omega) [nl_tle, nl_fle, nl_tlt, nl_flt, nl_teq, nl_feq, nl_sub, nl_ss, nl_lt, nl_llt, nl_ltt, nl_le, nl_lle, nl_lee, nl_eq, nl_leq, nl_ee, nl_div, nl_rem, nl_cl, nl_n1, nl_n2, nl_n3, nl_n4, nl_add, nl_ladd, nl_aa, nl_mul, nl_rmul, nl_mm, pu_wi_1, pu_wi_2, bX12_isIn_0, bX12_isIn_20, bX12_isIn_22, bX12_isIn_62, bX12_isIn_63, a_ai, a_ald, a_cv, a_gr, a_iadd, a_iceq, a_icgt, a_icne, a_ifne, a_ild, a_imul, a_ist, a_push, a_zret, fx_71_0 hx, sh_71, sh_72, pu_rv, pu_as, Value.category, pu_bk, pu_kl, pu_qe0, pu_qe1, e1, c2, e3, e4]
      · rw [q] at e4
        have hk2 : k < cU I := by omega
        have n1 : ¬ nI k = -1 := fun q => by rw [nl_n1 k (by omega)] at q; exact q
        have s1 : pu_sl0 I k = 2 * d + w := by
          show (I 15 k).toNatClampNeg = _
          rw [q2.1, nI_clamp (by omega)]
        have u2 := rl_u2 hr k hk2
        rw [show (I 15 k).toNatClampNeg = 2 * d + w from s1] at u2
        by_cases c4 : I 39 (2 * d + w) = nI st
        · rw [pu_q1 ⟨k, hk2, s1, c4, q2.2⟩]
          rw [qX12_isIn]
          simp [a_ent, bX12_isIn_0, bX12_isIn_20, bX12_isIn_22, bX12_isIn_62, bX12_isIn_63, a_ai, a_ald, a_cv, a_gr, a_iadd, a_iceq, a_icgt, a_icne, a_ifne, a_ild, a_imul, a_ist, a_push, a_zret, fx_71_0 hx, sh_71, sh_72, pu_rv, pu_as, Value.category, pu_bk, pu_kl, List.replicate, pu_wi_1, pu_wi_2, nl_add, nl_ladd, nl_aa, nl_mul, nl_rmul, nl_mm, pu_qe0, pu_qe1, e1, c2, e3, e4, n1, u2, c4]
          all_goals try simp (maxSteps := 400000) (disch := omega) [nl_tle, nl_fle, nl_tlt, nl_flt, nl_teq, nl_feq, nl_sub, nl_ss, nl_lt, nl_llt, nl_ltt, nl_le, nl_lle, nl_lee, nl_eq, nl_leq, nl_ee, nl_div, nl_rem, nl_cl, nl_n1, nl_n2, nl_n3, nl_n4, nl_add, nl_ladd, nl_aa, nl_mul, nl_rmul, nl_mm, pu_wi_1, pu_wi_2, bX12_isIn_0, bX12_isIn_20, bX12_isIn_22, bX12_isIn_62, bX12_isIn_63, a_ai, a_ald, a_cv, a_gr, a_iadd, a_iceq, a_icgt, a_icne, a_ifne, a_ild, a_imul, a_ist, a_push, a_zret, fx_71_0 hx, sh_71, sh_72, pu_rv, pu_as, Value.category, pu_bk, pu_kl, pu_qe0, pu_qe1, e1, c2, e3, e4, n1, u2, c4]
          all_goals try simp [bX12_isIn_0, bX12_isIn_20, bX12_isIn_22, bX12_isIn_62, bX12_isIn_63, a_ai, a_ald, a_cv, a_gr, a_iadd, a_iceq, a_icgt, a_icne, a_ifne, a_ild, a_imul, a_ist, a_push, a_zret, fx_71_0 hx, sh_71, sh_72, pu_rv, pu_as, Value.category, pu_bk, pu_kl, List.replicate, pu_wi_1, pu_wi_2, nl_add, nl_ladd, nl_aa, nl_mul, nl_rmul, nl_mm, pu_qe0, pu_qe1, e1, c2, e3, e4, n1, u2, c4]
          all_goals try simp (maxSteps := 400000) (disch := omega) [nl_tle, nl_fle, nl_tlt, nl_flt, nl_teq, nl_feq, nl_sub, nl_ss, nl_lt, nl_llt, nl_ltt, nl_le, nl_lle, nl_lee, nl_eq, nl_leq, nl_ee, nl_div, nl_rem, nl_cl, nl_n1, nl_n2, nl_n3, nl_n4, nl_add, nl_ladd, nl_aa, nl_mul, nl_rmul, nl_mm, pu_wi_1, pu_wi_2, bX12_isIn_0, bX12_isIn_20, bX12_isIn_22, bX12_isIn_62, bX12_isIn_63, a_ai, a_ald, a_cv, a_gr, a_iadd, a_iceq, a_icgt, a_icne, a_ifne, a_ild, a_imul, a_ist, a_push, a_zret, fx_71_0 hx, sh_71, sh_72, pu_rv, pu_as, Value.category, pu_bk, pu_kl, pu_qe0, pu_qe1, e1, c2, e3, e4, n1, u2, c4]
        · rw [pu_q0 (fun ⟨_, _, _, k3, _⟩ => c4 k3)]
          rw [qX12_isIn]
          simp [a_ent, bX12_isIn_0, bX12_isIn_20, bX12_isIn_22, bX12_isIn_62, bX12_isIn_63, a_ai, a_ald, a_cv, a_gr, a_iadd, a_iceq, a_icgt, a_icne, a_ifne, a_ild, a_imul, a_ist, a_push, a_zret, fx_71_0 hx, sh_71, sh_72, pu_rv, pu_as, Value.category, pu_bk, pu_kl, List.replicate, pu_wi_1, pu_wi_2, nl_add, nl_ladd, nl_aa, nl_mul, nl_rmul, nl_mm, pu_qe0, pu_qe1, e1, c2, e3, e4, n1, u2, c4]
          all_goals try simp (maxSteps := 400000) (disch := omega) [nl_tle, nl_fle, nl_tlt, nl_flt, nl_teq, nl_feq, nl_sub, nl_ss, nl_lt, nl_llt, nl_ltt, nl_le, nl_lle, nl_lee, nl_eq, nl_leq, nl_ee, nl_div, nl_rem, nl_cl, nl_n1, nl_n2, nl_n3, nl_n4, nl_add, nl_ladd, nl_aa, nl_mul, nl_rmul, nl_mm, pu_wi_1, pu_wi_2, bX12_isIn_0, bX12_isIn_20, bX12_isIn_22, bX12_isIn_62, bX12_isIn_63, a_ai, a_ald, a_cv, a_gr, a_iadd, a_iceq, a_icgt, a_icne, a_ifne, a_ild, a_imul, a_ist, a_push, a_zret, fx_71_0 hx, sh_71, sh_72, pu_rv, pu_as, Value.category, pu_bk, pu_kl, pu_qe0, pu_qe1, e1, c2, e3, e4, n1, u2, c4]
          all_goals try simp [bX12_isIn_0, bX12_isIn_20, bX12_isIn_22, bX12_isIn_62, bX12_isIn_63, a_ai, a_ald, a_cv, a_gr, a_iadd, a_iceq, a_icgt, a_icne, a_ifne, a_ild, a_imul, a_ist, a_push, a_zret, fx_71_0 hx, sh_71, sh_72, pu_rv, pu_as, Value.category, pu_bk, pu_kl, List.replicate, pu_wi_1, pu_wi_2, nl_add, nl_ladd, nl_aa, nl_mul, nl_rmul, nl_mm, pu_qe0, pu_qe1, e1, c2, e3, e4, n1, u2, c4]
          all_goals try simp (maxSteps := 400000) (disch := omega) [nl_tle, nl_fle, nl_tlt, nl_flt, nl_teq, nl_feq, nl_sub, nl_ss, nl_lt, nl_llt, nl_ltt, nl_le, nl_lle, nl_lee, nl_eq, nl_leq, nl_ee, nl_div, nl_rem, nl_cl, nl_n1, nl_n2, nl_n3, nl_n4, nl_add, nl_ladd, nl_aa, nl_mul, nl_rmul, nl_mm, pu_wi_1, pu_wi_2, bX12_isIn_0, bX12_isIn_20, bX12_isIn_22, bX12_isIn_62, bX12_isIn_63, a_ai, a_ald, a_cv, a_gr, a_iadd, a_iceq, a_icgt, a_icne, a_ifne, a_ild, a_imul, a_ist, a_push, a_zret, fx_71_0 hx, sh_71, sh_72, pu_rv, pu_as, Value.category, pu_bk, pu_kl, pu_qe0, pu_qe1, e1, c2, e3, e4, n1, u2, c4]
    · rw [pu_q0 c3] at e3
      rw [pu_q0 (fun ⟨k, k1, k2, k3, k4⟩ => c3 (by
        have := (pu_sd_of hw k1 k4).1
        rw [k2, show (2 * d + w) / 2 = d by omega] at this
        exact this))]
      rw [qX12_isIn]
      simp [a_ent, bX12_isIn_0, bX12_isIn_20, bX12_isIn_22, bX12_isIn_62, bX12_isIn_63, a_ai, a_ald, a_cv, a_gr, a_iadd, a_iceq, a_icgt, a_icne, a_ifne, a_ild, a_imul, a_ist, a_push, a_zret, fx_71_0 hx, sh_71, sh_72, pu_rv, pu_as, Value.category, pu_bk, pu_kl, List.replicate, pu_wi_1, pu_wi_2, nl_add, nl_ladd, nl_aa, nl_mul, nl_rmul, nl_mm, pu_qe0, pu_qe1, e1, c2, e3]
      all_goals try simp (maxSteps := 400000) (disch := omega) [nl_tle, nl_fle, nl_tlt, nl_flt, nl_teq, nl_feq, nl_sub, nl_ss, nl_lt, nl_llt, nl_ltt, nl_le, nl_lle, nl_lee, nl_eq, nl_leq, nl_ee, nl_div, nl_rem, nl_cl, nl_n1, nl_n2, nl_n3, nl_n4, nl_add, nl_ladd, nl_aa, nl_mul, nl_rmul, nl_mm, pu_wi_1, pu_wi_2, bX12_isIn_0, bX12_isIn_20, bX12_isIn_22, bX12_isIn_62, bX12_isIn_63, a_ai, a_ald, a_cv, a_gr, a_iadd, a_iceq, a_icgt, a_icne, a_ifne, a_ild, a_imul, a_ist, a_push, a_zret, fx_71_0 hx, sh_71, sh_72, pu_rv, pu_as, Value.category, pu_bk, pu_kl, pu_qe0, pu_qe1, e1, c2, e3]
      all_goals try simp [bX12_isIn_0, bX12_isIn_20, bX12_isIn_22, bX12_isIn_62, bX12_isIn_63, a_ai, a_ald, a_cv, a_gr, a_iadd, a_iceq, a_icgt, a_icne, a_ifne, a_ild, a_imul, a_ist, a_push, a_zret, fx_71_0 hx, sh_71, sh_72, pu_rv, pu_as, Value.category, pu_bk, pu_kl, List.replicate, pu_wi_1, pu_wi_2, nl_add, nl_ladd, nl_aa, nl_mul, nl_rmul, nl_mm, pu_qe0, pu_qe1, e1, c2, e3]
      all_goals try simp (maxSteps := 400000) (disch := omega) [nl_tle, nl_fle, nl_tlt, nl_flt, nl_teq, nl_feq, nl_sub, nl_ss, nl_lt, nl_llt, nl_ltt, nl_le, nl_lle, nl_lee, nl_eq, nl_leq, nl_ee, nl_div, nl_rem, nl_cl, nl_n1, nl_n2, nl_n3, nl_n4, nl_add, nl_ladd, nl_aa, nl_mul, nl_rmul, nl_mm, pu_wi_1, pu_wi_2, bX12_isIn_0, bX12_isIn_20, bX12_isIn_22, bX12_isIn_62, bX12_isIn_63, a_ai, a_ald, a_cv, a_gr, a_iadd, a_iceq, a_icgt, a_icne, a_ifne, a_ild, a_imul, a_ist, a_push, a_zret, fx_71_0 hx, sh_71, sh_72, pu_rv, pu_as, Value.category, pu_bk, pu_kl, pu_qe0, pu_qe1, e1, c2, e3]
  · have c2 : 1 < pu_srt I d := by
      have : 2 ≤ pu_srt I d := by rw [e2]; exact c1
      grind
    rw [pu_q0 (fun ⟨k, k1, k2, k3, k4⟩ => c1 (by
      have := (pu_sd_of hw k1 k4).2.1
      rw [k2, show (2 * d + w) / 2 = d by omega] at this
      exact this))]
    rw [qX12_isIn]
    simp [a_ent, bX12_isIn_0, bX12_isIn_20, bX12_isIn_22, bX12_isIn_62, bX12_isIn_63, a_ai, a_ald, a_cv, a_gr, a_iadd, a_iceq, a_icgt, a_icne, a_ifne, a_ild, a_imul, a_ist, a_push, a_zret, fx_71_0 hx, sh_71, sh_72, pu_rv, pu_as, Value.category, pu_bk, pu_kl, List.replicate, pu_wi_1, pu_wi_2, nl_add, nl_ladd, nl_aa, nl_mul, nl_rmul, nl_mm, pu_qe0, pu_qe1, e1, c2]
    all_goals try simp (maxSteps := 400000) (disch := omega) [nl_tle, nl_fle, nl_tlt, nl_flt, nl_teq, nl_feq, nl_sub, nl_ss, nl_lt, nl_llt, nl_ltt, nl_le, nl_lle, nl_lee, nl_eq, nl_leq, nl_ee, nl_div, nl_rem, nl_cl, nl_n1, nl_n2, nl_n3, nl_n4, nl_add, nl_ladd, nl_aa, nl_mul, nl_rmul, nl_mm, pu_wi_1, pu_wi_2, bX12_isIn_0, bX12_isIn_20, bX12_isIn_22, bX12_isIn_62, bX12_isIn_63, a_ai, a_ald, a_cv, a_gr, a_iadd, a_iceq, a_icgt, a_icne, a_ifne, a_ild, a_imul, a_ist, a_push, a_zret, fx_71_0 hx, sh_71, sh_72, pu_rv, pu_as, Value.category, pu_bk, pu_kl, pu_qe0, pu_qe1, e1, c2]
    all_goals try simp [bX12_isIn_0, bX12_isIn_20, bX12_isIn_22, bX12_isIn_62, bX12_isIn_63, a_ai, a_ald, a_cv, a_gr, a_iadd, a_iceq, a_icgt, a_icne, a_ifne, a_ild, a_imul, a_ist, a_push, a_zret, fx_71_0 hx, sh_71, sh_72, pu_rv, pu_as, Value.category, pu_bk, pu_kl, List.replicate, pu_wi_1, pu_wi_2, nl_add, nl_ladd, nl_aa, nl_mul, nl_rmul, nl_mm, pu_qe0, pu_qe1, e1, c2]
    all_goals try simp (maxSteps := 400000) (disch := omega) [nl_tle, nl_fle, nl_tlt, nl_flt, nl_teq, nl_feq, nl_sub, nl_ss, nl_lt, nl_llt, nl_ltt, nl_le, nl_lle, nl_lee, nl_eq, nl_leq, nl_ee, nl_div, nl_rem, nl_cl, nl_n1, nl_n2, nl_n3, nl_n4, nl_add, nl_ladd, nl_aa, nl_mul, nl_rmul, nl_mm, pu_wi_1, pu_wi_2, bX12_isIn_0, bX12_isIn_20, bX12_isIn_22, bX12_isIn_62, bX12_isIn_63, a_ai, a_ald, a_cv, a_gr, a_iadd, a_iceq, a_icgt, a_icne, a_ifne, a_ild, a_imul, a_ist, a_push, a_zret, fx_71_0 hx, sh_71, sh_72, pu_rv, pu_as, Value.category, pu_bk, pu_kl, pu_qe0, pu_qe1, e1, c2]
theorem r_near_i (hx : pu_fx M) (hr : pu_Rel I L (M.1 72)) (hw : pu_WF I L) (d w st : Nat) (hd : d < cD I) (hw2 : w < 2) (sd pc y : Int32) (hy : ¬ y < 0 ∧ ¬ 109574 < y) (p : Int32 × Int32) (t9 t10 : Option Value) : ∃ u9 u10, pu_r 520 [some (.ref 71), some (.int (nI st)), some (.int sd), some (.int pc), some (.int y), some (.int p.1), some (.int p.2), some (.int (nI d)), some (.int (nI w)), t9, t10] [] M = pu_r 520 [some (.ref 71), some (.int (nI st)), some (.int sd), some (.int pc), some (.int y), some (.int (pz_ms (pu_in I st y) (pu_ky I sd pc) (2 * d + w) p).1), some (.int (pz_ms (pu_in I st y) (pu_ky I sd pc) (2 * d + w) p).2), some (.int (nI d)), some (.int (nI (w + 1))), u9, u10] [] M := by
  have hc : ¬ 2 ≤ nI w := nI_ge (b := 2) (by omega) (by omega)
  have e1 := r_isIn hx hr hw d w st hd hw2 y hy
  have e2 := r_pacesAt hx hr hw d w hd hw2
  have e3 := r_sideAt hx hr hw d w hd hw2
  have hj : (2 * d + w) / 2 = d := by omega
  by_cases c1 : pu_in I st y (2 * d + w)
  · rw [pu_q1 c1] at e1
    refine ⟨some (.int (I 41 (2 * d + w) - pc)), some (.int (pu_ky I sd pc (2 * d + w))), ?_⟩
    unfold pz_ms
    obtain ⟨K, hK⟩ : ∃ K, pu_ky I sd pc (2 * d + w) = K := ⟨_, rfl⟩
    rw [hK, hj]
    have key : ∀ (q1 q2 : Int32), (p.1 = -1 → q1 = nI d ∧ q2 = K) → (¬ p.1 = -1 → K < p.2 → q1 = nI d ∧ q2 = K) → (¬ p.1 = -1 → ¬ K < p.2 → q1 = p.1 ∧ q2 = p.2) → pu_r 520 [some (.ref 71), some (.int (nI st)), some (.int sd), some (.int pc), some (.int y), some (.int p.1), some (.int p.2), some (.int (nI d)), some (.int (nI w)), t9, t10] [] M = pu_r 520 [some (.ref 71), some (.int (nI st)), some (.int sd), some (.int pc), some (.int y), some (.int q1), some (.int q2), some (.int (nI d)), some (.int (nI (w + 1))), some (.int (I 41 (2 * d + w) - pc)), some (.int K)] [] M := by
      intro q1 q2 r1 r2 r3
      rw [qX12_near_49]
      unfold pu_ky at hK
      by_cases f : I 41 (2 * d + w) - pc < 0
      · have f2 : ¬ 0 ≤ I 41 (2 * d + w) - pc := Int32.not_le.mpr f
        by_cases g : I 40 (2 * d + w) = sd
        · simp only [f, g, if_true, if_false] at hK
          by_cases a : p.1 = -1
          · rw [(r1 a).1, (r1 a).2]
            simp [bX12_near_49, bX12_near_160, bX12_near_72, bX12_near_96, bX12_near_98, bX12_near_115, bX12_near_116, bX12_near_126, bX12_near_127, bX12_near_146, bX12_near_154, a_ald, a_cv, a_iadd, a_iceq, a_icge, a_iclt, a_icne, a_ifge, a_ifne, a_ild, a_imul, a_inc, a_ineg, a_ist, a_isub, a_push, sh_71, pu_rv, pu_as, Value.category, pu_bk, pu_kl, List.replicate, pu_wi_1, pu_wi_2, nl_add, nl_ladd, nl_aa, nl_mul, nl_rmul, nl_mm, pu_qe0, pu_qe1, hc, e1, e2, e3, f, f2, g, a]
            all_goals try simp (maxSteps := 400000) (disch := omega) [nl_tle, nl_fle, nl_tlt, nl_flt, nl_teq, nl_feq, nl_sub, nl_ss, nl_lt, nl_llt, nl_ltt, nl_le, nl_lle, nl_lee, nl_eq, nl_leq, nl_ee, nl_div, nl_rem, nl_cl, nl_n1, nl_n2, nl_n3, nl_n4, nl_add, nl_ladd, nl_aa, nl_mul, nl_rmul, nl_mm, pu_wi_1, pu_wi_2, bX12_near_49, bX12_near_160, bX12_near_72, bX12_near_96, bX12_near_98, bX12_near_115, bX12_near_116, bX12_near_126, bX12_near_127, bX12_near_146, bX12_near_154, a_ald, a_cv, a_iadd, a_iceq, a_icge, a_iclt, a_icne, a_ifge, a_ifne, a_ild, a_imul, a_inc, a_ineg, a_ist, a_isub, a_push, sh_71, pu_rv, pu_as, Value.category, pu_bk, pu_kl, pu_qe0, pu_qe1, hc, e1, e2, e3, f, f2, g, a]
            all_goals try simp [bX12_near_49, bX12_near_160, bX12_near_72, bX12_near_96, bX12_near_98, bX12_near_115, bX12_near_116, bX12_near_126, bX12_near_127, bX12_near_146, bX12_near_154, a_ald, a_cv, a_iadd, a_iceq, a_icge, a_iclt, a_icne, a_ifge, a_ifne, a_ild, a_imul, a_inc, a_ineg, a_ist, a_isub, a_push, sh_71, pu_rv, pu_as, Value.category, pu_bk, pu_kl, List.replicate, pu_wi_1, pu_wi_2, nl_add, nl_ladd, nl_aa, nl_mul, nl_rmul, nl_mm, pu_qe0, pu_qe1, hc, e1, e2, e3, f, f2, g, a]
            all_goals try simp (maxSteps := 400000) (disch := omega) [nl_tle, nl_fle, nl_tlt, nl_flt, nl_teq, nl_feq, nl_sub, nl_ss, nl_lt, nl_llt, nl_ltt, nl_le, nl_lle, nl_lee, nl_eq, nl_leq, nl_ee, nl_div, nl_rem, nl_cl, nl_n1, nl_n2, nl_n3, nl_n4, nl_add, nl_ladd, nl_aa, nl_mul, nl_rmul, nl_mm, pu_wi_1, pu_wi_2, bX12_near_49, bX12_near_160, bX12_near_72, bX12_near_96, bX12_near_98, bX12_near_115, bX12_near_116, bX12_near_126, bX12_near_127, bX12_near_146, bX12_near_154, a_ald, a_cv, a_iadd, a_iceq, a_icge, a_iclt, a_icne, a_ifge, a_ifne, a_ild, a_imul, a_inc, a_ineg, a_ist, a_isub, a_push, sh_71, pu_rv, pu_as, Value.category, pu_bk, pu_kl, pu_qe0, pu_qe1, hc, e1, e2, e3, f, f2, g, a]
            simp [← hK]
          · by_cases b : K < p.2
            · have b2 := Int32.not_le.mpr b
              rw [(r2 a b).1, (r2 a b).2]
              rw [← hK] at b b2 ⊢
              simp at b b2
              simp [bX12_near_49, bX12_near_160, bX12_near_72, bX12_near_96, bX12_near_98, bX12_near_115, bX12_near_116, bX12_near_126, bX12_near_127, bX12_near_146, bX12_near_154, a_ald, a_cv, a_iadd, a_iceq, a_icge, a_iclt, a_icne, a_ifge, a_ifne, a_ild, a_imul, a_inc, a_ineg, a_ist, a_isub, a_push, sh_71, pu_rv, pu_as, Value.category, pu_bk, pu_kl, List.replicate, pu_wi_1, pu_wi_2, nl_add, nl_ladd, nl_aa, nl_mul, nl_rmul, nl_mm, pu_qe0, pu_qe1, hc, e1, e2, e3, f, f2, g, a, b, b2]
              all_goals try simp (maxSteps := 400000) (disch := omega) [nl_tle, nl_fle, nl_tlt, nl_flt, nl_teq, nl_feq, nl_sub, nl_ss, nl_lt, nl_llt, nl_ltt, nl_le, nl_lle, nl_lee, nl_eq, nl_leq, nl_ee, nl_div, nl_rem, nl_cl, nl_n1, nl_n2, nl_n3, nl_n4, nl_add, nl_ladd, nl_aa, nl_mul, nl_rmul, nl_mm, pu_wi_1, pu_wi_2, bX12_near_49, bX12_near_160, bX12_near_72, bX12_near_96, bX12_near_98, bX12_near_115, bX12_near_116, bX12_near_126, bX12_near_127, bX12_near_146, bX12_near_154, a_ald, a_cv, a_iadd, a_iceq, a_icge, a_iclt, a_icne, a_ifge, a_ifne, a_ild, a_imul, a_inc, a_ineg, a_ist, a_isub, a_push, sh_71, pu_rv, pu_as, Value.category, pu_bk, pu_kl, pu_qe0, pu_qe1, hc, e1, e2, e3, f, f2, g, a, b, b2]
              all_goals try simp [bX12_near_49, bX12_near_160, bX12_near_72, bX12_near_96, bX12_near_98, bX12_near_115, bX12_near_116, bX12_near_126, bX12_near_127, bX12_near_146, bX12_near_154, a_ald, a_cv, a_iadd, a_iceq, a_icge, a_iclt, a_icne, a_ifge, a_ifne, a_ild, a_imul, a_inc, a_ineg, a_ist, a_isub, a_push, sh_71, pu_rv, pu_as, Value.category, pu_bk, pu_kl, List.replicate, pu_wi_1, pu_wi_2, nl_add, nl_ladd, nl_aa, nl_mul, nl_rmul, nl_mm, pu_qe0, pu_qe1, hc, e1, e2, e3, f, f2, g, a, b, b2]
              all_goals try simp (maxSteps := 400000) (disch := omega) [nl_tle, nl_fle, nl_tlt, nl_flt, nl_teq, nl_feq, nl_sub, nl_ss, nl_lt, nl_llt, nl_ltt, nl_le, nl_lle, nl_lee, nl_eq, nl_leq, nl_ee, nl_div, nl_rem, nl_cl, nl_n1, nl_n2, nl_n3, nl_n4, nl_add, nl_ladd, nl_aa, nl_mul, nl_rmul, nl_mm, pu_wi_1, pu_wi_2, bX12_near_49, bX12_near_160, bX12_near_72, bX12_near_96, bX12_near_98, bX12_near_115, bX12_near_116, bX12_near_126, bX12_near_127, bX12_near_146, bX12_near_154, a_ald, a_cv, a_iadd, a_iceq, a_icge, a_iclt, a_icne, a_ifge, a_ifne, a_ild, a_imul, a_inc, a_ineg, a_ist, a_isub, a_push, sh_71, pu_rv, pu_as, Value.category, pu_bk, pu_kl, pu_qe0, pu_qe1, hc, e1, e2, e3, f, f2, g, a, b, b2]
            · have b2 := Int32.not_lt.mp b
              rw [(r3 a b).1, (r3 a b).2]
              rw [← hK] at b b2 ⊢
              simp at b b2
              simp [bX12_near_49, bX12_near_160, bX12_near_72, bX12_near_96, bX12_near_98, bX12_near_115, bX12_near_116, bX12_near_126, bX12_near_127, bX12_near_146, bX12_near_154, a_ald, a_cv, a_iadd, a_iceq, a_icge, a_iclt, a_icne, a_ifge, a_ifne, a_ild, a_imul, a_inc, a_ineg, a_ist, a_isub, a_push, sh_71, pu_rv, pu_as, Value.category, pu_bk, pu_kl, List.replicate, pu_wi_1, pu_wi_2, nl_add, nl_ladd, nl_aa, nl_mul, nl_rmul, nl_mm, pu_qe0, pu_qe1, hc, e1, e2, e3, f, f2, g, a, b, b2]
              all_goals try simp (maxSteps := 400000) (disch := omega) [nl_tle, nl_fle, nl_tlt, nl_flt, nl_teq, nl_feq, nl_sub, nl_ss, nl_lt, nl_llt, nl_ltt, nl_le, nl_lle, nl_lee, nl_eq, nl_leq, nl_ee, nl_div, nl_rem, nl_cl, nl_n1, nl_n2, nl_n3, nl_n4, nl_add, nl_ladd, nl_aa, nl_mul, nl_rmul, nl_mm, pu_wi_1, pu_wi_2, bX12_near_49, bX12_near_160, bX12_near_72, bX12_near_96, bX12_near_98, bX12_near_115, bX12_near_116, bX12_near_126, bX12_near_127, bX12_near_146, bX12_near_154, a_ald, a_cv, a_iadd, a_iceq, a_icge, a_iclt, a_icne, a_ifge, a_ifne, a_ild, a_imul, a_inc, a_ineg, a_ist, a_isub, a_push, sh_71, pu_rv, pu_as, Value.category, pu_bk, pu_kl, pu_qe0, pu_qe1, hc, e1, e2, e3, f, f2, g, a, b, b2]
              all_goals try simp [bX12_near_49, bX12_near_160, bX12_near_72, bX12_near_96, bX12_near_98, bX12_near_115, bX12_near_116, bX12_near_126, bX12_near_127, bX12_near_146, bX12_near_154, a_ald, a_cv, a_iadd, a_iceq, a_icge, a_iclt, a_icne, a_ifge, a_ifne, a_ild, a_imul, a_inc, a_ineg, a_ist, a_isub, a_push, sh_71, pu_rv, pu_as, Value.category, pu_bk, pu_kl, List.replicate, pu_wi_1, pu_wi_2, nl_add, nl_ladd, nl_aa, nl_mul, nl_rmul, nl_mm, pu_qe0, pu_qe1, hc, e1, e2, e3, f, f2, g, a, b, b2]
              all_goals try simp (maxSteps := 400000) (disch := omega) [nl_tle, nl_fle, nl_tlt, nl_flt, nl_teq, nl_feq, nl_sub, nl_ss, nl_lt, nl_llt, nl_ltt, nl_le, nl_lle, nl_lee, nl_eq, nl_leq, nl_ee, nl_div, nl_rem, nl_cl, nl_n1, nl_n2, nl_n3, nl_n4, nl_add, nl_ladd, nl_aa, nl_mul, nl_rmul, nl_mm, pu_wi_1, pu_wi_2, bX12_near_49, bX12_near_160, bX12_near_72, bX12_near_96, bX12_near_98, bX12_near_115, bX12_near_116, bX12_near_126, bX12_near_127, bX12_near_146, bX12_near_154, a_ald, a_cv, a_iadd, a_iceq, a_icge, a_iclt, a_icne, a_ifge, a_ifne, a_ild, a_imul, a_inc, a_ineg, a_ist, a_isub, a_push, sh_71, pu_rv, pu_as, Value.category, pu_bk, pu_kl, pu_qe0, pu_qe1, hc, e1, e2, e3, f, f2, g, a, b, b2]
              exact fun z => absurd z (Int32.not_lt.mpr b2)
        · simp only [f, g, if_true, if_false] at hK
          by_cases a : p.1 = -1
          · rw [(r1 a).1, (r1 a).2]
            simp [bX12_near_49, bX12_near_160, bX12_near_72, bX12_near_96, bX12_near_98, bX12_near_115, bX12_near_116, bX12_near_126, bX12_near_127, bX12_near_146, bX12_near_154, a_ald, a_cv, a_iadd, a_iceq, a_icge, a_iclt, a_icne, a_ifge, a_ifne, a_ild, a_imul, a_inc, a_ineg, a_ist, a_isub, a_push, sh_71, pu_rv, pu_as, Value.category, pu_bk, pu_kl, List.replicate, pu_wi_1, pu_wi_2, nl_add, nl_ladd, nl_aa, nl_mul, nl_rmul, nl_mm, pu_qe0, pu_qe1, hc, e1, e2, e3, f, f2, g, a]
            all_goals try simp (maxSteps := 400000) (disch := omega) [nl_tle, nl_fle, nl_tlt, nl_flt, nl_teq, nl_feq, nl_sub, nl_ss, nl_lt, nl_llt, nl_ltt, nl_le, nl_lle, nl_lee, nl_eq, nl_leq, nl_ee, nl_div, nl_rem, nl_cl, nl_n1, nl_n2, nl_n3, nl_n4, nl_add, nl_ladd, nl_aa, nl_mul, nl_rmul, nl_mm, pu_wi_1, pu_wi_2, bX12_near_49, bX12_near_160, bX12_near_72, bX12_near_96, bX12_near_98, bX12_near_115, bX12_near_116, bX12_near_126, bX12_near_127, bX12_near_146, bX12_near_154, a_ald, a_cv, a_iadd, a_iceq, a_icge, a_iclt, a_icne, a_ifge, a_ifne, a_ild, a_imul, a_inc, a_ineg, a_ist, a_isub, a_push, sh_71, pu_rv, pu_as, Value.category, pu_bk, pu_kl, pu_qe0, pu_qe1, hc, e1, e2, e3, f, f2, g, a]
            all_goals try simp [bX12_near_49, bX12_near_160, bX12_near_72, bX12_near_96, bX12_near_98, bX12_near_115, bX12_near_116, bX12_near_126, bX12_near_127, bX12_near_146, bX12_near_154, a_ald, a_cv, a_iadd, a_iceq, a_icge, a_iclt, a_icne, a_ifge, a_ifne, a_ild, a_imul, a_inc, a_ineg, a_ist, a_isub, a_push, sh_71, pu_rv, pu_as, Value.category, pu_bk, pu_kl, List.replicate, pu_wi_1, pu_wi_2, nl_add, nl_ladd, nl_aa, nl_mul, nl_rmul, nl_mm, pu_qe0, pu_qe1, hc, e1, e2, e3, f, f2, g, a]
            all_goals try simp (maxSteps := 400000) (disch := omega) [nl_tle, nl_fle, nl_tlt, nl_flt, nl_teq, nl_feq, nl_sub, nl_ss, nl_lt, nl_llt, nl_ltt, nl_le, nl_lle, nl_lee, nl_eq, nl_leq, nl_ee, nl_div, nl_rem, nl_cl, nl_n1, nl_n2, nl_n3, nl_n4, nl_add, nl_ladd, nl_aa, nl_mul, nl_rmul, nl_mm, pu_wi_1, pu_wi_2, bX12_near_49, bX12_near_160, bX12_near_72, bX12_near_96, bX12_near_98, bX12_near_115, bX12_near_116, bX12_near_126, bX12_near_127, bX12_near_146, bX12_near_154, a_ald, a_cv, a_iadd, a_iceq, a_icge, a_iclt, a_icne, a_ifge, a_ifne, a_ild, a_imul, a_inc, a_ineg, a_ist, a_isub, a_push, sh_71, pu_rv, pu_as, Value.category, pu_bk, pu_kl, pu_qe0, pu_qe1, hc, e1, e2, e3, f, f2, g, a]
            simp [← hK]
          · by_cases b : K < p.2
            · have b2 := Int32.not_le.mpr b
              rw [(r2 a b).1, (r2 a b).2]
              rw [← hK] at b b2 ⊢
              simp at b b2
              simp [bX12_near_49, bX12_near_160, bX12_near_72, bX12_near_96, bX12_near_98, bX12_near_115, bX12_near_116, bX12_near_126, bX12_near_127, bX12_near_146, bX12_near_154, a_ald, a_cv, a_iadd, a_iceq, a_icge, a_iclt, a_icne, a_ifge, a_ifne, a_ild, a_imul, a_inc, a_ineg, a_ist, a_isub, a_push, sh_71, pu_rv, pu_as, Value.category, pu_bk, pu_kl, List.replicate, pu_wi_1, pu_wi_2, nl_add, nl_ladd, nl_aa, nl_mul, nl_rmul, nl_mm, pu_qe0, pu_qe1, hc, e1, e2, e3, f, f2, g, a, b, b2]
              all_goals try simp (maxSteps := 400000) (disch := omega) [nl_tle, nl_fle, nl_tlt, nl_flt, nl_teq, nl_feq, nl_sub, nl_ss, nl_lt, nl_llt, nl_ltt, nl_le, nl_lle, nl_lee, nl_eq, nl_leq, nl_ee, nl_div, nl_rem, nl_cl, nl_n1, nl_n2, nl_n3, nl_n4, nl_add, nl_ladd, nl_aa, nl_mul, nl_rmul, nl_mm, pu_wi_1, pu_wi_2, bX12_near_49, bX12_near_160, bX12_near_72, bX12_near_96, bX12_near_98, bX12_near_115, bX12_near_116, bX12_near_126, bX12_near_127, bX12_near_146, bX12_near_154, a_ald, a_cv, a_iadd, a_iceq, a_icge, a_iclt, a_icne, a_ifge, a_ifne, a_ild, a_imul, a_inc, a_ineg, a_ist, a_isub, a_push, sh_71, pu_rv, pu_as, Value.category, pu_bk, pu_kl, pu_qe0, pu_qe1, hc, e1, e2, e3, f, f2, g, a, b, b2]
              all_goals try simp [bX12_near_49, bX12_near_160, bX12_near_72, bX12_near_96, bX12_near_98, bX12_near_115, bX12_near_116, bX12_near_126, bX12_near_127, bX12_near_146, bX12_near_154, a_ald, a_cv, a_iadd, a_iceq, a_icge, a_iclt, a_icne, a_ifge, a_ifne, a_ild, a_imul, a_inc, a_ineg, a_ist, a_isub, a_push, sh_71, pu_rv, pu_as, Value.category, pu_bk, pu_kl, List.replicate, pu_wi_1, pu_wi_2, nl_add, nl_ladd, nl_aa, nl_mul, nl_rmul, nl_mm, pu_qe0, pu_qe1, hc, e1, e2, e3, f, f2, g, a, b, b2]
              all_goals try simp (maxSteps := 400000) (disch := omega) [nl_tle, nl_fle, nl_tlt, nl_flt, nl_teq, nl_feq, nl_sub, nl_ss, nl_lt, nl_llt, nl_ltt, nl_le, nl_lle, nl_lee, nl_eq, nl_leq, nl_ee, nl_div, nl_rem, nl_cl, nl_n1, nl_n2, nl_n3, nl_n4, nl_add, nl_ladd, nl_aa, nl_mul, nl_rmul, nl_mm, pu_wi_1, pu_wi_2, bX12_near_49, bX12_near_160, bX12_near_72, bX12_near_96, bX12_near_98, bX12_near_115, bX12_near_116, bX12_near_126, bX12_near_127, bX12_near_146, bX12_near_154, a_ald, a_cv, a_iadd, a_iceq, a_icge, a_iclt, a_icne, a_ifge, a_ifne, a_ild, a_imul, a_inc, a_ineg, a_ist, a_isub, a_push, sh_71, pu_rv, pu_as, Value.category, pu_bk, pu_kl, pu_qe0, pu_qe1, hc, e1, e2, e3, f, f2, g, a, b, b2]
            · have b2 := Int32.not_lt.mp b
              rw [(r3 a b).1, (r3 a b).2]
              rw [← hK] at b b2 ⊢
              simp at b b2
              simp [bX12_near_49, bX12_near_160, bX12_near_72, bX12_near_96, bX12_near_98, bX12_near_115, bX12_near_116, bX12_near_126, bX12_near_127, bX12_near_146, bX12_near_154, a_ald, a_cv, a_iadd, a_iceq, a_icge, a_iclt, a_icne, a_ifge, a_ifne, a_ild, a_imul, a_inc, a_ineg, a_ist, a_isub, a_push, sh_71, pu_rv, pu_as, Value.category, pu_bk, pu_kl, List.replicate, pu_wi_1, pu_wi_2, nl_add, nl_ladd, nl_aa, nl_mul, nl_rmul, nl_mm, pu_qe0, pu_qe1, hc, e1, e2, e3, f, f2, g, a, b, b2]
              all_goals try simp (maxSteps := 400000) (disch := omega) [nl_tle, nl_fle, nl_tlt, nl_flt, nl_teq, nl_feq, nl_sub, nl_ss, nl_lt, nl_llt, nl_ltt, nl_le, nl_lle, nl_lee, nl_eq, nl_leq, nl_ee, nl_div, nl_rem, nl_cl, nl_n1, nl_n2, nl_n3, nl_n4, nl_add, nl_ladd, nl_aa, nl_mul, nl_rmul, nl_mm, pu_wi_1, pu_wi_2, bX12_near_49, bX12_near_160, bX12_near_72, bX12_near_96, bX12_near_98, bX12_near_115, bX12_near_116, bX12_near_126, bX12_near_127, bX12_near_146, bX12_near_154, a_ald, a_cv, a_iadd, a_iceq, a_icge, a_iclt, a_icne, a_ifge, a_ifne, a_ild, a_imul, a_inc, a_ineg, a_ist, a_isub, a_push, sh_71, pu_rv, pu_as, Value.category, pu_bk, pu_kl, pu_qe0, pu_qe1, hc, e1, e2, e3, f, f2, g, a, b, b2]
              all_goals try simp [bX12_near_49, bX12_near_160, bX12_near_72, bX12_near_96, bX12_near_98, bX12_near_115, bX12_near_116, bX12_near_126, bX12_near_127, bX12_near_146, bX12_near_154, a_ald, a_cv, a_iadd, a_iceq, a_icge, a_iclt, a_icne, a_ifge, a_ifne, a_ild, a_imul, a_inc, a_ineg, a_ist, a_isub, a_push, sh_71, pu_rv, pu_as, Value.category, pu_bk, pu_kl, List.replicate, pu_wi_1, pu_wi_2, nl_add, nl_ladd, nl_aa, nl_mul, nl_rmul, nl_mm, pu_qe0, pu_qe1, hc, e1, e2, e3, f, f2, g, a, b, b2]
              all_goals try simp (maxSteps := 400000) (disch := omega) [nl_tle, nl_fle, nl_tlt, nl_flt, nl_teq, nl_feq, nl_sub, nl_ss, nl_lt, nl_llt, nl_ltt, nl_le, nl_lle, nl_lee, nl_eq, nl_leq, nl_ee, nl_div, nl_rem, nl_cl, nl_n1, nl_n2, nl_n3, nl_n4, nl_add, nl_ladd, nl_aa, nl_mul, nl_rmul, nl_mm, pu_wi_1, pu_wi_2, bX12_near_49, bX12_near_160, bX12_near_72, bX12_near_96, bX12_near_98, bX12_near_115, bX12_near_116, bX12_near_126, bX12_near_127, bX12_near_146, bX12_near_154, a_ald, a_cv, a_iadd, a_iceq, a_icge, a_iclt, a_icne, a_ifge, a_ifne, a_ild, a_imul, a_inc, a_ineg, a_ist, a_isub, a_push, sh_71, pu_rv, pu_as, Value.category, pu_bk, pu_kl, pu_qe0, pu_qe1, hc, e1, e2, e3, f, f2, g, a, b, b2]
              exact fun z => absurd z (Int32.not_lt.mpr b2)
      · have f2 : 0 ≤ I 41 (2 * d + w) - pc := Int32.not_lt.mp f
        by_cases g : I 40 (2 * d + w) = sd
        · simp only [f, g, if_true, if_false] at hK
          by_cases a : p.1 = -1
          · rw [(r1 a).1, (r1 a).2]
            simp [bX12_near_49, bX12_near_160, bX12_near_72, bX12_near_96, bX12_near_98, bX12_near_115, bX12_near_116, bX12_near_126, bX12_near_127, bX12_near_146, bX12_near_154, a_ald, a_cv, a_iadd, a_iceq, a_icge, a_iclt, a_icne, a_ifge, a_ifne, a_ild, a_imul, a_inc, a_ineg, a_ist, a_isub, a_push, sh_71, pu_rv, pu_as, Value.category, pu_bk, pu_kl, List.replicate, pu_wi_1, pu_wi_2, nl_add, nl_ladd, nl_aa, nl_mul, nl_rmul, nl_mm, pu_qe0, pu_qe1, hc, e1, e2, e3, f, f2, g, a]
            all_goals try simp (maxSteps := 400000) (disch := omega) [nl_tle, nl_fle, nl_tlt, nl_flt, nl_teq, nl_feq, nl_sub, nl_ss, nl_lt, nl_llt, nl_ltt, nl_le, nl_lle, nl_lee, nl_eq, nl_leq, nl_ee, nl_div, nl_rem, nl_cl, nl_n1, nl_n2, nl_n3, nl_n4, nl_add, nl_ladd, nl_aa, nl_mul, nl_rmul, nl_mm, pu_wi_1, pu_wi_2, bX12_near_49, bX12_near_160, bX12_near_72, bX12_near_96, bX12_near_98, bX12_near_115, bX12_near_116, bX12_near_126, bX12_near_127, bX12_near_146, bX12_near_154, a_ald, a_cv, a_iadd, a_iceq, a_icge, a_iclt, a_icne, a_ifge, a_ifne, a_ild, a_imul, a_inc, a_ineg, a_ist, a_isub, a_push, sh_71, pu_rv, pu_as, Value.category, pu_bk, pu_kl, pu_qe0, pu_qe1, hc, e1, e2, e3, f, f2, g, a]
            all_goals try simp [bX12_near_49, bX12_near_160, bX12_near_72, bX12_near_96, bX12_near_98, bX12_near_115, bX12_near_116, bX12_near_126, bX12_near_127, bX12_near_146, bX12_near_154, a_ald, a_cv, a_iadd, a_iceq, a_icge, a_iclt, a_icne, a_ifge, a_ifne, a_ild, a_imul, a_inc, a_ineg, a_ist, a_isub, a_push, sh_71, pu_rv, pu_as, Value.category, pu_bk, pu_kl, List.replicate, pu_wi_1, pu_wi_2, nl_add, nl_ladd, nl_aa, nl_mul, nl_rmul, nl_mm, pu_qe0, pu_qe1, hc, e1, e2, e3, f, f2, g, a]
            all_goals try simp (maxSteps := 400000) (disch := omega) [nl_tle, nl_fle, nl_tlt, nl_flt, nl_teq, nl_feq, nl_sub, nl_ss, nl_lt, nl_llt, nl_ltt, nl_le, nl_lle, nl_lee, nl_eq, nl_leq, nl_ee, nl_div, nl_rem, nl_cl, nl_n1, nl_n2, nl_n3, nl_n4, nl_add, nl_ladd, nl_aa, nl_mul, nl_rmul, nl_mm, pu_wi_1, pu_wi_2, bX12_near_49, bX12_near_160, bX12_near_72, bX12_near_96, bX12_near_98, bX12_near_115, bX12_near_116, bX12_near_126, bX12_near_127, bX12_near_146, bX12_near_154, a_ald, a_cv, a_iadd, a_iceq, a_icge, a_iclt, a_icne, a_ifge, a_ifne, a_ild, a_imul, a_inc, a_ineg, a_ist, a_isub, a_push, sh_71, pu_rv, pu_as, Value.category, pu_bk, pu_kl, pu_qe0, pu_qe1, hc, e1, e2, e3, f, f2, g, a]
            simp [← hK]
          · by_cases b : K < p.2
            · have b2 := Int32.not_le.mpr b
              rw [(r2 a b).1, (r2 a b).2]
              rw [← hK] at b b2 ⊢
              simp at b b2
              simp [bX12_near_49, bX12_near_160, bX12_near_72, bX12_near_96, bX12_near_98, bX12_near_115, bX12_near_116, bX12_near_126, bX12_near_127, bX12_near_146, bX12_near_154, a_ald, a_cv, a_iadd, a_iceq, a_icge, a_iclt, a_icne, a_ifge, a_ifne, a_ild, a_imul, a_inc, a_ineg, a_ist, a_isub, a_push, sh_71, pu_rv, pu_as, Value.category, pu_bk, pu_kl, List.replicate, pu_wi_1, pu_wi_2, nl_add, nl_ladd, nl_aa, nl_mul, nl_rmul, nl_mm, pu_qe0, pu_qe1, hc, e1, e2, e3, f, f2, g, a, b, b2]
              all_goals try simp (maxSteps := 400000) (disch := omega) [nl_tle, nl_fle, nl_tlt, nl_flt, nl_teq, nl_feq, nl_sub, nl_ss, nl_lt, nl_llt, nl_ltt, nl_le, nl_lle, nl_lee, nl_eq, nl_leq, nl_ee, nl_div, nl_rem, nl_cl, nl_n1, nl_n2, nl_n3, nl_n4, nl_add, nl_ladd, nl_aa, nl_mul, nl_rmul, nl_mm, pu_wi_1, pu_wi_2, bX12_near_49, bX12_near_160, bX12_near_72, bX12_near_96, bX12_near_98, bX12_near_115, bX12_near_116, bX12_near_126, bX12_near_127, bX12_near_146, bX12_near_154, a_ald, a_cv, a_iadd, a_iceq, a_icge, a_iclt, a_icne, a_ifge, a_ifne, a_ild, a_imul, a_inc, a_ineg, a_ist, a_isub, a_push, sh_71, pu_rv, pu_as, Value.category, pu_bk, pu_kl, pu_qe0, pu_qe1, hc, e1, e2, e3, f, f2, g, a, b, b2]
              all_goals try simp [bX12_near_49, bX12_near_160, bX12_near_72, bX12_near_96, bX12_near_98, bX12_near_115, bX12_near_116, bX12_near_126, bX12_near_127, bX12_near_146, bX12_near_154, a_ald, a_cv, a_iadd, a_iceq, a_icge, a_iclt, a_icne, a_ifge, a_ifne, a_ild, a_imul, a_inc, a_ineg, a_ist, a_isub, a_push, sh_71, pu_rv, pu_as, Value.category, pu_bk, pu_kl, List.replicate, pu_wi_1, pu_wi_2, nl_add, nl_ladd, nl_aa, nl_mul, nl_rmul, nl_mm, pu_qe0, pu_qe1, hc, e1, e2, e3, f, f2, g, a, b, b2]
              all_goals try simp (maxSteps := 400000) (disch := omega) [nl_tle, nl_fle, nl_tlt, nl_flt, nl_teq, nl_feq, nl_sub, nl_ss, nl_lt, nl_llt, nl_ltt, nl_le, nl_lle, nl_lee, nl_eq, nl_leq, nl_ee, nl_div, nl_rem, nl_cl, nl_n1, nl_n2, nl_n3, nl_n4, nl_add, nl_ladd, nl_aa, nl_mul, nl_rmul, nl_mm, pu_wi_1, pu_wi_2, bX12_near_49, bX12_near_160, bX12_near_72, bX12_near_96, bX12_near_98, bX12_near_115, bX12_near_116, bX12_near_126, bX12_near_127, bX12_near_146, bX12_near_154, a_ald, a_cv, a_iadd, a_iceq, a_icge, a_iclt, a_icne, a_ifge, a_ifne, a_ild, a_imul, a_inc, a_ineg, a_ist, a_isub, a_push, sh_71, pu_rv, pu_as, Value.category, pu_bk, pu_kl, pu_qe0, pu_qe1, hc, e1, e2, e3, f, f2, g, a, b, b2]
            · have b2 := Int32.not_lt.mp b
              rw [(r3 a b).1, (r3 a b).2]
              rw [← hK] at b b2 ⊢
              simp at b b2
              simp [bX12_near_49, bX12_near_160, bX12_near_72, bX12_near_96, bX12_near_98, bX12_near_115, bX12_near_116, bX12_near_126, bX12_near_127, bX12_near_146, bX12_near_154, a_ald, a_cv, a_iadd, a_iceq, a_icge, a_iclt, a_icne, a_ifge, a_ifne, a_ild, a_imul, a_inc, a_ineg, a_ist, a_isub, a_push, sh_71, pu_rv, pu_as, Value.category, pu_bk, pu_kl, List.replicate, pu_wi_1, pu_wi_2, nl_add, nl_ladd, nl_aa, nl_mul, nl_rmul, nl_mm, pu_qe0, pu_qe1, hc, e1, e2, e3, f, f2, g, a, b, b2]
              all_goals try simp (maxSteps := 400000) (disch := omega) [nl_tle, nl_fle, nl_tlt, nl_flt, nl_teq, nl_feq, nl_sub, nl_ss, nl_lt, nl_llt, nl_ltt, nl_le, nl_lle, nl_lee, nl_eq, nl_leq, nl_ee, nl_div, nl_rem, nl_cl, nl_n1, nl_n2, nl_n3, nl_n4, nl_add, nl_ladd, nl_aa, nl_mul, nl_rmul, nl_mm, pu_wi_1, pu_wi_2, bX12_near_49, bX12_near_160, bX12_near_72, bX12_near_96, bX12_near_98, bX12_near_115, bX12_near_116, bX12_near_126, bX12_near_127, bX12_near_146, bX12_near_154, a_ald, a_cv, a_iadd, a_iceq, a_icge, a_iclt, a_icne, a_ifge, a_ifne, a_ild, a_imul, a_inc, a_ineg, a_ist, a_isub, a_push, sh_71, pu_rv, pu_as, Value.category, pu_bk, pu_kl, pu_qe0, pu_qe1, hc, e1, e2, e3, f, f2, g, a, b, b2]
              all_goals try simp [bX12_near_49, bX12_near_160, bX12_near_72, bX12_near_96, bX12_near_98, bX12_near_115, bX12_near_116, bX12_near_126, bX12_near_127, bX12_near_146, bX12_near_154, a_ald, a_cv, a_iadd, a_iceq, a_icge, a_iclt, a_icne, a_ifge, a_ifne, a_ild, a_imul, a_inc, a_ineg, a_ist, a_isub, a_push, sh_71, pu_rv, pu_as, Value.category, pu_bk, pu_kl, List.replicate, pu_wi_1, pu_wi_2, nl_add, nl_ladd, nl_aa, nl_mul, nl_rmul, nl_mm, pu_qe0, pu_qe1, hc, e1, e2, e3, f, f2, g, a, b, b2]
              all_goals try simp (maxSteps := 400000) (disch := omega) [nl_tle, nl_fle, nl_tlt, nl_flt, nl_teq, nl_feq, nl_sub, nl_ss, nl_lt, nl_llt, nl_ltt, nl_le, nl_lle, nl_lee, nl_eq, nl_leq, nl_ee, nl_div, nl_rem, nl_cl, nl_n1, nl_n2, nl_n3, nl_n4, nl_add, nl_ladd, nl_aa, nl_mul, nl_rmul, nl_mm, pu_wi_1, pu_wi_2, bX12_near_49, bX12_near_160, bX12_near_72, bX12_near_96, bX12_near_98, bX12_near_115, bX12_near_116, bX12_near_126, bX12_near_127, bX12_near_146, bX12_near_154, a_ald, a_cv, a_iadd, a_iceq, a_icge, a_iclt, a_icne, a_ifge, a_ifne, a_ild, a_imul, a_inc, a_ineg, a_ist, a_isub, a_push, sh_71, pu_rv, pu_as, Value.category, pu_bk, pu_kl, pu_qe0, pu_qe1, hc, e1, e2, e3, f, f2, g, a, b, b2]
              exact fun z => absurd z (Int32.not_lt.mpr b2)
        · simp only [f, g, if_true, if_false] at hK
          by_cases a : p.1 = -1
          · rw [(r1 a).1, (r1 a).2]
            simp [bX12_near_49, bX12_near_160, bX12_near_72, bX12_near_96, bX12_near_98, bX12_near_115, bX12_near_116, bX12_near_126, bX12_near_127, bX12_near_146, bX12_near_154, a_ald, a_cv, a_iadd, a_iceq, a_icge, a_iclt, a_icne, a_ifge, a_ifne, a_ild, a_imul, a_inc, a_ineg, a_ist, a_isub, a_push, sh_71, pu_rv, pu_as, Value.category, pu_bk, pu_kl, List.replicate, pu_wi_1, pu_wi_2, nl_add, nl_ladd, nl_aa, nl_mul, nl_rmul, nl_mm, pu_qe0, pu_qe1, hc, e1, e2, e3, f, f2, g, a]
            all_goals try simp (maxSteps := 400000) (disch := omega) [nl_tle, nl_fle, nl_tlt, nl_flt, nl_teq, nl_feq, nl_sub, nl_ss, nl_lt, nl_llt, nl_ltt, nl_le, nl_lle, nl_lee, nl_eq, nl_leq, nl_ee, nl_div, nl_rem, nl_cl, nl_n1, nl_n2, nl_n3, nl_n4, nl_add, nl_ladd, nl_aa, nl_mul, nl_rmul, nl_mm, pu_wi_1, pu_wi_2, bX12_near_49, bX12_near_160, bX12_near_72, bX12_near_96, bX12_near_98, bX12_near_115, bX12_near_116, bX12_near_126, bX12_near_127, bX12_near_146, bX12_near_154, a_ald, a_cv, a_iadd, a_iceq, a_icge, a_iclt, a_icne, a_ifge, a_ifne, a_ild, a_imul, a_inc, a_ineg, a_ist, a_isub, a_push, sh_71, pu_rv, pu_as, Value.category, pu_bk, pu_kl, pu_qe0, pu_qe1, hc, e1, e2, e3, f, f2, g, a]
            all_goals try simp [bX12_near_49, bX12_near_160, bX12_near_72, bX12_near_96, bX12_near_98, bX12_near_115, bX12_near_116, bX12_near_126, bX12_near_127, bX12_near_146, bX12_near_154, a_ald, a_cv, a_iadd, a_iceq, a_icge, a_iclt, a_icne, a_ifge, a_ifne, a_ild, a_imul, a_inc, a_ineg, a_ist, a_isub, a_push, sh_71, pu_rv, pu_as, Value.category, pu_bk, pu_kl, List.replicate, pu_wi_1, pu_wi_2, nl_add, nl_ladd, nl_aa, nl_mul, nl_rmul, nl_mm, pu_qe0, pu_qe1, hc, e1, e2, e3, f, f2, g, a]
            all_goals try simp (maxSteps := 400000) (disch := omega) [nl_tle, nl_fle, nl_tlt, nl_flt, nl_teq, nl_feq, nl_sub, nl_ss, nl_lt, nl_llt, nl_ltt, nl_le, nl_lle, nl_lee, nl_eq, nl_leq, nl_ee, nl_div, nl_rem, nl_cl, nl_n1, nl_n2, nl_n3, nl_n4, nl_add, nl_ladd, nl_aa, nl_mul, nl_rmul, nl_mm, pu_wi_1, pu_wi_2, bX12_near_49, bX12_near_160, bX12_near_72, bX12_near_96, bX12_near_98, bX12_near_115, bX12_near_116, bX12_near_126, bX12_near_127, bX12_near_146, bX12_near_154, a_ald, a_cv, a_iadd, a_iceq, a_icge, a_iclt, a_icne, a_ifge, a_ifne, a_ild, a_imul, a_inc, a_ineg, a_ist, a_isub, a_push, sh_71, pu_rv, pu_as, Value.category, pu_bk, pu_kl, pu_qe0, pu_qe1, hc, e1, e2, e3, f, f2, g, a]
            simp [← hK]
          · by_cases b : K < p.2
            · have b2 := Int32.not_le.mpr b
              rw [(r2 a b).1, (r2 a b).2]
              rw [← hK] at b b2 ⊢
              simp at b b2
              simp [bX12_near_49, bX12_near_160, bX12_near_72, bX12_near_96, bX12_near_98, bX12_near_115, bX12_near_116, bX12_near_126, bX12_near_127, bX12_near_146, bX12_near_154, a_ald, a_cv, a_iadd, a_iceq, a_icge, a_iclt, a_icne, a_ifge, a_ifne, a_ild, a_imul, a_inc, a_ineg, a_ist, a_isub, a_push, sh_71, pu_rv, pu_as, Value.category, pu_bk, pu_kl, List.replicate, pu_wi_1, pu_wi_2, nl_add, nl_ladd, nl_aa, nl_mul, nl_rmul, nl_mm, pu_qe0, pu_qe1, hc, e1, e2, e3, f, f2, g, a, b, b2]
              all_goals try simp (maxSteps := 400000) (disch := omega) [nl_tle, nl_fle, nl_tlt, nl_flt, nl_teq, nl_feq, nl_sub, nl_ss, nl_lt, nl_llt, nl_ltt, nl_le, nl_lle, nl_lee, nl_eq, nl_leq, nl_ee, nl_div, nl_rem, nl_cl, nl_n1, nl_n2, nl_n3, nl_n4, nl_add, nl_ladd, nl_aa, nl_mul, nl_rmul, nl_mm, pu_wi_1, pu_wi_2, bX12_near_49, bX12_near_160, bX12_near_72, bX12_near_96, bX12_near_98, bX12_near_115, bX12_near_116, bX12_near_126, bX12_near_127, bX12_near_146, bX12_near_154, a_ald, a_cv, a_iadd, a_iceq, a_icge, a_iclt, a_icne, a_ifge, a_ifne, a_ild, a_imul, a_inc, a_ineg, a_ist, a_isub, a_push, sh_71, pu_rv, pu_as, Value.category, pu_bk, pu_kl, pu_qe0, pu_qe1, hc, e1, e2, e3, f, f2, g, a, b, b2]
              all_goals try simp [bX12_near_49, bX12_near_160, bX12_near_72, bX12_near_96, bX12_near_98, bX12_near_115, bX12_near_116, bX12_near_126, bX12_near_127, bX12_near_146, bX12_near_154, a_ald, a_cv, a_iadd, a_iceq, a_icge, a_iclt, a_icne, a_ifge, a_ifne, a_ild, a_imul, a_inc, a_ineg, a_ist, a_isub, a_push, sh_71, pu_rv, pu_as, Value.category, pu_bk, pu_kl, List.replicate, pu_wi_1, pu_wi_2, nl_add, nl_ladd, nl_aa, nl_mul, nl_rmul, nl_mm, pu_qe0, pu_qe1, hc, e1, e2, e3, f, f2, g, a, b, b2]
              all_goals try simp (maxSteps := 400000) (disch := omega) [nl_tle, nl_fle, nl_tlt, nl_flt, nl_teq, nl_feq, nl_sub, nl_ss, nl_lt, nl_llt, nl_ltt, nl_le, nl_lle, nl_lee, nl_eq, nl_leq, nl_ee, nl_div, nl_rem, nl_cl, nl_n1, nl_n2, nl_n3, nl_n4, nl_add, nl_ladd, nl_aa, nl_mul, nl_rmul, nl_mm, pu_wi_1, pu_wi_2, bX12_near_49, bX12_near_160, bX12_near_72, bX12_near_96, bX12_near_98, bX12_near_115, bX12_near_116, bX12_near_126, bX12_near_127, bX12_near_146, bX12_near_154, a_ald, a_cv, a_iadd, a_iceq, a_icge, a_iclt, a_icne, a_ifge, a_ifne, a_ild, a_imul, a_inc, a_ineg, a_ist, a_isub, a_push, sh_71, pu_rv, pu_as, Value.category, pu_bk, pu_kl, pu_qe0, pu_qe1, hc, e1, e2, e3, f, f2, g, a, b, b2]
            · have b2 := Int32.not_lt.mp b
              rw [(r3 a b).1, (r3 a b).2]
              rw [← hK] at b b2 ⊢
              simp at b b2
              simp [bX12_near_49, bX12_near_160, bX12_near_72, bX12_near_96, bX12_near_98, bX12_near_115, bX12_near_116, bX12_near_126, bX12_near_127, bX12_near_146, bX12_near_154, a_ald, a_cv, a_iadd, a_iceq, a_icge, a_iclt, a_icne, a_ifge, a_ifne, a_ild, a_imul, a_inc, a_ineg, a_ist, a_isub, a_push, sh_71, pu_rv, pu_as, Value.category, pu_bk, pu_kl, List.replicate, pu_wi_1, pu_wi_2, nl_add, nl_ladd, nl_aa, nl_mul, nl_rmul, nl_mm, pu_qe0, pu_qe1, hc, e1, e2, e3, f, f2, g, a, b, b2]
              all_goals try simp (maxSteps := 400000) (disch := omega) [nl_tle, nl_fle, nl_tlt, nl_flt, nl_teq, nl_feq, nl_sub, nl_ss, nl_lt, nl_llt, nl_ltt, nl_le, nl_lle, nl_lee, nl_eq, nl_leq, nl_ee, nl_div, nl_rem, nl_cl, nl_n1, nl_n2, nl_n3, nl_n4, nl_add, nl_ladd, nl_aa, nl_mul, nl_rmul, nl_mm, pu_wi_1, pu_wi_2, bX12_near_49, bX12_near_160, bX12_near_72, bX12_near_96, bX12_near_98, bX12_near_115, bX12_near_116, bX12_near_126, bX12_near_127, bX12_near_146, bX12_near_154, a_ald, a_cv, a_iadd, a_iceq, a_icge, a_iclt, a_icne, a_ifge, a_ifne, a_ild, a_imul, a_inc, a_ineg, a_ist, a_isub, a_push, sh_71, pu_rv, pu_as, Value.category, pu_bk, pu_kl, pu_qe0, pu_qe1, hc, e1, e2, e3, f, f2, g, a, b, b2]
              all_goals try simp [bX12_near_49, bX12_near_160, bX12_near_72, bX12_near_96, bX12_near_98, bX12_near_115, bX12_near_116, bX12_near_126, bX12_near_127, bX12_near_146, bX12_near_154, a_ald, a_cv, a_iadd, a_iceq, a_icge, a_iclt, a_icne, a_ifge, a_ifne, a_ild, a_imul, a_inc, a_ineg, a_ist, a_isub, a_push, sh_71, pu_rv, pu_as, Value.category, pu_bk, pu_kl, List.replicate, pu_wi_1, pu_wi_2, nl_add, nl_ladd, nl_aa, nl_mul, nl_rmul, nl_mm, pu_qe0, pu_qe1, hc, e1, e2, e3, f, f2, g, a, b, b2]
              all_goals try simp (maxSteps := 400000) (disch := omega) [nl_tle, nl_fle, nl_tlt, nl_flt, nl_teq, nl_feq, nl_sub, nl_ss, nl_lt, nl_llt, nl_ltt, nl_le, nl_lle, nl_lee, nl_eq, nl_leq, nl_ee, nl_div, nl_rem, nl_cl, nl_n1, nl_n2, nl_n3, nl_n4, nl_add, nl_ladd, nl_aa, nl_mul, nl_rmul, nl_mm, pu_wi_1, pu_wi_2, bX12_near_49, bX12_near_160, bX12_near_72, bX12_near_96, bX12_near_98, bX12_near_115, bX12_near_116, bX12_near_126, bX12_near_127, bX12_near_146, bX12_near_154, a_ald, a_cv, a_iadd, a_iceq, a_icge, a_iclt, a_icne, a_ifge, a_ifne, a_ild, a_imul, a_inc, a_ineg, a_ist, a_isub, a_push, sh_71, pu_rv, pu_as, Value.category, pu_bk, pu_kl, pu_qe0, pu_qe1, hc, e1, e2, e3, f, f2, g, a, b, b2]
              exact fun z => absurd z (Int32.not_lt.mpr b2)
    by_cases c2 : p.1 = -1 ∨ K < p.2
    · rw [if_pos ⟨c1, c2⟩]
      exact key _ _ (fun _ => ⟨rfl, rfl⟩) (fun _ _ => ⟨rfl, rfl⟩) (fun a b => absurd c2 (by rintro (z | z); exact a z; exact b z))
    · rw [if_neg (fun q => c2 q.2)]
      exact key _ _ (fun a => absurd (Or.inl a) c2) (fun _ b => absurd (Or.inr b) c2) (fun _ _ => ⟨rfl, rfl⟩)
  · rw [pu_q0 c1] at e1
    refine ⟨t9, t10, ?_⟩
    unfold pz_ms
    rw [if_neg (fun q => c1 q.1)]
    rw [qX12_near_49]
    simp [bX12_near_49, bX12_near_160, bX12_near_72, bX12_near_96, bX12_near_98, bX12_near_115, bX12_near_116, bX12_near_126, bX12_near_127, bX12_near_146, bX12_near_154, a_ald, a_cv, a_iadd, a_iceq, a_icge, a_iclt, a_icne, a_ifge, a_ifne, a_ild, a_imul, a_inc, a_ineg, a_ist, a_isub, a_push, sh_71, pu_rv, pu_as, Value.category, pu_bk, pu_kl, List.replicate, pu_wi_1, pu_wi_2, nl_add, nl_ladd, nl_aa, nl_mul, nl_rmul, nl_mm, pu_qe0, pu_qe1, hc, e1]
    all_goals try simp (maxSteps := 400000) (disch := omega) [nl_tle, nl_fle, nl_tlt, nl_flt, nl_teq, nl_feq, nl_sub, nl_ss, nl_lt, nl_llt, nl_ltt, nl_le, nl_lle, nl_lee, nl_eq, nl_leq, nl_ee, nl_div, nl_rem, nl_cl, nl_n1, nl_n2, nl_n3, nl_n4, nl_add, nl_ladd, nl_aa, nl_mul, nl_rmul, nl_mm, pu_wi_1, pu_wi_2, bX12_near_49, bX12_near_160, bX12_near_72, bX12_near_96, bX12_near_98, bX12_near_115, bX12_near_116, bX12_near_126, bX12_near_127, bX12_near_146, bX12_near_154, a_ald, a_cv, a_iadd, a_iceq, a_icge, a_iclt, a_icne, a_ifge, a_ifne, a_ild, a_imul, a_inc, a_ineg, a_ist, a_isub, a_push, sh_71, pu_rv, pu_as, Value.category, pu_bk, pu_kl, pu_qe0, pu_qe1, hc, e1]
    all_goals try simp [bX12_near_49, bX12_near_160, bX12_near_72, bX12_near_96, bX12_near_98, bX12_near_115, bX12_near_116, bX12_near_126, bX12_near_127, bX12_near_146, bX12_near_154, a_ald, a_cv, a_iadd, a_iceq, a_icge, a_iclt, a_icne, a_ifge, a_ifne, a_ild, a_imul, a_inc, a_ineg, a_ist, a_isub, a_push, sh_71, pu_rv, pu_as, Value.category, pu_bk, pu_kl, List.replicate, pu_wi_1, pu_wi_2, nl_add, nl_ladd, nl_aa, nl_mul, nl_rmul, nl_mm, pu_qe0, pu_qe1, hc, e1]
    all_goals try simp (maxSteps := 400000) (disch := omega) [nl_tle, nl_fle, nl_tlt, nl_flt, nl_teq, nl_feq, nl_sub, nl_ss, nl_lt, nl_llt, nl_ltt, nl_le, nl_lle, nl_lee, nl_eq, nl_leq, nl_ee, nl_div, nl_rem, nl_cl, nl_n1, nl_n2, nl_n3, nl_n4, nl_add, nl_ladd, nl_aa, nl_mul, nl_rmul, nl_mm, pu_wi_1, pu_wi_2, bX12_near_49, bX12_near_160, bX12_near_72, bX12_near_96, bX12_near_98, bX12_near_115, bX12_near_116, bX12_near_126, bX12_near_127, bX12_near_146, bX12_near_154, a_ald, a_cv, a_iadd, a_iceq, a_icge, a_iclt, a_icne, a_ifge, a_ifne, a_ild, a_imul, a_inc, a_ineg, a_ist, a_isub, a_push, sh_71, pu_rv, pu_as, Value.category, pu_bk, pu_kl, pu_qe0, pu_qe1, hc, e1]
theorem r_near_l (hx : pu_fx M) (hr : pu_Rel I L (M.1 72)) (hw : pu_WF I L) (st : Nat) (sd pc y : Int32) (hy : ¬ y < 0 ∧ ¬ 109574 < y) : ∀ (m d : Nat) (p : Int32 × Int32) (t8 t9 t10 : Option Value), d + m = cD I → pu_r 519 [some (.ref 71), some (.int (nI st)), some (.int sd), some (.int pc), some (.int y), some (.int p.1), some (.int p.2), some (.int (nI d)), t8, t9, t10] [] M = some (some (.int (pz_mn (pu_in I st y) (pu_ky I sd pc) (2 * m) (2 * d) p).1), M)
  | 0, d, p, t8, t9, t10, h => by
    have hD := wx_bD hw
    have hc : nI (cD I) ≤ nI d := nI_le (by omega) (by omega)
    rw [qX12_near_35]
    simp [bX12_near_35, bX12_near_166, a_ai, a_ald, a_gr, a_icge, a_ild, a_iret, a_ist, a_push, fx_71_0 hx, sh_71, sh_72, pu_rv, pu_as, Value.category, pu_bk, pu_kl, List.replicate, pu_wi_1, pu_wi_2, nl_add, nl_ladd, nl_aa, nl_mul, nl_rmul, nl_mm, pu_qe0, pu_qe1, rl_h4 hr, hc, pz_mn]
    all_goals try simp (maxSteps := 400000) (disch := omega) [nl_tle, nl_fle, nl_tlt, nl_flt, nl_teq, nl_feq, nl_sub, nl_ss, nl_lt, nl_llt, nl_ltt, nl_le, nl_lle, nl_lee, nl_eq, nl_leq, nl_ee, nl_div, nl_rem, nl_cl, nl_n1, nl_n2, nl_n3, nl_n4, nl_add, nl_ladd, nl_aa, nl_mul, nl_rmul, nl_mm, pu_wi_1, pu_wi_2, bX12_near_35, bX12_near_166, a_ai, a_ald, a_gr, a_icge, a_ild, a_iret, a_ist, a_push, fx_71_0 hx, sh_71, sh_72, pu_rv, pu_as, Value.category, pu_bk, pu_kl, pu_qe0, pu_qe1, rl_h4 hr, hc, pz_mn]
    all_goals try simp [bX12_near_35, bX12_near_166, a_ai, a_ald, a_gr, a_icge, a_ild, a_iret, a_ist, a_push, fx_71_0 hx, sh_71, sh_72, pu_rv, pu_as, Value.category, pu_bk, pu_kl, List.replicate, pu_wi_1, pu_wi_2, nl_add, nl_ladd, nl_aa, nl_mul, nl_rmul, nl_mm, pu_qe0, pu_qe1, rl_h4 hr, hc, pz_mn]
    all_goals try simp (maxSteps := 400000) (disch := omega) [nl_tle, nl_fle, nl_tlt, nl_flt, nl_teq, nl_feq, nl_sub, nl_ss, nl_lt, nl_llt, nl_ltt, nl_le, nl_lle, nl_lee, nl_eq, nl_leq, nl_ee, nl_div, nl_rem, nl_cl, nl_n1, nl_n2, nl_n3, nl_n4, nl_add, nl_ladd, nl_aa, nl_mul, nl_rmul, nl_mm, pu_wi_1, pu_wi_2, bX12_near_35, bX12_near_166, a_ai, a_ald, a_gr, a_icge, a_ild, a_iret, a_ist, a_push, fx_71_0 hx, sh_71, sh_72, pu_rv, pu_as, Value.category, pu_bk, pu_kl, pu_qe0, pu_qe1, rl_h4 hr, hc, pz_mn]
  | m + 1, d, p, t8, t9, t10, h => by
    have hD := wx_bD hw
    have hc : ¬ nI (cD I) ≤ nI d := nI_ge (by omega) (by omega)
    obtain ⟨a9, a10, a⟩ := r_near_i hx hr hw d 0 st (by omega) (by omega) sd pc y hy p t9 t10
    obtain ⟨b9, b10, b⟩ := r_near_i hx hr hw d 1 st (by omega) (by omega) sd pc y hy (pz_ms (pu_in I st y) (pu_ky I sd pc) (2 * d + 0) p) a9 a10
    have ih := r_near_l hx hr hw st sd pc y hy m (d + 1) (pz_ms (pu_in I st y) (pu_ky I sd pc) (2 * d + 1) (pz_ms (pu_in I st y) (pu_ky I sd pc) (2 * d + 0) p)) (some (.int (nI (1 + 1)))) b9 b10 (by omega)
    rw [nI_0] at a
    have e : 2 * (m + 1) = 2 * m + 1 + 1 := by omega
    rw [e, pz_mn, pz_mn]
    rw [show 2 * d + 1 + 1 = 2 * (d + 1) by omega]
    rw [show 2 * d + 0 = 2 * d by omega] at a b ih
    refine Eq.trans ?_ ih
    have z : pu_r 520 [some (.ref 71), some (.int (nI st)), some (.int sd), some (.int pc), some (.int y), some (.int p.1), some (.int p.2), some (.int (nI d)), some (.int 0), t9, t10] [] M = pu_r 519 [some (.ref 71), some (.int (nI st)), some (.int sd), some (.int pc), some (.int y), some (.int (pz_ms (pu_in I st y) (pu_ky I sd pc) (2 * d + 1) (pz_ms (pu_in I st y) (pu_ky I sd pc) (2 * d) p)).1), some (.int (pz_ms (pu_in I st y) (pu_ky I sd pc) (2 * d + 1) (pz_ms (pu_in I st y) (pu_ky I sd pc) (2 * d) p)).2), some (.int (nI (d + 1))), some (.int (nI (1 + 1))), b9, b10] [] M := by
      rw [a, b]
      have h2 : 2 ≤ nI (1 + 1) := by decide
      rw [qX12_near_49]
      simp [bX12_near_49, bX12_near_160, bX12_near_72, bX12_near_96, bX12_near_98, bX12_near_115, bX12_near_116, bX12_near_126, bX12_near_127, bX12_near_146, bX12_near_154, a_ald, a_cv, a_iadd, a_iceq, a_icge, a_iclt, a_icne, a_ifge, a_ifne, a_ild, a_imul, a_inc, a_ineg, a_ist, a_isub, a_push, sh_71, pu_rv, pu_as, Value.category, pu_bk, pu_kl, List.replicate, pu_wi_1, pu_wi_2, nl_add, nl_ladd, nl_aa, nl_mul, nl_rmul, nl_mm, pu_qe0, pu_qe1, h2]
      all_goals try simp (maxSteps := 400000) (disch := omega) [nl_tle, nl_fle, nl_tlt, nl_flt, nl_teq, nl_feq, nl_sub, nl_ss, nl_lt, nl_llt, nl_ltt, nl_le, nl_lle, nl_lee, nl_eq, nl_leq, nl_ee, nl_div, nl_rem, nl_cl, nl_n1, nl_n2, nl_n3, nl_n4, nl_add, nl_ladd, nl_aa, nl_mul, nl_rmul, nl_mm, pu_wi_1, pu_wi_2, bX12_near_49, bX12_near_160, bX12_near_72, bX12_near_96, bX12_near_98, bX12_near_115, bX12_near_116, bX12_near_126, bX12_near_127, bX12_near_146, bX12_near_154, a_ald, a_cv, a_iadd, a_iceq, a_icge, a_iclt, a_icne, a_ifge, a_ifne, a_ild, a_imul, a_inc, a_ineg, a_ist, a_isub, a_push, sh_71, pu_rv, pu_as, Value.category, pu_bk, pu_kl, pu_qe0, pu_qe1, h2]
      all_goals try simp [bX12_near_49, bX12_near_160, bX12_near_72, bX12_near_96, bX12_near_98, bX12_near_115, bX12_near_116, bX12_near_126, bX12_near_127, bX12_near_146, bX12_near_154, a_ald, a_cv, a_iadd, a_iceq, a_icge, a_iclt, a_icne, a_ifge, a_ifne, a_ild, a_imul, a_inc, a_ineg, a_ist, a_isub, a_push, sh_71, pu_rv, pu_as, Value.category, pu_bk, pu_kl, List.replicate, pu_wi_1, pu_wi_2, nl_add, nl_ladd, nl_aa, nl_mul, nl_rmul, nl_mm, pu_qe0, pu_qe1, h2]
      all_goals try simp (maxSteps := 400000) (disch := omega) [nl_tle, nl_fle, nl_tlt, nl_flt, nl_teq, nl_feq, nl_sub, nl_ss, nl_lt, nl_llt, nl_ltt, nl_le, nl_lle, nl_lee, nl_eq, nl_leq, nl_ee, nl_div, nl_rem, nl_cl, nl_n1, nl_n2, nl_n3, nl_n4, nl_add, nl_ladd, nl_aa, nl_mul, nl_rmul, nl_mm, pu_wi_1, pu_wi_2, bX12_near_49, bX12_near_160, bX12_near_72, bX12_near_96, bX12_near_98, bX12_near_115, bX12_near_116, bX12_near_126, bX12_near_127, bX12_near_146, bX12_near_154, a_ald, a_cv, a_iadd, a_iceq, a_icge, a_iclt, a_icne, a_ifge, a_ifne, a_ild, a_imul, a_inc, a_ineg, a_ist, a_isub, a_push, sh_71, pu_rv, pu_as, Value.category, pu_bk, pu_kl, pu_qe0, pu_qe1, h2]
    rw [qX12_near_35]
    simp [bX12_near_35, bX12_near_166, a_ai, a_ald, a_gr, a_icge, a_ild, a_iret, a_ist, a_push, fx_71_0 hx, sh_71, sh_72, pu_rv, pu_as, Value.category, pu_bk, pu_kl, List.replicate, pu_wi_1, pu_wi_2, nl_add, nl_ladd, nl_aa, nl_mul, nl_rmul, nl_mm, pu_qe0, pu_qe1, rl_h4 hr, hc, z]
    all_goals try simp (maxSteps := 400000) (disch := omega) [nl_tle, nl_fle, nl_tlt, nl_flt, nl_teq, nl_feq, nl_sub, nl_ss, nl_lt, nl_llt, nl_ltt, nl_le, nl_lle, nl_lee, nl_eq, nl_leq, nl_ee, nl_div, nl_rem, nl_cl, nl_n1, nl_n2, nl_n3, nl_n4, nl_add, nl_ladd, nl_aa, nl_mul, nl_rmul, nl_mm, pu_wi_1, pu_wi_2, bX12_near_35, bX12_near_166, a_ai, a_ald, a_gr, a_icge, a_ild, a_iret, a_ist, a_push, fx_71_0 hx, sh_71, sh_72, pu_rv, pu_as, Value.category, pu_bk, pu_kl, pu_qe0, pu_qe1, rl_h4 hr, hc, z]
    all_goals try simp [bX12_near_35, bX12_near_166, a_ai, a_ald, a_gr, a_icge, a_ild, a_iret, a_ist, a_push, fx_71_0 hx, sh_71, sh_72, pu_rv, pu_as, Value.category, pu_bk, pu_kl, List.replicate, pu_wi_1, pu_wi_2, nl_add, nl_ladd, nl_aa, nl_mul, nl_rmul, nl_mm, pu_qe0, pu_qe1, rl_h4 hr, hc, z]
    all_goals try simp (maxSteps := 400000) (disch := omega) [nl_tle, nl_fle, nl_tlt, nl_flt, nl_teq, nl_feq, nl_sub, nl_ss, nl_lt, nl_llt, nl_ltt, nl_le, nl_lle, nl_lee, nl_eq, nl_leq, nl_ee, nl_div, nl_rem, nl_cl, nl_n1, nl_n2, nl_n3, nl_n4, nl_add, nl_ladd, nl_aa, nl_mul, nl_rmul, nl_mm, pu_wi_1, pu_wi_2, bX12_near_35, bX12_near_166, a_ai, a_ald, a_gr, a_icge, a_ild, a_iret, a_ist, a_push, fx_71_0 hx, sh_71, sh_72, pu_rv, pu_as, Value.category, pu_bk, pu_kl, pu_qe0, pu_qe1, rl_h4 hr, hc, z]
end
