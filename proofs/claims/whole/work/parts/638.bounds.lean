/-! open numbers; bounds on the reference's side -/
/-- span k is the open one of slot j -/
def pz_os (I : Nat → Nat → Int32) (j k : Nat) : Prop := k < cU I ∧ pu_sl0 I k = j ∧ I 18 k = -1
section
variable {M : pu_M} {I : Nat → Nat → Int32} {L : Nat → Nat → Int64}
theorem pz_doq (hw : pu_WF I L) {d : Nat} (hd : d < cD I) : pu_oq (I 36 d) (I 37 d) (cP I) = (I 37 d = -1) := by
  have h1 := wx_do hw d hd
  have h2 := wx_dc hw d hd
  apply propext
  constructor
  · intro h
    rcases h.2 with q | q
    · exact q
    · omega
  · intro h
    exact ⟨by omega, Or.inl h⟩
theorem pz_os_un (hw : pu_WF I L) {j k l : Nat} (h1 : pz_os I j k) (h2 : pz_os I j l) : k = l :=
  wx_u1 hw (cP I) k l (Nat.le_refl _) h1.1 h2.1 (by rw [pu_uoq hw h1.1]; exact h1.2.2) (by rw [pu_uoq hw h2.1]; exact h2.2.2) (by rw [(pu_sl_lt hw h1.1).2, (pu_sl_lt hw h2.1).2, h1.2.1, h2.2.1])
theorem pz_os_ex (hw : pu_WF I L) {d w : Nat} (hd : d < cD I) (hw2 : w < 2) (h1 : I 37 d = -1) (h2 : pu_hp I d w) : ∃ k, pz_os I (2 * d + w) k := by
  have hD := wx_bD hw
  obtain ⟨k, k1, k2, k3⟩ := wx_u5 hw (cP I) d w (Nat.le_refl _) hd h2.1 (by rw [pz_doq hw hd]; exact h1) (by
    rcases h2.2 with q | q
    · exact Or.inl q
    · exact Or.inr ⟨q.1, q.2, by have := (wx_de hw d hd).2.1; omega⟩)
  rw [pu_uoq hw k1] at k2
  refine ⟨k, k1, ?_, k2⟩
  show (I 15 k).toNatClampNeg = _
  rw [k3, nI_clamp (by omega)]
theorem pz_os_d (hw : pu_WF I L) {j k : Nat} (h : pz_os I j k) : I 37 (j / 2) = -1 ∧ pu_hp I (j / 2) (j % 2) ∧ j < 2 * cD I := by
  have s1 := pu_sl_lt hw h.1
  rw [h.2.1] at s1
  have u4 := wx_u4 hw (cP I) k (Nat.le_refl _) h.1 (by rw [pu_uoq hw h.1]; exact h.2.2)
  rw [h.2.1] at u4
  rw [pz_doq hw (by omega)] at u4
  refine ⟨u4.1, ⟨u4.2.1, ?_⟩, s1.1⟩
  by_cases e : j % 2 = 1
  · exact Or.inr ⟨e, (u4.2.2 e).1⟩
  · exact Or.inl (by omega)
theorem r_openSpan_l (hx : pu_fx M) (hr : pu_Rel I L (M.1 72)) (hw : pu_WF I L) {d w k : Nat} (hw2 : w < 2) (hk : pz_os I (2 * d + w) k) : ∀ (i : Nat) (t : Option Value), k ≤ i → i < cU I → pu_r 457 [some (.ref 71), some (.int (nI d)), some (.int (nI w)), some (.int (nI i)), t] [] M = some (some (.int (nI k)), M) := by
  intro i
  have hU := wx_bU hw
  have hD := wx_bD hw
  have od := pz_os_d hw hk
  induction i with
  | zero =>
    intro t h1 h2
    have e : k = 0 := by omega
    subst e
    have c1 : (I 15 0).toNatClampNeg / 2 = d := by have := hk.2.1; unfold pu_sl0 at this; omega
    have c2 : (I 15 0).toNatClampNeg % 2 = w := by have := hk.2.1; unfold pu_sl0 at this; omega
    have a0 := rl_u0 hr 0 h2
    have a1 := rl_u1 hr 0 h2
    have a5 := rl_u5 hr 0 h2
    rw [qX12_openSpan_10]
    simp [bX12_openSpan_10, bX12_openSpan_69, bX12_openSpan_63, bX12_openSpan_52, a_ai, a_ald, a_gr, a_iadd, a_icne, a_iflt, a_ild, a_imul, a_inc, a_iret, a_ist, a_push, fx_71_0 hx, sh_71, sh_72, pu_rv, pu_as, Value.category, pu_bk, pu_kl, List.replicate, pu_wi_1, pu_wi_2, nl_add, nl_ladd, nl_aa, nl_mul, nl_rmul, nl_mm, pu_qe0, pu_qe1, a0, a1, a5, c1, c2, hk.2.2]
    all_goals try simp (maxSteps := 400000) (disch := omega) [nl_tle, nl_fle, nl_tlt, nl_flt, nl_teq, nl_feq, nl_sub, nl_ss, nl_lt, nl_llt, nl_ltt, nl_le, nl_lle, nl_lee, nl_eq, nl_leq, nl_ee, nl_div, nl_rem, nl_cl, nl_n1, nl_n2, nl_n3, nl_n4, nl_add, nl_ladd, nl_aa, nl_mul, nl_rmul, nl_mm, pu_wi_1, pu_wi_2, bX12_openSpan_10, bX12_openSpan_69, bX12_openSpan_63, bX12_openSpan_52, a_ai, a_ald, a_gr, a_iadd, a_icne, a_iflt, a_ild, a_imul, a_inc, a_iret, a_ist, a_push, fx_71_0 hx, sh_71, sh_72, pu_rv, pu_as, Value.category, pu_bk, pu_kl, pu_qe0, pu_qe1, a0, a1, a5, c1, c2, hk.2.2]
    all_goals try simp [bX12_openSpan_10, bX12_openSpan_69, bX12_openSpan_63, bX12_openSpan_52, a_ai, a_ald, a_gr, a_iadd, a_icne, a_iflt, a_ild, a_imul, a_inc, a_iret, a_ist, a_push, fx_71_0 hx, sh_71, sh_72, pu_rv, pu_as, Value.category, pu_bk, pu_kl, List.replicate, pu_wi_1, pu_wi_2, nl_add, nl_ladd, nl_aa, nl_mul, nl_rmul, nl_mm, pu_qe0, pu_qe1, a0, a1, a5, c1, c2, hk.2.2]
    all_goals try simp (maxSteps := 400000) (disch := omega) [nl_tle, nl_fle, nl_tlt, nl_flt, nl_teq, nl_feq, nl_sub, nl_ss, nl_lt, nl_llt, nl_ltt, nl_le, nl_lle, nl_lee, nl_eq, nl_leq, nl_ee, nl_div, nl_rem, nl_cl, nl_n1, nl_n2, nl_n3, nl_n4, nl_add, nl_ladd, nl_aa, nl_mul, nl_rmul, nl_mm, pu_wi_1, pu_wi_2, bX12_openSpan_10, bX12_openSpan_69, bX12_openSpan_63, bX12_openSpan_52, a_ai, a_ald, a_gr, a_iadd, a_icne, a_iflt, a_ild, a_imul, a_inc, a_iret, a_ist, a_push, fx_71_0 hx, sh_71, sh_72, pu_rv, pu_as, Value.category, pu_bk, pu_kl, pu_qe0, pu_qe1, a0, a1, a5, c1, c2, hk.2.2]
  | succ i ih =>
    intro t h1 h2
    have s1 := pu_sl_lt hw h2
    have a0 := rl_u0 hr (i + 1) h2
    have a1 := rl_u1 hr (i + 1) h2
    have a5 := rl_u5 hr (i + 1) h2
    have p0 : ¬ nI (i + 1) < 0 := nI_pos (by omega)
    have p1 : nI (i + 1) + (-1) = nI i := pk_m1 i
    by_cases e : k = i + 1
    · subst e
      have c1 : (I 15 (i + 1)).toNatClampNeg / 2 = d := by have := hk.2.1; unfold pu_sl0 at this; omega
      have c2 : (I 15 (i + 1)).toNatClampNeg % 2 = w := by have := hk.2.1; unfold pu_sl0 at this; omega
      rw [qX12_openSpan_10]
      simp [bX12_openSpan_10, bX12_openSpan_69, bX12_openSpan_63, bX12_openSpan_52, a_ai, a_ald, a_gr, a_iadd, a_icne, a_iflt, a_ild, a_imul, a_inc, a_iret, a_ist, a_push, fx_71_0 hx, sh_71, sh_72, pu_rv, pu_as, Value.category, pu_bk, pu_kl, List.replicate, pu_wi_1, pu_wi_2, nl_add, nl_ladd, nl_aa, nl_mul, nl_rmul, nl_mm, pu_qe0, pu_qe1, p0, a0, a1, a5, c1, c2, hk.2.2]
      all_goals try simp (maxSteps := 400000) (disch := omega) [nl_tle, nl_fle, nl_tlt, nl_flt, nl_teq, nl_feq, nl_sub, nl_ss, nl_lt, nl_llt, nl_ltt, nl_le, nl_lle, nl_lee, nl_eq, nl_leq, nl_ee, nl_div, nl_rem, nl_cl, nl_n1, nl_n2, nl_n3, nl_n4, nl_add, nl_ladd, nl_aa, nl_mul, nl_rmul, nl_mm, pu_wi_1, pu_wi_2, bX12_openSpan_10, bX12_openSpan_69, bX12_openSpan_63, bX12_openSpan_52, a_ai, a_ald, a_gr, a_iadd, a_icne, a_iflt, a_ild, a_imul, a_inc, a_iret, a_ist, a_push, fx_71_0 hx, sh_71, sh_72, pu_rv, pu_as, Value.category, pu_bk, pu_kl, pu_qe0, pu_qe1, p0, a0, a1, a5, c1, c2, hk.2.2]
      all_goals try simp [bX12_openSpan_10, bX12_openSpan_69, bX12_openSpan_63, bX12_openSpan_52, a_ai, a_ald, a_gr, a_iadd, a_icne, a_iflt, a_ild, a_imul, a_inc, a_iret, a_ist, a_push, fx_71_0 hx, sh_71, sh_72, pu_rv, pu_as, Value.category, pu_bk, pu_kl, List.replicate, pu_wi_1, pu_wi_2, nl_add, nl_ladd, nl_aa, nl_mul, nl_rmul, nl_mm, pu_qe0, pu_qe1, p0, a0, a1, a5, c1, c2, hk.2.2]
      all_goals try simp (maxSteps := 400000) (disch := omega) [nl_tle, nl_fle, nl_tlt, nl_flt, nl_teq, nl_feq, nl_sub, nl_ss, nl_lt, nl_llt, nl_ltt, nl_le, nl_lle, nl_lee, nl_eq, nl_leq, nl_ee, nl_div, nl_rem, nl_cl, nl_n1, nl_n2, nl_n3, nl_n4, nl_add, nl_ladd, nl_aa, nl_mul, nl_rmul, nl_mm, pu_wi_1, pu_wi_2, bX12_openSpan_10, bX12_openSpan_69, bX12_openSpan_63, bX12_openSpan_52, a_ai, a_ald, a_gr, a_iadd, a_icne, a_iflt, a_ild, a_imul, a_inc, a_iret, a_ist, a_push, fx_71_0 hx, sh_71, sh_72, pu_rv, pu_as, Value.category, pu_bk, pu_kl, pu_qe0, pu_qe1, p0, a0, a1, a5, c1, c2, hk.2.2]
    · have ih2 := fun t => ih t (by omega) (by omega)
      have s2 : (I 15 (i + 1)).toNatClampNeg < 2 * cD I := s1.1
      by_cases c1 : (I 15 (i + 1)).toNatClampNeg / 2 = d
      · by_cases c2 : (I 15 (i + 1)).toNatClampNeg % 2 = w
        · have c3 : ¬ I 18 (i + 1) = -1 := fun q => e (pz_os_un hw hk ⟨h2, by unfold pu_sl0; omega, q⟩)
          rw [qX12_openSpan_10]
          simp [bX12_openSpan_10, bX12_openSpan_69, bX12_openSpan_63, bX12_openSpan_52, a_ai, a_ald, a_gr, a_iadd, a_icne, a_iflt, a_ild, a_imul, a_inc, a_iret, a_ist, a_push, fx_71_0 hx, sh_71, sh_72, pu_rv, pu_as, Value.category, pu_bk, pu_kl, List.replicate, pu_wi_1, pu_wi_2, nl_add, nl_ladd, nl_aa, nl_mul, nl_rmul, nl_mm, pu_qe0, pu_qe1, p0, a0, a1, a5, c1, c2, c3, p1, ih2]
          all_goals try simp (maxSteps := 400000) (disch := omega) [nl_tle, nl_fle, nl_tlt, nl_flt, nl_teq, nl_feq, nl_sub, nl_ss, nl_lt, nl_llt, nl_ltt, nl_le, nl_lle, nl_lee, nl_eq, nl_leq, nl_ee, nl_div, nl_rem, nl_cl, nl_n1, nl_n2, nl_n3, nl_n4, nl_add, nl_ladd, nl_aa, nl_mul, nl_rmul, nl_mm, pu_wi_1, pu_wi_2, bX12_openSpan_10, bX12_openSpan_69, bX12_openSpan_63, bX12_openSpan_52, a_ai, a_ald, a_gr, a_iadd, a_icne, a_iflt, a_ild, a_imul, a_inc, a_iret, a_ist, a_push, fx_71_0 hx, sh_71, sh_72, pu_rv, pu_as, Value.category, pu_bk, pu_kl, pu_qe0, pu_qe1, p0, a0, a1, a5, c1, c2, c3, p1, ih2]
          all_goals try simp [bX12_openSpan_10, bX12_openSpan_69, bX12_openSpan_63, bX12_openSpan_52, a_ai, a_ald, a_gr, a_iadd, a_icne, a_iflt, a_ild, a_imul, a_inc, a_iret, a_ist, a_push, fx_71_0 hx, sh_71, sh_72, pu_rv, pu_as, Value.category, pu_bk, pu_kl, List.replicate, pu_wi_1, pu_wi_2, nl_add, nl_ladd, nl_aa, nl_mul, nl_rmul, nl_mm, pu_qe0, pu_qe1, p0, a0, a1, a5, c1, c2, c3, p1, ih2]
          all_goals try simp (maxSteps := 400000) (disch := omega) [nl_tle, nl_fle, nl_tlt, nl_flt, nl_teq, nl_feq, nl_sub, nl_ss, nl_lt, nl_llt, nl_ltt, nl_le, nl_lle, nl_lee, nl_eq, nl_leq, nl_ee, nl_div, nl_rem, nl_cl, nl_n1, nl_n2, nl_n3, nl_n4, nl_add, nl_ladd, nl_aa, nl_mul, nl_rmul, nl_mm, pu_wi_1, pu_wi_2, bX12_openSpan_10, bX12_openSpan_69, bX12_openSpan_63, bX12_openSpan_52, a_ai, a_ald, a_gr, a_iadd, a_icne, a_iflt, a_ild, a_imul, a_inc, a_iret, a_ist, a_push, fx_71_0 hx, sh_71, sh_72, pu_rv, pu_as, Value.category, pu_bk, pu_kl, pu_qe0, pu_qe1, p0, a0, a1, a5, c1, c2, c3, p1, ih2]
        · rw [qX12_openSpan_10]
          simp [bX12_openSpan_10, bX12_openSpan_69, bX12_openSpan_63, bX12_openSpan_52, a_ai, a_ald, a_gr, a_iadd, a_icne, a_iflt, a_ild, a_imul, a_inc, a_iret, a_ist, a_push, fx_71_0 hx, sh_71, sh_72, pu_rv, pu_as, Value.category, pu_bk, pu_kl, List.replicate, pu_wi_1, pu_wi_2, nl_add, nl_ladd, nl_aa, nl_mul, nl_rmul, nl_mm, pu_qe0, pu_qe1, p0, a0, a1, a5, c1, c2, p1, ih2]
          all_goals try simp (maxSteps := 400000) (disch := omega) [nl_tle, nl_fle, nl_tlt, nl_flt, nl_teq, nl_feq, nl_sub, nl_ss, nl_lt, nl_llt, nl_ltt, nl_le, nl_lle, nl_lee, nl_eq, nl_leq, nl_ee, nl_div, nl_rem, nl_cl, nl_n1, nl_n2, nl_n3, nl_n4, nl_add, nl_ladd, nl_aa, nl_mul, nl_rmul, nl_mm, pu_wi_1, pu_wi_2, bX12_openSpan_10, bX12_openSpan_69, bX12_openSpan_63, bX12_openSpan_52, a_ai, a_ald, a_gr, a_iadd, a_icne, a_iflt, a_ild, a_imul, a_inc, a_iret, a_ist, a_push, fx_71_0 hx, sh_71, sh_72, pu_rv, pu_as, Value.category, pu_bk, pu_kl, pu_qe0, pu_qe1, p0, a0, a1, a5, c1, c2, p1, ih2]
          all_goals try simp [bX12_openSpan_10, bX12_openSpan_69, bX12_openSpan_63, bX12_openSpan_52, a_ai, a_ald, a_gr, a_iadd, a_icne, a_iflt, a_ild, a_imul, a_inc, a_iret, a_ist, a_push, fx_71_0 hx, sh_71, sh_72, pu_rv, pu_as, Value.category, pu_bk, pu_kl, List.replicate, pu_wi_1, pu_wi_2, nl_add, nl_ladd, nl_aa, nl_mul, nl_rmul, nl_mm, pu_qe0, pu_qe1, p0, a0, a1, a5, c1, c2, p1, ih2]
          all_goals try simp (maxSteps := 400000) (disch := omega) [nl_tle, nl_fle, nl_tlt, nl_flt, nl_teq, nl_feq, nl_sub, nl_ss, nl_lt, nl_llt, nl_ltt, nl_le, nl_lle, nl_lee, nl_eq, nl_leq, nl_ee, nl_div, nl_rem, nl_cl, nl_n1, nl_n2, nl_n3, nl_n4, nl_add, nl_ladd, nl_aa, nl_mul, nl_rmul, nl_mm, pu_wi_1, pu_wi_2, bX12_openSpan_10, bX12_openSpan_69, bX12_openSpan_63, bX12_openSpan_52, a_ai, a_ald, a_gr, a_iadd, a_icne, a_iflt, a_ild, a_imul, a_inc, a_iret, a_ist, a_push, fx_71_0 hx, sh_71, sh_72, pu_rv, pu_as, Value.category, pu_bk, pu_kl, pu_qe0, pu_qe1, p0, a0, a1, a5, c1, c2, p1, ih2]
      · rw [qX12_openSpan_10]
        simp [bX12_openSpan_10, bX12_openSpan_69, bX12_openSpan_63, bX12_openSpan_52, a_ai, a_ald, a_gr, a_iadd, a_icne, a_iflt, a_ild, a_imul, a_inc, a_iret, a_ist, a_push, fx_71_0 hx, sh_71, sh_72, pu_rv, pu_as, Value.category, pu_bk, pu_kl, List.replicate, pu_wi_1, pu_wi_2, nl_add, nl_ladd, nl_aa, nl_mul, nl_rmul, nl_mm, pu_qe0, pu_qe1, p0, a0, a1, a5, c1, p1, ih2]
        all_goals try simp (maxSteps := 400000) (disch := omega) [nl_tle, nl_fle, nl_tlt, nl_flt, nl_teq, nl_feq, nl_sub, nl_ss, nl_lt, nl_llt, nl_ltt, nl_le, nl_lle, nl_lee, nl_eq, nl_leq, nl_ee, nl_div, nl_rem, nl_cl, nl_n1, nl_n2, nl_n3, nl_n4, nl_add, nl_ladd, nl_aa, nl_mul, nl_rmul, nl_mm, pu_wi_1, pu_wi_2, bX12_openSpan_10, bX12_openSpan_69, bX12_openSpan_63, bX12_openSpan_52, a_ai, a_ald, a_gr, a_iadd, a_icne, a_iflt, a_ild, a_imul, a_inc, a_iret, a_ist, a_push, fx_71_0 hx, sh_71, sh_72, pu_rv, pu_as, Value.category, pu_bk, pu_kl, pu_qe0, pu_qe1, p0, a0, a1, a5, c1, p1, ih2]
        all_goals try simp [bX12_openSpan_10, bX12_openSpan_69, bX12_openSpan_63, bX12_openSpan_52, a_ai, a_ald, a_gr, a_iadd, a_icne, a_iflt, a_ild, a_imul, a_inc, a_iret, a_ist, a_push, fx_71_0 hx, sh_71, sh_72, pu_rv, pu_as, Value.category, pu_bk, pu_kl, List.replicate, pu_wi_1, pu_wi_2, nl_add, nl_ladd, nl_aa, nl_mul, nl_rmul, nl_mm, pu_qe0, pu_qe1, p0, a0, a1, a5, c1, p1, ih2]
        all_goals try simp (maxSteps := 400000) (disch := omega) [nl_tle, nl_fle, nl_tlt, nl_flt, nl_teq, nl_feq, nl_sub, nl_ss, nl_lt, nl_llt, nl_ltt, nl_le, nl_lle, nl_lee, nl_eq, nl_leq, nl_ee, nl_div, nl_rem, nl_cl, nl_n1, nl_n2, nl_n3, nl_n4, nl_add, nl_ladd, nl_aa, nl_mul, nl_rmul, nl_mm, pu_wi_1, pu_wi_2, bX12_openSpan_10, bX12_openSpan_69, bX12_openSpan_63, bX12_openSpan_52, a_ai, a_ald, a_gr, a_iadd, a_icne, a_iflt, a_ild, a_imul, a_inc, a_iret, a_ist, a_push, fx_71_0 hx, sh_71, sh_72, pu_rv, pu_as, Value.category, pu_bk, pu_kl, pu_qe0, pu_qe1, p0, a0, a1, a5, c1, p1, ih2]
theorem r_openSpan (hx : pu_fx M) (hr : pu_Rel I L (M.1 72)) (hw : pu_WF I L) {d w k : Nat} (hw2 : w < 2) (hk : pz_os I (2 * d + w) k) : pu_r 272 [some (.ref 71), some (.int (nI d)), some (.int (nI w))] [] M = some (some (.int (nI k)), M) := by
  have hU := wx_bU hw
  have h1 := hk.1
  have e := r_openSpan_l hx hr hw hw2 hk (cU I - 1) none (by omega) (by omega)
  have p : nI (cU I) - 1 = nI (cU I - 1) := by
    have := nI_pred (cU I - 1)
    rw [show cU I - 1 + 1 = cU I by omega] at this
    exact this
  rw [qX12_openSpan]
  simp [a_ent, bX12_openSpan_0, a_ai, a_ald, a_gr, a_ist, a_isub, a_push, fx_71_0 hx, sh_71, sh_72, pu_rv, pu_as, Value.category, pu_bk, pu_kl, List.replicate, pu_wi_1, pu_wi_2, nl_add, nl_ladd, nl_aa, nl_mul, nl_rmul, nl_mm, pu_qe0, pu_qe1, rl_h6 hr, p, e]
  all_goals try simp (maxSteps := 400000) (disch := omega) [nl_tle, nl_fle, nl_tlt, nl_flt, nl_teq, nl_feq, nl_sub, nl_ss, nl_lt, nl_llt, nl_ltt, nl_le, nl_lle, nl_lee, nl_eq, nl_leq, nl_ee, nl_div, nl_rem, nl_cl, nl_n1, nl_n2, nl_n3, nl_n4, nl_add, nl_ladd, nl_aa, nl_mul, nl_rmul, nl_mm, pu_wi_1, pu_wi_2, bX12_openSpan_0, a_ai, a_ald, a_gr, a_ist, a_isub, a_push, fx_71_0 hx, sh_71, sh_72, pu_rv, pu_as, Value.category, pu_bk, pu_kl, pu_qe0, pu_qe1, rl_h6 hr, p, e]
  all_goals try simp [bX12_openSpan_0, a_ai, a_ald, a_gr, a_ist, a_isub, a_push, fx_71_0 hx, sh_71, sh_72, pu_rv, pu_as, Value.category, pu_bk, pu_kl, List.replicate, pu_wi_1, pu_wi_2, nl_add, nl_ladd, nl_aa, nl_mul, nl_rmul, nl_mm, pu_qe0, pu_qe1, rl_h6 hr, p, e]
  all_goals try simp (maxSteps := 400000) (disch := omega) [nl_tle, nl_fle, nl_tlt, nl_flt, nl_teq, nl_feq, nl_sub, nl_ss, nl_lt, nl_llt, nl_ltt, nl_le, nl_lle, nl_lee, nl_eq, nl_leq, nl_ee, nl_div, nl_rem, nl_cl, nl_n1, nl_n2, nl_n3, nl_n4, nl_add, nl_ladd, nl_aa, nl_mul, nl_rmul, nl_mm, pu_wi_1, pu_wi_2, bX12_openSpan_0, a_ai, a_ald, a_gr, a_ist, a_isub, a_push, fx_71_0 hx, sh_71, sh_72, pu_rv, pu_as, Value.category, pu_bk, pu_kl, pu_qe0, pu_qe1, rl_h6 hr, p, e]
theorem r_wholeAt (hx : pu_fx M) (hr : pu_Rel I L (M.1 72)) (hw : pu_WF I L) {d w k : Nat} (hw2 : w < 2) (hk : pz_os I (2 * d + w) k) : pu_r 273 [some (.ref 71), some (.int (nI d)), some (.int (nI w))] [] M = some (some (.int (I 16 k)), M) := by
  have hU := wx_bU hw
  have h1 := hk.1
  have e := r_openSpan hx hr hw hw2 hk
  have n1 : ¬ nI k = -1 := fun q => by rw [nl_n1 k (by omega)] at q; exact q
  rw [qX12_wholeAt]
  simp [a_ent, bX12_wholeAt_0, bX12_wholeAt_16, bX12_wholeAt_31, a_ai, a_ald, a_cv, a_gr, a_iadd, a_icne, a_ild, a_imul, a_iret, a_ist, a_push, fx_71_0 hx, sh_71, sh_72, pu_rv, pu_as, Value.category, pu_bk, pu_kl, List.replicate, pu_wi_1, pu_wi_2, nl_add, nl_ladd, nl_aa, nl_mul, nl_rmul, nl_mm, pu_qe0, pu_qe1, e, n1, rl_u3 hr]
  all_goals try simp (maxSteps := 400000) (disch := omega) [nl_tle, nl_fle, nl_tlt, nl_flt, nl_teq, nl_feq, nl_sub, nl_ss, nl_lt, nl_llt, nl_ltt, nl_le, nl_lle, nl_lee, nl_eq, nl_leq, nl_ee, nl_div, nl_rem, nl_cl, nl_n1, nl_n2, nl_n3, nl_n4, nl_add, nl_ladd, nl_aa, nl_mul, nl_rmul, nl_mm, pu_wi_1, pu_wi_2, bX12_wholeAt_0, bX12_wholeAt_16, bX12_wholeAt_31, a_ai, a_ald, a_cv, a_gr, a_iadd, a_icne, a_ild, a_imul, a_iret, a_ist, a_push, fx_71_0 hx, sh_71, sh_72, pu_rv, pu_as, Value.category, pu_bk, pu_kl, pu_qe0, pu_qe1, e, n1, rl_u3 hr]
  all_goals try simp [bX12_wholeAt_0, bX12_wholeAt_16, bX12_wholeAt_31, a_ai, a_ald, a_cv, a_gr, a_iadd, a_icne, a_ild, a_imul, a_iret, a_ist, a_push, fx_71_0 hx, sh_71, sh_72, pu_rv, pu_as, Value.category, pu_bk, pu_kl, List.replicate, pu_wi_1, pu_wi_2, nl_add, nl_ladd, nl_aa, nl_mul, nl_rmul, nl_mm, pu_qe0, pu_qe1, e, n1, rl_u3 hr]
  all_goals try simp (maxSteps := 400000) (disch := omega) [nl_tle, nl_fle, nl_tlt, nl_flt, nl_teq, nl_feq, nl_sub, nl_ss, nl_lt, nl_llt, nl_ltt, nl_le, nl_lle, nl_lee, nl_eq, nl_leq, nl_ee, nl_div, nl_rem, nl_cl, nl_n1, nl_n2, nl_n3, nl_n4, nl_add, nl_ladd, nl_aa, nl_mul, nl_rmul, nl_mm, pu_wi_1, pu_wi_2, bX12_wholeAt_0, bX12_wholeAt_16, bX12_wholeAt_31, a_ai, a_ald, a_cv, a_gr, a_iadd, a_icne, a_ild, a_imul, a_iret, a_ist, a_push, fx_71_0 hx, sh_71, sh_72, pu_rv, pu_as, Value.category, pu_bk, pu_kl, pu_qe0, pu_qe1, e, n1, rl_u3 hr]
/-- a place along the street -/
def pz_alx (r s p : Int32) : Int32 := if r = 1 then (if s = 0 then p else 20000 - p) else 100000 * s + p
theorem r_along (r s p : Int32) (M : pu_M) : pu_r 275 [some (.int r), some (.int s), some (.int p)] [] M = some (some (.int (pz_alx r s p)), M) := by
  unfold pz_alx
  by_cases c : r = 1
  · by_cases c2 : s = 0
    · rw [qX12_along]
      simp [a_ent, bX12_along_0, bX12_along_19, bX12_along_13, bX12_along_18, a_iadd, a_icne, a_ifne, a_ild, a_imul, a_iret, a_isub, a_push, pu_rv, pu_as, Value.category, pu_bk, pu_kl, List.replicate, pu_wi_1, pu_wi_2, nl_add, nl_ladd, nl_aa, nl_mul, nl_rmul, nl_mm, pu_qe0, pu_qe1, c, c2]
      all_goals try simp (maxSteps := 400000) (disch := omega) [nl_tle, nl_fle, nl_tlt, nl_flt, nl_teq, nl_feq, nl_sub, nl_ss, nl_lt, nl_llt, nl_ltt, nl_le, nl_lle, nl_lee, nl_eq, nl_leq, nl_ee, nl_div, nl_rem, nl_cl, nl_n1, nl_n2, nl_n3, nl_n4, nl_add, nl_ladd, nl_aa, nl_mul, nl_rmul, nl_mm, pu_wi_1, pu_wi_2, bX12_along_0, bX12_along_19, bX12_along_13, bX12_along_18, a_iadd, a_icne, a_ifne, a_ild, a_imul, a_iret, a_isub, a_push, pu_rv, pu_as, Value.category, pu_bk, pu_kl, pu_qe0, pu_qe1, c, c2]
      all_goals try simp [bX12_along_0, bX12_along_19, bX12_along_13, bX12_along_18, a_iadd, a_icne, a_ifne, a_ild, a_imul, a_iret, a_isub, a_push, pu_rv, pu_as, Value.category, pu_bk, pu_kl, List.replicate, pu_wi_1, pu_wi_2, nl_add, nl_ladd, nl_aa, nl_mul, nl_rmul, nl_mm, pu_qe0, pu_qe1, c, c2]
      all_goals try simp (maxSteps := 400000) (disch := omega) [nl_tle, nl_fle, nl_tlt, nl_flt, nl_teq, nl_feq, nl_sub, nl_ss, nl_lt, nl_llt, nl_ltt, nl_le, nl_lle, nl_lee, nl_eq, nl_leq, nl_ee, nl_div, nl_rem, nl_cl, nl_n1, nl_n2, nl_n3, nl_n4, nl_add, nl_ladd, nl_aa, nl_mul, nl_rmul, nl_mm, pu_wi_1, pu_wi_2, bX12_along_0, bX12_along_19, bX12_along_13, bX12_along_18, a_iadd, a_icne, a_ifne, a_ild, a_imul, a_iret, a_isub, a_push, pu_rv, pu_as, Value.category, pu_bk, pu_kl, pu_qe0, pu_qe1, c, c2]
    · rw [qX12_along]
      simp [a_ent, bX12_along_0, bX12_along_19, bX12_along_13, bX12_along_18, a_iadd, a_icne, a_ifne, a_ild, a_imul, a_iret, a_isub, a_push, pu_rv, pu_as, Value.category, pu_bk, pu_kl, List.replicate, pu_wi_1, pu_wi_2, nl_add, nl_ladd, nl_aa, nl_mul, nl_rmul, nl_mm, pu_qe0, pu_qe1, c, c2]
      all_goals try simp (maxSteps := 400000) (disch := omega) [nl_tle, nl_fle, nl_tlt, nl_flt, nl_teq, nl_feq, nl_sub, nl_ss, nl_lt, nl_llt, nl_ltt, nl_le, nl_lle, nl_lee, nl_eq, nl_leq, nl_ee, nl_div, nl_rem, nl_cl, nl_n1, nl_n2, nl_n3, nl_n4, nl_add, nl_ladd, nl_aa, nl_mul, nl_rmul, nl_mm, pu_wi_1, pu_wi_2, bX12_along_0, bX12_along_19, bX12_along_13, bX12_along_18, a_iadd, a_icne, a_ifne, a_ild, a_imul, a_iret, a_isub, a_push, pu_rv, pu_as, Value.category, pu_bk, pu_kl, pu_qe0, pu_qe1, c, c2]
      all_goals try simp [bX12_along_0, bX12_along_19, bX12_along_13, bX12_along_18, a_iadd, a_icne, a_ifne, a_ild, a_imul, a_iret, a_isub, a_push, pu_rv, pu_as, Value.category, pu_bk, pu_kl, List.replicate, pu_wi_1, pu_wi_2, nl_add, nl_ladd, nl_aa, nl_mul, nl_rmul, nl_mm, pu_qe0, pu_qe1, c, c2]
      all_goals try simp (maxSteps := 400000) (disch := omega) [nl_tle, nl_fle, nl_tlt, nl_flt, nl_teq, nl_feq, nl_sub, nl_ss, nl_lt, nl_llt, nl_ltt, nl_le, nl_lle, nl_lee, nl_eq, nl_leq, nl_ee, nl_div, nl_rem, nl_cl, nl_n1, nl_n2, nl_n3, nl_n4, nl_add, nl_ladd, nl_aa, nl_mul, nl_rmul, nl_mm, pu_wi_1, pu_wi_2, bX12_along_0, bX12_along_19, bX12_along_13, bX12_along_18, a_iadd, a_icne, a_ifne, a_ild, a_imul, a_iret, a_isub, a_push, pu_rv, pu_as, Value.category, pu_bk, pu_kl, pu_qe0, pu_qe1, c, c2]
  · rw [qX12_along]
    simp [a_ent, bX12_along_0, bX12_along_19, bX12_along_13, bX12_along_18, a_iadd, a_icne, a_ifne, a_ild, a_imul, a_iret, a_isub, a_push, pu_rv, pu_as, Value.category, pu_bk, pu_kl, List.replicate, pu_wi_1, pu_wi_2, nl_add, nl_ladd, nl_aa, nl_mul, nl_rmul, nl_mm, pu_qe0, pu_qe1, c]
    all_goals try simp (maxSteps := 400000) (disch := omega) [nl_tle, nl_fle, nl_tlt, nl_flt, nl_teq, nl_feq, nl_sub, nl_ss, nl_lt, nl_llt, nl_ltt, nl_le, nl_lle, nl_lee, nl_eq, nl_leq, nl_ee, nl_div, nl_rem, nl_cl, nl_n1, nl_n2, nl_n3, nl_n4, nl_add, nl_ladd, nl_aa, nl_mul, nl_rmul, nl_mm, pu_wi_1, pu_wi_2, bX12_along_0, bX12_along_19, bX12_along_13, bX12_along_18, a_iadd, a_icne, a_ifne, a_ild, a_imul, a_iret, a_isub, a_push, pu_rv, pu_as, Value.category, pu_bk, pu_kl, pu_qe0, pu_qe1, c]
    all_goals try simp [bX12_along_0, bX12_along_19, bX12_along_13, bX12_along_18, a_iadd, a_icne, a_ifne, a_ild, a_imul, a_iret, a_isub, a_push, pu_rv, pu_as, Value.category, pu_bk, pu_kl, List.replicate, pu_wi_1, pu_wi_2, nl_add, nl_ladd, nl_aa, nl_mul, nl_rmul, nl_mm, pu_qe0, pu_qe1, c]
    all_goals try simp (maxSteps := 400000) (disch := omega) [nl_tle, nl_fle, nl_tlt, nl_flt, nl_teq, nl_feq, nl_sub, nl_ss, nl_lt, nl_llt, nl_ltt, nl_le, nl_lle, nl_lee, nl_eq, nl_leq, nl_ee, nl_div, nl_rem, nl_cl, nl_n1, nl_n2, nl_n3, nl_n4, nl_add, nl_ladd, nl_aa, nl_mul, nl_rmul, nl_mm, pu_wi_1, pu_wi_2, bX12_along_0, bX12_along_19, bX12_along_13, bX12_along_18, a_iadd, a_icne, a_ifne, a_ild, a_imul, a_iret, a_isub, a_push, pu_rv, pu_as, Value.category, pu_bk, pu_kl, pu_qe0, pu_qe1, c]
theorem r_isOrdered (r s p : Int32) (M : pu_M) : pu_r 276 [some (.int r), some (.int s), some (.int p)] [] M = some (some (.int (pu_q (r = 1 ∨ s = p))), M) := by
  rw [qX12_isOrdered]
  simp [a_ent, bX12_isOrdered_0, bX12_isOrdered_10, bX12_isOrdered_15, bX12_isOrdered_14, a_iceq, a_icne, a_ild, a_push, a_zret, pu_rv, pu_as, Value.category, pu_bk, pu_kl, List.replicate, pu_wi_1, pu_wi_2, nl_add, nl_ladd, nl_aa, nl_mul, nl_rmul, nl_mm, pu_qe0, pu_qe1]
  all_goals try simp (maxSteps := 400000) (disch := omega) [nl_tle, nl_fle, nl_tlt, nl_flt, nl_teq, nl_feq, nl_sub, nl_ss, nl_lt, nl_llt, nl_ltt, nl_le, nl_lle, nl_lee, nl_eq, nl_leq, nl_ee, nl_div, nl_rem, nl_cl, nl_n1, nl_n2, nl_n3, nl_n4, nl_add, nl_ladd, nl_aa, nl_mul, nl_rmul, nl_mm, pu_wi_1, pu_wi_2, bX12_isOrdered_0, bX12_isOrdered_10, bX12_isOrdered_15, bX12_isOrdered_14, a_iceq, a_icne, a_ild, a_push, a_zret, pu_rv, pu_as, Value.category, pu_bk, pu_kl, pu_qe0, pu_qe1]
  all_goals try simp [bX12_isOrdered_0, bX12_isOrdered_10, bX12_isOrdered_15, bX12_isOrdered_14, a_iceq, a_icne, a_ild, a_push, a_zret, pu_rv, pu_as, Value.category, pu_bk, pu_kl, List.replicate, pu_wi_1, pu_wi_2, nl_add, nl_ladd, nl_aa, nl_mul, nl_rmul, nl_mm, pu_qe0, pu_qe1]
  all_goals try simp (maxSteps := 400000) (disch := omega) [nl_tle, nl_fle, nl_tlt, nl_flt, nl_teq, nl_feq, nl_sub, nl_ss, nl_lt, nl_llt, nl_ltt, nl_le, nl_lle, nl_lee, nl_eq, nl_leq, nl_ee, nl_div, nl_rem, nl_cl, nl_n1, nl_n2, nl_n3, nl_n4, nl_add, nl_ladd, nl_aa, nl_mul, nl_rmul, nl_mm, pu_wi_1, pu_wi_2, bX12_isOrdered_0, bX12_isOrdered_10, bX12_isOrdered_15, bX12_isOrdered_14, a_iceq, a_icne, a_ild, a_push, a_zret, pu_rv, pu_as, Value.category, pu_bk, pu_kl, pu_qe0, pu_qe1]
  grind [pu_q]
def pz_al (r s p : Int) : Int := if r = 1 then (if s = 0 then p else 20000 - p) else 100000 * s + p
theorem pz_al_e {r s p : Int32} (h1 : 0 ≤ s.toInt) (h2 : s.toInt ≤ 1) (h3 : 0 ≤ p.toInt) (h4 : p.toInt ≤ 9999) : (pz_alx r s p).toInt = pz_al r.toInt s.toInt p.toInt := by
  have er : (r = 1) = (r.toInt = 1) := propext ⟨fun e => by rw [e]; decide, fun e => Int32.toInt_inj.mp (by rw [e]; decide)⟩
  have es : (s = 0) = (s.toInt = 0) := propext ⟨fun e => by rw [e]; decide, fun e => Int32.toInt_inj.mp (by rw [e]; decide)⟩
  have a1 := pu_nnT h1
  have a3 := pu_nnT h3
  unfold pz_alx pz_al
  by_cases c : r = 1
  · have c' : r.toInt = 1 := by rw [← er]; exact c
    simp only [c, c', if_true]
    by_cases c2 : s = 0
    · have c2' : s.toInt = 0 := by rw [← es]; exact c2
      simp only [c2, if_true]
      rw [show (0 : Int32).toInt = 0 by decide]
      simp
    · have c2' : ¬ s.toInt = 0 := by rw [← es]; exact c2
      simp only [c2, c2', if_false]
      rw [pz_sub (a := 20000) (b := p) (by decide) (by decide) h3 (by omega)]
      rw [show (20000 : Int32).toInt = 20000 by decide]
      rfl
  · have c' : ¬ r.toInt = 1 := by rw [← er]; exact c
    simp only [c, c', if_false]
    rw [pu_nn0 h1, pu_nn0 h3, show (100000 : Int32) = nI 100000 from rfl, pk_mul, nI_add, nI_toInt (by omega), nI_toInt (by omega), nI_toInt (by omega)]
    omega
/-- memory with the two bounds -/
def pz_lh (M : pu_M) (lo hi : Int32) : pu_M := pu_wi (pu_wi M 71 10 lo) 71 11 hi
theorem pz_lh_1 (M : pu_M) (lo hi v : Int32) : pu_wi (pz_lh M lo hi) 71 10 v = pz_lh M v hi := by
  unfold pz_lh pu_wi
  congr 1
  funext b j
  grind
theorem pz_lh_2 (M : pu_M) (lo hi v : Int32) : pu_wi (pz_lh M lo hi) 71 11 v = pz_lh M lo v := by
  unfold pz_lh pu_wi
  congr 1
  funext b j
  grind
theorem pz_lh_x {lo hi : Int32} (hx : pu_fx M) : pu_fx (pz_lh M lo hi) := hx
theorem pz_lh_s (M : pu_M) (lo hi : Int32) : (pz_lh M lo hi).1 72 = M.1 72 := by
  unfold pz_lh
  rw [pu_s_wo (by decide), pu_s_wo (by decide)]
/-- an open known number of the street, in line with a side -/
def pz_el (I : Nat → Nat → Int32) (st : Nat) (sd : Int) (k : Nat) : Prop := k < cU I ∧ I 39 (pu_sl0 I k) = nI st ∧ I 18 k = -1 ∧ ((I 27 st).toInt = 1 ∨ (I 40 (pu_sl0 I k)).toInt = sd) ∧ 0 < (I 16 k).toInt
def pz_ak (I : Nat → Nat → Int32) (st k : Nat) : Int := pz_al (I 27 st).toInt (I 40 (pu_sl0 I k)).toInt (I 41 (pu_sl0 I k)).toInt
def pz_lo (I : Nat → Nat → Int32) (st : Nat) (sd h : Int) (J : Nat) (be : Int) (lo : Int32) : Prop := (be = -1 ∧ lo = 0 ∧ ∀ k, pz_el I st sd k → pu_sl0 I k < J → ¬ pz_ak I st k < h) ∨ ∃ k, pz_el I st sd k ∧ pu_sl0 I k < J ∧ pz_ak I st k < h ∧ pz_ak I st k = be ∧ I 16 k = lo ∧ ∀ l, pz_el I st sd l → pu_sl0 I l < J → pz_ak I st l < h → pz_ak I st l ≤ be
def pz_hi (I : Nat → Nat → Int32) (st : Nat) (sd h : Int) (J : Nat) (be : Int) (lo : Int32) : Prop := (be = 1000000 ∧ lo = 160000 ∧ ∀ k, pz_el I st sd k → pu_sl0 I k < J → ¬ h < pz_ak I st k) ∨ ∃ k, pz_el I st sd k ∧ pu_sl0 I k < J ∧ h < pz_ak I st k ∧ pz_ak I st k = be ∧ I 16 k = lo ∧ ∀ l, pz_el I st sd l → pu_sl0 I l < J → h < pz_ak I st l → be ≤ pz_ak I st l
theorem pz_pl0 (hw : pu_WF I L) {k : Nat} (hk : k < cU I) (h : I 18 k = -1) : 0 ≤ (I 40 (pu_sl0 I k)).toInt ∧ (I 40 (pu_sl0 I k)).toInt ≤ 1 ∧ 0 ≤ (I 41 (pu_sl0 I k)).toInt ∧ (I 41 (pu_sl0 I k)).toInt ≤ 9999 :=
  pz_pl hw hk (Nat.le_refl _) (by rw [pu_uoq hw hk]; exact h)
theorem pz_ak_r (hw : pu_WF I L) {st k : Nat} (hk : k < cU I) (h : I 18 k = -1) : 0 ≤ pz_ak I st k ∧ pz_ak I st k ≤ 110000 := by
  have p := pz_pl0 hw hk h
  unfold pz_ak pz_al
  split
  · split <;> omega
  · omega
end
