/-! walks, on the reference's side -/
/-- the reference's row with c walked doors -/
def py_rw (s0 : Nat → Int32) (N : pu_M) (c : Nat) : Prop := pu_fx N ∧ (∀ j, j ≠ 12 → j ≠ 17 → ¬ (59788 ≤ j ∧ j < 59888) → N.1 72 j = s0 j) ∧ N.1 72 12 = nI c
def py_wT (N : pu_M) (c : Nat) (d : Int32) : pu_M := pu_wi (pu_wi N 72 (59788 + c) d) 72 12 (nI (c + 1))
theorem py_wT_o {N : pu_M} {c : Nat} {d : Int32} {x j : Nat} (h : ¬ (x = 72 ∧ (j = 12 ∨ j = 59788 + c))) : (py_wT N c d).1 x j = N.1 x j := by
  unfold py_wT
  rw [py_wi_o (by omega), py_wi_o (by omega)]
theorem py_wT_v {N : pu_M} {c : Nat} {d : Int32} : (py_wT N c d).1 72 (59788 + c) = d := by
  unfold py_wT
  rw [py_wi_o (by omega)]
  simp [pu_wi_1]
theorem py_wT_r {s0 : Nat → Int32} {N : pu_M} {c : Nat} {d : Int32} (hc : c < 100) (h : py_rw s0 N c) : py_rw s0 (py_wT N c d) (c + 1) := by
  obtain ⟨hx, fr, h12⟩ := h
  refine ⟨hx, fun j z1 z2 z3 => by rw [py_wT_o (by omega)]; exact fr j z1 z2 z3, ?_⟩
  unfold py_wT
  simp [pu_wi_1]
section
variable {I : Nat → Nat → Int32} {L : Nat → Nat → Int64} {s0 : Nat → Int32} {y : Int32}
theorem r_comesTo {N : pu_M} {c : Nat} (hc : c < 100) (h : py_rw s0 N c) (d : Int32) : pu_r 347 [some (.ref 71), some (.int d)] [] N = some (none, py_wT N c d) := by
  obtain ⟨hx, fr, h12⟩ := h
  have F0 := fx_71_0 hx
  have g1 : (pu_wi N 72 (59788 + c) d).2.2.1 71 0 = some 72 := F0
  have g2 : (pu_wi N 72 (59788 + c) d).1 72 12 = nI c := by rw [py_wi_o (by omega)]; exact h12
  unfold py_wT
  generalize hA : pu_wi N 72 (59788 + c) d = A at *
  rw [qX12_comesTo]
  simp [a_ent, bX12_comesTo_0, a_ai, a_ald, a_dup2, a_gr, a_iadd, a_ild, a_push, a_vret, a_wi, fx_71_0 hx, sh_71, sh_72, pu_rv, pu_as, Value.category, pu_bk, pu_kl, List.replicate, pu_wi_1, pu_wi_2, nl_add, nl_ladd, nl_aa, nl_mul, nl_rmul, nl_mm, pu_qe0, pu_qe1, h12, hc, hA, g1, g2]
  all_goals try simp (maxSteps := 400000) (disch := omega) [nl_tle, nl_fle, nl_tlt, nl_flt, nl_teq, nl_feq, nl_sub, nl_ss, nl_lt, nl_llt, nl_ltt, nl_le, nl_lle, nl_lee, nl_eq, nl_leq, nl_ee, nl_div, nl_rem, nl_cl, nl_n1, nl_n2, nl_n3, nl_n4, nl_add, nl_ladd, nl_aa, nl_mul, nl_rmul, nl_mm, pu_wi_1, pu_wi_2, bX12_comesTo_0, a_ai, a_ald, a_dup2, a_gr, a_iadd, a_ild, a_push, a_vret, a_wi, fx_71_0 hx, sh_71, sh_72, pu_rv, pu_as, Value.category, pu_bk, pu_kl, pu_qe0, pu_qe1, h12, hc, hA, g1, g2]
  all_goals try simp [bX12_comesTo_0, a_ai, a_ald, a_dup2, a_gr, a_iadd, a_ild, a_push, a_vret, a_wi, fx_71_0 hx, sh_71, sh_72, pu_rv, pu_as, Value.category, pu_bk, pu_kl, List.replicate, pu_wi_1, pu_wi_2, nl_add, nl_ladd, nl_aa, nl_mul, nl_rmul, nl_mm, pu_qe0, pu_qe1, h12, hc, hA, g1, g2]
  all_goals try simp (maxSteps := 400000) (disch := omega) [nl_tle, nl_fle, nl_tlt, nl_flt, nl_teq, nl_feq, nl_sub, nl_ss, nl_lt, nl_llt, nl_ltt, nl_le, nl_lle, nl_lee, nl_eq, nl_leq, nl_ee, nl_div, nl_rem, nl_cl, nl_n1, nl_n2, nl_n3, nl_n4, nl_add, nl_ladd, nl_aa, nl_mul, nl_rmul, nl_mm, pu_wi_1, pu_wi_2, bX12_comesTo_0, a_ai, a_ald, a_dup2, a_gr, a_iadd, a_ild, a_push, a_vret, a_wi, fx_71_0 hx, sh_71, sh_72, pu_rv, pu_as, Value.category, pu_bk, pu_kl, pu_qe0, pu_qe1, h12, hc, hA, g1, g2]
  all_goals try simp [bX12_comesTo_0, a_ai, a_ald, a_dup2, a_gr, a_iadd, a_ild, a_push, a_vret, a_wi, fx_71_0 hx, sh_71, sh_72, pu_rv, pu_as, Value.category, pu_bk, pu_kl, List.replicate, pu_wi_1, pu_wi_2, nl_add, nl_ladd, nl_aa, nl_mul, nl_rmul, nl_mm, pu_qe0, pu_qe1, h12, hc, hA, g1, g2]
  all_goals try simp (maxSteps := 400000) (disch := omega) [nl_tle, nl_fle, nl_tlt, nl_flt, nl_teq, nl_feq, nl_sub, nl_ss, nl_lt, nl_llt, nl_ltt, nl_le, nl_lle, nl_lee, nl_eq, nl_leq, nl_ee, nl_div, nl_rem, nl_cl, nl_n1, nl_n2, nl_n3, nl_n4, nl_add, nl_ladd, nl_aa, nl_mul, nl_rmul, nl_mm, pu_wi_1, pu_wi_2, bX12_comesTo_0, a_ai, a_ald, a_dup2, a_gr, a_iadd, a_ild, a_push, a_vret, a_wi, fx_71_0 hx, sh_71, sh_72, pu_rv, pu_as, Value.category, pu_bk, pu_kl, pu_qe0, pu_qe1, h12, hc, hA, g1, g2]
  all_goals try simp [bX12_comesTo_0, a_ai, a_ald, a_dup2, a_gr, a_iadd, a_ild, a_push, a_vret, a_wi, fx_71_0 hx, sh_71, sh_72, pu_rv, pu_as, Value.category, pu_bk, pu_kl, List.replicate, pu_wi_1, pu_wi_2, nl_add, nl_ladd, nl_aa, nl_mul, nl_rmul, nl_mm, pu_qe0, pu_qe1, h12, hc, hA, g1, g2]
theorem py_SJw (h : pu_St I L s0) {N : pu_M} {c : Nat} (gd : py_GD I (fun t => N.1 72 (59788 + t)) c) (hN : py_rw s0 N c) : pu_St (py_JW I (N.1 72) c) L (N.1 72) := St_JW h (py_GD_le h.1 gd) (py_GD_ne h.1 gd) hN.2.1 hN.2.2
/-- a door under f, told by its sort and number -/
theorem py_us_p (hw : pu_WF I L) {f d st k : Nat} (hd : d < cD I) (hf : f < cD I) (h32 : I 32 f = 0) (s2 : 2 ≤ st) (s4 : st ≤ 4) (k9 : k ≤ 99) : (pu_srt I d = nI st ∧ I 35 d = nI k ∧ I 34 d = nI f ∧ pu_sd I d y) ↔ (py_us I y f d ∧ py_uk I d = (st * 100 + k) * 128 + d) := by
  have bD := wx_bD hw
  have b := py_rkU_b hw hd
  have e1 : py_uk I d = ((I 32 d).toNatClampNeg * 100 + (I 35 d).toNatClampNeg) * 128 + d := rfl
  have one : ¬ (1 : Int32) = nI st := fun z => by
    rw [show (1 : Int32) = nI 1 from rfl, nI_eq (by omega) (by omega)] at z
    omega
  constructor
  · rintro ⟨a1, a2, a3, a4⟩
    have a0 : I 32 d = nI st := by
      unfold pu_srt at a1
      by_cases z : I 38 d = -1
      · rw [if_pos z] at a1; exact a1
      · rw [if_neg z] at a1; exact absurd a1 one
    refine ⟨⟨hd, fun e => ?_, a3, a4⟩, ?_⟩
    · rw [e, h32, show (0 : Int32) = nI 0 from rfl, nI_eq (by omega) (by omega)] at a0
      omega
    · rw [e1, a0, a2, nl_cl _ (by omega), nl_cl _ (by omega)]
  · rintro ⟨⟨_, a2, a3, a4⟩, a5⟩
    have n0 : I 32 d ≠ 0 := fun z => by
      have q := (wx_d0 hw d hd z).2.2.1
      rw [a3, nI_eq (by omega) (by omega)] at q
      exact a2 q.symm
    have n38 : I 38 d = -1 := Classical.byContradiction (fun z => n0 (wx_d1 hw d hd z).1)
    have q1 := b.2.1
    have q2 := b.2.2.1
    rw [e1] at a5
    have x1 : (I 32 d).toNatClampNeg = st := by omega
    have x2 : (I 35 d).toNatClampNeg = k := by omega
    refine ⟨?_, by rw [b.2.2.2.2.1, x2], a3, a4⟩
    unfold pu_srt
    rw [if_pos n38, b.2.2.2.1, x1]
theorem r_cd_i {N N1 : pu_M} {c st k d f : Nat} (h : pu_St I L s0) (gd : py_GD I (fun t => N.1 72 (59788 + t)) c) (hN : py_rw s0 N c) (hd : d < cD I) (hf : f < cD I) (hst : st ≤ 4) (hk : k ≤ 99) (e0 : ¬ (pu_srt I d = nI st ∧ I 35 d = nI k ∧ I 34 d = nI f ∧ pu_sd I d y) → N1 = N) (e1 : (pu_srt I d = nI st ∧ I 35 d = nI k ∧ I 34 d = nI f ∧ pu_sd I d y) → pu_r 347 [some (.ref 71), some (.int (nI d))] [] N = some (none, N1)) : pu_r 524 [some (.ref 71), some (.int (nI f)), some (.int y), some (.int (nI st)), some (.int (nI k)), some (.int (nI d))] [] N = pu_r 524 [some (.ref 71), some (.int (nI f)), some (.int y), some (.int (nI st)), some (.int (nI k)), some (.int (nI (d + 1)))] [] N1 := by
  have hw := h.1
  have bD := wx_bD hw
  have SJ := py_SJw h gd hN
  have hx := hN.1
  have h4 : N.1 72 4 = nI (cD I) := by rw [hN.2.1 4 (by omega) (by omega) (by omega)]; exact rl_h4 h.2
  have hc : ¬ nI (cD I) ≤ nI d := nI_ge (by omega) (by omega)
  have o0 : pu_r 265 [some (.ref 71), some (.int (nI d)), some (.int 0)] [] N = some (some (.int (pu_srt I d)), N) := r_of0 hx SJ.2 SJ.1 d hd
  have o7 : pu_r 265 [some (.ref 71), some (.int (nI d)), some (.int 7)] [] N = some (some (.int (I 35 d)), N) := r_of7 hx SJ.2 SJ.1 d hd
  have ef : pu_r 271 [some (.ref 71), some (.int (nI d))] [] N = some (some (.int (I 34 d)), N) := r_front hx SJ.2 SJ.1 d hd
  have es : pu_r 315 [some (.ref 71), some (.int (nI d)), some (.int y)] [] N = some (some (.int (pu_q (pu_sd I d y))), N) := r_standsOn hx SJ.2 SJ.1 d hd y
  generalize hR : pu_r 524 [some (.ref 71), some (.int (nI f)), some (.int y), some (.int (nI st)), some (.int (nI k)), some (.int (nI (d + 1)))] [] N1 = R
  by_cases c1 : pu_srt I d = nI st
  rotate_left
  · rw [e0 (fun z => c1 z.1)] at hR
    generalize pu_srt I d = v0 at *
    generalize nI st = v1 at *
    rw [qX12_comesToAll_25]
    simp [bX12_comesToAll_25, bX12_comesToAll_92, bX12_comesToAll_86, bX12_comesToAll_71, a_ai, a_ald, a_cv, a_gr, a_icge, a_icne, a_ifeq, a_ild, a_inc, a_push, fx_71_0 hx, sh_71, sh_72, pu_rv, pu_as, Value.category, pu_bk, pu_kl, List.replicate, pu_wi_1, pu_wi_2, nl_add, nl_ladd, nl_aa, nl_mul, nl_rmul, nl_mm, pu_qe0, pu_qe1, h4, hc, o0, c1, hR]
    all_goals try simp (maxSteps := 400000) (disch := omega) [nl_tle, nl_fle, nl_tlt, nl_flt, nl_teq, nl_feq, nl_sub, nl_ss, nl_lt, nl_llt, nl_ltt, nl_le, nl_lle, nl_lee, nl_eq, nl_leq, nl_ee, nl_div, nl_rem, nl_cl, nl_n1, nl_n2, nl_n3, nl_n4, nl_add, nl_ladd, nl_aa, nl_mul, nl_rmul, nl_mm, pu_wi_1, pu_wi_2, bX12_comesToAll_25, bX12_comesToAll_92, bX12_comesToAll_86, bX12_comesToAll_71, a_ai, a_ald, a_cv, a_gr, a_icge, a_icne, a_ifeq, a_ild, a_inc, a_push, fx_71_0 hx, sh_71, sh_72, pu_rv, pu_as, Value.category, pu_bk, pu_kl, pu_qe0, pu_qe1, h4, hc, o0, c1, hR]
    all_goals try simp [bX12_comesToAll_25, bX12_comesToAll_92, bX12_comesToAll_86, bX12_comesToAll_71, a_ai, a_ald, a_cv, a_gr, a_icge, a_icne, a_ifeq, a_ild, a_inc, a_push, fx_71_0 hx, sh_71, sh_72, pu_rv, pu_as, Value.category, pu_bk, pu_kl, List.replicate, pu_wi_1, pu_wi_2, nl_add, nl_ladd, nl_aa, nl_mul, nl_rmul, nl_mm, pu_qe0, pu_qe1, h4, hc, o0, c1, hR]
    all_goals try simp (maxSteps := 400000) (disch := omega) [nl_tle, nl_fle, nl_tlt, nl_flt, nl_teq, nl_feq, nl_sub, nl_ss, nl_lt, nl_llt, nl_ltt, nl_le, nl_lle, nl_lee, nl_eq, nl_leq, nl_ee, nl_div, nl_rem, nl_cl, nl_n1, nl_n2, nl_n3, nl_n4, nl_add, nl_ladd, nl_aa, nl_mul, nl_rmul, nl_mm, pu_wi_1, pu_wi_2, bX12_comesToAll_25, bX12_comesToAll_92, bX12_comesToAll_86, bX12_comesToAll_71, a_ai, a_ald, a_cv, a_gr, a_icge, a_icne, a_ifeq, a_ild, a_inc, a_push, fx_71_0 hx, sh_71, sh_72, pu_rv, pu_as, Value.category, pu_bk, pu_kl, pu_qe0, pu_qe1, h4, hc, o0, c1, hR]
    all_goals try simp [bX12_comesToAll_25, bX12_comesToAll_92, bX12_comesToAll_86, bX12_comesToAll_71, a_ai, a_ald, a_cv, a_gr, a_icge, a_icne, a_ifeq, a_ild, a_inc, a_push, fx_71_0 hx, sh_71, sh_72, pu_rv, pu_as, Value.category, pu_bk, pu_kl, List.replicate, pu_wi_1, pu_wi_2, nl_add, nl_ladd, nl_aa, nl_mul, nl_rmul, nl_mm, pu_qe0, pu_qe1, h4, hc, o0, c1, hR]
    all_goals try simp (maxSteps := 400000) (disch := omega) [nl_tle, nl_fle, nl_tlt, nl_flt, nl_teq, nl_feq, nl_sub, nl_ss, nl_lt, nl_llt, nl_ltt, nl_le, nl_lle, nl_lee, nl_eq, nl_leq, nl_ee, nl_div, nl_rem, nl_cl, nl_n1, nl_n2, nl_n3, nl_n4, nl_add, nl_ladd, nl_aa, nl_mul, nl_rmul, nl_mm, pu_wi_1, pu_wi_2, bX12_comesToAll_25, bX12_comesToAll_92, bX12_comesToAll_86, bX12_comesToAll_71, a_ai, a_ald, a_cv, a_gr, a_icge, a_icne, a_ifeq, a_ild, a_inc, a_push, fx_71_0 hx, sh_71, sh_72, pu_rv, pu_as, Value.category, pu_bk, pu_kl, pu_qe0, pu_qe1, h4, hc, o0, c1, hR]
    all_goals try simp [bX12_comesToAll_25, bX12_comesToAll_92, bX12_comesToAll_86, bX12_comesToAll_71, a_ai, a_ald, a_cv, a_gr, a_icge, a_icne, a_ifeq, a_ild, a_inc, a_push, fx_71_0 hx, sh_71, sh_72, pu_rv, pu_as, Value.category, pu_bk, pu_kl, List.replicate, pu_wi_1, pu_wi_2, nl_add, nl_ladd, nl_aa, nl_mul, nl_rmul, nl_mm, pu_qe0, pu_qe1, h4, hc, o0, c1, hR]
  rw [c1] at o0
  by_cases c2 : I 35 d = nI k
  rotate_left
  · rw [e0 (fun z => c2 z.2.1)] at hR
    generalize I 35 d = v2 at *
    generalize nI k = v3 at *
    rw [qX12_comesToAll_25]
    simp [bX12_comesToAll_25, bX12_comesToAll_92, bX12_comesToAll_86, bX12_comesToAll_71, a_ai, a_ald, a_cv, a_gr, a_icge, a_icne, a_ifeq, a_ild, a_inc, a_push, fx_71_0 hx, sh_71, sh_72, pu_rv, pu_as, Value.category, pu_bk, pu_kl, List.replicate, pu_wi_1, pu_wi_2, nl_add, nl_ladd, nl_aa, nl_mul, nl_rmul, nl_mm, pu_qe0, pu_qe1, h4, hc, o0, o7, c2, hR]
    all_goals try simp (maxSteps := 400000) (disch := omega) [nl_tle, nl_fle, nl_tlt, nl_flt, nl_teq, nl_feq, nl_sub, nl_ss, nl_lt, nl_llt, nl_ltt, nl_le, nl_lle, nl_lee, nl_eq, nl_leq, nl_ee, nl_div, nl_rem, nl_cl, nl_n1, nl_n2, nl_n3, nl_n4, nl_add, nl_ladd, nl_aa, nl_mul, nl_rmul, nl_mm, pu_wi_1, pu_wi_2, bX12_comesToAll_25, bX12_comesToAll_92, bX12_comesToAll_86, bX12_comesToAll_71, a_ai, a_ald, a_cv, a_gr, a_icge, a_icne, a_ifeq, a_ild, a_inc, a_push, fx_71_0 hx, sh_71, sh_72, pu_rv, pu_as, Value.category, pu_bk, pu_kl, pu_qe0, pu_qe1, h4, hc, o0, o7, c2, hR]
    all_goals try simp [bX12_comesToAll_25, bX12_comesToAll_92, bX12_comesToAll_86, bX12_comesToAll_71, a_ai, a_ald, a_cv, a_gr, a_icge, a_icne, a_ifeq, a_ild, a_inc, a_push, fx_71_0 hx, sh_71, sh_72, pu_rv, pu_as, Value.category, pu_bk, pu_kl, List.replicate, pu_wi_1, pu_wi_2, nl_add, nl_ladd, nl_aa, nl_mul, nl_rmul, nl_mm, pu_qe0, pu_qe1, h4, hc, o0, o7, c2, hR]
    all_goals try simp (maxSteps := 400000) (disch := omega) [nl_tle, nl_fle, nl_tlt, nl_flt, nl_teq, nl_feq, nl_sub, nl_ss, nl_lt, nl_llt, nl_ltt, nl_le, nl_lle, nl_lee, nl_eq, nl_leq, nl_ee, nl_div, nl_rem, nl_cl, nl_n1, nl_n2, nl_n3, nl_n4, nl_add, nl_ladd, nl_aa, nl_mul, nl_rmul, nl_mm, pu_wi_1, pu_wi_2, bX12_comesToAll_25, bX12_comesToAll_92, bX12_comesToAll_86, bX12_comesToAll_71, a_ai, a_ald, a_cv, a_gr, a_icge, a_icne, a_ifeq, a_ild, a_inc, a_push, fx_71_0 hx, sh_71, sh_72, pu_rv, pu_as, Value.category, pu_bk, pu_kl, pu_qe0, pu_qe1, h4, hc, o0, o7, c2, hR]
    all_goals try simp [bX12_comesToAll_25, bX12_comesToAll_92, bX12_comesToAll_86, bX12_comesToAll_71, a_ai, a_ald, a_cv, a_gr, a_icge, a_icne, a_ifeq, a_ild, a_inc, a_push, fx_71_0 hx, sh_71, sh_72, pu_rv, pu_as, Value.category, pu_bk, pu_kl, List.replicate, pu_wi_1, pu_wi_2, nl_add, nl_ladd, nl_aa, nl_mul, nl_rmul, nl_mm, pu_qe0, pu_qe1, h4, hc, o0, o7, c2, hR]
    all_goals try simp (maxSteps := 400000) (disch := omega) [nl_tle, nl_fle, nl_tlt, nl_flt, nl_teq, nl_feq, nl_sub, nl_ss, nl_lt, nl_llt, nl_ltt, nl_le, nl_lle, nl_lee, nl_eq, nl_leq, nl_ee, nl_div, nl_rem, nl_cl, nl_n1, nl_n2, nl_n3, nl_n4, nl_add, nl_ladd, nl_aa, nl_mul, nl_rmul, nl_mm, pu_wi_1, pu_wi_2, bX12_comesToAll_25, bX12_comesToAll_92, bX12_comesToAll_86, bX12_comesToAll_71, a_ai, a_ald, a_cv, a_gr, a_icge, a_icne, a_ifeq, a_ild, a_inc, a_push, fx_71_0 hx, sh_71, sh_72, pu_rv, pu_as, Value.category, pu_bk, pu_kl, pu_qe0, pu_qe1, h4, hc, o0, o7, c2, hR]
    all_goals try simp [bX12_comesToAll_25, bX12_comesToAll_92, bX12_comesToAll_86, bX12_comesToAll_71, a_ai, a_ald, a_cv, a_gr, a_icge, a_icne, a_ifeq, a_ild, a_inc, a_push, fx_71_0 hx, sh_71, sh_72, pu_rv, pu_as, Value.category, pu_bk, pu_kl, List.replicate, pu_wi_1, pu_wi_2, nl_add, nl_ladd, nl_aa, nl_mul, nl_rmul, nl_mm, pu_qe0, pu_qe1, h4, hc, o0, o7, c2, hR]
  rw [c2] at o7
  by_cases c3 : I 34 d = nI f
  rotate_left
  · rw [e0 (fun z => c3 z.2.2.1)] at hR
    generalize I 34 d = v2 at *
    generalize nI f = v3 at *
    rw [qX12_comesToAll_25]
    simp [bX12_comesToAll_25, bX12_comesToAll_92, bX12_comesToAll_86, bX12_comesToAll_71, a_ai, a_ald, a_cv, a_gr, a_icge, a_icne, a_ifeq, a_ild, a_inc, a_push, fx_71_0 hx, sh_71, sh_72, pu_rv, pu_as, Value.category, pu_bk, pu_kl, List.replicate, pu_wi_1, pu_wi_2, nl_add, nl_ladd, nl_aa, nl_mul, nl_rmul, nl_mm, pu_qe0, pu_qe1, h4, hc, o0, o7, ef, c3, hR]
    all_goals try simp (maxSteps := 400000) (disch := omega) [nl_tle, nl_fle, nl_tlt, nl_flt, nl_teq, nl_feq, nl_sub, nl_ss, nl_lt, nl_llt, nl_ltt, nl_le, nl_lle, nl_lee, nl_eq, nl_leq, nl_ee, nl_div, nl_rem, nl_cl, nl_n1, nl_n2, nl_n3, nl_n4, nl_add, nl_ladd, nl_aa, nl_mul, nl_rmul, nl_mm, pu_wi_1, pu_wi_2, bX12_comesToAll_25, bX12_comesToAll_92, bX12_comesToAll_86, bX12_comesToAll_71, a_ai, a_ald, a_cv, a_gr, a_icge, a_icne, a_ifeq, a_ild, a_inc, a_push, fx_71_0 hx, sh_71, sh_72, pu_rv, pu_as, Value.category, pu_bk, pu_kl, pu_qe0, pu_qe1, h4, hc, o0, o7, ef, c3, hR]
    all_goals try simp [bX12_comesToAll_25, bX12_comesToAll_92, bX12_comesToAll_86, bX12_comesToAll_71, a_ai, a_ald, a_cv, a_gr, a_icge, a_icne, a_ifeq, a_ild, a_inc, a_push, fx_71_0 hx, sh_71, sh_72, pu_rv, pu_as, Value.category, pu_bk, pu_kl, List.replicate, pu_wi_1, pu_wi_2, nl_add, nl_ladd, nl_aa, nl_mul, nl_rmul, nl_mm, pu_qe0, pu_qe1, h4, hc, o0, o7, ef, c3, hR]
    all_goals try simp (maxSteps := 400000) (disch := omega) [nl_tle, nl_fle, nl_tlt, nl_flt, nl_teq, nl_feq, nl_sub, nl_ss, nl_lt, nl_llt, nl_ltt, nl_le, nl_lle, nl_lee, nl_eq, nl_leq, nl_ee, nl_div, nl_rem, nl_cl, nl_n1, nl_n2, nl_n3, nl_n4, nl_add, nl_ladd, nl_aa, nl_mul, nl_rmul, nl_mm, pu_wi_1, pu_wi_2, bX12_comesToAll_25, bX12_comesToAll_92, bX12_comesToAll_86, bX12_comesToAll_71, a_ai, a_ald, a_cv, a_gr, a_icge, a_icne, a_ifeq, a_ild, a_inc, a_push, fx_71_0 hx, sh_71, sh_72, pu_rv, pu_as, Value.category, pu_bk, pu_kl, pu_qe0, pu_qe1, h4, hc, o0, o7, ef, c3, hR]
    all_goals try simp [bX12_comesToAll_25, bX12_comesToAll_92, bX12_comesToAll_86, bX12_comesToAll_71, a_ai, a_ald, a_cv, a_gr, a_icge, a_icne, a_ifeq, a_ild, a_inc, a_push, fx_71_0 hx, sh_71, sh_72, pu_rv, pu_as, Value.category, pu_bk, pu_kl, List.replicate, pu_wi_1, pu_wi_2, nl_add, nl_ladd, nl_aa, nl_mul, nl_rmul, nl_mm, pu_qe0, pu_qe1, h4, hc, o0, o7, ef, c3, hR]
    all_goals try simp (maxSteps := 400000) (disch := omega) [nl_tle, nl_fle, nl_tlt, nl_flt, nl_teq, nl_feq, nl_sub, nl_ss, nl_lt, nl_llt, nl_ltt, nl_le, nl_lle, nl_lee, nl_eq, nl_leq, nl_ee, nl_div, nl_rem, nl_cl, nl_n1, nl_n2, nl_n3, nl_n4, nl_add, nl_ladd, nl_aa, nl_mul, nl_rmul, nl_mm, pu_wi_1, pu_wi_2, bX12_comesToAll_25, bX12_comesToAll_92, bX12_comesToAll_86, bX12_comesToAll_71, a_ai, a_ald, a_cv, a_gr, a_icge, a_icne, a_ifeq, a_ild, a_inc, a_push, fx_71_0 hx, sh_71, sh_72, pu_rv, pu_as, Value.category, pu_bk, pu_kl, pu_qe0, pu_qe1, h4, hc, o0, o7, ef, c3, hR]
    all_goals try simp [bX12_comesToAll_25, bX12_comesToAll_92, bX12_comesToAll_86, bX12_comesToAll_71, a_ai, a_ald, a_cv, a_gr, a_icge, a_icne, a_ifeq, a_ild, a_inc, a_push, fx_71_0 hx, sh_71, sh_72, pu_rv, pu_as, Value.category, pu_bk, pu_kl, List.replicate, pu_wi_1, pu_wi_2, nl_add, nl_ladd, nl_aa, nl_mul, nl_rmul, nl_mm, pu_qe0, pu_qe1, h4, hc, o0, o7, ef, c3, hR]
  rw [c3] at ef
  by_cases c4 : pu_sd I d y
  · have e2 := e1 ⟨c1, c2, c3, c4⟩
    rw [pu_q1 c4] at es
    rw [qX12_comesToAll_25]
    simp [bX12_comesToAll_25, bX12_comesToAll_92, bX12_comesToAll_86, bX12_comesToAll_71, a_ai, a_ald, a_cv, a_gr, a_icge, a_icne, a_ifeq, a_ild, a_inc, a_push, fx_71_0 hx, sh_71, sh_72, pu_rv, pu_as, Value.category, pu_bk, pu_kl, List.replicate, pu_wi_1, pu_wi_2, nl_add, nl_ladd, nl_aa, nl_mul, nl_rmul, nl_mm, pu_qe0, pu_qe1, h4, hc, o0, o7, ef, es, e2, hR]
    all_goals try simp (maxSteps := 400000) (disch := omega) [nl_tle, nl_fle, nl_tlt, nl_flt, nl_teq, nl_feq, nl_sub, nl_ss, nl_lt, nl_llt, nl_ltt, nl_le, nl_lle, nl_lee, nl_eq, nl_leq, nl_ee, nl_div, nl_rem, nl_cl, nl_n1, nl_n2, nl_n3, nl_n4, nl_add, nl_ladd, nl_aa, nl_mul, nl_rmul, nl_mm, pu_wi_1, pu_wi_2, bX12_comesToAll_25, bX12_comesToAll_92, bX12_comesToAll_86, bX12_comesToAll_71, a_ai, a_ald, a_cv, a_gr, a_icge, a_icne, a_ifeq, a_ild, a_inc, a_push, fx_71_0 hx, sh_71, sh_72, pu_rv, pu_as, Value.category, pu_bk, pu_kl, pu_qe0, pu_qe1, h4, hc, o0, o7, ef, es, e2, hR]
    all_goals try simp [bX12_comesToAll_25, bX12_comesToAll_92, bX12_comesToAll_86, bX12_comesToAll_71, a_ai, a_ald, a_cv, a_gr, a_icge, a_icne, a_ifeq, a_ild, a_inc, a_push, fx_71_0 hx, sh_71, sh_72, pu_rv, pu_as, Value.category, pu_bk, pu_kl, List.replicate, pu_wi_1, pu_wi_2, nl_add, nl_ladd, nl_aa, nl_mul, nl_rmul, nl_mm, pu_qe0, pu_qe1, h4, hc, o0, o7, ef, es, e2, hR]
    all_goals try simp (maxSteps := 400000) (disch := omega) [nl_tle, nl_fle, nl_tlt, nl_flt, nl_teq, nl_feq, nl_sub, nl_ss, nl_lt, nl_llt, nl_ltt, nl_le, nl_lle, nl_lee, nl_eq, nl_leq, nl_ee, nl_div, nl_rem, nl_cl, nl_n1, nl_n2, nl_n3, nl_n4, nl_add, nl_ladd, nl_aa, nl_mul, nl_rmul, nl_mm, pu_wi_1, pu_wi_2, bX12_comesToAll_25, bX12_comesToAll_92, bX12_comesToAll_86, bX12_comesToAll_71, a_ai, a_ald, a_cv, a_gr, a_icge, a_icne, a_ifeq, a_ild, a_inc, a_push, fx_71_0 hx, sh_71, sh_72, pu_rv, pu_as, Value.category, pu_bk, pu_kl, pu_qe0, pu_qe1, h4, hc, o0, o7, ef, es, e2, hR]
    all_goals try simp [bX12_comesToAll_25, bX12_comesToAll_92, bX12_comesToAll_86, bX12_comesToAll_71, a_ai, a_ald, a_cv, a_gr, a_icge, a_icne, a_ifeq, a_ild, a_inc, a_push, fx_71_0 hx, sh_71, sh_72, pu_rv, pu_as, Value.category, pu_bk, pu_kl, List.replicate, pu_wi_1, pu_wi_2, nl_add, nl_ladd, nl_aa, nl_mul, nl_rmul, nl_mm, pu_qe0, pu_qe1, h4, hc, o0, o7, ef, es, e2, hR]
    all_goals try simp (maxSteps := 400000) (disch := omega) [nl_tle, nl_fle, nl_tlt, nl_flt, nl_teq, nl_feq, nl_sub, nl_ss, nl_lt, nl_llt, nl_ltt, nl_le, nl_lle, nl_lee, nl_eq, nl_leq, nl_ee, nl_div, nl_rem, nl_cl, nl_n1, nl_n2, nl_n3, nl_n4, nl_add, nl_ladd, nl_aa, nl_mul, nl_rmul, nl_mm, pu_wi_1, pu_wi_2, bX12_comesToAll_25, bX12_comesToAll_92, bX12_comesToAll_86, bX12_comesToAll_71, a_ai, a_ald, a_cv, a_gr, a_icge, a_icne, a_ifeq, a_ild, a_inc, a_push, fx_71_0 hx, sh_71, sh_72, pu_rv, pu_as, Value.category, pu_bk, pu_kl, pu_qe0, pu_qe1, h4, hc, o0, o7, ef, es, e2, hR]
    all_goals try simp [bX12_comesToAll_25, bX12_comesToAll_92, bX12_comesToAll_86, bX12_comesToAll_71, a_ai, a_ald, a_cv, a_gr, a_icge, a_icne, a_ifeq, a_ild, a_inc, a_push, fx_71_0 hx, sh_71, sh_72, pu_rv, pu_as, Value.category, pu_bk, pu_kl, List.replicate, pu_wi_1, pu_wi_2, nl_add, nl_ladd, nl_aa, nl_mul, nl_rmul, nl_mm, pu_qe0, pu_qe1, h4, hc, o0, o7, ef, es, e2, hR]
  · rw [e0 (fun z => c4 z.2.2.2)] at hR
    rw [pu_q0 c4] at es
    rw [qX12_comesToAll_25]
    simp [bX12_comesToAll_25, bX12_comesToAll_92, bX12_comesToAll_86, bX12_comesToAll_71, a_ai, a_ald, a_cv, a_gr, a_icge, a_icne, a_ifeq, a_ild, a_inc, a_push, fx_71_0 hx, sh_71, sh_72, pu_rv, pu_as, Value.category, pu_bk, pu_kl, List.replicate, pu_wi_1, pu_wi_2, nl_add, nl_ladd, nl_aa, nl_mul, nl_rmul, nl_mm, pu_qe0, pu_qe1, h4, hc, o0, o7, ef, es, hR]
    all_goals try simp (maxSteps := 400000) (disch := omega) [nl_tle, nl_fle, nl_tlt, nl_flt, nl_teq, nl_feq, nl_sub, nl_ss, nl_lt, nl_llt, nl_ltt, nl_le, nl_lle, nl_lee, nl_eq, nl_leq, nl_ee, nl_div, nl_rem, nl_cl, nl_n1, nl_n2, nl_n3, nl_n4, nl_add, nl_ladd, nl_aa, nl_mul, nl_rmul, nl_mm, pu_wi_1, pu_wi_2, bX12_comesToAll_25, bX12_comesToAll_92, bX12_comesToAll_86, bX12_comesToAll_71, a_ai, a_ald, a_cv, a_gr, a_icge, a_icne, a_ifeq, a_ild, a_inc, a_push, fx_71_0 hx, sh_71, sh_72, pu_rv, pu_as, Value.category, pu_bk, pu_kl, pu_qe0, pu_qe1, h4, hc, o0, o7, ef, es, hR]
    all_goals try simp [bX12_comesToAll_25, bX12_comesToAll_92, bX12_comesToAll_86, bX12_comesToAll_71, a_ai, a_ald, a_cv, a_gr, a_icge, a_icne, a_ifeq, a_ild, a_inc, a_push, fx_71_0 hx, sh_71, sh_72, pu_rv, pu_as, Value.category, pu_bk, pu_kl, List.replicate, pu_wi_1, pu_wi_2, nl_add, nl_ladd, nl_aa, nl_mul, nl_rmul, nl_mm, pu_qe0, pu_qe1, h4, hc, o0, o7, ef, es, hR]
    all_goals try simp (maxSteps := 400000) (disch := omega) [nl_tle, nl_fle, nl_tlt, nl_flt, nl_teq, nl_feq, nl_sub, nl_ss, nl_lt, nl_llt, nl_ltt, nl_le, nl_lle, nl_lee, nl_eq, nl_leq, nl_ee, nl_div, nl_rem, nl_cl, nl_n1, nl_n2, nl_n3, nl_n4, nl_add, nl_ladd, nl_aa, nl_mul, nl_rmul, nl_mm, pu_wi_1, pu_wi_2, bX12_comesToAll_25, bX12_comesToAll_92, bX12_comesToAll_86, bX12_comesToAll_71, a_ai, a_ald, a_cv, a_gr, a_icge, a_icne, a_ifeq, a_ild, a_inc, a_push, fx_71_0 hx, sh_71, sh_72, pu_rv, pu_as, Value.category, pu_bk, pu_kl, pu_qe0, pu_qe1, h4, hc, o0, o7, ef, es, hR]
    all_goals try simp [bX12_comesToAll_25, bX12_comesToAll_92, bX12_comesToAll_86, bX12_comesToAll_71, a_ai, a_ald, a_cv, a_gr, a_icge, a_icne, a_ifeq, a_ild, a_inc, a_push, fx_71_0 hx, sh_71, sh_72, pu_rv, pu_as, Value.category, pu_bk, pu_kl, List.replicate, pu_wi_1, pu_wi_2, nl_add, nl_ladd, nl_aa, nl_mul, nl_rmul, nl_mm, pu_qe0, pu_qe1, h4, hc, o0, o7, ef, es, hR]
    all_goals try simp (maxSteps := 400000) (disch := omega) [nl_tle, nl_fle, nl_tlt, nl_flt, nl_teq, nl_feq, nl_sub, nl_ss, nl_lt, nl_llt, nl_ltt, nl_le, nl_lle, nl_lee, nl_eq, nl_leq, nl_ee, nl_div, nl_rem, nl_cl, nl_n1, nl_n2, nl_n3, nl_n4, nl_add, nl_ladd, nl_aa, nl_mul, nl_rmul, nl_mm, pu_wi_1, pu_wi_2, bX12_comesToAll_25, bX12_comesToAll_92, bX12_comesToAll_86, bX12_comesToAll_71, a_ai, a_ald, a_cv, a_gr, a_icge, a_icne, a_ifeq, a_ild, a_inc, a_push, fx_71_0 hx, sh_71, sh_72, pu_rv, pu_as, Value.category, pu_bk, pu_kl, pu_qe0, pu_qe1, h4, hc, o0, o7, ef, es, hR]
    all_goals try simp [bX12_comesToAll_25, bX12_comesToAll_92, bX12_comesToAll_86, bX12_comesToAll_71, a_ai, a_ald, a_cv, a_gr, a_icge, a_icne, a_ifeq, a_ild, a_inc, a_push, fx_71_0 hx, sh_71, sh_72, pu_rv, pu_as, Value.category, pu_bk, pu_kl, List.replicate, pu_wi_1, pu_wi_2, nl_add, nl_ladd, nl_aa, nl_mul, nl_rmul, nl_mm, pu_qe0, pu_qe1, h4, hc, o0, o7, ef, es, hR]
/-- what comesToAll keeps: c1 doors, the front, and some under it -/
def py_cI (I : Nat → Nat → Int32) (s0 : Nat → Int32) (y : Int32) (f c1 : Nat) (E0 : Nat → Int32) (N0 N : pu_M) (B : Nat) (U : Nat → Nat) (m : Nat) : Prop := py_rw s0 N (c1 + 1 + m) ∧ N.2 = N0.2 ∧ (∀ x j, x ≠ 72 → N.1 x j = N0.1 x j) ∧ (∀ t, t < c1 + 1 → N.1 72 (59788 + t) = E0 t) ∧ (∀ t, t < m → N.1 72 (59788 + (c1 + 1 + t)) = nI (U t)) ∧ py_SL (py_uk I) (fun l => py_uk I l < B ∧ py_us I y f l) U m
theorem py_cI_gd (hw : pu_WF I L) {f c1 : Nat} {E0 : Nat → Int32} (hf : f < cD I) (h32 : I 32 f = 0) (gd : py_GD I E0 c1) (no : ∀ t, t < c1 → E0 t ≠ nI f) (ef : E0 c1 = nI f) {N0 N : pu_M} {B m : Nat} {U : Nat → Nat} (h : py_cI I s0 y f c1 E0 N0 N B U m) : py_GD I (fun t => N.1 72 (59788 + t)) (c1 + 1 + m) := by
  obtain ⟨_, _, _, h0, hu, sl⟩ := h
  exact py_GD_add (y := y) hw (py_GD_c (fun t ht => h0 t (by omega)) gd) hf h32 (fun t ht => by show N.1 72 (59788 + t) ≠ nI f; rw [h0 t (by omega)]; exact no t ht) (by show N.1 72 (59788 + c1) = nI f; rw [h0 c1 (by omega)]; exact ef) (fun t ht => (sl.1 t ht).2) (fun s t hst ht e => by have := py_SL_i sl (by omega) ht e; omega) hu
theorem r_cd_l (h : pu_St I L s0) {f c1 : Nat} {E0 : Nat → Int32} (hf : f < cD I) (h32 : I 32 f = 0) (gd : py_GD I E0 c1) (no : ∀ t, t < c1 → E0 t ≠ nI f) (ef : E0 c1 = nI f) (N0 : pu_M) {st k : Nat} (s2 : 2 ≤ st) (s4 : st ≤ 4) (k9 : k ≤ 99) : ∀ (q d : Nat) (N : pu_M) (U : Nat → Nat) (m : Nat), d + q = cD I → py_cI I s0 y f c1 E0 N0 N ((st * 100 + k) * 128 + d) U m → ∃ N1 U1 m1, py_cI I s0 y f c1 E0 N0 N1 ((st * 100 + (k + 1)) * 128) U1 m1 ∧ pu_r 524 [some (.ref 71), some (.int (nI f)), some (.int y), some (.int (nI st)), some (.int (nI k)), some (.int (nI d))] [] N = pu_r 523 [some (.ref 71), some (.int (nI f)), some (.int y), some (.int (nI st)), some (.int (nI (k + 1))), some (.int (nI (cD I)))] [] N1
  | 0, d, N, U, m, hq, hC => by
    have hw := h.1
    have bD := wx_bD hw
    obtain ⟨x1, x2, x3, x4, x5, sl⟩ := id hC
    have hx := x1.1
    have h4 : N.1 72 4 = nI (cD I) := by rw [x1.2.1 4 (by omega) (by omega) (by omega)]; exact rl_h4 h.2
    have e : d = cD I := by omega
    have hc : nI (cD I) ≤ nI (cD I) := nI_le (by omega) (by omega)
    refine ⟨N, U, m, ⟨x1, x2, x3, x4, x5, py_SL_c sl (fun l => ⟨fun z => ⟨by omega, z.2⟩, fun z => ⟨?_, z.2⟩⟩)⟩, ?_⟩
    · have e1 : py_uk I l = ((I 32 l).toNatClampNeg * 100 + (I 35 l).toNatClampNeg) * 128 + l := rfl
      have := z.1
      have l1 := z.2.1
      omega
    · rw [e]
      generalize hR : pu_r 523 [some (.ref 71), some (.int (nI f)), some (.int y), some (.int (nI st)), some (.int (nI (k + 1))), some (.int (nI (cD I)))] [] N = R
      rw [qX12_comesToAll_25]
      simp [bX12_comesToAll_25, bX12_comesToAll_92, bX12_comesToAll_86, bX12_comesToAll_71, a_ai, a_ald, a_cv, a_gr, a_icge, a_icne, a_ifeq, a_ild, a_inc, a_push, fx_71_0 hx, sh_71, sh_72, pu_rv, pu_as, Value.category, pu_bk, pu_kl, List.replicate, pu_wi_1, pu_wi_2, nl_add, nl_ladd, nl_aa, nl_mul, nl_rmul, nl_mm, pu_qe0, pu_qe1, h4, hc, hR]
      all_goals try simp (maxSteps := 400000) (disch := omega) [nl_tle, nl_fle, nl_tlt, nl_flt, nl_teq, nl_feq, nl_sub, nl_ss, nl_lt, nl_llt, nl_ltt, nl_le, nl_lle, nl_lee, nl_eq, nl_leq, nl_ee, nl_div, nl_rem, nl_cl, nl_n1, nl_n2, nl_n3, nl_n4, nl_add, nl_ladd, nl_aa, nl_mul, nl_rmul, nl_mm, pu_wi_1, pu_wi_2, bX12_comesToAll_25, bX12_comesToAll_92, bX12_comesToAll_86, bX12_comesToAll_71, a_ai, a_ald, a_cv, a_gr, a_icge, a_icne, a_ifeq, a_ild, a_inc, a_push, fx_71_0 hx, sh_71, sh_72, pu_rv, pu_as, Value.category, pu_bk, pu_kl, pu_qe0, pu_qe1, h4, hc, hR]
      all_goals try simp [bX12_comesToAll_25, bX12_comesToAll_92, bX12_comesToAll_86, bX12_comesToAll_71, a_ai, a_ald, a_cv, a_gr, a_icge, a_icne, a_ifeq, a_ild, a_inc, a_push, fx_71_0 hx, sh_71, sh_72, pu_rv, pu_as, Value.category, pu_bk, pu_kl, List.replicate, pu_wi_1, pu_wi_2, nl_add, nl_ladd, nl_aa, nl_mul, nl_rmul, nl_mm, pu_qe0, pu_qe1, h4, hc, hR]
      all_goals try simp (maxSteps := 400000) (disch := omega) [nl_tle, nl_fle, nl_tlt, nl_flt, nl_teq, nl_feq, nl_sub, nl_ss, nl_lt, nl_llt, nl_ltt, nl_le, nl_lle, nl_lee, nl_eq, nl_leq, nl_ee, nl_div, nl_rem, nl_cl, nl_n1, nl_n2, nl_n3, nl_n4, nl_add, nl_ladd, nl_aa, nl_mul, nl_rmul, nl_mm, pu_wi_1, pu_wi_2, bX12_comesToAll_25, bX12_comesToAll_92, bX12_comesToAll_86, bX12_comesToAll_71, a_ai, a_ald, a_cv, a_gr, a_icge, a_icne, a_ifeq, a_ild, a_inc, a_push, fx_71_0 hx, sh_71, sh_72, pu_rv, pu_as, Value.category, pu_bk, pu_kl, pu_qe0, pu_qe1, h4, hc, hR]
      all_goals try simp [bX12_comesToAll_25, bX12_comesToAll_92, bX12_comesToAll_86, bX12_comesToAll_71, a_ai, a_ald, a_cv, a_gr, a_icge, a_icne, a_ifeq, a_ild, a_inc, a_push, fx_71_0 hx, sh_71, sh_72, pu_rv, pu_as, Value.category, pu_bk, pu_kl, List.replicate, pu_wi_1, pu_wi_2, nl_add, nl_ladd, nl_aa, nl_mul, nl_rmul, nl_mm, pu_qe0, pu_qe1, h4, hc, hR]
      all_goals try simp (maxSteps := 400000) (disch := omega) [nl_tle, nl_fle, nl_tlt, nl_flt, nl_teq, nl_feq, nl_sub, nl_ss, nl_lt, nl_llt, nl_ltt, nl_le, nl_lle, nl_lee, nl_eq, nl_leq, nl_ee, nl_div, nl_rem, nl_cl, nl_n1, nl_n2, nl_n3, nl_n4, nl_add, nl_ladd, nl_aa, nl_mul, nl_rmul, nl_mm, pu_wi_1, pu_wi_2, bX12_comesToAll_25, bX12_comesToAll_92, bX12_comesToAll_86, bX12_comesToAll_71, a_ai, a_ald, a_cv, a_gr, a_icge, a_icne, a_ifeq, a_ild, a_inc, a_push, fx_71_0 hx, sh_71, sh_72, pu_rv, pu_as, Value.category, pu_bk, pu_kl, pu_qe0, pu_qe1, h4, hc, hR]
      all_goals try simp [bX12_comesToAll_25, bX12_comesToAll_92, bX12_comesToAll_86, bX12_comesToAll_71, a_ai, a_ald, a_cv, a_gr, a_icge, a_icne, a_ifeq, a_ild, a_inc, a_push, fx_71_0 hx, sh_71, sh_72, pu_rv, pu_as, Value.category, pu_bk, pu_kl, List.replicate, pu_wi_1, pu_wi_2, nl_add, nl_ladd, nl_aa, nl_mul, nl_rmul, nl_mm, pu_qe0, pu_qe1, h4, hc, hR]
  | q + 1, d, N, U, m, hq, hC => by
    have hw := h.1
    have bD := wx_bD hw
    have hd : d < cD I := by omega
    have GD := py_cI_gd hw hf h32 gd no ef hC
    obtain ⟨x1, x2, x3, x4, x5, sl⟩ := id hC
    have P := py_us_p (y := y) hw hd hf h32 s2 s4 k9
    have UK : ∀ l, py_us I y f l → py_uk I l = (st * 100 + k) * 128 + d → l = d := fun l hl e => by
      have e1 : py_uk I l = ((I 32 l).toNatClampNeg * 100 + (I 35 l).toNatClampNeg) * 128 + l := rfl
      have l1 := hl.1
      omega
    by_cases c : py_us I y f d ∧ py_uk I d = (st * 100 + k) * 128 + d
    rotate_left
    · rw [r_cd_i (N1 := N) h GD x1 hd hf s4 k9 (fun _ => rfl) (fun z => absurd (P.mp z) c)]
      exact r_cd_l h hf h32 gd no ef N0 s2 s4 k9 q (d + 1) N U m (by omega) ⟨x1, x2, x3, x4, x5, py_SL_c sl (fun l => ⟨fun z => ⟨by omega, z.2⟩, fun z => ⟨by
        have ne : py_uk I l ≠ (st * 100 + k) * 128 + d := fun e => by
          have := UK l z.2 e
          rw [this] at z e
          exact c ⟨z.2, e⟩
        have := z.1
        omega, z.2⟩⟩)⟩
    · obtain ⟨ud, ue⟩ := c
      have ADD := py_SL_add (k := d) sl (Nat.le_refl m) (fun j z1 z2 => by omega) (by
        by_cases z : m = 0
        · exact Or.inl z
        · refine Or.inr ?_
          have := (sl.1 (m - 1) (by omega)).1
          omega)
      have ND : ∀ t, t < m → U t ≠ d := fun t ht e => by
        have := (sl.1 t ht).1
        rw [e, ue] at this
        omega
      have GDX : py_GD I (fun t => if t < c1 + 1 + m then N.1 72 (59788 + t) else nI d) (c1 + 1 + (m + 1)) := py_GD_add (y := y) (U := fun t => if t < m then U t else d) hw (py_GD_c (fun t ht => by show (if t < c1 + 1 + m then N.1 72 (59788 + t) else nI d) = E0 t; rw [if_pos (by omega)]; exact x4 t (by omega)) gd) hf h32 (fun t ht => by show (if t < c1 + 1 + m then N.1 72 (59788 + t) else nI d) ≠ nI f; rw [if_pos (by omega), x4 t (by omega)]; exact no t ht) (by show (if c1 < c1 + 1 + m then N.1 72 (59788 + c1) else nI d) = nI f; rw [if_pos (by omega), x4 c1 (by omega)]; exact ef) (fun t ht => by
        show py_us I y f (if t < m then U t else d)
        by_cases z : t < m
        · rw [if_pos z]; exact (sl.1 t z).2
        · rw [if_neg z]; exact ud) (fun s t hst ht => by
        show (if s < m then U s else d) ≠ (if t < m then U t else d)
        rw [if_pos (show s < m by omega)]
        by_cases z : t < m
        · rw [if_pos z]
          exact fun e => by have := py_SL_i sl (by omega) z e; omega
        · rw [if_neg z]
          exact ND s (by omega)) (fun t ht => by
        show (if c1 + 1 + t < c1 + 1 + m then N.1 72 (59788 + (c1 + 1 + t)) else nI d) = nI (if t < m then U t else d)
        by_cases z : t < m
        · rw [if_pos (by omega), if_pos z]; exact x5 t z
        · rw [if_neg (by omega), if_neg z])
      have cl := py_GD_le hw GDX
      have ct := r_comesTo (s0 := s0) (show c1 + 1 + m < 100 by omega) x1 (nI d)
      rw [r_cd_i (N1 := py_wT N (c1 + 1 + m) (nI d)) h GD x1 hd hf s4 k9 (fun z => absurd (P.mpr ⟨ud, ue⟩) z) (fun _ => ct)]
      refine r_cd_l h hf h32 gd no ef N0 s2 s4 k9 q (d + 1) (py_wT N (c1 + 1 + m) (nI d)) (pu_vi U m d) (m + 1) (by omega) ⟨py_wT_r (by omega) x1, x2, fun x j z => by rw [py_wT_o (by omega)]; exact x3 x j z, fun t ht => by rw [py_wT_o (by omega)]; exact x4 t ht, fun t ht => ?_, py_SL_c ADD (fun l => ?_)⟩
      · unfold pu_vi
        by_cases z : t = m
        · rw [if_neg (by omega), if_pos z, z]
          exact py_wT_v
        · rw [if_pos (by omega), py_wT_o (by omega)]
          exact x5 t (by omega)
      · constructor
        · rintro (z | z)
          · exact ⟨by omega, z.2⟩
          · rw [z]; exact ⟨by omega, ud⟩
        · rintro ⟨z1, z2⟩
          by_cases e : py_uk I l = (st * 100 + k) * 128 + d
          · exact Or.inr (UK l z2 e)
          · exact Or.inl ⟨by omega, z2⟩
theorem r_ck_l (h : pu_St I L s0) {f c1 : Nat} {E0 : Nat → Int32} (hf : f < cD I) (h32 : I 32 f = 0) (gd : py_GD I E0 c1) (no : ∀ t, t < c1 → E0 t ≠ nI f) (ef : E0 c1 = nI f) (N0 : pu_M) {st : Nat} (s2 : 2 ≤ st) (s4 : st ≤ 4) : ∀ (q k : Nat) (N : pu_M) (U : Nat → Nat) (m : Nat) (t5 : Option Value), k + q = 100 → py_cI I s0 y f c1 E0 N0 N ((st * 100 + k) * 128) U m → ∃ N1 U1 m1 u4 u5, py_cI I s0 y f c1 E0 N0 N1 (((st + 1) * 100) * 128) U1 m1 ∧ pu_r 523 [some (.ref 71), some (.int (nI f)), some (.int y), some (.int (nI st)), some (.int (nI k)), t5] [] N = pu_r 522 [some (.ref 71), some (.int (nI f)), some (.int y), some (.int (nI (st + 1))), u4, u5] [] N1
  | 0, k, N, U, m, t5, hq, hC => by
    have e : k = 100 := by omega
    have hc : ¬ nI 100 ≤ 99 := by decide
    have hc' : (99 : Int32) < nI 100 := by decide
    refine ⟨N, U, m, some (.int (nI 100)), t5, ?_, ?_⟩
    · rw [e] at hC
      rw [show (st + 1) * 100 = st * 100 + 100 by omega]
      exact hC
    · rw [e]
      generalize hR : pu_r 522 [some (.ref 71), some (.int (nI f)), some (.int y), some (.int (nI (st + 1))), some (.int (nI 100)), t5] [] N = R
      rw [qX12_comesToAll_15]
      simp [bX12_comesToAll_15, bX12_comesToAll_98, a_icgt, a_ild, a_inc, a_ist, a_push, pu_rv, pu_as, Value.category, pu_bk, pu_kl, List.replicate, pu_wi_1, pu_wi_2, nl_add, nl_ladd, nl_aa, nl_mul, nl_rmul, nl_mm, pu_qe0, pu_qe1, hc, hc', hR]
      all_goals try simp (maxSteps := 400000) (disch := omega) [nl_tle, nl_fle, nl_tlt, nl_flt, nl_teq, nl_feq, nl_sub, nl_ss, nl_lt, nl_llt, nl_ltt, nl_le, nl_lle, nl_lee, nl_eq, nl_leq, nl_ee, nl_div, nl_rem, nl_cl, nl_n1, nl_n2, nl_n3, nl_n4, nl_add, nl_ladd, nl_aa, nl_mul, nl_rmul, nl_mm, pu_wi_1, pu_wi_2, bX12_comesToAll_15, bX12_comesToAll_98, a_icgt, a_ild, a_inc, a_ist, a_push, pu_rv, pu_as, Value.category, pu_bk, pu_kl, pu_qe0, pu_qe1, hc, hc', hR]
      all_goals try simp [bX12_comesToAll_15, bX12_comesToAll_98, a_icgt, a_ild, a_inc, a_ist, a_push, pu_rv, pu_as, Value.category, pu_bk, pu_kl, List.replicate, pu_wi_1, pu_wi_2, nl_add, nl_ladd, nl_aa, nl_mul, nl_rmul, nl_mm, pu_qe0, pu_qe1, hc, hc', hR]
      all_goals try simp (maxSteps := 400000) (disch := omega) [nl_tle, nl_fle, nl_tlt, nl_flt, nl_teq, nl_feq, nl_sub, nl_ss, nl_lt, nl_llt, nl_ltt, nl_le, nl_lle, nl_lee, nl_eq, nl_leq, nl_ee, nl_div, nl_rem, nl_cl, nl_n1, nl_n2, nl_n3, nl_n4, nl_add, nl_ladd, nl_aa, nl_mul, nl_rmul, nl_mm, pu_wi_1, pu_wi_2, bX12_comesToAll_15, bX12_comesToAll_98, a_icgt, a_ild, a_inc, a_ist, a_push, pu_rv, pu_as, Value.category, pu_bk, pu_kl, pu_qe0, pu_qe1, hc, hc', hR]
      all_goals try simp [bX12_comesToAll_15, bX12_comesToAll_98, a_icgt, a_ild, a_inc, a_ist, a_push, pu_rv, pu_as, Value.category, pu_bk, pu_kl, List.replicate, pu_wi_1, pu_wi_2, nl_add, nl_ladd, nl_aa, nl_mul, nl_rmul, nl_mm, pu_qe0, pu_qe1, hc, hc', hR]
      all_goals try simp (maxSteps := 400000) (disch := omega) [nl_tle, nl_fle, nl_tlt, nl_flt, nl_teq, nl_feq, nl_sub, nl_ss, nl_lt, nl_llt, nl_ltt, nl_le, nl_lle, nl_lee, nl_eq, nl_leq, nl_ee, nl_div, nl_rem, nl_cl, nl_n1, nl_n2, nl_n3, nl_n4, nl_add, nl_ladd, nl_aa, nl_mul, nl_rmul, nl_mm, pu_wi_1, pu_wi_2, bX12_comesToAll_15, bX12_comesToAll_98, a_icgt, a_ild, a_inc, a_ist, a_push, pu_rv, pu_as, Value.category, pu_bk, pu_kl, pu_qe0, pu_qe1, hc, hc', hR]
      all_goals try simp [bX12_comesToAll_15, bX12_comesToAll_98, a_icgt, a_ild, a_inc, a_ist, a_push, pu_rv, pu_as, Value.category, pu_bk, pu_kl, List.replicate, pu_wi_1, pu_wi_2, nl_add, nl_ladd, nl_aa, nl_mul, nl_rmul, nl_mm, pu_qe0, pu_qe1, hc, hc', hR]
  | q + 1, k, N, U, m, t5, hq, hC => by
    have hc : nI k ≤ 99 := nI_le (b := 99) (by omega) (by omega)
    have hc' : ¬ (99 : Int32) < nI k := Int32.not_lt.mpr hc
    obtain ⟨N1, U1, m1, x1, x2⟩ := r_cd_l h hf h32 gd no ef N0 s2 s4 (show k ≤ 99 by omega) (cD I) 0 N U m (by omega) (by rw [Nat.add_zero]; exact hC)
    obtain ⟨N2, U2, m2, u4, u5, y1, y2⟩ := r_ck_l h hf h32 gd no ef N0 s2 s4 q (k + 1) N1 U1 m1 (some (.int (nI (cD I)))) (by omega) x1
    refine ⟨N2, U2, m2, u4, u5, y1, ?_⟩
    rw [← y2, ← x2, nI_0]
    rw [qX12_comesToAll_15]
    simp [bX12_comesToAll_15, bX12_comesToAll_98, a_icgt, a_ild, a_inc, a_ist, a_push, pu_rv, pu_as, Value.category, pu_bk, pu_kl, List.replicate, pu_wi_1, pu_wi_2, nl_add, nl_ladd, nl_aa, nl_mul, nl_rmul, nl_mm, pu_qe0, pu_qe1, hc, hc']
    all_goals try simp (maxSteps := 400000) (disch := omega) [nl_tle, nl_fle, nl_tlt, nl_flt, nl_teq, nl_feq, nl_sub, nl_ss, nl_lt, nl_llt, nl_ltt, nl_le, nl_lle, nl_lee, nl_eq, nl_leq, nl_ee, nl_div, nl_rem, nl_cl, nl_n1, nl_n2, nl_n3, nl_n4, nl_add, nl_ladd, nl_aa, nl_mul, nl_rmul, nl_mm, pu_wi_1, pu_wi_2, bX12_comesToAll_15, bX12_comesToAll_98, a_icgt, a_ild, a_inc, a_ist, a_push, pu_rv, pu_as, Value.category, pu_bk, pu_kl, pu_qe0, pu_qe1, hc, hc']
    all_goals try simp [bX12_comesToAll_15, bX12_comesToAll_98, a_icgt, a_ild, a_inc, a_ist, a_push, pu_rv, pu_as, Value.category, pu_bk, pu_kl, List.replicate, pu_wi_1, pu_wi_2, nl_add, nl_ladd, nl_aa, nl_mul, nl_rmul, nl_mm, pu_qe0, pu_qe1, hc, hc']
    all_goals try simp (maxSteps := 400000) (disch := omega) [nl_tle, nl_fle, nl_tlt, nl_flt, nl_teq, nl_feq, nl_sub, nl_ss, nl_lt, nl_llt, nl_ltt, nl_le, nl_lle, nl_lee, nl_eq, nl_leq, nl_ee, nl_div, nl_rem, nl_cl, nl_n1, nl_n2, nl_n3, nl_n4, nl_add, nl_ladd, nl_aa, nl_mul, nl_rmul, nl_mm, pu_wi_1, pu_wi_2, bX12_comesToAll_15, bX12_comesToAll_98, a_icgt, a_ild, a_inc, a_ist, a_push, pu_rv, pu_as, Value.category, pu_bk, pu_kl, pu_qe0, pu_qe1, hc, hc']
    all_goals try simp [bX12_comesToAll_15, bX12_comesToAll_98, a_icgt, a_ild, a_inc, a_ist, a_push, pu_rv, pu_as, Value.category, pu_bk, pu_kl, List.replicate, pu_wi_1, pu_wi_2, nl_add, nl_ladd, nl_aa, nl_mul, nl_rmul, nl_mm, pu_qe0, pu_qe1, hc, hc']
    all_goals try simp (maxSteps := 400000) (disch := omega) [nl_tle, nl_fle, nl_tlt, nl_flt, nl_teq, nl_feq, nl_sub, nl_ss, nl_lt, nl_llt, nl_ltt, nl_le, nl_lle, nl_lee, nl_eq, nl_leq, nl_ee, nl_div, nl_rem, nl_cl, nl_n1, nl_n2, nl_n3, nl_n4, nl_add, nl_ladd, nl_aa, nl_mul, nl_rmul, nl_mm, pu_wi_1, pu_wi_2, bX12_comesToAll_15, bX12_comesToAll_98, a_icgt, a_ild, a_inc, a_ist, a_push, pu_rv, pu_as, Value.category, pu_bk, pu_kl, pu_qe0, pu_qe1, hc, hc']
    all_goals try simp [bX12_comesToAll_15, bX12_comesToAll_98, a_icgt, a_ild, a_inc, a_ist, a_push, pu_rv, pu_as, Value.category, pu_bk, pu_kl, List.replicate, pu_wi_1, pu_wi_2, nl_add, nl_ladd, nl_aa, nl_mul, nl_rmul, nl_mm, pu_qe0, pu_qe1, hc, hc']
theorem r_comesToAll (h : pu_St I L s0) {f c1 : Nat} (hf : f < cD I) (h32 : I 32 f = 0) (N : pu_M) (hN : py_rw s0 N c1) (gd : py_GD I (fun t => N.1 72 (59788 + t)) c1) (no : ∀ t, t < c1 → N.1 72 (59788 + t) ≠ nI f) : ∃ N1 U m, py_rw s0 N1 (c1 + 1 + m) ∧ N1.2 = N.2 ∧ (∀ x j, x ≠ 72 → N1.1 x j = N.1 x j) ∧ (∀ t, t < c1 → N1.1 72 (59788 + t) = N.1 72 (59788 + t)) ∧ N1.1 72 (59788 + c1) = nI f ∧ (∀ t, t < m → N1.1 72 (59788 + (c1 + 1 + t)) = nI (U t)) ∧ py_SL (py_uk I) (py_us I y f) U m ∧ pu_r 348 [some (.ref 71), some (.int (nI f)), some (.int y)] [] N = some (none, N1) := by
  have hw := h.1
  have bD := wx_bD hw
  have GDX : py_GD I (fun t => if t < c1 then N.1 72 (59788 + t) else nI f) (c1 + 1 + 0) := py_GD_add (y := y) (U := fun _ => 0) hw (py_GD_c (fun t ht => by show (if t < c1 then _ else _) = N.1 72 (59788 + t); rw [if_pos ht]) gd) hf h32 (fun t ht => by show (if t < c1 then _ else _) ≠ _; rw [if_pos ht]; exact no t ht) (by show (if c1 < c1 then _ else _) = _; rw [if_neg (by omega)]) (fun t ht => by omega) (fun s t _ ht => by omega) (fun t ht => by omega)
  have cl := py_GD_le hw GDX
  have ct := r_comesTo (s0 := s0) (show c1 < 100 by omega) hN (nI f)
  obtain ⟨T, hT⟩ : ∃ T, py_wT N c1 (nI f) = T := ⟨_, rfl⟩
  have T2 : T.2 = N.2 := by rw [← hT]; rfl
  have To : ∀ x j, ¬ (x = 72 ∧ (j = 12 ∨ j = 59788 + c1)) → T.1 x j = N.1 x j := fun x j z => by rw [← hT]; exact py_wT_o z
  have Tv : T.1 72 (59788 + c1) = nI f := by rw [← hT]; exact py_wT_v
  have Tr : py_rw s0 T (c1 + 1) := by rw [← hT]; exact py_wT_r (by omega) hN
  rw [hT] at ct
  have gdT : py_GD I (fun t => T.1 72 (59788 + t)) c1 := py_GD_c (fun t ht => To 72 _ (by omega)) gd
  have noT : ∀ t, t < c1 → T.1 72 (59788 + t) ≠ nI f := fun t ht => by rw [To 72 _ (by omega)]; exact no t ht
  have rk : ∀ l, py_us I y f l → 200 * 128 ≤ py_uk I l ∧ py_uk I l < 500 * 128 := fun l hl => by
    have e1 : py_uk I l = py_rkU I l * 128 + l := rfl
    have b := py_rkU_b hw hl.1
    have l1 := hl.1
    have n0 : I 32 l ≠ 0 := fun z => by
      have q := (wx_d0 hw l hl.1 z).2.2.1
      rw [hl.2.2.1, nI_eq (by omega) (by omega)] at q
      exact hl.2.1 q.symm
    have := b.2.2.2.2.2 n0
    omega
  have C0 : py_cI I s0 y f c1 (fun t => T.1 72 (59788 + t)) T T ((2 * 100 + 0) * 128) (fun _ => 0) 0 := ⟨Tr, rfl, fun _ _ _ => rfl, fun _ _ => rfl, fun t ht => by omega, ⟨fun a ha => by omega, fun l hl => by have := rk l hl.2; have := hl.1; omega, fun a b _ hb => by omega⟩⟩
  obtain ⟨N2, U2, m2, u4, u5, c2, r2⟩ := r_ck_l h hf h32 gdT noT Tv T (st := 2) (by omega) (by omega) 100 0 T (fun _ => 0) 0 none (by omega) C0
  obtain ⟨N3, U3, m3, v4, v5, c3, r3⟩ := r_ck_l h hf h32 gdT noT Tv T (st := 3) (by omega) (by omega) 100 0 N2 U2 m2 u5 (by omega) c2
  obtain ⟨N4, U4, m4, w4, w5, c4, r4⟩ := r_ck_l h hf h32 gdT noT Tv T (st := 4) (by omega) (by omega) 100 0 N3 U3 m3 v5 (by omega) c3
  obtain ⟨x1, x2, x3, x4, x5, x6⟩ := c4
  refine ⟨N4, U4, m4, x1, by rw [x2, T2], fun x j z => by rw [x3 x j z, To x j (by omega)], fun t ht => by rw [x4 t (by omega)]; exact To 72 _ (by omega), by rw [x4 c1 (by omega)]; exact Tv, x5, py_SL_c x6 (fun l => ⟨fun z => z.2, fun z => ⟨by have := (rk l z).2; omega, z⟩⟩), ?_⟩
  have i2 : ¬ (4 : Int32) < nI 2 := by decide
  have i3 : ¬ (4 : Int32) < nI 3 := by decide
  have i4 : ¬ (4 : Int32) < nI 4 := by decide
  have i5 : (4 : Int32) < nI 5 := by decide
  have j2 : nI 2 ≤ (4 : Int32) := by decide
  have j3 : nI 3 ≤ (4 : Int32) := by decide
  have j4 : nI 4 ≤ (4 : Int32) := by decide
  have j5 : ¬ nI 5 ≤ (4 : Int32) := by decide
  rw [nI_0] at r2 r3 r4
  have L5 : pu_r 522 [some (.ref 71), some (.int (nI f)), some (.int y), some (.int (nI 5)), w4, w5] [] N4 = some (none, N4) := by
    rw [qX12_comesToAll_7]
    simp [bX12_comesToAll_7, bX12_comesToAll_104, a_icgt, a_ild, a_ist, a_push, a_vret, pu_rv, pu_as, Value.category, pu_bk, pu_kl, List.replicate, pu_wi_1, pu_wi_2, nl_add, nl_ladd, nl_aa, nl_mul, nl_rmul, nl_mm, pu_qe0, pu_qe1, i5, j5]
    all_goals try simp (maxSteps := 400000) (disch := omega) [nl_tle, nl_fle, nl_tlt, nl_flt, nl_teq, nl_feq, nl_sub, nl_ss, nl_lt, nl_llt, nl_ltt, nl_le, nl_lle, nl_lee, nl_eq, nl_leq, nl_ee, nl_div, nl_rem, nl_cl, nl_n1, nl_n2, nl_n3, nl_n4, nl_add, nl_ladd, nl_aa, nl_mul, nl_rmul, nl_mm, pu_wi_1, pu_wi_2, bX12_comesToAll_7, bX12_comesToAll_104, a_icgt, a_ild, a_ist, a_push, a_vret, pu_rv, pu_as, Value.category, pu_bk, pu_kl, pu_qe0, pu_qe1, i5, j5]
    all_goals try simp [bX12_comesToAll_7, bX12_comesToAll_104, a_icgt, a_ild, a_ist, a_push, a_vret, pu_rv, pu_as, Value.category, pu_bk, pu_kl, List.replicate, pu_wi_1, pu_wi_2, nl_add, nl_ladd, nl_aa, nl_mul, nl_rmul, nl_mm, pu_qe0, pu_qe1, i5, j5]
    all_goals try simp (maxSteps := 400000) (disch := omega) [nl_tle, nl_fle, nl_tlt, nl_flt, nl_teq, nl_feq, nl_sub, nl_ss, nl_lt, nl_llt, nl_ltt, nl_le, nl_lle, nl_lee, nl_eq, nl_leq, nl_ee, nl_div, nl_rem, nl_cl, nl_n1, nl_n2, nl_n3, nl_n4, nl_add, nl_ladd, nl_aa, nl_mul, nl_rmul, nl_mm, pu_wi_1, pu_wi_2, bX12_comesToAll_7, bX12_comesToAll_104, a_icgt, a_ild, a_ist, a_push, a_vret, pu_rv, pu_as, Value.category, pu_bk, pu_kl, pu_qe0, pu_qe1, i5, j5]
    all_goals try simp [bX12_comesToAll_7, bX12_comesToAll_104, a_icgt, a_ild, a_ist, a_push, a_vret, pu_rv, pu_as, Value.category, pu_bk, pu_kl, List.replicate, pu_wi_1, pu_wi_2, nl_add, nl_ladd, nl_aa, nl_mul, nl_rmul, nl_mm, pu_qe0, pu_qe1, i5, j5]
    all_goals try simp (maxSteps := 400000) (disch := omega) [nl_tle, nl_fle, nl_tlt, nl_flt, nl_teq, nl_feq, nl_sub, nl_ss, nl_lt, nl_llt, nl_ltt, nl_le, nl_lle, nl_lee, nl_eq, nl_leq, nl_ee, nl_div, nl_rem, nl_cl, nl_n1, nl_n2, nl_n3, nl_n4, nl_add, nl_ladd, nl_aa, nl_mul, nl_rmul, nl_mm, pu_wi_1, pu_wi_2, bX12_comesToAll_7, bX12_comesToAll_104, a_icgt, a_ild, a_ist, a_push, a_vret, pu_rv, pu_as, Value.category, pu_bk, pu_kl, pu_qe0, pu_qe1, i5, j5]
    all_goals try simp [bX12_comesToAll_7, bX12_comesToAll_104, a_icgt, a_ild, a_ist, a_push, a_vret, pu_rv, pu_as, Value.category, pu_bk, pu_kl, List.replicate, pu_wi_1, pu_wi_2, nl_add, nl_ladd, nl_aa, nl_mul, nl_rmul, nl_mm, pu_qe0, pu_qe1, i5, j5]
  have L4 : pu_r 522 [some (.ref 71), some (.int (nI f)), some (.int y), some (.int (nI 4)), v4, v5] [] N3 = some (none, N4) := by
    rw [← L5, ← r4]
    rw [qX12_comesToAll_7]
    simp [bX12_comesToAll_7, bX12_comesToAll_104, a_icgt, a_ild, a_ist, a_push, a_vret, pu_rv, pu_as, Value.category, pu_bk, pu_kl, List.replicate, pu_wi_1, pu_wi_2, nl_add, nl_ladd, nl_aa, nl_mul, nl_rmul, nl_mm, pu_qe0, pu_qe1, i4, j4]
    all_goals try simp (maxSteps := 400000) (disch := omega) [nl_tle, nl_fle, nl_tlt, nl_flt, nl_teq, nl_feq, nl_sub, nl_ss, nl_lt, nl_llt, nl_ltt, nl_le, nl_lle, nl_lee, nl_eq, nl_leq, nl_ee, nl_div, nl_rem, nl_cl, nl_n1, nl_n2, nl_n3, nl_n4, nl_add, nl_ladd, nl_aa, nl_mul, nl_rmul, nl_mm, pu_wi_1, pu_wi_2, bX12_comesToAll_7, bX12_comesToAll_104, a_icgt, a_ild, a_ist, a_push, a_vret, pu_rv, pu_as, Value.category, pu_bk, pu_kl, pu_qe0, pu_qe1, i4, j4]
    all_goals try simp [bX12_comesToAll_7, bX12_comesToAll_104, a_icgt, a_ild, a_ist, a_push, a_vret, pu_rv, pu_as, Value.category, pu_bk, pu_kl, List.replicate, pu_wi_1, pu_wi_2, nl_add, nl_ladd, nl_aa, nl_mul, nl_rmul, nl_mm, pu_qe0, pu_qe1, i4, j4]
    all_goals try simp (maxSteps := 400000) (disch := omega) [nl_tle, nl_fle, nl_tlt, nl_flt, nl_teq, nl_feq, nl_sub, nl_ss, nl_lt, nl_llt, nl_ltt, nl_le, nl_lle, nl_lee, nl_eq, nl_leq, nl_ee, nl_div, nl_rem, nl_cl, nl_n1, nl_n2, nl_n3, nl_n4, nl_add, nl_ladd, nl_aa, nl_mul, nl_rmul, nl_mm, pu_wi_1, pu_wi_2, bX12_comesToAll_7, bX12_comesToAll_104, a_icgt, a_ild, a_ist, a_push, a_vret, pu_rv, pu_as, Value.category, pu_bk, pu_kl, pu_qe0, pu_qe1, i4, j4]
    all_goals try simp [bX12_comesToAll_7, bX12_comesToAll_104, a_icgt, a_ild, a_ist, a_push, a_vret, pu_rv, pu_as, Value.category, pu_bk, pu_kl, List.replicate, pu_wi_1, pu_wi_2, nl_add, nl_ladd, nl_aa, nl_mul, nl_rmul, nl_mm, pu_qe0, pu_qe1, i4, j4]
    all_goals try simp (maxSteps := 400000) (disch := omega) [nl_tle, nl_fle, nl_tlt, nl_flt, nl_teq, nl_feq, nl_sub, nl_ss, nl_lt, nl_llt, nl_ltt, nl_le, nl_lle, nl_lee, nl_eq, nl_leq, nl_ee, nl_div, nl_rem, nl_cl, nl_n1, nl_n2, nl_n3, nl_n4, nl_add, nl_ladd, nl_aa, nl_mul, nl_rmul, nl_mm, pu_wi_1, pu_wi_2, bX12_comesToAll_7, bX12_comesToAll_104, a_icgt, a_ild, a_ist, a_push, a_vret, pu_rv, pu_as, Value.category, pu_bk, pu_kl, pu_qe0, pu_qe1, i4, j4]
    all_goals try simp [bX12_comesToAll_7, bX12_comesToAll_104, a_icgt, a_ild, a_ist, a_push, a_vret, pu_rv, pu_as, Value.category, pu_bk, pu_kl, List.replicate, pu_wi_1, pu_wi_2, nl_add, nl_ladd, nl_aa, nl_mul, nl_rmul, nl_mm, pu_qe0, pu_qe1, i4, j4]
  have L3 : pu_r 522 [some (.ref 71), some (.int (nI f)), some (.int y), some (.int (nI 3)), u4, u5] [] N2 = some (none, N4) := by
    rw [← L4, ← r3]
    rw [qX12_comesToAll_7]
    simp [bX12_comesToAll_7, bX12_comesToAll_104, a_icgt, a_ild, a_ist, a_push, a_vret, pu_rv, pu_as, Value.category, pu_bk, pu_kl, List.replicate, pu_wi_1, pu_wi_2, nl_add, nl_ladd, nl_aa, nl_mul, nl_rmul, nl_mm, pu_qe0, pu_qe1, i3, j3]
    all_goals try simp (maxSteps := 400000) (disch := omega) [nl_tle, nl_fle, nl_tlt, nl_flt, nl_teq, nl_feq, nl_sub, nl_ss, nl_lt, nl_llt, nl_ltt, nl_le, nl_lle, nl_lee, nl_eq, nl_leq, nl_ee, nl_div, nl_rem, nl_cl, nl_n1, nl_n2, nl_n3, nl_n4, nl_add, nl_ladd, nl_aa, nl_mul, nl_rmul, nl_mm, pu_wi_1, pu_wi_2, bX12_comesToAll_7, bX12_comesToAll_104, a_icgt, a_ild, a_ist, a_push, a_vret, pu_rv, pu_as, Value.category, pu_bk, pu_kl, pu_qe0, pu_qe1, i3, j3]
    all_goals try simp [bX12_comesToAll_7, bX12_comesToAll_104, a_icgt, a_ild, a_ist, a_push, a_vret, pu_rv, pu_as, Value.category, pu_bk, pu_kl, List.replicate, pu_wi_1, pu_wi_2, nl_add, nl_ladd, nl_aa, nl_mul, nl_rmul, nl_mm, pu_qe0, pu_qe1, i3, j3]
    all_goals try simp (maxSteps := 400000) (disch := omega) [nl_tle, nl_fle, nl_tlt, nl_flt, nl_teq, nl_feq, nl_sub, nl_ss, nl_lt, nl_llt, nl_ltt, nl_le, nl_lle, nl_lee, nl_eq, nl_leq, nl_ee, nl_div, nl_rem, nl_cl, nl_n1, nl_n2, nl_n3, nl_n4, nl_add, nl_ladd, nl_aa, nl_mul, nl_rmul, nl_mm, pu_wi_1, pu_wi_2, bX12_comesToAll_7, bX12_comesToAll_104, a_icgt, a_ild, a_ist, a_push, a_vret, pu_rv, pu_as, Value.category, pu_bk, pu_kl, pu_qe0, pu_qe1, i3, j3]
    all_goals try simp [bX12_comesToAll_7, bX12_comesToAll_104, a_icgt, a_ild, a_ist, a_push, a_vret, pu_rv, pu_as, Value.category, pu_bk, pu_kl, List.replicate, pu_wi_1, pu_wi_2, nl_add, nl_ladd, nl_aa, nl_mul, nl_rmul, nl_mm, pu_qe0, pu_qe1, i3, j3]
    all_goals try simp (maxSteps := 400000) (disch := omega) [nl_tle, nl_fle, nl_tlt, nl_flt, nl_teq, nl_feq, nl_sub, nl_ss, nl_lt, nl_llt, nl_ltt, nl_le, nl_lle, nl_lee, nl_eq, nl_leq, nl_ee, nl_div, nl_rem, nl_cl, nl_n1, nl_n2, nl_n3, nl_n4, nl_add, nl_ladd, nl_aa, nl_mul, nl_rmul, nl_mm, pu_wi_1, pu_wi_2, bX12_comesToAll_7, bX12_comesToAll_104, a_icgt, a_ild, a_ist, a_push, a_vret, pu_rv, pu_as, Value.category, pu_bk, pu_kl, pu_qe0, pu_qe1, i3, j3]
    all_goals try simp [bX12_comesToAll_7, bX12_comesToAll_104, a_icgt, a_ild, a_ist, a_push, a_vret, pu_rv, pu_as, Value.category, pu_bk, pu_kl, List.replicate, pu_wi_1, pu_wi_2, nl_add, nl_ladd, nl_aa, nl_mul, nl_rmul, nl_mm, pu_qe0, pu_qe1, i3, j3]
  have L2 : pu_r 522 [some (.ref 71), some (.int (nI f)), some (.int y), some (.int (nI 2)), none, none] [] T = some (none, N4) := by
    rw [← L3, ← r2]
    rw [qX12_comesToAll_7]
    simp [bX12_comesToAll_7, bX12_comesToAll_104, a_icgt, a_ild, a_ist, a_push, a_vret, pu_rv, pu_as, Value.category, pu_bk, pu_kl, List.replicate, pu_wi_1, pu_wi_2, nl_add, nl_ladd, nl_aa, nl_mul, nl_rmul, nl_mm, pu_qe0, pu_qe1, i2, j2]
    all_goals try simp (maxSteps := 400000) (disch := omega) [nl_tle, nl_fle, nl_tlt, nl_flt, nl_teq, nl_feq, nl_sub, nl_ss, nl_lt, nl_llt, nl_ltt, nl_le, nl_lle, nl_lee, nl_eq, nl_leq, nl_ee, nl_div, nl_rem, nl_cl, nl_n1, nl_n2, nl_n3, nl_n4, nl_add, nl_ladd, nl_aa, nl_mul, nl_rmul, nl_mm, pu_wi_1, pu_wi_2, bX12_comesToAll_7, bX12_comesToAll_104, a_icgt, a_ild, a_ist, a_push, a_vret, pu_rv, pu_as, Value.category, pu_bk, pu_kl, pu_qe0, pu_qe1, i2, j2]
    all_goals try simp [bX12_comesToAll_7, bX12_comesToAll_104, a_icgt, a_ild, a_ist, a_push, a_vret, pu_rv, pu_as, Value.category, pu_bk, pu_kl, List.replicate, pu_wi_1, pu_wi_2, nl_add, nl_ladd, nl_aa, nl_mul, nl_rmul, nl_mm, pu_qe0, pu_qe1, i2, j2]
    all_goals try simp (maxSteps := 400000) (disch := omega) [nl_tle, nl_fle, nl_tlt, nl_flt, nl_teq, nl_feq, nl_sub, nl_ss, nl_lt, nl_llt, nl_ltt, nl_le, nl_lle, nl_lee, nl_eq, nl_leq, nl_ee, nl_div, nl_rem, nl_cl, nl_n1, nl_n2, nl_n3, nl_n4, nl_add, nl_ladd, nl_aa, nl_mul, nl_rmul, nl_mm, pu_wi_1, pu_wi_2, bX12_comesToAll_7, bX12_comesToAll_104, a_icgt, a_ild, a_ist, a_push, a_vret, pu_rv, pu_as, Value.category, pu_bk, pu_kl, pu_qe0, pu_qe1, i2, j2]
    all_goals try simp [bX12_comesToAll_7, bX12_comesToAll_104, a_icgt, a_ild, a_ist, a_push, a_vret, pu_rv, pu_as, Value.category, pu_bk, pu_kl, List.replicate, pu_wi_1, pu_wi_2, nl_add, nl_ladd, nl_aa, nl_mul, nl_rmul, nl_mm, pu_qe0, pu_qe1, i2, j2]
    all_goals try simp (maxSteps := 400000) (disch := omega) [nl_tle, nl_fle, nl_tlt, nl_flt, nl_teq, nl_feq, nl_sub, nl_ss, nl_lt, nl_llt, nl_ltt, nl_le, nl_lle, nl_lee, nl_eq, nl_leq, nl_ee, nl_div, nl_rem, nl_cl, nl_n1, nl_n2, nl_n3, nl_n4, nl_add, nl_ladd, nl_aa, nl_mul, nl_rmul, nl_mm, pu_wi_1, pu_wi_2, bX12_comesToAll_7, bX12_comesToAll_104, a_icgt, a_ild, a_ist, a_push, a_vret, pu_rv, pu_as, Value.category, pu_bk, pu_kl, pu_qe0, pu_qe1, i2, j2]
    all_goals try simp [bX12_comesToAll_7, bX12_comesToAll_104, a_icgt, a_ild, a_ist, a_push, a_vret, pu_rv, pu_as, Value.category, pu_bk, pu_kl, List.replicate, pu_wi_1, pu_wi_2, nl_add, nl_ladd, nl_aa, nl_mul, nl_rmul, nl_mm, pu_qe0, pu_qe1, i2, j2]
  rw [show nI 2 = (2 : Int32) from rfl] at L2
  rw [qX12_comesToAll]
  simp [a_ent, bX12_comesToAll_0, a_ald, a_cv, a_ild, a_ist, a_push, sh_71, pu_rv, pu_as, Value.category, pu_bk, pu_kl, List.replicate, pu_wi_1, pu_wi_2, nl_add, nl_ladd, nl_aa, nl_mul, nl_rmul, nl_mm, pu_qe0, pu_qe1, ct, L2]
  all_goals try simp (maxSteps := 400000) (disch := omega) [nl_tle, nl_fle, nl_tlt, nl_flt, nl_teq, nl_feq, nl_sub, nl_ss, nl_lt, nl_llt, nl_ltt, nl_le, nl_lle, nl_lee, nl_eq, nl_leq, nl_ee, nl_div, nl_rem, nl_cl, nl_n1, nl_n2, nl_n3, nl_n4, nl_add, nl_ladd, nl_aa, nl_mul, nl_rmul, nl_mm, pu_wi_1, pu_wi_2, bX12_comesToAll_0, a_ald, a_cv, a_ild, a_ist, a_push, sh_71, pu_rv, pu_as, Value.category, pu_bk, pu_kl, pu_qe0, pu_qe1, ct, L2]
  all_goals try simp [bX12_comesToAll_0, a_ald, a_cv, a_ild, a_ist, a_push, sh_71, pu_rv, pu_as, Value.category, pu_bk, pu_kl, List.replicate, pu_wi_1, pu_wi_2, nl_add, nl_ladd, nl_aa, nl_mul, nl_rmul, nl_mm, pu_qe0, pu_qe1, ct, L2]
  all_goals try simp (maxSteps := 400000) (disch := omega) [nl_tle, nl_fle, nl_tlt, nl_flt, nl_teq, nl_feq, nl_sub, nl_ss, nl_lt, nl_llt, nl_ltt, nl_le, nl_lle, nl_lee, nl_eq, nl_leq, nl_ee, nl_div, nl_rem, nl_cl, nl_n1, nl_n2, nl_n3, nl_n4, nl_add, nl_ladd, nl_aa, nl_mul, nl_rmul, nl_mm, pu_wi_1, pu_wi_2, bX12_comesToAll_0, a_ald, a_cv, a_ild, a_ist, a_push, sh_71, pu_rv, pu_as, Value.category, pu_bk, pu_kl, pu_qe0, pu_qe1, ct, L2]
  all_goals try simp [bX12_comesToAll_0, a_ald, a_cv, a_ild, a_ist, a_push, sh_71, pu_rv, pu_as, Value.category, pu_bk, pu_kl, List.replicate, pu_wi_1, pu_wi_2, nl_add, nl_ladd, nl_aa, nl_mul, nl_rmul, nl_mm, pu_qe0, pu_qe1, ct, L2]
  all_goals try simp (maxSteps := 400000) (disch := omega) [nl_tle, nl_fle, nl_tlt, nl_flt, nl_teq, nl_feq, nl_sub, nl_ss, nl_lt, nl_llt, nl_ltt, nl_le, nl_lle, nl_lee, nl_eq, nl_leq, nl_ee, nl_div, nl_rem, nl_cl, nl_n1, nl_n2, nl_n3, nl_n4, nl_add, nl_ladd, nl_aa, nl_mul, nl_rmul, nl_mm, pu_wi_1, pu_wi_2, bX12_comesToAll_0, a_ald, a_cv, a_ild, a_ist, a_push, sh_71, pu_rv, pu_as, Value.category, pu_bk, pu_kl, pu_qe0, pu_qe1, ct, L2]
  all_goals try simp [bX12_comesToAll_0, a_ald, a_cv, a_ild, a_ist, a_push, sh_71, pu_rv, pu_as, Value.category, pu_bk, pu_kl, List.replicate, pu_wi_1, pu_wi_2, nl_add, nl_ladd, nl_aa, nl_mul, nl_rmul, nl_mm, pu_qe0, pu_qe1, ct, L2]
end
