/-! walks, on the class's side -/
/-- the walked doors and the view have changed -/
def py_wg (M N : pu_M) : Prop := N.2 = M.2 ∧ ∀ c j, c ≠ 54 → ¬ (c = 45 ∧ j = 5) → ¬ (62 ≤ c ∧ c ≤ 68) → N.1 c j = M.1 c j
def py_wf (M N : pu_M) : Prop := N.2 = M.2 ∧ ∀ c j, c ≠ 54 → ¬ (c = 45 ∧ j = 5) → N.1 c j = M.1 c j
theorem py_wf_t {M N P : pu_M} (a : py_wf M N) (b : py_wf N P) : py_wf M P := ⟨b.1.trans a.1, fun c j h1 h2 => by rw [b.2 c j h1 h2, a.2 c j h1 h2]⟩
theorem py_wg_t {M N P : pu_M} (a : py_wg M N) (b : py_wf N P) : py_wg M P := ⟨b.1.trans a.1, fun c j h1 h2 h3 => by rw [b.2 c j h1 h2, a.2 c j h1 h2 h3]⟩
theorem py_wf_r (M : pu_M) : py_wf M M := ⟨rfl, fun _ _ _ _ => rfl⟩
section
variable {M : pu_M} {I : Nat → Nat → Int32} {L : Nat → Nat → Int64} {y : Int32}
theorem py_wdw {N : pu_M} {c : Nat} (hw : pu_WF I L) (hI : pu_ag M I) (ff : py_wg M N) (gd : py_GD I (N.1 54) c) (h5 : N.1 45 5 = nI c) : w_dk N.1 ∧ pu_ag N (pu_dk I N.1) := by
  have hc := py_GD_le hw gd
  have ne := py_GD_ne hw gd
  have e : ∀ a j, 45 ≤ a → a < 58 → a ≠ 54 → ¬ (a = 45 ∧ j = 5) → N.1 a j = I a j := fun a j h1 h2 h3 h4 => by rw [ff.2 a j h3 h4 (by omega)]; exact hI a j (by omega) h2
  have cW' : cW N.1 = c := pz_cc h5 (by omega)
  have cQ' : cQ N.1 = cQ I := by unfold cQ; rw [e 45 2 (by omega) (by omega) (by omega) (by omega)]
  have cR' : cR N.1 = cR I := by unfold cR; rw [e 45 3 (by omega) (by omega) (by omega) (by omega)]
  have cS' : cS N.1 = cS I := by unfold cS; rw [e 45 4 (by omega) (by omega) (by omega) (by omega)]
  have cE' : cE N.1 = cE I := by unfold cE; rw [e 45 6 (by omega) (by omega) (by omega) (by omega)]
  have cO' : cO N.1 = cO I := by unfold cO; rw [e 45 7 (by omega) (by omega) (by omega) (by omega)]
  refine ⟨⟨⟨?_, ?_, ?_, by rw [cW']; exact h5, ?_, ?_⟩, ⟨by rw [cQ']; exact wx_bQ hw, by rw [cR']; exact wx_bR hw, by rw [cS']; exact wx_bS hw, by omega, by rw [cE']; exact wx_bE hw, by rw [cO']; exact wx_bO hw⟩, fun k hk => ?_, fun a b hab hb => ?_⟩, fun a j h1 h3 => ?_⟩
  · rw [e 45 2 (by omega) (by omega) (by omega) (by omega), cQ']; exact wx_cQ hw
  · rw [e 45 3 (by omega) (by omega) (by omega) (by omega), cR']; exact wx_cR hw
  · rw [e 45 4 (by omega) (by omega) (by omega) (by omega), cS']; exact wx_cS hw
  · rw [e 45 6 (by omega) (by omega) (by omega) (by omega), cE']; exact wx_cE hw
  · rw [e 45 7 (by omega) (by omega) (by omega) (by omega), cO']; exact wx_cO hw
  · rw [cS'] at hk
    rw [e 53 k (by omega) (by omega) (by omega) (by omega)]; exact wx_es hw k hk
  · rw [cW'] at hb
    exact ne a b hab hb
  · unfold pu_dk
    by_cases z : a < 45
    · rw [if_pos z, ff.2 a j (by omega) (by omega) (by omega)]
      exact hI a j h1 h3
    · rw [if_neg z]
theorem c_addWalked {N : pu_M} (hx : pu_fx N) {c : Nat} (hc : c < 100) (h5 : N.1 45 5 = nI c) (d : Int32) : pu_r 204 [some (.ref 45), some (.int d)] [] N = some (none, pu_wi (pu_wi N 54 c d) 45 5 (nI (c + 1))) := by
  have c2 : ¬ 100 ≤ nI c := nI_ge (b := 100) (by omega) (by omega)
  have r5 : (pu_wi N 54 c d).1 45 5 = nI c := by rw [py_wi_o (by omega)]; exact h5
  generalize hA : pu_wi N 54 c d = A at *
  rw [qX1_addWalked]
  simp [a_ent, bX1_addWalked_0, bX1_addWalked_29, a_ald, a_dup, a_gi, a_gr, a_iadd, a_icge, a_ild, a_pi, a_push, a_vret, a_wi, fx_45_16 hx, sh_45, sh_54, pu_rv, pu_as, Value.category, pu_bk, pu_kl, List.replicate, pu_wi_1, pu_wi_2, nl_add, nl_ladd, nl_aa, nl_mul, nl_rmul, nl_mm, pu_qe0, pu_qe1, h5, c2, hc, hA, r5]
  all_goals try simp (maxSteps := 400000) (disch := omega) [nl_tle, nl_fle, nl_tlt, nl_flt, nl_teq, nl_feq, nl_sub, nl_ss, nl_lt, nl_llt, nl_ltt, nl_le, nl_lle, nl_lee, nl_eq, nl_leq, nl_ee, nl_div, nl_rem, nl_cl, nl_n1, nl_n2, nl_n3, nl_n4, nl_add, nl_ladd, nl_aa, nl_mul, nl_rmul, nl_mm, pu_wi_1, pu_wi_2, bX1_addWalked_0, bX1_addWalked_29, a_ald, a_dup, a_gi, a_gr, a_iadd, a_icge, a_ild, a_pi, a_push, a_vret, a_wi, fx_45_16 hx, sh_45, sh_54, pu_rv, pu_as, Value.category, pu_bk, pu_kl, pu_qe0, pu_qe1, h5, c2, hc, hA, r5]
  all_goals try simp [bX1_addWalked_0, bX1_addWalked_29, a_ald, a_dup, a_gi, a_gr, a_iadd, a_icge, a_ild, a_pi, a_push, a_vret, a_wi, fx_45_16 hx, sh_45, sh_54, pu_rv, pu_as, Value.category, pu_bk, pu_kl, List.replicate, pu_wi_1, pu_wi_2, nl_add, nl_ladd, nl_aa, nl_mul, nl_rmul, nl_mm, pu_qe0, pu_qe1, h5, c2, hc, hA, r5]
  all_goals try simp (maxSteps := 400000) (disch := omega) [nl_tle, nl_fle, nl_tlt, nl_flt, nl_teq, nl_feq, nl_sub, nl_ss, nl_lt, nl_llt, nl_ltt, nl_le, nl_lle, nl_lee, nl_eq, nl_leq, nl_ee, nl_div, nl_rem, nl_cl, nl_n1, nl_n2, nl_n3, nl_n4, nl_add, nl_ladd, nl_aa, nl_mul, nl_rmul, nl_mm, pu_wi_1, pu_wi_2, bX1_addWalked_0, bX1_addWalked_29, a_ald, a_dup, a_gi, a_gr, a_iadd, a_icge, a_ild, a_pi, a_push, a_vret, a_wi, fx_45_16 hx, sh_45, sh_54, pu_rv, pu_as, Value.category, pu_bk, pu_kl, pu_qe0, pu_qe1, h5, c2, hc, hA, r5]
  all_goals try simp [bX1_addWalked_0, bX1_addWalked_29, a_ald, a_dup, a_gi, a_gr, a_iadd, a_icge, a_ild, a_pi, a_push, a_vret, a_wi, fx_45_16 hx, sh_45, sh_54, pu_rv, pu_as, Value.category, pu_bk, pu_kl, List.replicate, pu_wi_1, pu_wi_2, nl_add, nl_ladd, nl_aa, nl_mul, nl_rmul, nl_mm, pu_qe0, pu_qe1, h5, c2, hc, hA, r5]
  all_goals try simp (maxSteps := 400000) (disch := omega) [nl_tle, nl_fle, nl_tlt, nl_flt, nl_teq, nl_feq, nl_sub, nl_ss, nl_lt, nl_llt, nl_ltt, nl_le, nl_lle, nl_lee, nl_eq, nl_leq, nl_ee, nl_div, nl_rem, nl_cl, nl_n1, nl_n2, nl_n3, nl_n4, nl_add, nl_ladd, nl_aa, nl_mul, nl_rmul, nl_mm, pu_wi_1, pu_wi_2, bX1_addWalked_0, bX1_addWalked_29, a_ald, a_dup, a_gi, a_gr, a_iadd, a_icge, a_ild, a_pi, a_push, a_vret, a_wi, fx_45_16 hx, sh_45, sh_54, pu_rv, pu_as, Value.category, pu_bk, pu_kl, pu_qe0, pu_qe1, h5, c2, hc, hA, r5]
  all_goals try simp [bX1_addWalked_0, bX1_addWalked_29, a_ald, a_dup, a_gi, a_gr, a_iadd, a_icge, a_ild, a_pi, a_push, a_vret, a_wi, fx_45_16 hx, sh_45, sh_54, pu_rv, pu_as, Value.category, pu_bk, pu_kl, List.replicate, pu_wi_1, pu_wi_2, nl_add, nl_ladd, nl_aa, nl_mul, nl_rmul, nl_mm, pu_qe0, pu_qe1, h5, c2, hc, hA, r5]
def py_rkU (I : Nat → Nat → Int32) (d : Nat) : Nat := (I 32 d).toNatClampNeg * 100 + (I 35 d).toNatClampNeg
theorem py_rkU_b (hw : pu_WF I L) {d : Nat} (hd : d < cD I) : py_rkU I d < 500 ∧ (I 32 d).toNatClampNeg ≤ 4 ∧ (I 35 d).toNatClampNeg ≤ 99 ∧ I 32 d = nI (I 32 d).toNatClampNeg ∧ I 35 d = nI (I 35 d).toNatClampNeg ∧ (I 32 d ≠ 0 → 200 ≤ py_rkU I d) := by
  have t0 : (0 : Int32).toInt = 0 := by decide
  have a : 0 ≤ (I 32 d).toInt ∧ (I 32 d).toInt ≤ 4 ∧ (I 32 d ≠ 0 → 2 ≤ (I 32 d).toInt) := by
    rcases wx_ds hw d hd with z | z
    · rw [z, t0]
      exact ⟨by omega, by omega, fun q => absurd rfl q⟩
    · exact ⟨by omega, by omega, fun _ => z.1⟩
  have b : 0 ≤ (I 35 d).toInt ∧ (I 35 d).toInt ≤ 99 := by
    by_cases z : I 32 d = 0
    · rw [(wx_d0 hw d hd z).2.1, t0]
      omega
    · exact ⟨(wx_d2 hw d hd z).2.2.2.2.2.2.2.2.1, (wx_d2 hw d hd z).2.2.2.2.2.2.2.2.2.1⟩
  have p1 := pu_nnT a.1
  have p2 := pu_nnT b.1
  refine ⟨?_, by omega, by omega, pu_nn0 a.1, pu_nn0 b.1, fun q => ?_⟩
  · unfold py_rkU
    omega
  · have := a.2.2 q
    unfold py_rkU
    omega
theorem c_rankUnder {N : pu_M} (hx : pu_fx N) (hw : pu_WF I L) (hI : pu_ag N (pu_dk I N.1)) {d : Nat} (hd : d < cD I) : pu_r 205 [some (.ref 5), some (.int (nI d))] [] N = some (some (.int (nI (py_rkU I d))), N) := by
  have bD := wx_bD hw
  have hn : pu_dk I N.1 31 0 = nI (cD I) := (wx_cD hw :)
  have b := py_rkU_b hw hd
  have e1 : pu_r 85 [some (.ref 31), some (.int (nI d))] [] N = some (some (.int 1), N) := by
    have c1 : nI d < nI (cD I) := nI_lt hd (by omega)
    have c2 : ¬ nI d < 0 := nI_pos (by omega)
    generalize nI (cD I) = cd at *
    rw [qX2_isDoor]
    simp [a_ent, bX2_isDoor_0, bX2_isDoor_16, bX2_isDoor_17, a_ald, a_gi, a_icge, a_iflt, a_ild, a_push, a_zret, ag_31 hI, sh_31, pu_rv, pu_as, Value.category, pu_bk, pu_kl, List.replicate, pu_wi_1, pu_wi_2, nl_add, nl_ladd, nl_aa, nl_mul, nl_rmul, nl_mm, pu_qe0, pu_qe1, hn, c1, c2]
    all_goals try simp (maxSteps := 400000) (disch := omega) [nl_tle, nl_fle, nl_tlt, nl_flt, nl_teq, nl_feq, nl_sub, nl_ss, nl_lt, nl_llt, nl_ltt, nl_le, nl_lle, nl_lee, nl_eq, nl_leq, nl_ee, nl_div, nl_rem, nl_cl, nl_n1, nl_n2, nl_n3, nl_n4, nl_add, nl_ladd, nl_aa, nl_mul, nl_rmul, nl_mm, pu_wi_1, pu_wi_2, bX2_isDoor_0, bX2_isDoor_16, bX2_isDoor_17, a_ald, a_gi, a_icge, a_iflt, a_ild, a_push, a_zret, ag_31 hI, sh_31, pu_rv, pu_as, Value.category, pu_bk, pu_kl, pu_qe0, pu_qe1, hn, c1, c2]
    all_goals try simp [bX2_isDoor_0, bX2_isDoor_16, bX2_isDoor_17, a_ald, a_gi, a_icge, a_iflt, a_ild, a_push, a_zret, ag_31 hI, sh_31, pu_rv, pu_as, Value.category, pu_bk, pu_kl, List.replicate, pu_wi_1, pu_wi_2, nl_add, nl_ladd, nl_aa, nl_mul, nl_rmul, nl_mm, pu_qe0, pu_qe1, hn, c1, c2]
    all_goals try simp (maxSteps := 400000) (disch := omega) [nl_tle, nl_fle, nl_tlt, nl_flt, nl_teq, nl_feq, nl_sub, nl_ss, nl_lt, nl_llt, nl_ltt, nl_le, nl_lle, nl_lee, nl_eq, nl_leq, nl_ee, nl_div, nl_rem, nl_cl, nl_n1, nl_n2, nl_n3, nl_n4, nl_add, nl_ladd, nl_aa, nl_mul, nl_rmul, nl_mm, pu_wi_1, pu_wi_2, bX2_isDoor_0, bX2_isDoor_16, bX2_isDoor_17, a_ald, a_gi, a_icge, a_iflt, a_ild, a_push, a_zret, ag_31 hI, sh_31, pu_rv, pu_as, Value.category, pu_bk, pu_kl, pu_qe0, pu_qe1, hn, c1, c2]
    all_goals try simp [bX2_isDoor_0, bX2_isDoor_16, bX2_isDoor_17, a_ald, a_gi, a_icge, a_iflt, a_ild, a_push, a_zret, ag_31 hI, sh_31, pu_rv, pu_as, Value.category, pu_bk, pu_kl, List.replicate, pu_wi_1, pu_wi_2, nl_add, nl_ladd, nl_aa, nl_mul, nl_rmul, nl_mm, pu_qe0, pu_qe1, hn, c1, c2]
    all_goals try simp (maxSteps := 400000) (disch := omega) [nl_tle, nl_fle, nl_tlt, nl_flt, nl_teq, nl_feq, nl_sub, nl_ss, nl_lt, nl_llt, nl_ltt, nl_le, nl_lle, nl_lee, nl_eq, nl_leq, nl_ee, nl_div, nl_rem, nl_cl, nl_n1, nl_n2, nl_n3, nl_n4, nl_add, nl_ladd, nl_aa, nl_mul, nl_rmul, nl_mm, pu_wi_1, pu_wi_2, bX2_isDoor_0, bX2_isDoor_16, bX2_isDoor_17, a_ald, a_gi, a_icge, a_iflt, a_ild, a_push, a_zret, ag_31 hI, sh_31, pu_rv, pu_as, Value.category, pu_bk, pu_kl, pu_qe0, pu_qe1, hn, c1, c2]
    all_goals try simp [bX2_isDoor_0, bX2_isDoor_16, bX2_isDoor_17, a_ald, a_gi, a_icge, a_iflt, a_ild, a_push, a_zret, ag_31 hI, sh_31, pu_rv, pu_as, Value.category, pu_bk, pu_kl, List.replicate, pu_wi_1, pu_wi_2, nl_add, nl_ladd, nl_aa, nl_mul, nl_rmul, nl_mm, pu_qe0, pu_qe1, hn, c1, c2]
  have d1 : d < 100 := by omega
  have e32 : pu_dk I N.1 32 d = nI (I 32 d).toNatClampNeg := (b.2.2.2.1 :)
  have e35 : pu_dk I N.1 35 d = nI (I 35 d).toNatClampNeg := (b.2.2.2.2.1 :)
  have b2 := b.2.1
  have b3 := b.2.2.1
  unfold py_rkU
  generalize (I 32 d).toNatClampNeg = s at *
  generalize (I 35 d).toNatClampNeg = k at *
  rw [qX5_rankUnder]
  simp [a_ent, bX5_rankUnder_0, bX5_rankUnder_36, bX5_rankUnder_37, a_ai, a_ald, a_cv, a_gr, a_iadd, a_ifeq, a_ild, a_imul, a_iret, a_push, ag_31 hI, ag_32 hI, ag_35 hI, fx_31_1 hx, fx_31_4 hx, fx_5_4 hx, sh_31, sh_32, sh_35, sh_5, pu_rv, pu_as, Value.category, pu_bk, pu_kl, List.replicate, pu_wi_1, pu_wi_2, nl_add, nl_ladd, nl_aa, nl_mul, nl_rmul, nl_mm, pu_qe0, pu_qe1, e1, d1, e32, e35]
  all_goals try simp (maxSteps := 400000) (disch := omega) [nl_tle, nl_fle, nl_tlt, nl_flt, nl_teq, nl_feq, nl_sub, nl_ss, nl_lt, nl_llt, nl_ltt, nl_le, nl_lle, nl_lee, nl_eq, nl_leq, nl_ee, nl_div, nl_rem, nl_cl, nl_n1, nl_n2, nl_n3, nl_n4, nl_add, nl_ladd, nl_aa, nl_mul, nl_rmul, nl_mm, pu_wi_1, pu_wi_2, bX5_rankUnder_0, bX5_rankUnder_36, bX5_rankUnder_37, a_ai, a_ald, a_cv, a_gr, a_iadd, a_ifeq, a_ild, a_imul, a_iret, a_push, ag_31 hI, ag_32 hI, ag_35 hI, fx_31_1 hx, fx_31_4 hx, fx_5_4 hx, sh_31, sh_32, sh_35, sh_5, pu_rv, pu_as, Value.category, pu_bk, pu_kl, pu_qe0, pu_qe1, e1, d1, e32, e35]
  all_goals try simp [bX5_rankUnder_0, bX5_rankUnder_36, bX5_rankUnder_37, a_ai, a_ald, a_cv, a_gr, a_iadd, a_ifeq, a_ild, a_imul, a_iret, a_push, ag_31 hI, ag_32 hI, ag_35 hI, fx_31_1 hx, fx_31_4 hx, fx_5_4 hx, sh_31, sh_32, sh_35, sh_5, pu_rv, pu_as, Value.category, pu_bk, pu_kl, List.replicate, pu_wi_1, pu_wi_2, nl_add, nl_ladd, nl_aa, nl_mul, nl_rmul, nl_mm, pu_qe0, pu_qe1, e1, d1, e32, e35]
  all_goals try simp (maxSteps := 400000) (disch := omega) [nl_tle, nl_fle, nl_tlt, nl_flt, nl_teq, nl_feq, nl_sub, nl_ss, nl_lt, nl_llt, nl_ltt, nl_le, nl_lle, nl_lee, nl_eq, nl_leq, nl_ee, nl_div, nl_rem, nl_cl, nl_n1, nl_n2, nl_n3, nl_n4, nl_add, nl_ladd, nl_aa, nl_mul, nl_rmul, nl_mm, pu_wi_1, pu_wi_2, bX5_rankUnder_0, bX5_rankUnder_36, bX5_rankUnder_37, a_ai, a_ald, a_cv, a_gr, a_iadd, a_ifeq, a_ild, a_imul, a_iret, a_push, ag_31 hI, ag_32 hI, ag_35 hI, fx_31_1 hx, fx_31_4 hx, fx_5_4 hx, sh_31, sh_32, sh_35, sh_5, pu_rv, pu_as, Value.category, pu_bk, pu_kl, pu_qe0, pu_qe1, e1, d1, e32, e35]
  all_goals try simp [bX5_rankUnder_0, bX5_rankUnder_36, bX5_rankUnder_37, a_ai, a_ald, a_cv, a_gr, a_iadd, a_ifeq, a_ild, a_imul, a_iret, a_push, ag_31 hI, ag_32 hI, ag_35 hI, fx_31_1 hx, fx_31_4 hx, fx_5_4 hx, sh_31, sh_32, sh_35, sh_5, pu_rv, pu_as, Value.category, pu_bk, pu_kl, List.replicate, pu_wi_1, pu_wi_2, nl_add, nl_ladd, nl_aa, nl_mul, nl_rmul, nl_mm, pu_qe0, pu_qe1, e1, d1, e32, e35]
  all_goals try simp (maxSteps := 400000) (disch := omega) [nl_tle, nl_fle, nl_tlt, nl_flt, nl_teq, nl_feq, nl_sub, nl_ss, nl_lt, nl_llt, nl_ltt, nl_le, nl_lle, nl_lee, nl_eq, nl_leq, nl_ee, nl_div, nl_rem, nl_cl, nl_n1, nl_n2, nl_n3, nl_n4, nl_add, nl_ladd, nl_aa, nl_mul, nl_rmul, nl_mm, pu_wi_1, pu_wi_2, bX5_rankUnder_0, bX5_rankUnder_36, bX5_rankUnder_37, a_ai, a_ald, a_cv, a_gr, a_iadd, a_ifeq, a_ild, a_imul, a_iret, a_push, ag_31 hI, ag_32 hI, ag_35 hI, fx_31_1 hx, fx_31_4 hx, fx_5_4 hx, sh_31, sh_32, sh_35, sh_5, pu_rv, pu_as, Value.category, pu_bk, pu_kl, pu_qe0, pu_qe1, e1, d1, e32, e35]
  all_goals try simp [bX5_rankUnder_0, bX5_rankUnder_36, bX5_rankUnder_37, a_ai, a_ald, a_cv, a_gr, a_iadd, a_ifeq, a_ild, a_imul, a_iret, a_push, ag_31 hI, ag_32 hI, ag_35 hI, fx_31_1 hx, fx_31_4 hx, fx_5_4 hx, sh_31, sh_32, sh_35, sh_5, pu_rv, pu_as, Value.category, pu_bk, pu_kl, List.replicate, pu_wi_1, pu_wi_2, nl_add, nl_ladd, nl_aa, nl_mul, nl_rmul, nl_mm, pu_qe0, pu_qe1, e1, d1, e32, e35]
theorem c_sink_l (hw : pu_WF I L) {f1 m d : Nat} {U : Nat → Nat} (hd : d < cD I) (hU : ∀ t, t < m → U t < cD I) (hf : f1 + m < 100) : ∀ (a : Nat) (N : pu_M) (t3 : Option Value), a ≤ m → pu_fx N → (∀ x j, 5 ≤ x → x < 45 → N.1 x j = I x j) → (∀ t, t ≤ m → N.1 54 (f1 + t) = nI (pu_vi U a d t)) → ∃ b N1, b ≤ a ∧ N1.2 = N.2 ∧ (∀ c j, ¬ (c = 54 ∧ f1 ≤ j) → N1.1 c j = N.1 c j) ∧ (∀ t, t ≤ m → N1.1 54 (f1 + t) = nI (pu_vi U b d t)) ∧ (∀ j, b ≤ j → j < a → py_rkU I d < py_rkU I (U j)) ∧ (b = 0 ∨ ¬ py_rkU I d < py_rkU I (U (b - 1))) ∧ pu_r 417 [some (.ref 5), some (.int (nI f1)), some (.int (nI (f1 + a))), t3] [] N = some (none, N1)
  | 0, N, t3, _, hx, hC, h1 => by
    refine ⟨0, N, Nat.le_refl _, rfl, fun _ _ _ => rfl, h1, fun j a b => by omega, Or.inl rfl, ?_⟩
    have hc : nI f1 ≤ nI f1 := nI_le (by omega) (by omega)
    rw [Nat.add_zero]
    rw [qX5_sinkWalked_10]
    simp [bX5_sinkWalked_10, bX5_sinkWalked_98, bX5_sinkWalked_54, bX5_sinkWalked_92, a_ai, a_ald, a_cv, a_gr, a_icle, a_ifle, a_ild, a_inc, a_ist, a_isub, a_push, a_vret, a_wi, fx_45_16 hx, fx_5_6 hx, sh_45, sh_5, sh_54, pu_rv, pu_as, Value.category, pu_bk, pu_kl, List.replicate, pu_wi_1, pu_wi_2, nl_add, nl_ladd, nl_aa, nl_mul, nl_rmul, nl_mm, pu_qe0, pu_qe1, hc]
    all_goals try simp (maxSteps := 400000) (disch := omega) [nl_tle, nl_fle, nl_tlt, nl_flt, nl_teq, nl_feq, nl_sub, nl_ss, nl_lt, nl_llt, nl_ltt, nl_le, nl_lle, nl_lee, nl_eq, nl_leq, nl_ee, nl_div, nl_rem, nl_cl, nl_n1, nl_n2, nl_n3, nl_n4, nl_add, nl_ladd, nl_aa, nl_mul, nl_rmul, nl_mm, pu_wi_1, pu_wi_2, bX5_sinkWalked_10, bX5_sinkWalked_98, bX5_sinkWalked_54, bX5_sinkWalked_92, a_ai, a_ald, a_cv, a_gr, a_icle, a_ifle, a_ild, a_inc, a_ist, a_isub, a_push, a_vret, a_wi, fx_45_16 hx, fx_5_6 hx, sh_45, sh_5, sh_54, pu_rv, pu_as, Value.category, pu_bk, pu_kl, pu_qe0, pu_qe1, hc]
    all_goals try simp [bX5_sinkWalked_10, bX5_sinkWalked_98, bX5_sinkWalked_54, bX5_sinkWalked_92, a_ai, a_ald, a_cv, a_gr, a_icle, a_ifle, a_ild, a_inc, a_ist, a_isub, a_push, a_vret, a_wi, fx_45_16 hx, fx_5_6 hx, sh_45, sh_5, sh_54, pu_rv, pu_as, Value.category, pu_bk, pu_kl, List.replicate, pu_wi_1, pu_wi_2, nl_add, nl_ladd, nl_aa, nl_mul, nl_rmul, nl_mm, pu_qe0, pu_qe1, hc]
    all_goals try simp (maxSteps := 400000) (disch := omega) [nl_tle, nl_fle, nl_tlt, nl_flt, nl_teq, nl_feq, nl_sub, nl_ss, nl_lt, nl_llt, nl_ltt, nl_le, nl_lle, nl_lee, nl_eq, nl_leq, nl_ee, nl_div, nl_rem, nl_cl, nl_n1, nl_n2, nl_n3, nl_n4, nl_add, nl_ladd, nl_aa, nl_mul, nl_rmul, nl_mm, pu_wi_1, pu_wi_2, bX5_sinkWalked_10, bX5_sinkWalked_98, bX5_sinkWalked_54, bX5_sinkWalked_92, a_ai, a_ald, a_cv, a_gr, a_icle, a_ifle, a_ild, a_inc, a_ist, a_isub, a_push, a_vret, a_wi, fx_45_16 hx, fx_5_6 hx, sh_45, sh_5, sh_54, pu_rv, pu_as, Value.category, pu_bk, pu_kl, pu_qe0, pu_qe1, hc]
    all_goals try simp [bX5_sinkWalked_10, bX5_sinkWalked_98, bX5_sinkWalked_54, bX5_sinkWalked_92, a_ai, a_ald, a_cv, a_gr, a_icle, a_ifle, a_ild, a_inc, a_ist, a_isub, a_push, a_vret, a_wi, fx_45_16 hx, fx_5_6 hx, sh_45, sh_5, sh_54, pu_rv, pu_as, Value.category, pu_bk, pu_kl, List.replicate, pu_wi_1, pu_wi_2, nl_add, nl_ladd, nl_aa, nl_mul, nl_rmul, nl_mm, pu_qe0, pu_qe1, hc]
    all_goals try simp (maxSteps := 400000) (disch := omega) [nl_tle, nl_fle, nl_tlt, nl_flt, nl_teq, nl_feq, nl_sub, nl_ss, nl_lt, nl_llt, nl_ltt, nl_le, nl_lle, nl_lee, nl_eq, nl_leq, nl_ee, nl_div, nl_rem, nl_cl, nl_n1, nl_n2, nl_n3, nl_n4, nl_add, nl_ladd, nl_aa, nl_mul, nl_rmul, nl_mm, pu_wi_1, pu_wi_2, bX5_sinkWalked_10, bX5_sinkWalked_98, bX5_sinkWalked_54, bX5_sinkWalked_92, a_ai, a_ald, a_cv, a_gr, a_icle, a_ifle, a_ild, a_inc, a_ist, a_isub, a_push, a_vret, a_wi, fx_45_16 hx, fx_5_6 hx, sh_45, sh_5, sh_54, pu_rv, pu_as, Value.category, pu_bk, pu_kl, pu_qe0, pu_qe1, hc]
    all_goals try simp [bX5_sinkWalked_10, bX5_sinkWalked_98, bX5_sinkWalked_54, bX5_sinkWalked_92, a_ai, a_ald, a_cv, a_gr, a_icle, a_ifle, a_ild, a_inc, a_ist, a_isub, a_push, a_vret, a_wi, fx_45_16 hx, fx_5_6 hx, sh_45, sh_5, sh_54, pu_rv, pu_as, Value.category, pu_bk, pu_kl, List.replicate, pu_wi_1, pu_wi_2, nl_add, nl_ladd, nl_aa, nl_mul, nl_rmul, nl_mm, pu_qe0, pu_qe1, hc]
  | a + 1, N, t3, hle, hx, hC, h1 => by
    have bD := wx_bD hw
    have hI : pu_ag N (pu_dk I N.1) := fun x j q1 q2 => by
      unfold pu_dk
      by_cases z : x < 45
      · rw [if_pos z]; exact hC x j q1 z
      · rw [if_neg z]
    have e : nI (f1 + (a + 1)) - 1 = nI (f1 + a) := nI_pred (f1 + a)
    have e2 : nI (f1 + (a + 1)) + (-1) = nI (f1 + a) := pk_m1 (f1 + a)
    have p0 : ¬ nI (f1 + (a + 1)) ≤ 0 := nI_nle (by omega) (by omega)
    have p1 : ¬ nI (f1 + (a + 1)) ≤ nI f1 := nI_ge (by omega) (by omega)
    have a1 : f1 + a < 100 := by omega
    have a2 : f1 + (a + 1) < 100 := by omega
    have va : N.1 54 (f1 + a) = nI (U a) := by
      rw [h1 a (by omega)]
      unfold pu_vi
      rw [if_pos (by omega)]
    have vd : N.1 54 (f1 + (a + 1)) = nI d := by
      rw [h1 (a + 1) (by omega)]
      unfold pu_vi
      rw [if_neg (by omega), if_pos rfl]
    have ua := hU a (by omega)
    have r1 := c_rankUnder hx hw hI ua
    have r2 := c_rankUnder hx hw hI hd
    have k1 := (py_rkU_b hw ua).1
    have k2 := (py_rkU_b hw hd).1
    have g1 := fx_5_6 hx
    have g2 := fx_45_16 hx
    by_cases c : py_rkU I d < py_rkU I (U a)
    · have c2 : ¬ nI (py_rkU I (U a)) ≤ nI (py_rkU I d) := nI_ge c (by omega)
      obtain ⟨Q, hQ⟩ : ∃ Q, pu_wi (pu_wi N 54 (f1 + (a + 1)) (nI (U a))) 54 (f1 + a) (nI d) = Q := ⟨_, rfl⟩
      have q54 : ∀ j, Q.1 54 j = if j = f1 + a then nI d else if j = f1 + (a + 1) then nI (U a) else N.1 54 j := fun j => by
        rw [← hQ]
        by_cases z : j = f1 + a
        · rw [if_pos z, z]; simp [pu_wi_1]
        · rw [if_neg z, py_wi_o (by omega)]
          by_cases z2 : j = f1 + (a + 1)
          · rw [if_pos z2, z2]; simp [pu_wi_1]
          · rw [if_neg z2, py_wi_o (by omega)]
      have Qo : ∀ c j, c ≠ 54 → Q.1 c j = N.1 c j := fun c j z => by rw [← hQ, py_wi_o (by omega), py_wi_o (by omega)]
      have Q2 : Q.2 = N.2 := by rw [← hQ]; rfl
      obtain ⟨b, N1, b1, b2, b3, b4, b5, b6, b7⟩ := c_sink_l hw hd hU hf a Q (some (.int (nI d))) (by omega) (pz_fx_of hx Q2) (fun x j z1 z2 => by rw [Qo x j (by omega)]; exact hC x j z1 z2) (fun t ht => by
        rw [q54]
        have q := h1 t ht
        unfold pu_vi at q ⊢
        by_cases z : t = a
        · rw [if_pos (by omega), if_neg (by omega), if_pos z]
        · rw [if_neg (by omega)]
          by_cases z2 : t = a + 1
          · rw [if_pos (by omega), if_neg (by omega), if_neg z, z2]
            rfl
          · rw [if_neg (by omega), q]
            by_cases z3 : t < a
            · rw [if_pos (by omega), if_pos z3]
            · rw [if_neg (by omega), if_neg z2, if_neg z3, if_neg z])
      refine ⟨b, N1, by omega, by rw [b2, Q2], fun c j z => ?_, b4, fun j z1 z2 => ?_, b6, ?_⟩
      · rw [b3 c j z]
        by_cases z2 : c = 54
        · rw [z2, q54, if_neg (by omega), if_neg (by omega)]
        · exact Qo c j z2
      · by_cases z : j = a
        · rw [z]; exact c
        · exact b5 j z1 (by omega)
      · rw [← b7]
        have wr : (pu_wi N 54 (f1 + (a + 1)) (nI (U a))).2.2.1 5 6 = some 45 := g1
        have wr2 : (pu_wi N 54 (f1 + (a + 1)) (nI (U a))).2.2.1 45 16 = some 54 := g2
        generalize f1 + (a + 1) = ca1 at *
        generalize f1 + a = ca at *
        generalize nI (py_rkU I (U a)) = ra at *
        generalize nI (py_rkU I d) = rd at *
        generalize nI (U a) = ua' at *
        generalize nI d = dd at *
        generalize hN2 : pu_wi N 54 ca1 ua' = N2 at *
        rw [qX5_sinkWalked_10]
        simp [bX5_sinkWalked_10, bX5_sinkWalked_98, bX5_sinkWalked_54, bX5_sinkWalked_92, a_ai, a_ald, a_cv, a_gr, a_icle, a_ifle, a_ild, a_inc, a_ist, a_isub, a_push, a_vret, a_wi, sh_45, sh_5, sh_54, pu_rv, pu_as, Value.category, pu_bk, pu_kl, List.replicate, pu_wi_1, pu_wi_2, nl_add, nl_ladd, nl_aa, nl_mul, nl_rmul, nl_mm, pu_qe0, pu_qe1, p0, p1, e, e2, a1, a2, va, vd, r1, r2, c2, g1, g2, wr, wr2, hN2, hQ, sh_45, sh_54]
        all_goals try simp (maxSteps := 400000) (disch := omega) [nl_tle, nl_fle, nl_tlt, nl_flt, nl_teq, nl_feq, nl_sub, nl_ss, nl_lt, nl_llt, nl_ltt, nl_le, nl_lle, nl_lee, nl_eq, nl_leq, nl_ee, nl_div, nl_rem, nl_cl, nl_n1, nl_n2, nl_n3, nl_n4, nl_add, nl_ladd, nl_aa, nl_mul, nl_rmul, nl_mm, pu_wi_1, pu_wi_2, bX5_sinkWalked_10, bX5_sinkWalked_98, bX5_sinkWalked_54, bX5_sinkWalked_92, a_ai, a_ald, a_cv, a_gr, a_icle, a_ifle, a_ild, a_inc, a_ist, a_isub, a_push, a_vret, a_wi, sh_45, sh_5, sh_54, pu_rv, pu_as, Value.category, pu_bk, pu_kl, pu_qe0, pu_qe1, p0, p1, e, e2, a1, a2, va, vd, r1, r2, c2, g1, g2, wr, wr2, hN2, hQ, sh_45, sh_54]
        all_goals try simp [bX5_sinkWalked_10, bX5_sinkWalked_98, bX5_sinkWalked_54, bX5_sinkWalked_92, a_ai, a_ald, a_cv, a_gr, a_icle, a_ifle, a_ild, a_inc, a_ist, a_isub, a_push, a_vret, a_wi, sh_45, sh_5, sh_54, pu_rv, pu_as, Value.category, pu_bk, pu_kl, List.replicate, pu_wi_1, pu_wi_2, nl_add, nl_ladd, nl_aa, nl_mul, nl_rmul, nl_mm, pu_qe0, pu_qe1, p0, p1, e, e2, a1, a2, va, vd, r1, r2, c2, g1, g2, wr, wr2, hN2, hQ, sh_45, sh_54]
        all_goals try simp (maxSteps := 400000) (disch := omega) [nl_tle, nl_fle, nl_tlt, nl_flt, nl_teq, nl_feq, nl_sub, nl_ss, nl_lt, nl_llt, nl_ltt, nl_le, nl_lle, nl_lee, nl_eq, nl_leq, nl_ee, nl_div, nl_rem, nl_cl, nl_n1, nl_n2, nl_n3, nl_n4, nl_add, nl_ladd, nl_aa, nl_mul, nl_rmul, nl_mm, pu_wi_1, pu_wi_2, bX5_sinkWalked_10, bX5_sinkWalked_98, bX5_sinkWalked_54, bX5_sinkWalked_92, a_ai, a_ald, a_cv, a_gr, a_icle, a_ifle, a_ild, a_inc, a_ist, a_isub, a_push, a_vret, a_wi, sh_45, sh_5, sh_54, pu_rv, pu_as, Value.category, pu_bk, pu_kl, pu_qe0, pu_qe1, p0, p1, e, e2, a1, a2, va, vd, r1, r2, c2, g1, g2, wr, wr2, hN2, hQ, sh_45, sh_54]
        all_goals try simp [bX5_sinkWalked_10, bX5_sinkWalked_98, bX5_sinkWalked_54, bX5_sinkWalked_92, a_ai, a_ald, a_cv, a_gr, a_icle, a_ifle, a_ild, a_inc, a_ist, a_isub, a_push, a_vret, a_wi, sh_45, sh_5, sh_54, pu_rv, pu_as, Value.category, pu_bk, pu_kl, List.replicate, pu_wi_1, pu_wi_2, nl_add, nl_ladd, nl_aa, nl_mul, nl_rmul, nl_mm, pu_qe0, pu_qe1, p0, p1, e, e2, a1, a2, va, vd, r1, r2, c2, g1, g2, wr, wr2, hN2, hQ, sh_45, sh_54]
        all_goals try simp (maxSteps := 400000) (disch := omega) [nl_tle, nl_fle, nl_tlt, nl_flt, nl_teq, nl_feq, nl_sub, nl_ss, nl_lt, nl_llt, nl_ltt, nl_le, nl_lle, nl_lee, nl_eq, nl_leq, nl_ee, nl_div, nl_rem, nl_cl, nl_n1, nl_n2, nl_n3, nl_n4, nl_add, nl_ladd, nl_aa, nl_mul, nl_rmul, nl_mm, pu_wi_1, pu_wi_2, bX5_sinkWalked_10, bX5_sinkWalked_98, bX5_sinkWalked_54, bX5_sinkWalked_92, a_ai, a_ald, a_cv, a_gr, a_icle, a_ifle, a_ild, a_inc, a_ist, a_isub, a_push, a_vret, a_wi, sh_45, sh_5, sh_54, pu_rv, pu_as, Value.category, pu_bk, pu_kl, pu_qe0, pu_qe1, p0, p1, e, e2, a1, a2, va, vd, r1, r2, c2, g1, g2, wr, wr2, hN2, hQ, sh_45, sh_54]
        all_goals try simp [bX5_sinkWalked_10, bX5_sinkWalked_98, bX5_sinkWalked_54, bX5_sinkWalked_92, a_ai, a_ald, a_cv, a_gr, a_icle, a_ifle, a_ild, a_inc, a_ist, a_isub, a_push, a_vret, a_wi, sh_45, sh_5, sh_54, pu_rv, pu_as, Value.category, pu_bk, pu_kl, List.replicate, pu_wi_1, pu_wi_2, nl_add, nl_ladd, nl_aa, nl_mul, nl_rmul, nl_mm, pu_qe0, pu_qe1, p0, p1, e, e2, a1, a2, va, vd, r1, r2, c2, g1, g2, wr, wr2, hN2, hQ, sh_45, sh_54]
    · have c2 : nI (py_rkU I (U a)) ≤ nI (py_rkU I d) := nI_le (by omega) (by omega)
      refine ⟨a + 1, N, Nat.le_refl _, rfl, fun _ _ _ => rfl, h1, fun j z1 z2 => by omega, Or.inr c, ?_⟩
      generalize f1 + (a + 1) = ca1 at *
      generalize f1 + a = ca at *
      generalize nI (py_rkU I (U a)) = ra at *
      generalize nI (py_rkU I d) = rd at *
      generalize nI (U a) = ua' at *
      generalize nI d = dd at *
      rw [qX5_sinkWalked_10]
      simp [bX5_sinkWalked_10, bX5_sinkWalked_98, bX5_sinkWalked_54, bX5_sinkWalked_92, a_ai, a_ald, a_cv, a_gr, a_icle, a_ifle, a_ild, a_inc, a_ist, a_isub, a_push, a_vret, a_wi, sh_45, sh_5, sh_54, pu_rv, pu_as, Value.category, pu_bk, pu_kl, List.replicate, pu_wi_1, pu_wi_2, nl_add, nl_ladd, nl_aa, nl_mul, nl_rmul, nl_mm, pu_qe0, pu_qe1, p0, p1, e, a1, a2, va, vd, r1, r2, c2, g1, g2, sh_45, sh_54]
      all_goals try simp (maxSteps := 400000) (disch := omega) [nl_tle, nl_fle, nl_tlt, nl_flt, nl_teq, nl_feq, nl_sub, nl_ss, nl_lt, nl_llt, nl_ltt, nl_le, nl_lle, nl_lee, nl_eq, nl_leq, nl_ee, nl_div, nl_rem, nl_cl, nl_n1, nl_n2, nl_n3, nl_n4, nl_add, nl_ladd, nl_aa, nl_mul, nl_rmul, nl_mm, pu_wi_1, pu_wi_2, bX5_sinkWalked_10, bX5_sinkWalked_98, bX5_sinkWalked_54, bX5_sinkWalked_92, a_ai, a_ald, a_cv, a_gr, a_icle, a_ifle, a_ild, a_inc, a_ist, a_isub, a_push, a_vret, a_wi, sh_45, sh_5, sh_54, pu_rv, pu_as, Value.category, pu_bk, pu_kl, pu_qe0, pu_qe1, p0, p1, e, a1, a2, va, vd, r1, r2, c2, g1, g2, sh_45, sh_54]
      all_goals try simp [bX5_sinkWalked_10, bX5_sinkWalked_98, bX5_sinkWalked_54, bX5_sinkWalked_92, a_ai, a_ald, a_cv, a_gr, a_icle, a_ifle, a_ild, a_inc, a_ist, a_isub, a_push, a_vret, a_wi, sh_45, sh_5, sh_54, pu_rv, pu_as, Value.category, pu_bk, pu_kl, List.replicate, pu_wi_1, pu_wi_2, nl_add, nl_ladd, nl_aa, nl_mul, nl_rmul, nl_mm, pu_qe0, pu_qe1, p0, p1, e, a1, a2, va, vd, r1, r2, c2, g1, g2, sh_45, sh_54]
      all_goals try simp (maxSteps := 400000) (disch := omega) [nl_tle, nl_fle, nl_tlt, nl_flt, nl_teq, nl_feq, nl_sub, nl_ss, nl_lt, nl_llt, nl_ltt, nl_le, nl_lle, nl_lee, nl_eq, nl_leq, nl_ee, nl_div, nl_rem, nl_cl, nl_n1, nl_n2, nl_n3, nl_n4, nl_add, nl_ladd, nl_aa, nl_mul, nl_rmul, nl_mm, pu_wi_1, pu_wi_2, bX5_sinkWalked_10, bX5_sinkWalked_98, bX5_sinkWalked_54, bX5_sinkWalked_92, a_ai, a_ald, a_cv, a_gr, a_icle, a_ifle, a_ild, a_inc, a_ist, a_isub, a_push, a_vret, a_wi, sh_45, sh_5, sh_54, pu_rv, pu_as, Value.category, pu_bk, pu_kl, pu_qe0, pu_qe1, p0, p1, e, a1, a2, va, vd, r1, r2, c2, g1, g2, sh_45, sh_54]
      all_goals try simp [bX5_sinkWalked_10, bX5_sinkWalked_98, bX5_sinkWalked_54, bX5_sinkWalked_92, a_ai, a_ald, a_cv, a_gr, a_icle, a_ifle, a_ild, a_inc, a_ist, a_isub, a_push, a_vret, a_wi, sh_45, sh_5, sh_54, pu_rv, pu_as, Value.category, pu_bk, pu_kl, List.replicate, pu_wi_1, pu_wi_2, nl_add, nl_ladd, nl_aa, nl_mul, nl_rmul, nl_mm, pu_qe0, pu_qe1, p0, p1, e, a1, a2, va, vd, r1, r2, c2, g1, g2, sh_45, sh_54]
      all_goals try simp (maxSteps := 400000) (disch := omega) [nl_tle, nl_fle, nl_tlt, nl_flt, nl_teq, nl_feq, nl_sub, nl_ss, nl_lt, nl_llt, nl_ltt, nl_le, nl_lle, nl_lee, nl_eq, nl_leq, nl_ee, nl_div, nl_rem, nl_cl, nl_n1, nl_n2, nl_n3, nl_n4, nl_add, nl_ladd, nl_aa, nl_mul, nl_rmul, nl_mm, pu_wi_1, pu_wi_2, bX5_sinkWalked_10, bX5_sinkWalked_98, bX5_sinkWalked_54, bX5_sinkWalked_92, a_ai, a_ald, a_cv, a_gr, a_icle, a_ifle, a_ild, a_inc, a_ist, a_isub, a_push, a_vret, a_wi, sh_45, sh_5, sh_54, pu_rv, pu_as, Value.category, pu_bk, pu_kl, pu_qe0, pu_qe1, p0, p1, e, a1, a2, va, vd, r1, r2, c2, g1, g2, sh_45, sh_54]
      all_goals try simp [bX5_sinkWalked_10, bX5_sinkWalked_98, bX5_sinkWalked_54, bX5_sinkWalked_92, a_ai, a_ald, a_cv, a_gr, a_icle, a_ifle, a_ild, a_inc, a_ist, a_isub, a_push, a_vret, a_wi, sh_45, sh_5, sh_54, pu_rv, pu_as, Value.category, pu_bk, pu_kl, List.replicate, pu_wi_1, pu_wi_2, nl_add, nl_ladd, nl_aa, nl_mul, nl_rmul, nl_mm, pu_qe0, pu_qe1, p0, p1, e, a1, a2, va, vd, r1, r2, c2, g1, g2, sh_45, sh_54]
theorem py_uk_ru (hw : pu_WF I L) {d e : Nat} (hd : d < cD I) (he : e < cD I) : (py_rkU I d < py_rkU I e → py_uk I d < py_uk I e) ∧ (¬ py_rkU I d < py_rkU I e → e < d → py_uk I e < py_uk I d) := by
  have bD := wx_bD hw
  have e1 : py_uk I d = py_rkU I d * 128 + d := rfl
  have e2 : py_uk I e = py_rkU I e * 128 + e := rfl
  rw [e1, e2]
  exact ⟨fun h => by omega, fun h1 h2 => by omega⟩
theorem c_wu_i {N N1 N2 : pu_M} (hx : pu_fx N) (hI : pu_ag N (pu_dk I N.1)) (hw : pu_WF I L) {f f1 d : Nat} (hd : d < cD I) (A B : Prop) (hA : A = (d ≠ f ∧ I 34 d = nI f)) (hf : f < 100) (e1 : pu_r 145 [some (.ref 31), some (.int (nI d)), some (.int y), some (.ref 6)] [] N = some (some (.int (pu_q B)), N)) (e0 : ¬ (A ∧ B) → N2 = N) (e2 : A ∧ B → pu_r 204 [some (.ref 45), some (.int (nI d))] [] N = some (none, N1) ∧ N1.2 = N.2 ∧ pu_r 206 [some (.ref 5), some (.int (nI f1))] [] N1 = some (none, N2)) (t5 : Option Value) : ∃ u5, pu_r 418 [some (.ref 0), some (.int (nI f)), some (.int y), some (.int (nI f1)), some (.int (nI d)), t5] [] N = pu_r 418 [some (.ref 0), some (.int (nI f)), some (.int y), some (.int (nI f1)), some (.int (nI (d + 1))), u5] [] N2 := by
  have bD := wx_bD hw
  have hn : pu_dk I N.1 31 0 = nI (cD I) := (wx_cD hw :)
  have hc : ¬ nI (cD I) ≤ nI d := nI_ge (by omega) (by omega)
  have d1 : d < 100 := by omega
  by_cases c1 : d = f
  · have nA : ¬ (A ∧ B) := fun z => by rw [hA] at z; exact z.1.1 c1
    refine ⟨some (.int 0), ?_⟩
    rw [e0 nA]
    generalize hR : pu_r 418 [some (.ref 0), some (.int (nI f)), some (.int y), some (.int (nI f1)), some (.int (nI (d + 1))), some (.int 0)] [] N = R
    rw [c1] at hc ⊢
    rw [c1] at hR
    generalize nI (cD I) = cd at *
    rw [qX11_walkUnder_14]
    simp [bX11_walkUnder_14, bX11_walkUnder_113, bX11_walkUnder_56, bX11_walkUnder_57, bX11_walkUnder_107, a_ai, a_ald, a_cv, a_gi, a_gr, a_iceq, a_icge, a_icne, a_ifeq, a_ild, a_inc, a_ist, a_push, a_vret, ag_31 hI, ag_34 hI, ag_45 hI, ag_6 hI, fx_0_2 hx, fx_31_3 hx, fx_5_0 hx, fx_5_4 hx, fx_5_6 hx, sh_0, sh_31, sh_34, sh_45, sh_5, sh_6, pu_rv, pu_as, Value.category, pu_bk, pu_kl, List.replicate, pu_wi_1, pu_wi_2, nl_add, nl_ladd, nl_aa, nl_mul, nl_rmul, nl_mm, pu_qe0, pu_qe1, hn, hc, hR]
    all_goals try simp (maxSteps := 400000) (disch := omega) [nl_tle, nl_fle, nl_tlt, nl_flt, nl_teq, nl_feq, nl_sub, nl_ss, nl_lt, nl_llt, nl_ltt, nl_le, nl_lle, nl_lee, nl_eq, nl_leq, nl_ee, nl_div, nl_rem, nl_cl, nl_n1, nl_n2, nl_n3, nl_n4, nl_add, nl_ladd, nl_aa, nl_mul, nl_rmul, nl_mm, pu_wi_1, pu_wi_2, bX11_walkUnder_14, bX11_walkUnder_113, bX11_walkUnder_56, bX11_walkUnder_57, bX11_walkUnder_107, a_ai, a_ald, a_cv, a_gi, a_gr, a_iceq, a_icge, a_icne, a_ifeq, a_ild, a_inc, a_ist, a_push, a_vret, ag_31 hI, ag_34 hI, ag_45 hI, ag_6 hI, fx_0_2 hx, fx_31_3 hx, fx_5_0 hx, fx_5_4 hx, fx_5_6 hx, sh_0, sh_31, sh_34, sh_45, sh_5, sh_6, pu_rv, pu_as, Value.category, pu_bk, pu_kl, pu_qe0, pu_qe1, hn, hc, hR]
    all_goals try simp [bX11_walkUnder_14, bX11_walkUnder_113, bX11_walkUnder_56, bX11_walkUnder_57, bX11_walkUnder_107, a_ai, a_ald, a_cv, a_gi, a_gr, a_iceq, a_icge, a_icne, a_ifeq, a_ild, a_inc, a_ist, a_push, a_vret, ag_31 hI, ag_34 hI, ag_45 hI, ag_6 hI, fx_0_2 hx, fx_31_3 hx, fx_5_0 hx, fx_5_4 hx, fx_5_6 hx, sh_0, sh_31, sh_34, sh_45, sh_5, sh_6, pu_rv, pu_as, Value.category, pu_bk, pu_kl, List.replicate, pu_wi_1, pu_wi_2, nl_add, nl_ladd, nl_aa, nl_mul, nl_rmul, nl_mm, pu_qe0, pu_qe1, hn, hc, hR]
    all_goals try simp (maxSteps := 400000) (disch := omega) [nl_tle, nl_fle, nl_tlt, nl_flt, nl_teq, nl_feq, nl_sub, nl_ss, nl_lt, nl_llt, nl_ltt, nl_le, nl_lle, nl_lee, nl_eq, nl_leq, nl_ee, nl_div, nl_rem, nl_cl, nl_n1, nl_n2, nl_n3, nl_n4, nl_add, nl_ladd, nl_aa, nl_mul, nl_rmul, nl_mm, pu_wi_1, pu_wi_2, bX11_walkUnder_14, bX11_walkUnder_113, bX11_walkUnder_56, bX11_walkUnder_57, bX11_walkUnder_107, a_ai, a_ald, a_cv, a_gi, a_gr, a_iceq, a_icge, a_icne, a_ifeq, a_ild, a_inc, a_ist, a_push, a_vret, ag_31 hI, ag_34 hI, ag_45 hI, ag_6 hI, fx_0_2 hx, fx_31_3 hx, fx_5_0 hx, fx_5_4 hx, fx_5_6 hx, sh_0, sh_31, sh_34, sh_45, sh_5, sh_6, pu_rv, pu_as, Value.category, pu_bk, pu_kl, pu_qe0, pu_qe1, hn, hc, hR]
    all_goals try simp [bX11_walkUnder_14, bX11_walkUnder_113, bX11_walkUnder_56, bX11_walkUnder_57, bX11_walkUnder_107, a_ai, a_ald, a_cv, a_gi, a_gr, a_iceq, a_icge, a_icne, a_ifeq, a_ild, a_inc, a_ist, a_push, a_vret, ag_31 hI, ag_34 hI, ag_45 hI, ag_6 hI, fx_0_2 hx, fx_31_3 hx, fx_5_0 hx, fx_5_4 hx, fx_5_6 hx, sh_0, sh_31, sh_34, sh_45, sh_5, sh_6, pu_rv, pu_as, Value.category, pu_bk, pu_kl, List.replicate, pu_wi_1, pu_wi_2, nl_add, nl_ladd, nl_aa, nl_mul, nl_rmul, nl_mm, pu_qe0, pu_qe1, hn, hc, hR]
    all_goals try simp (maxSteps := 400000) (disch := omega) [nl_tle, nl_fle, nl_tlt, nl_flt, nl_teq, nl_feq, nl_sub, nl_ss, nl_lt, nl_llt, nl_ltt, nl_le, nl_lle, nl_lee, nl_eq, nl_leq, nl_ee, nl_div, nl_rem, nl_cl, nl_n1, nl_n2, nl_n3, nl_n4, nl_add, nl_ladd, nl_aa, nl_mul, nl_rmul, nl_mm, pu_wi_1, pu_wi_2, bX11_walkUnder_14, bX11_walkUnder_113, bX11_walkUnder_56, bX11_walkUnder_57, bX11_walkUnder_107, a_ai, a_ald, a_cv, a_gi, a_gr, a_iceq, a_icge, a_icne, a_ifeq, a_ild, a_inc, a_ist, a_push, a_vret, ag_31 hI, ag_34 hI, ag_45 hI, ag_6 hI, fx_0_2 hx, fx_31_3 hx, fx_5_0 hx, fx_5_4 hx, fx_5_6 hx, sh_0, sh_31, sh_34, sh_45, sh_5, sh_6, pu_rv, pu_as, Value.category, pu_bk, pu_kl, pu_qe0, pu_qe1, hn, hc, hR]
    all_goals try simp [bX11_walkUnder_14, bX11_walkUnder_113, bX11_walkUnder_56, bX11_walkUnder_57, bX11_walkUnder_107, a_ai, a_ald, a_cv, a_gi, a_gr, a_iceq, a_icge, a_icne, a_ifeq, a_ild, a_inc, a_ist, a_push, a_vret, ag_31 hI, ag_34 hI, ag_45 hI, ag_6 hI, fx_0_2 hx, fx_31_3 hx, fx_5_0 hx, fx_5_4 hx, fx_5_6 hx, sh_0, sh_31, sh_34, sh_45, sh_5, sh_6, pu_rv, pu_as, Value.category, pu_bk, pu_kl, List.replicate, pu_wi_1, pu_wi_2, nl_add, nl_ladd, nl_aa, nl_mul, nl_rmul, nl_mm, pu_qe0, pu_qe1, hn, hc, hR]
  have c1' : ¬ nI d = nI f := fun z => by rw [nI_eq (by omega) (by omega)] at z; exact c1 z
  by_cases c2 : I 34 d = nI f
  rotate_left
  · have nA : ¬ (A ∧ B) := fun z => by rw [hA] at z; exact c2 z.1.2
    refine ⟨some (.int 0), ?_⟩
    rw [e0 nA]
    generalize hR : pu_r 418 [some (.ref 0), some (.int (nI f)), some (.int y), some (.int (nI f1)), some (.int (nI (d + 1))), some (.int 0)] [] N = R
    have c2' : ¬ pu_dk I N.1 34 d = nI f := (c2 :)
    generalize nI (cD I) = cd at *
    rw [qX11_walkUnder_14]
    simp [bX11_walkUnder_14, bX11_walkUnder_113, bX11_walkUnder_56, bX11_walkUnder_57, bX11_walkUnder_107, a_ai, a_ald, a_cv, a_gi, a_gr, a_iceq, a_icge, a_icne, a_ifeq, a_ild, a_inc, a_ist, a_push, a_vret, ag_31 hI, ag_34 hI, ag_45 hI, ag_6 hI, fx_0_2 hx, fx_31_3 hx, fx_5_0 hx, fx_5_4 hx, fx_5_6 hx, sh_0, sh_31, sh_34, sh_45, sh_5, sh_6, pu_rv, pu_as, Value.category, pu_bk, pu_kl, List.replicate, pu_wi_1, pu_wi_2, nl_add, nl_ladd, nl_aa, nl_mul, nl_rmul, nl_mm, pu_qe0, pu_qe1, hn, hc, c1', c1, d1, c2', hR]
    all_goals try simp (maxSteps := 400000) (disch := omega) [nl_tle, nl_fle, nl_tlt, nl_flt, nl_teq, nl_feq, nl_sub, nl_ss, nl_lt, nl_llt, nl_ltt, nl_le, nl_lle, nl_lee, nl_eq, nl_leq, nl_ee, nl_div, nl_rem, nl_cl, nl_n1, nl_n2, nl_n3, nl_n4, nl_add, nl_ladd, nl_aa, nl_mul, nl_rmul, nl_mm, pu_wi_1, pu_wi_2, bX11_walkUnder_14, bX11_walkUnder_113, bX11_walkUnder_56, bX11_walkUnder_57, bX11_walkUnder_107, a_ai, a_ald, a_cv, a_gi, a_gr, a_iceq, a_icge, a_icne, a_ifeq, a_ild, a_inc, a_ist, a_push, a_vret, ag_31 hI, ag_34 hI, ag_45 hI, ag_6 hI, fx_0_2 hx, fx_31_3 hx, fx_5_0 hx, fx_5_4 hx, fx_5_6 hx, sh_0, sh_31, sh_34, sh_45, sh_5, sh_6, pu_rv, pu_as, Value.category, pu_bk, pu_kl, pu_qe0, pu_qe1, hn, hc, c1', c1, d1, c2', hR]
    all_goals try simp [bX11_walkUnder_14, bX11_walkUnder_113, bX11_walkUnder_56, bX11_walkUnder_57, bX11_walkUnder_107, a_ai, a_ald, a_cv, a_gi, a_gr, a_iceq, a_icge, a_icne, a_ifeq, a_ild, a_inc, a_ist, a_push, a_vret, ag_31 hI, ag_34 hI, ag_45 hI, ag_6 hI, fx_0_2 hx, fx_31_3 hx, fx_5_0 hx, fx_5_4 hx, fx_5_6 hx, sh_0, sh_31, sh_34, sh_45, sh_5, sh_6, pu_rv, pu_as, Value.category, pu_bk, pu_kl, List.replicate, pu_wi_1, pu_wi_2, nl_add, nl_ladd, nl_aa, nl_mul, nl_rmul, nl_mm, pu_qe0, pu_qe1, hn, hc, c1', c1, d1, c2', hR]
    all_goals try simp (maxSteps := 400000) (disch := omega) [nl_tle, nl_fle, nl_tlt, nl_flt, nl_teq, nl_feq, nl_sub, nl_ss, nl_lt, nl_llt, nl_ltt, nl_le, nl_lle, nl_lee, nl_eq, nl_leq, nl_ee, nl_div, nl_rem, nl_cl, nl_n1, nl_n2, nl_n3, nl_n4, nl_add, nl_ladd, nl_aa, nl_mul, nl_rmul, nl_mm, pu_wi_1, pu_wi_2, bX11_walkUnder_14, bX11_walkUnder_113, bX11_walkUnder_56, bX11_walkUnder_57, bX11_walkUnder_107, a_ai, a_ald, a_cv, a_gi, a_gr, a_iceq, a_icge, a_icne, a_ifeq, a_ild, a_inc, a_ist, a_push, a_vret, ag_31 hI, ag_34 hI, ag_45 hI, ag_6 hI, fx_0_2 hx, fx_31_3 hx, fx_5_0 hx, fx_5_4 hx, fx_5_6 hx, sh_0, sh_31, sh_34, sh_45, sh_5, sh_6, pu_rv, pu_as, Value.category, pu_bk, pu_kl, pu_qe0, pu_qe1, hn, hc, c1', c1, d1, c2', hR]
    all_goals try simp [bX11_walkUnder_14, bX11_walkUnder_113, bX11_walkUnder_56, bX11_walkUnder_57, bX11_walkUnder_107, a_ai, a_ald, a_cv, a_gi, a_gr, a_iceq, a_icge, a_icne, a_ifeq, a_ild, a_inc, a_ist, a_push, a_vret, ag_31 hI, ag_34 hI, ag_45 hI, ag_6 hI, fx_0_2 hx, fx_31_3 hx, fx_5_0 hx, fx_5_4 hx, fx_5_6 hx, sh_0, sh_31, sh_34, sh_45, sh_5, sh_6, pu_rv, pu_as, Value.category, pu_bk, pu_kl, List.replicate, pu_wi_1, pu_wi_2, nl_add, nl_ladd, nl_aa, nl_mul, nl_rmul, nl_mm, pu_qe0, pu_qe1, hn, hc, c1', c1, d1, c2', hR]
    all_goals try simp (maxSteps := 400000) (disch := omega) [nl_tle, nl_fle, nl_tlt, nl_flt, nl_teq, nl_feq, nl_sub, nl_ss, nl_lt, nl_llt, nl_ltt, nl_le, nl_lle, nl_lee, nl_eq, nl_leq, nl_ee, nl_div, nl_rem, nl_cl, nl_n1, nl_n2, nl_n3, nl_n4, nl_add, nl_ladd, nl_aa, nl_mul, nl_rmul, nl_mm, pu_wi_1, pu_wi_2, bX11_walkUnder_14, bX11_walkUnder_113, bX11_walkUnder_56, bX11_walkUnder_57, bX11_walkUnder_107, a_ai, a_ald, a_cv, a_gi, a_gr, a_iceq, a_icge, a_icne, a_ifeq, a_ild, a_inc, a_ist, a_push, a_vret, ag_31 hI, ag_34 hI, ag_45 hI, ag_6 hI, fx_0_2 hx, fx_31_3 hx, fx_5_0 hx, fx_5_4 hx, fx_5_6 hx, sh_0, sh_31, sh_34, sh_45, sh_5, sh_6, pu_rv, pu_as, Value.category, pu_bk, pu_kl, pu_qe0, pu_qe1, hn, hc, c1', c1, d1, c2', hR]
    all_goals try simp [bX11_walkUnder_14, bX11_walkUnder_113, bX11_walkUnder_56, bX11_walkUnder_57, bX11_walkUnder_107, a_ai, a_ald, a_cv, a_gi, a_gr, a_iceq, a_icge, a_icne, a_ifeq, a_ild, a_inc, a_ist, a_push, a_vret, ag_31 hI, ag_34 hI, ag_45 hI, ag_6 hI, fx_0_2 hx, fx_31_3 hx, fx_5_0 hx, fx_5_4 hx, fx_5_6 hx, sh_0, sh_31, sh_34, sh_45, sh_5, sh_6, pu_rv, pu_as, Value.category, pu_bk, pu_kl, List.replicate, pu_wi_1, pu_wi_2, nl_add, nl_ladd, nl_aa, nl_mul, nl_rmul, nl_mm, pu_qe0, pu_qe1, hn, hc, c1', c1, d1, c2', hR]
  have c2' : pu_dk I N.1 34 d = nI f := (c2 :)
  have cA : A := by rw [hA]; exact ⟨c1, c2⟩
  refine ⟨some (.int 1), ?_⟩
  generalize hR : pu_r 418 [some (.ref 0), some (.int (nI f)), some (.int y), some (.int (nI f1)), some (.int (nI (d + 1))), some (.int 1)] [] N2 = R
  by_cases cB : B
  · obtain ⟨a1, a2, a3⟩ := e2 ⟨cA, cB⟩
    rw [pu_q1 cB] at e1
    have h1 := fx_0_2 (pz_fx_of hx a2)
    generalize nI (cD I) = cd at *
    rw [qX11_walkUnder_14]
    simp [bX11_walkUnder_14, bX11_walkUnder_113, bX11_walkUnder_56, bX11_walkUnder_57, bX11_walkUnder_107, a_ai, a_ald, a_cv, a_gi, a_gr, a_iceq, a_icge, a_icne, a_ifeq, a_ild, a_inc, a_ist, a_push, a_vret, ag_31 hI, ag_34 hI, ag_45 hI, ag_6 hI, fx_0_2 hx, fx_31_3 hx, fx_5_0 hx, fx_5_4 hx, fx_5_6 hx, sh_0, sh_31, sh_34, sh_45, sh_5, sh_6, pu_rv, pu_as, Value.category, pu_bk, pu_kl, List.replicate, pu_wi_1, pu_wi_2, nl_add, nl_ladd, nl_aa, nl_mul, nl_rmul, nl_mm, pu_qe0, pu_qe1, hn, hc, c1', c1, d1, c2', e1, a1, h1, a3, sh_5, sh_45, sh_6, hR]
    all_goals try simp (maxSteps := 400000) (disch := omega) [nl_tle, nl_fle, nl_tlt, nl_flt, nl_teq, nl_feq, nl_sub, nl_ss, nl_lt, nl_llt, nl_ltt, nl_le, nl_lle, nl_lee, nl_eq, nl_leq, nl_ee, nl_div, nl_rem, nl_cl, nl_n1, nl_n2, nl_n3, nl_n4, nl_add, nl_ladd, nl_aa, nl_mul, nl_rmul, nl_mm, pu_wi_1, pu_wi_2, bX11_walkUnder_14, bX11_walkUnder_113, bX11_walkUnder_56, bX11_walkUnder_57, bX11_walkUnder_107, a_ai, a_ald, a_cv, a_gi, a_gr, a_iceq, a_icge, a_icne, a_ifeq, a_ild, a_inc, a_ist, a_push, a_vret, ag_31 hI, ag_34 hI, ag_45 hI, ag_6 hI, fx_0_2 hx, fx_31_3 hx, fx_5_0 hx, fx_5_4 hx, fx_5_6 hx, sh_0, sh_31, sh_34, sh_45, sh_5, sh_6, pu_rv, pu_as, Value.category, pu_bk, pu_kl, pu_qe0, pu_qe1, hn, hc, c1', c1, d1, c2', e1, a1, h1, a3, sh_5, sh_45, sh_6, hR]
    all_goals try simp [bX11_walkUnder_14, bX11_walkUnder_113, bX11_walkUnder_56, bX11_walkUnder_57, bX11_walkUnder_107, a_ai, a_ald, a_cv, a_gi, a_gr, a_iceq, a_icge, a_icne, a_ifeq, a_ild, a_inc, a_ist, a_push, a_vret, ag_31 hI, ag_34 hI, ag_45 hI, ag_6 hI, fx_0_2 hx, fx_31_3 hx, fx_5_0 hx, fx_5_4 hx, fx_5_6 hx, sh_0, sh_31, sh_34, sh_45, sh_5, sh_6, pu_rv, pu_as, Value.category, pu_bk, pu_kl, List.replicate, pu_wi_1, pu_wi_2, nl_add, nl_ladd, nl_aa, nl_mul, nl_rmul, nl_mm, pu_qe0, pu_qe1, hn, hc, c1', c1, d1, c2', e1, a1, h1, a3, sh_5, sh_45, sh_6, hR]
    all_goals try simp (maxSteps := 400000) (disch := omega) [nl_tle, nl_fle, nl_tlt, nl_flt, nl_teq, nl_feq, nl_sub, nl_ss, nl_lt, nl_llt, nl_ltt, nl_le, nl_lle, nl_lee, nl_eq, nl_leq, nl_ee, nl_div, nl_rem, nl_cl, nl_n1, nl_n2, nl_n3, nl_n4, nl_add, nl_ladd, nl_aa, nl_mul, nl_rmul, nl_mm, pu_wi_1, pu_wi_2, bX11_walkUnder_14, bX11_walkUnder_113, bX11_walkUnder_56, bX11_walkUnder_57, bX11_walkUnder_107, a_ai, a_ald, a_cv, a_gi, a_gr, a_iceq, a_icge, a_icne, a_ifeq, a_ild, a_inc, a_ist, a_push, a_vret, ag_31 hI, ag_34 hI, ag_45 hI, ag_6 hI, fx_0_2 hx, fx_31_3 hx, fx_5_0 hx, fx_5_4 hx, fx_5_6 hx, sh_0, sh_31, sh_34, sh_45, sh_5, sh_6, pu_rv, pu_as, Value.category, pu_bk, pu_kl, pu_qe0, pu_qe1, hn, hc, c1', c1, d1, c2', e1, a1, h1, a3, sh_5, sh_45, sh_6, hR]
    all_goals try simp [bX11_walkUnder_14, bX11_walkUnder_113, bX11_walkUnder_56, bX11_walkUnder_57, bX11_walkUnder_107, a_ai, a_ald, a_cv, a_gi, a_gr, a_iceq, a_icge, a_icne, a_ifeq, a_ild, a_inc, a_ist, a_push, a_vret, ag_31 hI, ag_34 hI, ag_45 hI, ag_6 hI, fx_0_2 hx, fx_31_3 hx, fx_5_0 hx, fx_5_4 hx, fx_5_6 hx, sh_0, sh_31, sh_34, sh_45, sh_5, sh_6, pu_rv, pu_as, Value.category, pu_bk, pu_kl, List.replicate, pu_wi_1, pu_wi_2, nl_add, nl_ladd, nl_aa, nl_mul, nl_rmul, nl_mm, pu_qe0, pu_qe1, hn, hc, c1', c1, d1, c2', e1, a1, h1, a3, sh_5, sh_45, sh_6, hR]
    all_goals try simp (maxSteps := 400000) (disch := omega) [nl_tle, nl_fle, nl_tlt, nl_flt, nl_teq, nl_feq, nl_sub, nl_ss, nl_lt, nl_llt, nl_ltt, nl_le, nl_lle, nl_lee, nl_eq, nl_leq, nl_ee, nl_div, nl_rem, nl_cl, nl_n1, nl_n2, nl_n3, nl_n4, nl_add, nl_ladd, nl_aa, nl_mul, nl_rmul, nl_mm, pu_wi_1, pu_wi_2, bX11_walkUnder_14, bX11_walkUnder_113, bX11_walkUnder_56, bX11_walkUnder_57, bX11_walkUnder_107, a_ai, a_ald, a_cv, a_gi, a_gr, a_iceq, a_icge, a_icne, a_ifeq, a_ild, a_inc, a_ist, a_push, a_vret, ag_31 hI, ag_34 hI, ag_45 hI, ag_6 hI, fx_0_2 hx, fx_31_3 hx, fx_5_0 hx, fx_5_4 hx, fx_5_6 hx, sh_0, sh_31, sh_34, sh_45, sh_5, sh_6, pu_rv, pu_as, Value.category, pu_bk, pu_kl, pu_qe0, pu_qe1, hn, hc, c1', c1, d1, c2', e1, a1, h1, a3, sh_5, sh_45, sh_6, hR]
    all_goals try simp [bX11_walkUnder_14, bX11_walkUnder_113, bX11_walkUnder_56, bX11_walkUnder_57, bX11_walkUnder_107, a_ai, a_ald, a_cv, a_gi, a_gr, a_iceq, a_icge, a_icne, a_ifeq, a_ild, a_inc, a_ist, a_push, a_vret, ag_31 hI, ag_34 hI, ag_45 hI, ag_6 hI, fx_0_2 hx, fx_31_3 hx, fx_5_0 hx, fx_5_4 hx, fx_5_6 hx, sh_0, sh_31, sh_34, sh_45, sh_5, sh_6, pu_rv, pu_as, Value.category, pu_bk, pu_kl, List.replicate, pu_wi_1, pu_wi_2, nl_add, nl_ladd, nl_aa, nl_mul, nl_rmul, nl_mm, pu_qe0, pu_qe1, hn, hc, c1', c1, d1, c2', e1, a1, h1, a3, sh_5, sh_45, sh_6, hR]
  · rw [e0 (fun z => cB z.2)] at hR
    rw [pu_q0 cB] at e1
    generalize nI (cD I) = cd at *
    rw [qX11_walkUnder_14]
    simp [bX11_walkUnder_14, bX11_walkUnder_113, bX11_walkUnder_56, bX11_walkUnder_57, bX11_walkUnder_107, a_ai, a_ald, a_cv, a_gi, a_gr, a_iceq, a_icge, a_icne, a_ifeq, a_ild, a_inc, a_ist, a_push, a_vret, ag_31 hI, ag_34 hI, ag_45 hI, ag_6 hI, fx_0_2 hx, fx_31_3 hx, fx_5_0 hx, fx_5_4 hx, fx_5_6 hx, sh_0, sh_31, sh_34, sh_45, sh_5, sh_6, pu_rv, pu_as, Value.category, pu_bk, pu_kl, List.replicate, pu_wi_1, pu_wi_2, nl_add, nl_ladd, nl_aa, nl_mul, nl_rmul, nl_mm, pu_qe0, pu_qe1, hn, hc, c1', c1, d1, c2', e1, sh_6, hR]
    all_goals try simp (maxSteps := 400000) (disch := omega) [nl_tle, nl_fle, nl_tlt, nl_flt, nl_teq, nl_feq, nl_sub, nl_ss, nl_lt, nl_llt, nl_ltt, nl_le, nl_lle, nl_lee, nl_eq, nl_leq, nl_ee, nl_div, nl_rem, nl_cl, nl_n1, nl_n2, nl_n3, nl_n4, nl_add, nl_ladd, nl_aa, nl_mul, nl_rmul, nl_mm, pu_wi_1, pu_wi_2, bX11_walkUnder_14, bX11_walkUnder_113, bX11_walkUnder_56, bX11_walkUnder_57, bX11_walkUnder_107, a_ai, a_ald, a_cv, a_gi, a_gr, a_iceq, a_icge, a_icne, a_ifeq, a_ild, a_inc, a_ist, a_push, a_vret, ag_31 hI, ag_34 hI, ag_45 hI, ag_6 hI, fx_0_2 hx, fx_31_3 hx, fx_5_0 hx, fx_5_4 hx, fx_5_6 hx, sh_0, sh_31, sh_34, sh_45, sh_5, sh_6, pu_rv, pu_as, Value.category, pu_bk, pu_kl, pu_qe0, pu_qe1, hn, hc, c1', c1, d1, c2', e1, sh_6, hR]
    all_goals try simp [bX11_walkUnder_14, bX11_walkUnder_113, bX11_walkUnder_56, bX11_walkUnder_57, bX11_walkUnder_107, a_ai, a_ald, a_cv, a_gi, a_gr, a_iceq, a_icge, a_icne, a_ifeq, a_ild, a_inc, a_ist, a_push, a_vret, ag_31 hI, ag_34 hI, ag_45 hI, ag_6 hI, fx_0_2 hx, fx_31_3 hx, fx_5_0 hx, fx_5_4 hx, fx_5_6 hx, sh_0, sh_31, sh_34, sh_45, sh_5, sh_6, pu_rv, pu_as, Value.category, pu_bk, pu_kl, List.replicate, pu_wi_1, pu_wi_2, nl_add, nl_ladd, nl_aa, nl_mul, nl_rmul, nl_mm, pu_qe0, pu_qe1, hn, hc, c1', c1, d1, c2', e1, sh_6, hR]
    all_goals try simp (maxSteps := 400000) (disch := omega) [nl_tle, nl_fle, nl_tlt, nl_flt, nl_teq, nl_feq, nl_sub, nl_ss, nl_lt, nl_llt, nl_ltt, nl_le, nl_lle, nl_lee, nl_eq, nl_leq, nl_ee, nl_div, nl_rem, nl_cl, nl_n1, nl_n2, nl_n3, nl_n4, nl_add, nl_ladd, nl_aa, nl_mul, nl_rmul, nl_mm, pu_wi_1, pu_wi_2, bX11_walkUnder_14, bX11_walkUnder_113, bX11_walkUnder_56, bX11_walkUnder_57, bX11_walkUnder_107, a_ai, a_ald, a_cv, a_gi, a_gr, a_iceq, a_icge, a_icne, a_ifeq, a_ild, a_inc, a_ist, a_push, a_vret, ag_31 hI, ag_34 hI, ag_45 hI, ag_6 hI, fx_0_2 hx, fx_31_3 hx, fx_5_0 hx, fx_5_4 hx, fx_5_6 hx, sh_0, sh_31, sh_34, sh_45, sh_5, sh_6, pu_rv, pu_as, Value.category, pu_bk, pu_kl, pu_qe0, pu_qe1, hn, hc, c1', c1, d1, c2', e1, sh_6, hR]
    all_goals try simp [bX11_walkUnder_14, bX11_walkUnder_113, bX11_walkUnder_56, bX11_walkUnder_57, bX11_walkUnder_107, a_ai, a_ald, a_cv, a_gi, a_gr, a_iceq, a_icge, a_icne, a_ifeq, a_ild, a_inc, a_ist, a_push, a_vret, ag_31 hI, ag_34 hI, ag_45 hI, ag_6 hI, fx_0_2 hx, fx_31_3 hx, fx_5_0 hx, fx_5_4 hx, fx_5_6 hx, sh_0, sh_31, sh_34, sh_45, sh_5, sh_6, pu_rv, pu_as, Value.category, pu_bk, pu_kl, List.replicate, pu_wi_1, pu_wi_2, nl_add, nl_ladd, nl_aa, nl_mul, nl_rmul, nl_mm, pu_qe0, pu_qe1, hn, hc, c1', c1, d1, c2', e1, sh_6, hR]
    all_goals try simp (maxSteps := 400000) (disch := omega) [nl_tle, nl_fle, nl_tlt, nl_flt, nl_teq, nl_feq, nl_sub, nl_ss, nl_lt, nl_llt, nl_ltt, nl_le, nl_lle, nl_lee, nl_eq, nl_leq, nl_ee, nl_div, nl_rem, nl_cl, nl_n1, nl_n2, nl_n3, nl_n4, nl_add, nl_ladd, nl_aa, nl_mul, nl_rmul, nl_mm, pu_wi_1, pu_wi_2, bX11_walkUnder_14, bX11_walkUnder_113, bX11_walkUnder_56, bX11_walkUnder_57, bX11_walkUnder_107, a_ai, a_ald, a_cv, a_gi, a_gr, a_iceq, a_icge, a_icne, a_ifeq, a_ild, a_inc, a_ist, a_push, a_vret, ag_31 hI, ag_34 hI, ag_45 hI, ag_6 hI, fx_0_2 hx, fx_31_3 hx, fx_5_0 hx, fx_5_4 hx, fx_5_6 hx, sh_0, sh_31, sh_34, sh_45, sh_5, sh_6, pu_rv, pu_as, Value.category, pu_bk, pu_kl, pu_qe0, pu_qe1, hn, hc, c1', c1, d1, c2', e1, sh_6, hR]
    all_goals try simp [bX11_walkUnder_14, bX11_walkUnder_113, bX11_walkUnder_56, bX11_walkUnder_57, bX11_walkUnder_107, a_ai, a_ald, a_cv, a_gi, a_gr, a_iceq, a_icge, a_icne, a_ifeq, a_ild, a_inc, a_ist, a_push, a_vret, ag_31 hI, ag_34 hI, ag_45 hI, ag_6 hI, fx_0_2 hx, fx_31_3 hx, fx_5_0 hx, fx_5_4 hx, fx_5_6 hx, sh_0, sh_31, sh_34, sh_45, sh_5, sh_6, pu_rv, pu_as, Value.category, pu_bk, pu_kl, List.replicate, pu_wi_1, pu_wi_2, nl_add, nl_ladd, nl_aa, nl_mul, nl_rmul, nl_mm, pu_qe0, pu_qe1, hn, hc, c1', c1, d1, c2', e1, sh_6, hR]
theorem c_wu_l (hw : pu_WF I L) (hI : pu_ag M I) (hxM : pu_fx M) {N0 : pu_M} (wg0 : py_wg M N0) {f c1 : Nat} {E0 : Nat → Int32} (hf : f < cD I) (h32 : I 32 f = 0) (gd : py_GD I E0 c1) (no : ∀ t, t < c1 → E0 t ≠ nI f) (ef : E0 c1 = nI f) : ∀ (q d : Nat) (N : pu_M) (U : Nat → Nat) (m : Nat) (t5 : Option Value), d + q = cD I → py_wf N0 N → N.1 45 5 = nI (c1 + 1 + m) → (∀ t, t < c1 + 1 → N.1 54 t = E0 t) → (∀ t, t < m → N.1 54 (c1 + 1 + t) = nI (U t)) → py_SL (py_uk I) (fun l => l < d ∧ py_us I y f l) U m → ∃ N1 U1 m1, py_wf N0 N1 ∧ N1.1 45 5 = nI (c1 + 1 + m1) ∧ (∀ t, t < c1 + 1 → N1.1 54 t = E0 t) ∧ (∀ t, t < m1 → N1.1 54 (c1 + 1 + t) = nI (U1 t)) ∧ py_SL (py_uk I) (py_us I y f) U1 m1 ∧ pu_r 418 [some (.ref 0), some (.int (nI f)), some (.int y), some (.int (nI (c1 + 1))), some (.int (nI d)), t5] [] N = some (none, N1)
  | 0, d, N, U, m, t5, hq, wf, h5, h0, hu, sl => by
    have hx : pu_fx N := pz_fx_of hxM (py_wg_t wg0 wf).1
    have GDN : py_GD I (N.1 54) (c1 + 1 + m) := py_GD_add (y := y) hw (py_GD_c (fun t ht => h0 t (by omega)) gd) hf h32 (fun t ht => by rw [h0 t (by omega)]; exact no t ht) (by rw [h0 c1 (by omega)]; exact ef) (fun t ht => (sl.1 t ht).2) (fun s t hst ht e => by have := py_SL_i sl (by omega) ht e; omega) hu
    obtain ⟨wd, agJ⟩ := py_wdw hw hI (py_wg_t wg0 wf) GDN h5
    have bD := wx_bD hw
    have hn : pu_dk I N.1 31 0 = nI (cD I) := (wx_cD hw :)
    have e : d = cD I := by omega
    have hc : nI (cD I) ≤ nI (cD I) := nI_le (by omega) (by omega)
    refine ⟨N, U, m, wf, h5, h0, hu, py_SL_c sl (fun l => ⟨fun z => z.2, fun z => ⟨by have := z.1; omega, z⟩⟩), ?_⟩
    rw [e]
    have hI := agJ
    generalize nI (cD I) = cd at *
    rw [qX11_walkUnder_14]
    simp [bX11_walkUnder_14, bX11_walkUnder_113, bX11_walkUnder_56, bX11_walkUnder_57, bX11_walkUnder_107, a_ai, a_ald, a_cv, a_gi, a_gr, a_iceq, a_icge, a_icne, a_ifeq, a_ild, a_inc, a_ist, a_push, a_vret, ag_31 hI, ag_34 hI, ag_45 hI, ag_6 hI, fx_0_2 hx, fx_31_3 hx, fx_5_0 hx, fx_5_4 hx, fx_5_6 hx, sh_0, sh_31, sh_34, sh_45, sh_5, sh_6, pu_rv, pu_as, Value.category, pu_bk, pu_kl, List.replicate, pu_wi_1, pu_wi_2, nl_add, nl_ladd, nl_aa, nl_mul, nl_rmul, nl_mm, pu_qe0, pu_qe1, hn, hc]
    all_goals try simp (maxSteps := 400000) (disch := omega) [nl_tle, nl_fle, nl_tlt, nl_flt, nl_teq, nl_feq, nl_sub, nl_ss, nl_lt, nl_llt, nl_ltt, nl_le, nl_lle, nl_lee, nl_eq, nl_leq, nl_ee, nl_div, nl_rem, nl_cl, nl_n1, nl_n2, nl_n3, nl_n4, nl_add, nl_ladd, nl_aa, nl_mul, nl_rmul, nl_mm, pu_wi_1, pu_wi_2, bX11_walkUnder_14, bX11_walkUnder_113, bX11_walkUnder_56, bX11_walkUnder_57, bX11_walkUnder_107, a_ai, a_ald, a_cv, a_gi, a_gr, a_iceq, a_icge, a_icne, a_ifeq, a_ild, a_inc, a_ist, a_push, a_vret, ag_31 hI, ag_34 hI, ag_45 hI, ag_6 hI, fx_0_2 hx, fx_31_3 hx, fx_5_0 hx, fx_5_4 hx, fx_5_6 hx, sh_0, sh_31, sh_34, sh_45, sh_5, sh_6, pu_rv, pu_as, Value.category, pu_bk, pu_kl, pu_qe0, pu_qe1, hn, hc]
    all_goals try simp [bX11_walkUnder_14, bX11_walkUnder_113, bX11_walkUnder_56, bX11_walkUnder_57, bX11_walkUnder_107, a_ai, a_ald, a_cv, a_gi, a_gr, a_iceq, a_icge, a_icne, a_ifeq, a_ild, a_inc, a_ist, a_push, a_vret, ag_31 hI, ag_34 hI, ag_45 hI, ag_6 hI, fx_0_2 hx, fx_31_3 hx, fx_5_0 hx, fx_5_4 hx, fx_5_6 hx, sh_0, sh_31, sh_34, sh_45, sh_5, sh_6, pu_rv, pu_as, Value.category, pu_bk, pu_kl, List.replicate, pu_wi_1, pu_wi_2, nl_add, nl_ladd, nl_aa, nl_mul, nl_rmul, nl_mm, pu_qe0, pu_qe1, hn, hc]
    all_goals try simp (maxSteps := 400000) (disch := omega) [nl_tle, nl_fle, nl_tlt, nl_flt, nl_teq, nl_feq, nl_sub, nl_ss, nl_lt, nl_llt, nl_ltt, nl_le, nl_lle, nl_lee, nl_eq, nl_leq, nl_ee, nl_div, nl_rem, nl_cl, nl_n1, nl_n2, nl_n3, nl_n4, nl_add, nl_ladd, nl_aa, nl_mul, nl_rmul, nl_mm, pu_wi_1, pu_wi_2, bX11_walkUnder_14, bX11_walkUnder_113, bX11_walkUnder_56, bX11_walkUnder_57, bX11_walkUnder_107, a_ai, a_ald, a_cv, a_gi, a_gr, a_iceq, a_icge, a_icne, a_ifeq, a_ild, a_inc, a_ist, a_push, a_vret, ag_31 hI, ag_34 hI, ag_45 hI, ag_6 hI, fx_0_2 hx, fx_31_3 hx, fx_5_0 hx, fx_5_4 hx, fx_5_6 hx, sh_0, sh_31, sh_34, sh_45, sh_5, sh_6, pu_rv, pu_as, Value.category, pu_bk, pu_kl, pu_qe0, pu_qe1, hn, hc]
    all_goals try simp [bX11_walkUnder_14, bX11_walkUnder_113, bX11_walkUnder_56, bX11_walkUnder_57, bX11_walkUnder_107, a_ai, a_ald, a_cv, a_gi, a_gr, a_iceq, a_icge, a_icne, a_ifeq, a_ild, a_inc, a_ist, a_push, a_vret, ag_31 hI, ag_34 hI, ag_45 hI, ag_6 hI, fx_0_2 hx, fx_31_3 hx, fx_5_0 hx, fx_5_4 hx, fx_5_6 hx, sh_0, sh_31, sh_34, sh_45, sh_5, sh_6, pu_rv, pu_as, Value.category, pu_bk, pu_kl, List.replicate, pu_wi_1, pu_wi_2, nl_add, nl_ladd, nl_aa, nl_mul, nl_rmul, nl_mm, pu_qe0, pu_qe1, hn, hc]
    all_goals try simp (maxSteps := 400000) (disch := omega) [nl_tle, nl_fle, nl_tlt, nl_flt, nl_teq, nl_feq, nl_sub, nl_ss, nl_lt, nl_llt, nl_ltt, nl_le, nl_lle, nl_lee, nl_eq, nl_leq, nl_ee, nl_div, nl_rem, nl_cl, nl_n1, nl_n2, nl_n3, nl_n4, nl_add, nl_ladd, nl_aa, nl_mul, nl_rmul, nl_mm, pu_wi_1, pu_wi_2, bX11_walkUnder_14, bX11_walkUnder_113, bX11_walkUnder_56, bX11_walkUnder_57, bX11_walkUnder_107, a_ai, a_ald, a_cv, a_gi, a_gr, a_iceq, a_icge, a_icne, a_ifeq, a_ild, a_inc, a_ist, a_push, a_vret, ag_31 hI, ag_34 hI, ag_45 hI, ag_6 hI, fx_0_2 hx, fx_31_3 hx, fx_5_0 hx, fx_5_4 hx, fx_5_6 hx, sh_0, sh_31, sh_34, sh_45, sh_5, sh_6, pu_rv, pu_as, Value.category, pu_bk, pu_kl, pu_qe0, pu_qe1, hn, hc]
    all_goals try simp [bX11_walkUnder_14, bX11_walkUnder_113, bX11_walkUnder_56, bX11_walkUnder_57, bX11_walkUnder_107, a_ai, a_ald, a_cv, a_gi, a_gr, a_iceq, a_icge, a_icne, a_ifeq, a_ild, a_inc, a_ist, a_push, a_vret, ag_31 hI, ag_34 hI, ag_45 hI, ag_6 hI, fx_0_2 hx, fx_31_3 hx, fx_5_0 hx, fx_5_4 hx, fx_5_6 hx, sh_0, sh_31, sh_34, sh_45, sh_5, sh_6, pu_rv, pu_as, Value.category, pu_bk, pu_kl, List.replicate, pu_wi_1, pu_wi_2, nl_add, nl_ladd, nl_aa, nl_mul, nl_rmul, nl_mm, pu_qe0, pu_qe1, hn, hc]
  | q + 1, d, N, U, m, t5, hq, wf, h5, h0, hu, sl => by
    have hx : pu_fx N := pz_fx_of hxM (py_wg_t wg0 wf).1
    have GDN : py_GD I (N.1 54) (c1 + 1 + m) := py_GD_add (y := y) hw (py_GD_c (fun t ht => h0 t (by omega)) gd) hf h32 (fun t ht => by rw [h0 t (by omega)]; exact no t ht) (by rw [h0 c1 (by omega)]; exact ef) (fun t ht => (sl.1 t ht).2) (fun s t hst ht e => by have := py_SL_i sl (by omega) ht e; omega) hu
    obtain ⟨wd, agJ⟩ := py_wdw hw hI (py_wg_t wg0 wf) GDN h5
    have WJ := WF_desk hw wd
    have bD := wx_bD hw
    have hd : d < cD I := by omega
    have e1 : pu_r 145 [some (.ref 31), some (.int (nI d)), some (.int y), some (.ref 6)] [] N = some (some (.int (pu_q (pu_sd I d y))), N) := c_isThereOn hx agJ WJ d hd y
    by_cases c : (d ≠ f ∧ I 34 d = nI f) ∧ pu_sd I d y
    rotate_left
    · obtain ⟨u5, E⟩ := c_wu_i (N1 := N) (N2 := N) (f1 := c1 + 1) hx agJ hw hd (d ≠ f ∧ I 34 d = nI f) (pu_sd I d y) rfl (by omega) e1 (fun _ => rfl) (fun z => absurd z c) t5
      rw [E]
      exact c_wu_l hw hI hxM wg0 hf h32 gd no ef q (d + 1) N U m u5 (by omega) wf h5 h0 hu (py_SL_c sl (fun l => ⟨fun z => ⟨by omega, z.2⟩, fun z => by
        by_cases k : l = d
        · rw [k] at z
          exact absurd ⟨⟨z.2.2.1, z.2.2.2.1⟩, z.2.2.2.2⟩ c
        · exact ⟨by omega, z.2⟩⟩))
    have ud : py_us I y f d := ⟨hd, c.1.1, c.1.2, c.2⟩
    -- one more
    have GDX : py_GD I (fun t => if t < c1 + 1 + m then N.1 54 t else nI d) (c1 + 1 + (m + 1)) := py_GD_add (y := y) (U := fun t => if t < m then U t else d) hw (py_GD_c (fun t ht => by show (if t < c1 + 1 + m then N.1 54 t else nI d) = E0 t; rw [if_pos (by omega)]; exact h0 t (by omega)) gd) hf h32 (fun t ht => by show (if t < c1 + 1 + m then N.1 54 t else nI d) ≠ nI f; rw [if_pos (by omega), h0 t (by omega)]; exact no t ht) (by show (if c1 < c1 + 1 + m then N.1 54 c1 else nI d) = nI f; rw [if_pos (by omega), h0 c1 (by omega)]; exact ef) (fun t ht => by
      show py_us I y f (if t < m then U t else d)
      by_cases z : t < m
      · rw [if_pos z]; exact (sl.1 t z).2
      · rw [if_neg z]; exact ud) (fun s t hst ht => by
      show (if s < m then U s else d) ≠ (if t < m then U t else d)
      rw [if_pos (show s < m by omega)]
      by_cases z : t < m
      · rw [if_pos z]
        exact fun e => by have := py_SL_i sl (by omega) z e; omega
      · rw [if_neg z]
        exact fun e => by have := (sl.1 s (by omega)).1; omega) (fun t ht => by
      show (if c1 + 1 + t < c1 + 1 + m then N.1 54 (c1 + 1 + t) else nI d) = nI (if t < m then U t else d)
      by_cases z : t < m
      · rw [if_pos (by omega), if_pos z]; exact hu t z
      · rw [if_neg (by omega), if_neg z])
    have cl := py_GD_le hw GDX
    have aw := c_addWalked hx (c := c1 + 1 + m) (by omega) h5 (nI d)
    obtain ⟨P, hP⟩ : ∃ P, pu_wi (pu_wi N 54 (c1 + 1 + m) (nI d)) 45 5 (nI (c1 + 1 + m + 1)) = P := ⟨_, rfl⟩
    rw [hP] at aw
    have Po : ∀ x j, ¬ (x = 45 ∧ j = 5) → ¬ (x = 54 ∧ j = c1 + 1 + m) → P.1 x j = N.1 x j := fun x j z1 z2 => by rw [← hP, py_wi_o z1, py_wi_o z2]
    have P5 : P.1 45 5 = nI (c1 + 1 + m + 1) := by rw [← hP]; simp [pu_wi_1]
    have P54 : P.1 54 (c1 + 1 + m) = nI d := by rw [← hP, py_wi_o (by omega)]; simp [pu_wi_1]
    have P2 : P.2 = N.2 := by rw [← hP]; rfl
    have hxP : pu_fx P := pz_fx_of hx P2
    obtain ⟨b, Q, b1, b2, b3, b4, b5, b6, b7⟩ := c_sink_l hw (f1 := c1 + 1) (m := m) (U := U) hd (fun t ht => (sl.1 t ht).2.1) (by omega) m P none (Nat.le_refl _) hxP (fun x j z1 z2 => by
      rw [Po x j (by omega) (by omega), (py_wg_t wg0 wf).2 x j (by omega) (by omega) (by omega)]
      exact hI x j z1 (by omega)) (fun t ht => by
      unfold pu_vi
      by_cases z : t < m
      · rw [if_pos z, Po 54 _ (by omega) (by omega)]; exact hu t z
      · rw [if_neg z, if_pos (by omega), show t = m by omega]; exact P54)
    have sk : pu_r 206 [some (.ref 5), some (.int (nI (c1 + 1)))] [] P = some (none, Q) := by
      have e9 : nI (c1 + 1 + m + 1) - 1 = nI (c1 + 1 + m) := nI_pred _
      have g1 := fx_5_6 hxP
      rw [qX5_sinkWalked]
      simp [a_ent, bX5_sinkWalked_0, a_ald, a_gi, a_gr, a_ist, a_isub, a_push, sh_45, sh_5, pu_rv, pu_as, Value.category, pu_bk, pu_kl, List.replicate, pu_wi_1, pu_wi_2, nl_add, nl_ladd, nl_aa, nl_mul, nl_rmul, nl_mm, pu_qe0, pu_qe1, g1, P5, e9, b7, sh_45]
      all_goals try simp (maxSteps := 400000) (disch := omega) [nl_tle, nl_fle, nl_tlt, nl_flt, nl_teq, nl_feq, nl_sub, nl_ss, nl_lt, nl_llt, nl_ltt, nl_le, nl_lle, nl_lee, nl_eq, nl_leq, nl_ee, nl_div, nl_rem, nl_cl, nl_n1, nl_n2, nl_n3, nl_n4, nl_add, nl_ladd, nl_aa, nl_mul, nl_rmul, nl_mm, pu_wi_1, pu_wi_2, bX5_sinkWalked_0, a_ald, a_gi, a_gr, a_ist, a_isub, a_push, sh_45, sh_5, pu_rv, pu_as, Value.category, pu_bk, pu_kl, pu_qe0, pu_qe1, g1, P5, e9, b7, sh_45]
      all_goals try simp [bX5_sinkWalked_0, a_ald, a_gi, a_gr, a_ist, a_isub, a_push, sh_45, sh_5, pu_rv, pu_as, Value.category, pu_bk, pu_kl, List.replicate, pu_wi_1, pu_wi_2, nl_add, nl_ladd, nl_aa, nl_mul, nl_rmul, nl_mm, pu_qe0, pu_qe1, g1, P5, e9, b7, sh_45]
      all_goals try simp (maxSteps := 400000) (disch := omega) [nl_tle, nl_fle, nl_tlt, nl_flt, nl_teq, nl_feq, nl_sub, nl_ss, nl_lt, nl_llt, nl_ltt, nl_le, nl_lle, nl_lee, nl_eq, nl_leq, nl_ee, nl_div, nl_rem, nl_cl, nl_n1, nl_n2, nl_n3, nl_n4, nl_add, nl_ladd, nl_aa, nl_mul, nl_rmul, nl_mm, pu_wi_1, pu_wi_2, bX5_sinkWalked_0, a_ald, a_gi, a_gr, a_ist, a_isub, a_push, sh_45, sh_5, pu_rv, pu_as, Value.category, pu_bk, pu_kl, pu_qe0, pu_qe1, g1, P5, e9, b7, sh_45]
      all_goals try simp [bX5_sinkWalked_0, a_ald, a_gi, a_gr, a_ist, a_isub, a_push, sh_45, sh_5, pu_rv, pu_as, Value.category, pu_bk, pu_kl, List.replicate, pu_wi_1, pu_wi_2, nl_add, nl_ladd, nl_aa, nl_mul, nl_rmul, nl_mm, pu_qe0, pu_qe1, g1, P5, e9, b7, sh_45]
      all_goals try simp (maxSteps := 400000) (disch := omega) [nl_tle, nl_fle, nl_tlt, nl_flt, nl_teq, nl_feq, nl_sub, nl_ss, nl_lt, nl_llt, nl_ltt, nl_le, nl_lle, nl_lee, nl_eq, nl_leq, nl_ee, nl_div, nl_rem, nl_cl, nl_n1, nl_n2, nl_n3, nl_n4, nl_add, nl_ladd, nl_aa, nl_mul, nl_rmul, nl_mm, pu_wi_1, pu_wi_2, bX5_sinkWalked_0, a_ald, a_gi, a_gr, a_ist, a_isub, a_push, sh_45, sh_5, pu_rv, pu_as, Value.category, pu_bk, pu_kl, pu_qe0, pu_qe1, g1, P5, e9, b7, sh_45]
      all_goals try simp [bX5_sinkWalked_0, a_ald, a_gi, a_gr, a_ist, a_isub, a_push, sh_45, sh_5, pu_rv, pu_as, Value.category, pu_bk, pu_kl, List.replicate, pu_wi_1, pu_wi_2, nl_add, nl_ladd, nl_aa, nl_mul, nl_rmul, nl_mm, pu_qe0, pu_qe1, g1, P5, e9, b7, sh_45]
    have Q5 : Q.1 45 5 = nI (c1 + 1 + (m + 1)) := by rw [b3 45 5 (by omega)]; exact P5
    have wfQ : py_wf N0 Q := py_wf_t wf ⟨by rw [b2, P2], fun x j z1 z2 => by rw [b3 x j (by omega), Po x j z2 (by omega)]⟩
    obtain ⟨u5, E⟩ := c_wu_i (N1 := P) (N2 := Q) (f1 := c1 + 1) hx agJ hw hd (d ≠ f ∧ I 34 d = nI f) (pu_sd I d y) rfl (by omega) e1 (fun z => absurd c z) (fun _ => ⟨aw, P2, sk⟩) t5
    rw [E]
    refine c_wu_l hw hI hxM wg0 hf h32 gd no ef q (d + 1) Q (pu_vi U b d) (m + 1) u5 (by omega) wfQ Q5 (fun t ht => by rw [b3 54 t (by omega), Po 54 t (by omega) (by omega)]; exact h0 t ht) (fun t ht => b4 t (by omega)) (py_SL_c (py_SL_add sl b1 (fun j z1 z2 => (py_uk_ru hw hd (sl.1 j z2).2.1).1 (b5 j z1 z2)) ?_) (fun l => ?_))
    · rcases b6 with z | z
      · exact Or.inl z
      · by_cases b0 : b = 0
        · exact Or.inl b0
        · have s1 := sl.1 (b - 1) (by omega)
          exact Or.inr ((py_uk_ru hw hd s1.2.1).2 z s1.1)
    · constructor
      · rintro (z | z)
        · exact ⟨by omega, z.2⟩
        · rw [z]; exact ⟨by omega, ud⟩
      · rintro ⟨z1, z2⟩
        by_cases k : l = d
        · exact Or.inr k
        · exact Or.inl ⟨by omega, z2⟩
end
