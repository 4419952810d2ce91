/-! call: days between papers; the reference's way back -/
theorem py_f1_c {c d : Nat → Prop} : ∀ m i, (∀ k, i ≤ k → k < i + m → (c k ↔ d k)) → pu_f1 c m i = pu_f1 d m i
  | 0, i, _ => rfl
  | m + 1, i, h => by
    have ih := py_f1_c (c := c) (d := d) m (i + 1) (fun k h1 h2 => h k (by omega) (by omega))
    by_cases z : c i
    · rw [pu_f1_t z, pu_f1_t ((h i (by omega) (by omega)).mp z)]
    · rw [pu_f1_f z, pu_f1_f (fun y => z ((h i (by omega) (by omega)).mpr y)), ih]
section
variable {M : pu_M} {I : Nat → Nat → Int32} {L : Nat → Nat → Int64}
theorem py_hd_c {o : Nat} {c y1 y2 : Int32} (C : ∀ p, p < cP I → pu_kn I p → (I 7 p ≤ y1 ↔ I 7 p ≤ y2)) (ho : o < cP I) (hc : c ≠ -1 → c.toNatClampNeg < cP I) : pu_hd I o c y1 ↔ pu_hd I o c y2 := by
  unfold pu_hd
  constructor
  · rintro ⟨⟨a, b⟩, e⟩
    exact ⟨⟨a, (C o ho a).mp b⟩, fun z => e ⟨z.1, z.2.1, (C _ (hc z.1) z.2.1).mpr z.2.2⟩⟩
  · rintro ⟨⟨a, b⟩, e⟩
    exact ⟨⟨a, (C o ho a).mpr b⟩, fun z => e ⟨z.1, z.2.1, (C _ (hc z.1) z.2.1).mp z.2.2⟩⟩
theorem py_sv_c (hw : pu_WF I L) {y1 y2 : Int32} (C : ∀ p, p < cP I → pu_kn I p → (I 7 p ≤ y1 ↔ I 7 p ≤ y2)) (nm tw : Nat → Int64) (w x k : Nat) : py_sv I L nm tw w x k y1 = py_sv I L nm tw w x k y2 := by
  have N : ∀ k, k < cN I → (py_nh I y1 k ↔ py_nh I y2 k) := fun k hk => py_hd_c C (pu_on (x := I 22 k) (n := cP I) ⟨(wx_no hw k hk).1, (wx_no hw k hk).2.1⟩).2 (fun z => (pu_on (x := I 23 k) (n := cP I) ⟨pu_ne1 (wx_nc hw k hk).1 z, (wx_nc hw k hk).2.1⟩).2)
  have U : ∀ k, k < cU I → (pu_sh1 I y1 k ↔ pu_sh1 I y2 k) := fun k hk => py_hd_c C (pu_on (wx_uo hw k hk)).2 (fun z => (pu_on (x := I 18 k) (n := cP I) ⟨pu_ne1 (wx_uc hw k hk).1 z, (wx_uc hw k hk).2.1⟩).2)
  have D : ∀ d, d < cD I → (pu_sd I d y1 ↔ pu_sd I d y2) := fun d hd => py_hd_c C (pu_on (wx_do hw d hd)).2 (fun z => (pu_on (x := I 37 d) (n := cP I) ⟨pu_ne1 (wx_dc hw d hd).1 z, (wx_dc hw d hd).2.1⟩).2)
  have e1 : py_ss I L nm tw y1 = py_ss I L nm tw y2 := by
    unfold py_ss
    rw [py_f1_c (c := py_am I L nm tw y1) (d := py_am I L nm tw y2) (cN I) 0 (fun k h1 h2 => ⟨fun z => ⟨z.1, (N k (by omega)).mp z.2⟩, fun z => ⟨z.1, (N k (by omega)).mpr z.2⟩⟩)]
  have e2 : ∀ st, py_u1 I st w y1 = py_u1 I st w y2 := fun st => by
    unfold py_u1
    exact py_f1_c (cU I) 0 (fun k h1 h2 => ⟨fun z => ⟨z.1, z.2.1, (U k (by omega)).mp z.2.2⟩, fun z => ⟨z.1, z.2.1, (U k (by omega)).mpr z.2.2⟩⟩)
  have e3 : ∀ f, py_td I x k f y1 = py_td I x k f y2 := fun f => by
    unfold py_td
    exact py_f1_c (cD I) 0 (fun k h1 h2 => ⟨fun z => ⟨z.1, (D k (by omega)).mp z.2⟩, fun z => ⟨z.1, (D k (by omega)).mpr z.2⟩⟩)
  unfold py_sv
  rw [e1, e2, e3]
/-- what the reference has of an address -/
def py_H (M : pu_M) (I : Nat → Nat → Int32) (L : Nat → Nat → Int64) (nm tw : Nat → Int64) (w x k : Nat) : Prop := pu_fx M ∧ pu_Rel I L (M.1 72) ∧ (∀ j, j < 3 → pu_Wd (M.1 78) (12 * j) (nm j)) ∧ (∀ j, j < 3 → pu_Wd (M.1 82) (12 * j) (tw j)) ∧ M.1 71 17 = nI w ∧ M.1 71 18 = nI x ∧ M.1 71 19 = nI k
theorem py_H_w {nm tw : Nat → Int64} {w x k : Nat} (h : py_H M I L nm tw w x k) (v : Int32) : py_H (pu_wi M 71 21 v) I L nm tw w x k := by
  have o : ∀ a j, ¬ (a = 71 ∧ j = 21) → (pu_wi M 71 21 v).1 a j = M.1 a j := fun a j hj => py_wi_o hj
  obtain ⟨h1, h2, h3, h4, h5, h6, h7⟩ := h
  exact ⟨h1, by rw [show (pu_wi M 71 21 v).1 72 = M.1 72 from funext (fun j => o 72 j (by omega))]; exact h2, fun j hj => pu_Wd_fr (h3 j hj) (fun i hi => o 78 _ (by omega)), fun j hj => pu_Wd_fr (h4 j hj) (fun i hi => o 82 _ (by omega)), by rw [o 71 17 (by omega)]; exact h5, by rw [o 71 18 (by omega)]; exact h6, by rw [o 71 19 (by omega)]; exact h7⟩
theorem py_m1_t {n : Nat} (h : n < 1000000000) : (nI n - 1).toInt = (n : Int) - 1 := by
  have := pk_sub_toInt (a := n) (b := 1) (by omega) (by omega)
  exact this
theorem py_m1_le {a b : Nat} (ha : a < 1000000000) (hb : b < 1000000000) : (nI a - 1 ≤ nI b - 1) = (a ≤ b) := by
  rw [Int32.le_iff_toInt_le, py_m1_t ha, py_m1_t hb]
  apply propext
  omega
theorem r_call_p (hx : pu_fx M) (hr : pu_Rel I L (M.1 72)) (hw : pu_WF I L) (Y a : Nat) (hY : Y ≤ 109574) (ha : a < Y) (t2 : Option Value) : ∀ m i n1, i + m = cP I → n1 ≤ a → ∃ n2, n1 ≤ n2 ∧ n2 ≤ a ∧ (∀ p, i ≤ p → p < cP I → pu_kn I p → I 7 p ≤ nI a → I 7 p ≤ nI n2) ∧ pu_r 505 [some (.ref 71), some (.int (nI Y)), t2, some (.int (nI a)), some (.int (nI n1 - 1)), some (.int (nI i))] [] M = kX12_call_116 pu_r [some (.ref 71), some (.int (nI Y)), t2, some (.int (nI a)), some (.int (nI n2 - 1)), some (.int (nI (cP I)))] [] M
  | 0, i, n1, h, hn => by
    have bP := wx_bP hw
    have h5 := rl_h5 hr
    have e : i = cP I := by omega
    subst e
    have hc : nI (cP I) ≤ nI (cP I) := nI_le (by omega) (by omega)
    refine ⟨n1, Nat.le_refl _, hn, fun p h1 h2 => by omega, ?_⟩
    rw [qX12_call_52]
    generalize nI n1 - 1 = nx
    simp [bX12_call_52, bX12_call_110, bX12_call_97, a_ai, a_ald, a_cv, a_gr, a_iceq, a_icge, a_icgt, a_icle, a_ifeq, a_ild, a_inc, a_ist, a_isub, a_push, fx_71_0 hx, sh_71, sh_72, pu_rv, pu_as, Value.category, pu_bk, pu_kl, List.replicate, pu_wi_1, pu_wi_2, nl_add, nl_ladd, nl_aa, nl_mul, nl_rmul, nl_mm, pu_qe0, pu_qe1, h5, hc]
    all_goals try simp (maxSteps := 400000) (disch := omega) [nl_tle, nl_fle, nl_tlt, nl_flt, nl_teq, nl_feq, nl_sub, nl_ss, nl_lt, nl_llt, nl_ltt, nl_le, nl_lle, nl_lee, nl_eq, nl_leq, nl_ee, nl_div, nl_rem, nl_cl, nl_n1, nl_n2, nl_n3, nl_n4, nl_add, nl_ladd, nl_aa, nl_mul, nl_rmul, nl_mm, pu_wi_1, pu_wi_2, bX12_call_52, bX12_call_110, bX12_call_97, a_ai, a_ald, a_cv, a_gr, a_iceq, a_icge, a_icgt, a_icle, a_ifeq, a_ild, a_inc, a_ist, a_isub, a_push, fx_71_0 hx, sh_71, sh_72, pu_rv, pu_as, Value.category, pu_bk, pu_kl, pu_qe0, pu_qe1, h5, hc]
    all_goals try simp [bX12_call_52, bX12_call_110, bX12_call_97, a_ai, a_ald, a_cv, a_gr, a_iceq, a_icge, a_icgt, a_icle, a_ifeq, a_ild, a_inc, a_ist, a_isub, a_push, fx_71_0 hx, sh_71, sh_72, pu_rv, pu_as, Value.category, pu_bk, pu_kl, List.replicate, pu_wi_1, pu_wi_2, nl_add, nl_ladd, nl_aa, nl_mul, nl_rmul, nl_mm, pu_qe0, pu_qe1, h5, hc]
    all_goals try simp (maxSteps := 400000) (disch := omega) [nl_tle, nl_fle, nl_tlt, nl_flt, nl_teq, nl_feq, nl_sub, nl_ss, nl_lt, nl_llt, nl_ltt, nl_le, nl_lle, nl_lee, nl_eq, nl_leq, nl_ee, nl_div, nl_rem, nl_cl, nl_n1, nl_n2, nl_n3, nl_n4, nl_add, nl_ladd, nl_aa, nl_mul, nl_rmul, nl_mm, pu_wi_1, pu_wi_2, bX12_call_52, bX12_call_110, bX12_call_97, a_ai, a_ald, a_cv, a_gr, a_iceq, a_icge, a_icgt, a_icle, a_ifeq, a_ild, a_inc, a_ist, a_isub, a_push, fx_71_0 hx, sh_71, sh_72, pu_rv, pu_as, Value.category, pu_bk, pu_kl, pu_qe0, pu_qe1, h5, hc]
    all_goals try simp [bX12_call_52, bX12_call_110, bX12_call_97, a_ai, a_ald, a_cv, a_gr, a_iceq, a_icge, a_icgt, a_icle, a_ifeq, a_ild, a_inc, a_ist, a_isub, a_push, fx_71_0 hx, sh_71, sh_72, pu_rv, pu_as, Value.category, pu_bk, pu_kl, List.replicate, pu_wi_1, pu_wi_2, nl_add, nl_ladd, nl_aa, nl_mul, nl_rmul, nl_mm, pu_qe0, pu_qe1, h5, hc]
    all_goals try simp (maxSteps := 400000) (disch := omega) [nl_tle, nl_fle, nl_tlt, nl_flt, nl_teq, nl_feq, nl_sub, nl_ss, nl_lt, nl_llt, nl_ltt, nl_le, nl_lle, nl_lee, nl_eq, nl_leq, nl_ee, nl_div, nl_rem, nl_cl, nl_n1, nl_n2, nl_n3, nl_n4, nl_add, nl_ladd, nl_aa, nl_mul, nl_rmul, nl_mm, pu_wi_1, pu_wi_2, bX12_call_52, bX12_call_110, bX12_call_97, a_ai, a_ald, a_cv, a_gr, a_iceq, a_icge, a_icgt, a_icle, a_ifeq, a_ild, a_inc, a_ist, a_isub, a_push, fx_71_0 hx, sh_71, sh_72, pu_rv, pu_as, Value.category, pu_bk, pu_kl, pu_qe0, pu_qe1, h5, hc]
    all_goals try simp [bX12_call_52, bX12_call_110, bX12_call_97, a_ai, a_ald, a_cv, a_gr, a_iceq, a_icge, a_icgt, a_icle, a_ifeq, a_ild, a_inc, a_ist, a_isub, a_push, fx_71_0 hx, sh_71, sh_72, pu_rv, pu_as, Value.category, pu_bk, pu_kl, List.replicate, pu_wi_1, pu_wi_2, nl_add, nl_ladd, nl_aa, nl_mul, nl_rmul, nl_mm, pu_qe0, pu_qe1, h5, hc]
  | m + 1, i, n1, h, hn => by
    have bP := wx_bP hw
    have h5 := rl_h5 hr
    have hi : i < cP I := by omega
    have hc : ¬ nI (cP I) ≤ nI i := nI_ge (by omega) (by omega)
    have ne : ¬ nI a = nI Y := fun z => by rw [nI_eq (by omega) (by omega)] at z; omega
    have e1 := r_isKnown hx hr hw i hi
    have e2 := r_from hx hr hw i hi
    have pf := wx_pf hw i hi
    have f := pu_on (x := I 7 i) (n := 109575) ⟨pf.1, by omega⟩
    rw [f.1] at e2
    have fl := f.2
    by_cases c1 : pu_kn I i
    · rw [pu_q1 c1] at e1
      by_cases c2 : (I 7 i).toNatClampNeg ≤ a
      · have c2' : ¬ nI a < nI (I 7 i).toNatClampNeg := fun z => by rw [nI_ltI (by omega) (by omega)] at z; omega
        by_cases c3 : (I 7 i).toNatClampNeg ≤ n1
        · obtain ⟨n2, a1, a2, a3, a4⟩ := r_call_p hx hr hw Y a hY ha t2 m (i + 1) n1 (by omega) hn
          refine ⟨n2, a1, a2, fun p h1 h2 h3 h4 => ?_, ?_⟩
          · by_cases z : p = i
            · subst z
              rw [f.1]
              exact nI_le (by omega) (by omega)
            · exact a3 p (by omega) h2 h3 h4
          · rw [← a4, qX12_call_52]
            have c3' := py_m1_le (a := (I 7 i).toNatClampNeg) (b := n1) (by omega) (by omega)
            rw [eq_true c3] at c3'
            generalize nI n1 - 1 = nx at *
            generalize (I 7 i).toNatClampNeg = fp at *
            generalize hfx : nI fp - 1 = fx at *
            simp [bX12_call_52, bX12_call_110, bX12_call_97, a_ai, a_ald, a_cv, a_gr, a_iceq, a_icge, a_icgt, a_icle, a_ifeq, a_ild, a_inc, a_ist, a_isub, a_push, fx_71_0 hx, sh_71, sh_72, pu_rv, pu_as, Value.category, pu_bk, pu_kl, List.replicate, pu_wi_1, pu_wi_2, nl_add, nl_ladd, nl_aa, nl_mul, nl_rmul, nl_mm, pu_qe0, pu_qe1, h5, hc, ne, e1, e2, c2', c2, hfx, c3']
            all_goals try simp (maxSteps := 400000) (disch := omega) [nl_tle, nl_fle, nl_tlt, nl_flt, nl_teq, nl_feq, nl_sub, nl_ss, nl_lt, nl_llt, nl_ltt, nl_le, nl_lle, nl_lee, nl_eq, nl_leq, nl_ee, nl_div, nl_rem, nl_cl, nl_n1, nl_n2, nl_n3, nl_n4, nl_add, nl_ladd, nl_aa, nl_mul, nl_rmul, nl_mm, pu_wi_1, pu_wi_2, bX12_call_52, bX12_call_110, bX12_call_97, a_ai, a_ald, a_cv, a_gr, a_iceq, a_icge, a_icgt, a_icle, a_ifeq, a_ild, a_inc, a_ist, a_isub, a_push, fx_71_0 hx, sh_71, sh_72, pu_rv, pu_as, Value.category, pu_bk, pu_kl, pu_qe0, pu_qe1, h5, hc, ne, e1, e2, c2', c2, hfx, c3']
            all_goals try simp [bX12_call_52, bX12_call_110, bX12_call_97, a_ai, a_ald, a_cv, a_gr, a_iceq, a_icge, a_icgt, a_icle, a_ifeq, a_ild, a_inc, a_ist, a_isub, a_push, fx_71_0 hx, sh_71, sh_72, pu_rv, pu_as, Value.category, pu_bk, pu_kl, List.replicate, pu_wi_1, pu_wi_2, nl_add, nl_ladd, nl_aa, nl_mul, nl_rmul, nl_mm, pu_qe0, pu_qe1, h5, hc, ne, e1, e2, c2', c2, hfx, c3']
            all_goals try simp (maxSteps := 400000) (disch := omega) [nl_tle, nl_fle, nl_tlt, nl_flt, nl_teq, nl_feq, nl_sub, nl_ss, nl_lt, nl_llt, nl_ltt, nl_le, nl_lle, nl_lee, nl_eq, nl_leq, nl_ee, nl_div, nl_rem, nl_cl, nl_n1, nl_n2, nl_n3, nl_n4, nl_add, nl_ladd, nl_aa, nl_mul, nl_rmul, nl_mm, pu_wi_1, pu_wi_2, bX12_call_52, bX12_call_110, bX12_call_97, a_ai, a_ald, a_cv, a_gr, a_iceq, a_icge, a_icgt, a_icle, a_ifeq, a_ild, a_inc, a_ist, a_isub, a_push, fx_71_0 hx, sh_71, sh_72, pu_rv, pu_as, Value.category, pu_bk, pu_kl, pu_qe0, pu_qe1, h5, hc, ne, e1, e2, c2', c2, hfx, c3']
            all_goals try simp [bX12_call_52, bX12_call_110, bX12_call_97, a_ai, a_ald, a_cv, a_gr, a_iceq, a_icge, a_icgt, a_icle, a_ifeq, a_ild, a_inc, a_ist, a_isub, a_push, fx_71_0 hx, sh_71, sh_72, pu_rv, pu_as, Value.category, pu_bk, pu_kl, List.replicate, pu_wi_1, pu_wi_2, nl_add, nl_ladd, nl_aa, nl_mul, nl_rmul, nl_mm, pu_qe0, pu_qe1, h5, hc, ne, e1, e2, c2', c2, hfx, c3']
            all_goals try simp (maxSteps := 400000) (disch := omega) [nl_tle, nl_fle, nl_tlt, nl_flt, nl_teq, nl_feq, nl_sub, nl_ss, nl_lt, nl_llt, nl_ltt, nl_le, nl_lle, nl_lee, nl_eq, nl_leq, nl_ee, nl_div, nl_rem, nl_cl, nl_n1, nl_n2, nl_n3, nl_n4, nl_add, nl_ladd, nl_aa, nl_mul, nl_rmul, nl_mm, pu_wi_1, pu_wi_2, bX12_call_52, bX12_call_110, bX12_call_97, a_ai, a_ald, a_cv, a_gr, a_iceq, a_icge, a_icgt, a_icle, a_ifeq, a_ild, a_inc, a_ist, a_isub, a_push, fx_71_0 hx, sh_71, sh_72, pu_rv, pu_as, Value.category, pu_bk, pu_kl, pu_qe0, pu_qe1, h5, hc, ne, e1, e2, c2', c2, hfx, c3']
            all_goals try simp [bX12_call_52, bX12_call_110, bX12_call_97, a_ai, a_ald, a_cv, a_gr, a_iceq, a_icge, a_icgt, a_icle, a_ifeq, a_ild, a_inc, a_ist, a_isub, a_push, fx_71_0 hx, sh_71, sh_72, pu_rv, pu_as, Value.category, pu_bk, pu_kl, List.replicate, pu_wi_1, pu_wi_2, nl_add, nl_ladd, nl_aa, nl_mul, nl_rmul, nl_mm, pu_qe0, pu_qe1, h5, hc, ne, e1, e2, c2', c2, hfx, c3']
        · obtain ⟨n2, a1, a2, a3, a4⟩ := r_call_p hx hr hw Y a hY ha t2 m (i + 1) (I 7 i).toNatClampNeg (by omega) c2
          refine ⟨n2, by omega, a2, fun p h1 h2 h3 h4 => ?_, ?_⟩
          · by_cases z : p = i
            · subst z
              rw [f.1]
              exact nI_le (by omega) (by omega)
            · exact a3 p (by omega) h2 h3 h4
          · rw [← a4, qX12_call_52]
            have c3' := py_m1_le (a := (I 7 i).toNatClampNeg) (b := n1) (by omega) (by omega)
            rw [eq_false c3] at c3'
            generalize nI n1 - 1 = nx at *
            generalize (I 7 i).toNatClampNeg = fp at *
            generalize hfx : nI fp - 1 = fx at *
            simp [bX12_call_52, bX12_call_110, bX12_call_97, a_ai, a_ald, a_cv, a_gr, a_iceq, a_icge, a_icgt, a_icle, a_ifeq, a_ild, a_inc, a_ist, a_isub, a_push, fx_71_0 hx, sh_71, sh_72, pu_rv, pu_as, Value.category, pu_bk, pu_kl, List.replicate, pu_wi_1, pu_wi_2, nl_add, nl_ladd, nl_aa, nl_mul, nl_rmul, nl_mm, pu_qe0, pu_qe1, h5, hc, ne, e1, e2, c2', c2, hfx, c3']
            all_goals try simp (maxSteps := 400000) (disch := omega) [nl_tle, nl_fle, nl_tlt, nl_flt, nl_teq, nl_feq, nl_sub, nl_ss, nl_lt, nl_llt, nl_ltt, nl_le, nl_lle, nl_lee, nl_eq, nl_leq, nl_ee, nl_div, nl_rem, nl_cl, nl_n1, nl_n2, nl_n3, nl_n4, nl_add, nl_ladd, nl_aa, nl_mul, nl_rmul, nl_mm, pu_wi_1, pu_wi_2, bX12_call_52, bX12_call_110, bX12_call_97, a_ai, a_ald, a_cv, a_gr, a_iceq, a_icge, a_icgt, a_icle, a_ifeq, a_ild, a_inc, a_ist, a_isub, a_push, fx_71_0 hx, sh_71, sh_72, pu_rv, pu_as, Value.category, pu_bk, pu_kl, pu_qe0, pu_qe1, h5, hc, ne, e1, e2, c2', c2, hfx, c3']
            all_goals try simp [bX12_call_52, bX12_call_110, bX12_call_97, a_ai, a_ald, a_cv, a_gr, a_iceq, a_icge, a_icgt, a_icle, a_ifeq, a_ild, a_inc, a_ist, a_isub, a_push, fx_71_0 hx, sh_71, sh_72, pu_rv, pu_as, Value.category, pu_bk, pu_kl, List.replicate, pu_wi_1, pu_wi_2, nl_add, nl_ladd, nl_aa, nl_mul, nl_rmul, nl_mm, pu_qe0, pu_qe1, h5, hc, ne, e1, e2, c2', c2, hfx, c3']
            all_goals try simp (maxSteps := 400000) (disch := omega) [nl_tle, nl_fle, nl_tlt, nl_flt, nl_teq, nl_feq, nl_sub, nl_ss, nl_lt, nl_llt, nl_ltt, nl_le, nl_lle, nl_lee, nl_eq, nl_leq, nl_ee, nl_div, nl_rem, nl_cl, nl_n1, nl_n2, nl_n3, nl_n4, nl_add, nl_ladd, nl_aa, nl_mul, nl_rmul, nl_mm, pu_wi_1, pu_wi_2, bX12_call_52, bX12_call_110, bX12_call_97, a_ai, a_ald, a_cv, a_gr, a_iceq, a_icge, a_icgt, a_icle, a_ifeq, a_ild, a_inc, a_ist, a_isub, a_push, fx_71_0 hx, sh_71, sh_72, pu_rv, pu_as, Value.category, pu_bk, pu_kl, pu_qe0, pu_qe1, h5, hc, ne, e1, e2, c2', c2, hfx, c3']
            all_goals try simp [bX12_call_52, bX12_call_110, bX12_call_97, a_ai, a_ald, a_cv, a_gr, a_iceq, a_icge, a_icgt, a_icle, a_ifeq, a_ild, a_inc, a_ist, a_isub, a_push, fx_71_0 hx, sh_71, sh_72, pu_rv, pu_as, Value.category, pu_bk, pu_kl, List.replicate, pu_wi_1, pu_wi_2, nl_add, nl_ladd, nl_aa, nl_mul, nl_rmul, nl_mm, pu_qe0, pu_qe1, h5, hc, ne, e1, e2, c2', c2, hfx, c3']
            all_goals try simp (maxSteps := 400000) (disch := omega) [nl_tle, nl_fle, nl_tlt, nl_flt, nl_teq, nl_feq, nl_sub, nl_ss, nl_lt, nl_llt, nl_ltt, nl_le, nl_lle, nl_lee, nl_eq, nl_leq, nl_ee, nl_div, nl_rem, nl_cl, nl_n1, nl_n2, nl_n3, nl_n4, nl_add, nl_ladd, nl_aa, nl_mul, nl_rmul, nl_mm, pu_wi_1, pu_wi_2, bX12_call_52, bX12_call_110, bX12_call_97, a_ai, a_ald, a_cv, a_gr, a_iceq, a_icge, a_icgt, a_icle, a_ifeq, a_ild, a_inc, a_ist, a_isub, a_push, fx_71_0 hx, sh_71, sh_72, pu_rv, pu_as, Value.category, pu_bk, pu_kl, pu_qe0, pu_qe1, h5, hc, ne, e1, e2, c2', c2, hfx, c3']
            all_goals try simp [bX12_call_52, bX12_call_110, bX12_call_97, a_ai, a_ald, a_cv, a_gr, a_iceq, a_icge, a_icgt, a_icle, a_ifeq, a_ild, a_inc, a_ist, a_isub, a_push, fx_71_0 hx, sh_71, sh_72, pu_rv, pu_as, Value.category, pu_bk, pu_kl, List.replicate, pu_wi_1, pu_wi_2, nl_add, nl_ladd, nl_aa, nl_mul, nl_rmul, nl_mm, pu_qe0, pu_qe1, h5, hc, ne, e1, e2, c2', c2, hfx, c3']
      · have c2' : nI a < nI (I 7 i).toNatClampNeg := nI_lt (by omega) (by omega)
        obtain ⟨n2, a1, a2, a3, a4⟩ := r_call_p hx hr hw Y a hY ha t2 m (i + 1) n1 (by omega) hn
        refine ⟨n2, a1, a2, fun p h1 h2 h3 h4 => ?_, ?_⟩
        · by_cases z : p = i
          · subst z
            rw [f.1, nI_leI (by omega) (by omega)] at h4
            omega
          · exact a3 p (by omega) h2 h3 h4
        · rw [← a4, qX12_call_52]
          generalize nI n1 - 1 = nx at *
          generalize (I 7 i).toNatClampNeg = fp at *
          simp [bX12_call_52, bX12_call_110, bX12_call_97, a_ai, a_ald, a_cv, a_gr, a_iceq, a_icge, a_icgt, a_icle, a_ifeq, a_ild, a_inc, a_ist, a_isub, a_push, fx_71_0 hx, sh_71, sh_72, pu_rv, pu_as, Value.category, pu_bk, pu_kl, List.replicate, pu_wi_1, pu_wi_2, nl_add, nl_ladd, nl_aa, nl_mul, nl_rmul, nl_mm, pu_qe0, pu_qe1, h5, hc, ne, e1, e2, c2', c2]
          all_goals try simp (maxSteps := 400000) (disch := omega) [nl_tle, nl_fle, nl_tlt, nl_flt, nl_teq, nl_feq, nl_sub, nl_ss, nl_lt, nl_llt, nl_ltt, nl_le, nl_lle, nl_lee, nl_eq, nl_leq, nl_ee, nl_div, nl_rem, nl_cl, nl_n1, nl_n2, nl_n3, nl_n4, nl_add, nl_ladd, nl_aa, nl_mul, nl_rmul, nl_mm, pu_wi_1, pu_wi_2, bX12_call_52, bX12_call_110, bX12_call_97, a_ai, a_ald, a_cv, a_gr, a_iceq, a_icge, a_icgt, a_icle, a_ifeq, a_ild, a_inc, a_ist, a_isub, a_push, fx_71_0 hx, sh_71, sh_72, pu_rv, pu_as, Value.category, pu_bk, pu_kl, pu_qe0, pu_qe1, h5, hc, ne, e1, e2, c2', c2]
          all_goals try simp [bX12_call_52, bX12_call_110, bX12_call_97, a_ai, a_ald, a_cv, a_gr, a_iceq, a_icge, a_icgt, a_icle, a_ifeq, a_ild, a_inc, a_ist, a_isub, a_push, fx_71_0 hx, sh_71, sh_72, pu_rv, pu_as, Value.category, pu_bk, pu_kl, List.replicate, pu_wi_1, pu_wi_2, nl_add, nl_ladd, nl_aa, nl_mul, nl_rmul, nl_mm, pu_qe0, pu_qe1, h5, hc, ne, e1, e2, c2', c2]
          all_goals try simp (maxSteps := 400000) (disch := omega) [nl_tle, nl_fle, nl_tlt, nl_flt, nl_teq, nl_feq, nl_sub, nl_ss, nl_lt, nl_llt, nl_ltt, nl_le, nl_lle, nl_lee, nl_eq, nl_leq, nl_ee, nl_div, nl_rem, nl_cl, nl_n1, nl_n2, nl_n3, nl_n4, nl_add, nl_ladd, nl_aa, nl_mul, nl_rmul, nl_mm, pu_wi_1, pu_wi_2, bX12_call_52, bX12_call_110, bX12_call_97, a_ai, a_ald, a_cv, a_gr, a_iceq, a_icge, a_icgt, a_icle, a_ifeq, a_ild, a_inc, a_ist, a_isub, a_push, fx_71_0 hx, sh_71, sh_72, pu_rv, pu_as, Value.category, pu_bk, pu_kl, pu_qe0, pu_qe1, h5, hc, ne, e1, e2, c2', c2]
          all_goals try simp [bX12_call_52, bX12_call_110, bX12_call_97, a_ai, a_ald, a_cv, a_gr, a_iceq, a_icge, a_icgt, a_icle, a_ifeq, a_ild, a_inc, a_ist, a_isub, a_push, fx_71_0 hx, sh_71, sh_72, pu_rv, pu_as, Value.category, pu_bk, pu_kl, List.replicate, pu_wi_1, pu_wi_2, nl_add, nl_ladd, nl_aa, nl_mul, nl_rmul, nl_mm, pu_qe0, pu_qe1, h5, hc, ne, e1, e2, c2', c2]
          all_goals try simp (maxSteps := 400000) (disch := omega) [nl_tle, nl_fle, nl_tlt, nl_flt, nl_teq, nl_feq, nl_sub, nl_ss, nl_lt, nl_llt, nl_ltt, nl_le, nl_lle, nl_lee, nl_eq, nl_leq, nl_ee, nl_div, nl_rem, nl_cl, nl_n1, nl_n2, nl_n3, nl_n4, nl_add, nl_ladd, nl_aa, nl_mul, nl_rmul, nl_mm, pu_wi_1, pu_wi_2, bX12_call_52, bX12_call_110, bX12_call_97, a_ai, a_ald, a_cv, a_gr, a_iceq, a_icge, a_icgt, a_icle, a_ifeq, a_ild, a_inc, a_ist, a_isub, a_push, fx_71_0 hx, sh_71, sh_72, pu_rv, pu_as, Value.category, pu_bk, pu_kl, pu_qe0, pu_qe1, h5, hc, ne, e1, e2, c2', c2]
          all_goals try simp [bX12_call_52, bX12_call_110, bX12_call_97, a_ai, a_ald, a_cv, a_gr, a_iceq, a_icge, a_icgt, a_icle, a_ifeq, a_ild, a_inc, a_ist, a_isub, a_push, fx_71_0 hx, sh_71, sh_72, pu_rv, pu_as, Value.category, pu_bk, pu_kl, List.replicate, pu_wi_1, pu_wi_2, nl_add, nl_ladd, nl_aa, nl_mul, nl_rmul, nl_mm, pu_qe0, pu_qe1, h5, hc, ne, e1, e2, c2', c2]
    · rw [pu_q0 c1] at e1
      obtain ⟨n2, a1, a2, a3, a4⟩ := r_call_p hx hr hw Y a hY ha t2 m (i + 1) n1 (by omega) hn
      refine ⟨n2, a1, a2, fun p h1 h2 h3 h4 => ?_, ?_⟩
      · by_cases z : p = i
        · subst z
          exact absurd h3 c1
        · exact a3 p (by omega) h2 h3 h4
      · rw [← a4, qX12_call_52]
        generalize nI n1 - 1 = nx at *
        simp [bX12_call_52, bX12_call_110, bX12_call_97, a_ai, a_ald, a_cv, a_gr, a_iceq, a_icge, a_icgt, a_icle, a_ifeq, a_ild, a_inc, a_ist, a_isub, a_push, fx_71_0 hx, sh_71, sh_72, pu_rv, pu_as, Value.category, pu_bk, pu_kl, List.replicate, pu_wi_1, pu_wi_2, nl_add, nl_ladd, nl_aa, nl_mul, nl_rmul, nl_mm, pu_qe0, pu_qe1, h5, hc, ne, e1]
        all_goals try simp (maxSteps := 400000) (disch := omega) [nl_tle, nl_fle, nl_tlt, nl_flt, nl_teq, nl_feq, nl_sub, nl_ss, nl_lt, nl_llt, nl_ltt, nl_le, nl_lle, nl_lee, nl_eq, nl_leq, nl_ee, nl_div, nl_rem, nl_cl, nl_n1, nl_n2, nl_n3, nl_n4, nl_add, nl_ladd, nl_aa, nl_mul, nl_rmul, nl_mm, pu_wi_1, pu_wi_2, bX12_call_52, bX12_call_110, bX12_call_97, a_ai, a_ald, a_cv, a_gr, a_iceq, a_icge, a_icgt, a_icle, a_ifeq, a_ild, a_inc, a_ist, a_isub, a_push, fx_71_0 hx, sh_71, sh_72, pu_rv, pu_as, Value.category, pu_bk, pu_kl, pu_qe0, pu_qe1, h5, hc, ne, e1]
        all_goals try simp [bX12_call_52, bX12_call_110, bX12_call_97, a_ai, a_ald, a_cv, a_gr, a_iceq, a_icge, a_icgt, a_icle, a_ifeq, a_ild, a_inc, a_ist, a_isub, a_push, fx_71_0 hx, sh_71, sh_72, pu_rv, pu_as, Value.category, pu_bk, pu_kl, List.replicate, pu_wi_1, pu_wi_2, nl_add, nl_ladd, nl_aa, nl_mul, nl_rmul, nl_mm, pu_qe0, pu_qe1, h5, hc, ne, e1]
        all_goals try simp (maxSteps := 400000) (disch := omega) [nl_tle, nl_fle, nl_tlt, nl_flt, nl_teq, nl_feq, nl_sub, nl_ss, nl_lt, nl_llt, nl_ltt, nl_le, nl_lle, nl_lee, nl_eq, nl_leq, nl_ee, nl_div, nl_rem, nl_cl, nl_n1, nl_n2, nl_n3, nl_n4, nl_add, nl_ladd, nl_aa, nl_mul, nl_rmul, nl_mm, pu_wi_1, pu_wi_2, bX12_call_52, bX12_call_110, bX12_call_97, a_ai, a_ald, a_cv, a_gr, a_iceq, a_icge, a_icgt, a_icle, a_ifeq, a_ild, a_inc, a_ist, a_isub, a_push, fx_71_0 hx, sh_71, sh_72, pu_rv, pu_as, Value.category, pu_bk, pu_kl, pu_qe0, pu_qe1, h5, hc, ne, e1]
        all_goals try simp [bX12_call_52, bX12_call_110, bX12_call_97, a_ai, a_ald, a_cv, a_gr, a_iceq, a_icge, a_icgt, a_icle, a_ifeq, a_ild, a_inc, a_ist, a_isub, a_push, fx_71_0 hx, sh_71, sh_72, pu_rv, pu_as, Value.category, pu_bk, pu_kl, List.replicate, pu_wi_1, pu_wi_2, nl_add, nl_ladd, nl_aa, nl_mul, nl_rmul, nl_mm, pu_qe0, pu_qe1, h5, hc, ne, e1]
        all_goals try simp (maxSteps := 400000) (disch := omega) [nl_tle, nl_fle, nl_tlt, nl_flt, nl_teq, nl_feq, nl_sub, nl_ss, nl_lt, nl_llt, nl_ltt, nl_le, nl_lle, nl_lee, nl_eq, nl_leq, nl_ee, nl_div, nl_rem, nl_cl, nl_n1, nl_n2, nl_n3, nl_n4, nl_add, nl_ladd, nl_aa, nl_mul, nl_rmul, nl_mm, pu_wi_1, pu_wi_2, bX12_call_52, bX12_call_110, bX12_call_97, a_ai, a_ald, a_cv, a_gr, a_iceq, a_icge, a_icgt, a_icle, a_ifeq, a_ild, a_inc, a_ist, a_isub, a_push, fx_71_0 hx, sh_71, sh_72, pu_rv, pu_as, Value.category, pu_bk, pu_kl, pu_qe0, pu_qe1, h5, hc, ne, e1]
        all_goals try simp [bX12_call_52, bX12_call_110, bX12_call_97, a_ai, a_ald, a_cv, a_gr, a_iceq, a_icge, a_icgt, a_icle, a_ifeq, a_ild, a_inc, a_ist, a_isub, a_push, fx_71_0 hx, sh_71, sh_72, pu_rv, pu_as, Value.category, pu_bk, pu_kl, List.replicate, pu_wi_1, pu_wi_2, nl_add, nl_ladd, nl_aa, nl_mul, nl_rmul, nl_mm, pu_qe0, pu_qe1, h5, hc, ne, e1]
theorem r_call_l (hw : pu_WF I L) {nm tw : Nat → Int64} {w x k : Nat} (hxl : x < 5) (hk : k < 100) (Y : Nat) (hY : Y ≤ 109574) : ∀ (n a : Nat) (M : pu_M) (t2 t4 t5 : Option Value), a < n → a ≤ Y → py_H M I L nm tw w x k → (∀ d, a ≤ d → d < Y → py_sv I L nm tw w x k (nI d) = -1) → ∃ v, ((∀ d, d < Y → py_sv I L nm tw w x k (nI d) = -1) ∧ pu_r 504 [some (.ref 71), some (.int (nI Y)), t2, some (.int (nI a)), t4, t5] [] M = some (some (.int (-1)), pu_wi M 71 21 v)) ∨ ∃ d, d < Y ∧ py_sv I L nm tw w x k (nI d) ≠ -1 ∧ (∀ e, d < e → e < Y → py_sv I L nm tw w x k (nI e) = -1) ∧ pu_r 504 [some (.ref 71), some (.int (nI Y)), t2, some (.int (nI a)), t4, t5] [] M = some (some (.int (-100 - py_sv I L nm tw w x k (nI d))), pu_wi (pu_wi M 71 21 v) 72 16 (nI (d + 1)))
  | 0, a, M, t2, t4, t5, h, _, _, _ => absurd h (Nat.not_lt_zero _)
  | n + 1, a, M, t2, t4, t5, h, haY, H, g => by
    obtain ⟨hx, hr, h3, h4, h17, h18, h19⟩ := id H
    by_cases a0 : a = 0
    · subst a0
      refine ⟨M.1 71 21, Or.inl ⟨fun d hd => g d (by omega) hd, ?_⟩⟩
      rw [py_wi_id, nI_0]
      rw [qX12_call_32]
      simp [bX12_call_32, bX12_call_157, bX12_call_49, a_icne, a_ifle, a_ild, a_iret, a_ist, a_isub, a_push, pu_rv, pu_as, Value.category, pu_bk, pu_kl, List.replicate, pu_wi_1, pu_wi_2, nl_add, nl_ladd, nl_aa, nl_mul, nl_rmul, nl_mm, pu_qe0, pu_qe1]
      all_goals try simp (maxSteps := 400000) (disch := omega) [nl_tle, nl_fle, nl_tlt, nl_flt, nl_teq, nl_feq, nl_sub, nl_ss, nl_lt, nl_llt, nl_ltt, nl_le, nl_lle, nl_lee, nl_eq, nl_leq, nl_ee, nl_div, nl_rem, nl_cl, nl_n1, nl_n2, nl_n3, nl_n4, nl_add, nl_ladd, nl_aa, nl_mul, nl_rmul, nl_mm, pu_wi_1, pu_wi_2, bX12_call_32, bX12_call_157, bX12_call_49, a_icne, a_ifle, a_ild, a_iret, a_ist, a_isub, a_push, pu_rv, pu_as, Value.category, pu_bk, pu_kl, pu_qe0, pu_qe1]
      all_goals try simp [bX12_call_32, bX12_call_157, bX12_call_49, a_icne, a_ifle, a_ild, a_iret, a_ist, a_isub, a_push, pu_rv, pu_as, Value.category, pu_bk, pu_kl, List.replicate, pu_wi_1, pu_wi_2, nl_add, nl_ladd, nl_aa, nl_mul, nl_rmul, nl_mm, pu_qe0, pu_qe1]
      all_goals try simp (maxSteps := 400000) (disch := omega) [nl_tle, nl_fle, nl_tlt, nl_flt, nl_teq, nl_feq, nl_sub, nl_ss, nl_lt, nl_llt, nl_ltt, nl_le, nl_lle, nl_lee, nl_eq, nl_leq, nl_ee, nl_div, nl_rem, nl_cl, nl_n1, nl_n2, nl_n3, nl_n4, nl_add, nl_ladd, nl_aa, nl_mul, nl_rmul, nl_mm, pu_wi_1, pu_wi_2, bX12_call_32, bX12_call_157, bX12_call_49, a_icne, a_ifle, a_ild, a_iret, a_ist, a_isub, a_push, pu_rv, pu_as, Value.category, pu_bk, pu_kl, pu_qe0, pu_qe1]
      all_goals try simp [bX12_call_32, bX12_call_157, bX12_call_49, a_icne, a_ifle, a_ild, a_iret, a_ist, a_isub, a_push, pu_rv, pu_as, Value.category, pu_bk, pu_kl, List.replicate, pu_wi_1, pu_wi_2, nl_add, nl_ladd, nl_aa, nl_mul, nl_rmul, nl_mm, pu_qe0, pu_qe1]
      all_goals try simp (maxSteps := 400000) (disch := omega) [nl_tle, nl_fle, nl_tlt, nl_flt, nl_teq, nl_feq, nl_sub, nl_ss, nl_lt, nl_llt, nl_ltt, nl_le, nl_lle, nl_lee, nl_eq, nl_leq, nl_ee, nl_div, nl_rem, nl_cl, nl_n1, nl_n2, nl_n3, nl_n4, nl_add, nl_ladd, nl_aa, nl_mul, nl_rmul, nl_mm, pu_wi_1, pu_wi_2, bX12_call_32, bX12_call_157, bX12_call_49, a_icne, a_ifle, a_ild, a_iret, a_ist, a_isub, a_push, pu_rv, pu_as, Value.category, pu_bk, pu_kl, pu_qe0, pu_qe1]
      all_goals try simp [bX12_call_32, bX12_call_157, bX12_call_49, a_icne, a_ifle, a_ild, a_iret, a_ist, a_isub, a_push, pu_rv, pu_as, Value.category, pu_bk, pu_kl, List.replicate, pu_wi_1, pu_wi_2, nl_add, nl_ladd, nl_aa, nl_mul, nl_rmul, nl_mm, pu_qe0, pu_qe1]
    have ap : ¬ nI a ≤ 0 := fun q => by
      rw [show (0 : Int32) = nI 0 from rfl, nI_leI (by omega) (by omega)] at q
      omega
    -- next is n2 - 1; nothing begins between n2 and asked
    have NX : ∃ n2 u5, n2 ≤ a ∧ (a = Y → n2 = a) ∧ (a ≠ Y → ∀ p, p < cP I → pu_kn I p → I 7 p ≤ nI a → I 7 p ≤ nI n2) ∧ pu_r 504 [some (.ref 71), some (.int (nI Y)), t2, some (.int (nI a)), t4, t5] [] M = kX12_call_116 pu_r [some (.ref 71), some (.int (nI Y)), t2, some (.int (nI a)), some (.int (nI n2 - 1)), u5] [] M := by
      by_cases e : a = Y
      · subst e
        have h5 := rl_h5 hr
        have bP := wx_bP hw
        refine ⟨a, some (.int 0), Nat.le_refl _, fun _ => rfl, fun z => absurd rfl z, ?_⟩
        have E : pu_r 505 [some (.ref 71), some (.int (nI a)), t2, some (.int (nI a)), some (.int (nI a - 1)), some (.int 0)] [] M = kX12_call_116 pu_r [some (.ref 71), some (.int (nI a)), t2, some (.int (nI a)), some (.int (nI a - 1)), some (.int 0)] [] M := by
          rw [qX12_call_52]
          generalize nI a - 1 = nx
          by_cases c : nI (cP I) ≤ 0
          · simp [bX12_call_52, bX12_call_110, bX12_call_97, a_ai, a_ald, a_cv, a_gr, a_iceq, a_icge, a_icgt, a_icle, a_ifeq, a_ild, a_inc, a_ist, a_isub, a_push, fx_71_0 hx, sh_71, sh_72, pu_rv, pu_as, Value.category, pu_bk, pu_kl, List.replicate, pu_wi_1, pu_wi_2, nl_add, nl_ladd, nl_aa, nl_mul, nl_rmul, nl_mm, pu_qe0, pu_qe1, h5, c]
            all_goals try simp (maxSteps := 400000) (disch := omega) [nl_tle, nl_fle, nl_tlt, nl_flt, nl_teq, nl_feq, nl_sub, nl_ss, nl_lt, nl_llt, nl_ltt, nl_le, nl_lle, nl_lee, nl_eq, nl_leq, nl_ee, nl_div, nl_rem, nl_cl, nl_n1, nl_n2, nl_n3, nl_n4, nl_add, nl_ladd, nl_aa, nl_mul, nl_rmul, nl_mm, pu_wi_1, pu_wi_2, bX12_call_52, bX12_call_110, bX12_call_97, a_ai, a_ald, a_cv, a_gr, a_iceq, a_icge, a_icgt, a_icle, a_ifeq, a_ild, a_inc, a_ist, a_isub, a_push, fx_71_0 hx, sh_71, sh_72, pu_rv, pu_as, Value.category, pu_bk, pu_kl, pu_qe0, pu_qe1, h5, c]
            all_goals try simp [bX12_call_52, bX12_call_110, bX12_call_97, a_ai, a_ald, a_cv, a_gr, a_iceq, a_icge, a_icgt, a_icle, a_ifeq, a_ild, a_inc, a_ist, a_isub, a_push, fx_71_0 hx, sh_71, sh_72, pu_rv, pu_as, Value.category, pu_bk, pu_kl, List.replicate, pu_wi_1, pu_wi_2, nl_add, nl_ladd, nl_aa, nl_mul, nl_rmul, nl_mm, pu_qe0, pu_qe1, h5, c]
            all_goals try simp (maxSteps := 400000) (disch := omega) [nl_tle, nl_fle, nl_tlt, nl_flt, nl_teq, nl_feq, nl_sub, nl_ss, nl_lt, nl_llt, nl_ltt, nl_le, nl_lle, nl_lee, nl_eq, nl_leq, nl_ee, nl_div, nl_rem, nl_cl, nl_n1, nl_n2, nl_n3, nl_n4, nl_add, nl_ladd, nl_aa, nl_mul, nl_rmul, nl_mm, pu_wi_1, pu_wi_2, bX12_call_52, bX12_call_110, bX12_call_97, a_ai, a_ald, a_cv, a_gr, a_iceq, a_icge, a_icgt, a_icle, a_ifeq, a_ild, a_inc, a_ist, a_isub, a_push, fx_71_0 hx, sh_71, sh_72, pu_rv, pu_as, Value.category, pu_bk, pu_kl, pu_qe0, pu_qe1, h5, c]
            all_goals try simp [bX12_call_52, bX12_call_110, bX12_call_97, a_ai, a_ald, a_cv, a_gr, a_iceq, a_icge, a_icgt, a_icle, a_ifeq, a_ild, a_inc, a_ist, a_isub, a_push, fx_71_0 hx, sh_71, sh_72, pu_rv, pu_as, Value.category, pu_bk, pu_kl, List.replicate, pu_wi_1, pu_wi_2, nl_add, nl_ladd, nl_aa, nl_mul, nl_rmul, nl_mm, pu_qe0, pu_qe1, h5, c]
            all_goals try simp (maxSteps := 400000) (disch := omega) [nl_tle, nl_fle, nl_tlt, nl_flt, nl_teq, nl_feq, nl_sub, nl_ss, nl_lt, nl_llt, nl_ltt, nl_le, nl_lle, nl_lee, nl_eq, nl_leq, nl_ee, nl_div, nl_rem, nl_cl, nl_n1, nl_n2, nl_n3, nl_n4, nl_add, nl_ladd, nl_aa, nl_mul, nl_rmul, nl_mm, pu_wi_1, pu_wi_2, bX12_call_52, bX12_call_110, bX12_call_97, a_ai, a_ald, a_cv, a_gr, a_iceq, a_icge, a_icgt, a_icle, a_ifeq, a_ild, a_inc, a_ist, a_isub, a_push, fx_71_0 hx, sh_71, sh_72, pu_rv, pu_as, Value.category, pu_bk, pu_kl, pu_qe0, pu_qe1, h5, c]
            all_goals try simp [bX12_call_52, bX12_call_110, bX12_call_97, a_ai, a_ald, a_cv, a_gr, a_iceq, a_icge, a_icgt, a_icle, a_ifeq, a_ild, a_inc, a_ist, a_isub, a_push, fx_71_0 hx, sh_71, sh_72, pu_rv, pu_as, Value.category, pu_bk, pu_kl, List.replicate, pu_wi_1, pu_wi_2, nl_add, nl_ladd, nl_aa, nl_mul, nl_rmul, nl_mm, pu_qe0, pu_qe1, h5, c]
          · simp [bX12_call_52, bX12_call_110, bX12_call_97, a_ai, a_ald, a_cv, a_gr, a_iceq, a_icge, a_icgt, a_icle, a_ifeq, a_ild, a_inc, a_ist, a_isub, a_push, fx_71_0 hx, sh_71, sh_72, pu_rv, pu_as, Value.category, pu_bk, pu_kl, List.replicate, pu_wi_1, pu_wi_2, nl_add, nl_ladd, nl_aa, nl_mul, nl_rmul, nl_mm, pu_qe0, pu_qe1, h5, c]
            all_goals try simp (maxSteps := 400000) (disch := omega) [nl_tle, nl_fle, nl_tlt, nl_flt, nl_teq, nl_feq, nl_sub, nl_ss, nl_lt, nl_llt, nl_ltt, nl_le, nl_lle, nl_lee, nl_eq, nl_leq, nl_ee, nl_div, nl_rem, nl_cl, nl_n1, nl_n2, nl_n3, nl_n4, nl_add, nl_ladd, nl_aa, nl_mul, nl_rmul, nl_mm, pu_wi_1, pu_wi_2, bX12_call_52, bX12_call_110, bX12_call_97, a_ai, a_ald, a_cv, a_gr, a_iceq, a_icge, a_icgt, a_icle, a_ifeq, a_ild, a_inc, a_ist, a_isub, a_push, fx_71_0 hx, sh_71, sh_72, pu_rv, pu_as, Value.category, pu_bk, pu_kl, pu_qe0, pu_qe1, h5, c]
            all_goals try simp [bX12_call_52, bX12_call_110, bX12_call_97, a_ai, a_ald, a_cv, a_gr, a_iceq, a_icge, a_icgt, a_icle, a_ifeq, a_ild, a_inc, a_ist, a_isub, a_push, fx_71_0 hx, sh_71, sh_72, pu_rv, pu_as, Value.category, pu_bk, pu_kl, List.replicate, pu_wi_1, pu_wi_2, nl_add, nl_ladd, nl_aa, nl_mul, nl_rmul, nl_mm, pu_qe0, pu_qe1, h5, c]
            all_goals try simp (maxSteps := 400000) (disch := omega) [nl_tle, nl_fle, nl_tlt, nl_flt, nl_teq, nl_feq, nl_sub, nl_ss, nl_lt, nl_llt, nl_ltt, nl_le, nl_lle, nl_lee, nl_eq, nl_leq, nl_ee, nl_div, nl_rem, nl_cl, nl_n1, nl_n2, nl_n3, nl_n4, nl_add, nl_ladd, nl_aa, nl_mul, nl_rmul, nl_mm, pu_wi_1, pu_wi_2, bX12_call_52, bX12_call_110, bX12_call_97, a_ai, a_ald, a_cv, a_gr, a_iceq, a_icge, a_icgt, a_icle, a_ifeq, a_ild, a_inc, a_ist, a_isub, a_push, fx_71_0 hx, sh_71, sh_72, pu_rv, pu_as, Value.category, pu_bk, pu_kl, pu_qe0, pu_qe1, h5, c]
            all_goals try simp [bX12_call_52, bX12_call_110, bX12_call_97, a_ai, a_ald, a_cv, a_gr, a_iceq, a_icge, a_icgt, a_icle, a_ifeq, a_ild, a_inc, a_ist, a_isub, a_push, fx_71_0 hx, sh_71, sh_72, pu_rv, pu_as, Value.category, pu_bk, pu_kl, List.replicate, pu_wi_1, pu_wi_2, nl_add, nl_ladd, nl_aa, nl_mul, nl_rmul, nl_mm, pu_qe0, pu_qe1, h5, c]
            all_goals try simp (maxSteps := 400000) (disch := omega) [nl_tle, nl_fle, nl_tlt, nl_flt, nl_teq, nl_feq, nl_sub, nl_ss, nl_lt, nl_llt, nl_ltt, nl_le, nl_lle, nl_lee, nl_eq, nl_leq, nl_ee, nl_div, nl_rem, nl_cl, nl_n1, nl_n2, nl_n3, nl_n4, nl_add, nl_ladd, nl_aa, nl_mul, nl_rmul, nl_mm, pu_wi_1, pu_wi_2, bX12_call_52, bX12_call_110, bX12_call_97, a_ai, a_ald, a_cv, a_gr, a_iceq, a_icge, a_icgt, a_icle, a_ifeq, a_ild, a_inc, a_ist, a_isub, a_push, fx_71_0 hx, sh_71, sh_72, pu_rv, pu_as, Value.category, pu_bk, pu_kl, pu_qe0, pu_qe1, h5, c]
            all_goals try simp [bX12_call_52, bX12_call_110, bX12_call_97, a_ai, a_ald, a_cv, a_gr, a_iceq, a_icge, a_icgt, a_icle, a_ifeq, a_ild, a_inc, a_ist, a_isub, a_push, fx_71_0 hx, sh_71, sh_72, pu_rv, pu_as, Value.category, pu_bk, pu_kl, List.replicate, pu_wi_1, pu_wi_2, nl_add, nl_ladd, nl_aa, nl_mul, nl_rmul, nl_mm, pu_qe0, pu_qe1, h5, c]
        rw [← E, qX12_call_32]
        generalize hnx : nI a - 1 = nx at *
        simp [bX12_call_32, bX12_call_157, bX12_call_49, a_icne, a_ifle, a_ild, a_iret, a_ist, a_isub, a_push, pu_rv, pu_as, Value.category, pu_bk, pu_kl, List.replicate, pu_wi_1, pu_wi_2, nl_add, nl_ladd, nl_aa, nl_mul, nl_rmul, nl_mm, pu_qe0, pu_qe1, ap, a0, hnx]
        all_goals try simp (maxSteps := 400000) (disch := omega) [nl_tle, nl_fle, nl_tlt, nl_flt, nl_teq, nl_feq, nl_sub, nl_ss, nl_lt, nl_llt, nl_ltt, nl_le, nl_lle, nl_lee, nl_eq, nl_leq, nl_ee, nl_div, nl_rem, nl_cl, nl_n1, nl_n2, nl_n3, nl_n4, nl_add, nl_ladd, nl_aa, nl_mul, nl_rmul, nl_mm, pu_wi_1, pu_wi_2, bX12_call_32, bX12_call_157, bX12_call_49, a_icne, a_ifle, a_ild, a_iret, a_ist, a_isub, a_push, pu_rv, pu_as, Value.category, pu_bk, pu_kl, pu_qe0, pu_qe1, ap, a0, hnx]
        all_goals try simp [bX12_call_32, bX12_call_157, bX12_call_49, a_icne, a_ifle, a_ild, a_iret, a_ist, a_isub, a_push, pu_rv, pu_as, Value.category, pu_bk, pu_kl, List.replicate, pu_wi_1, pu_wi_2, nl_add, nl_ladd, nl_aa, nl_mul, nl_rmul, nl_mm, pu_qe0, pu_qe1, ap, a0, hnx]
        all_goals try simp (maxSteps := 400000) (disch := omega) [nl_tle, nl_fle, nl_tlt, nl_flt, nl_teq, nl_feq, nl_sub, nl_ss, nl_lt, nl_llt, nl_ltt, nl_le, nl_lle, nl_lee, nl_eq, nl_leq, nl_ee, nl_div, nl_rem, nl_cl, nl_n1, nl_n2, nl_n3, nl_n4, nl_add, nl_ladd, nl_aa, nl_mul, nl_rmul, nl_mm, pu_wi_1, pu_wi_2, bX12_call_32, bX12_call_157, bX12_call_49, a_icne, a_ifle, a_ild, a_iret, a_ist, a_isub, a_push, pu_rv, pu_as, Value.category, pu_bk, pu_kl, pu_qe0, pu_qe1, ap, a0, hnx]
        all_goals try simp [bX12_call_32, bX12_call_157, bX12_call_49, a_icne, a_ifle, a_ild, a_iret, a_ist, a_isub, a_push, pu_rv, pu_as, Value.category, pu_bk, pu_kl, List.replicate, pu_wi_1, pu_wi_2, nl_add, nl_ladd, nl_aa, nl_mul, nl_rmul, nl_mm, pu_qe0, pu_qe1, ap, a0, hnx]
        all_goals try simp (maxSteps := 400000) (disch := omega) [nl_tle, nl_fle, nl_tlt, nl_flt, nl_teq, nl_feq, nl_sub, nl_ss, nl_lt, nl_llt, nl_ltt, nl_le, nl_lle, nl_lee, nl_eq, nl_leq, nl_ee, nl_div, nl_rem, nl_cl, nl_n1, nl_n2, nl_n3, nl_n4, nl_add, nl_ladd, nl_aa, nl_mul, nl_rmul, nl_mm, pu_wi_1, pu_wi_2, bX12_call_32, bX12_call_157, bX12_call_49, a_icne, a_ifle, a_ild, a_iret, a_ist, a_isub, a_push, pu_rv, pu_as, Value.category, pu_bk, pu_kl, pu_qe0, pu_qe1, ap, a0, hnx]
        all_goals try simp [bX12_call_32, bX12_call_157, bX12_call_49, a_icne, a_ifle, a_ild, a_iret, a_ist, a_isub, a_push, pu_rv, pu_as, Value.category, pu_bk, pu_kl, List.replicate, pu_wi_1, pu_wi_2, nl_add, nl_ladd, nl_aa, nl_mul, nl_rmul, nl_mm, pu_qe0, pu_qe1, ap, a0, hnx]
      · obtain ⟨n2, b1, b2, b3, b4⟩ := r_call_p hx hr hw Y a hY (by omega) t2 (cP I) 0 0 (by omega) (by omega)
        refine ⟨n2, some (.int (nI (cP I))), b2, fun z => absurd z e, fun _ p hp => b3 p (Nat.zero_le _) hp, ?_⟩
        rw [← b4, nI_0, show (0 : Int32) - 1 = -1 from by decide, qX12_call_32]
        have ne : ¬ nI a = nI Y := fun z => by rw [nI_eq (by omega) (by omega)] at z; exact e z
        simp [bX12_call_32, bX12_call_157, bX12_call_49, a_icne, a_ifle, a_ild, a_iret, a_ist, a_isub, a_push, pu_rv, pu_as, Value.category, pu_bk, pu_kl, List.replicate, pu_wi_1, pu_wi_2, nl_add, nl_ladd, nl_aa, nl_mul, nl_rmul, nl_mm, pu_qe0, pu_qe1, ap, a0, ne, e]
        all_goals try simp (maxSteps := 400000) (disch := omega) [nl_tle, nl_fle, nl_tlt, nl_flt, nl_teq, nl_feq, nl_sub, nl_ss, nl_lt, nl_llt, nl_ltt, nl_le, nl_lle, nl_lee, nl_eq, nl_leq, nl_ee, nl_div, nl_rem, nl_cl, nl_n1, nl_n2, nl_n3, nl_n4, nl_add, nl_ladd, nl_aa, nl_mul, nl_rmul, nl_mm, pu_wi_1, pu_wi_2, bX12_call_32, bX12_call_157, bX12_call_49, a_icne, a_ifle, a_ild, a_iret, a_ist, a_isub, a_push, pu_rv, pu_as, Value.category, pu_bk, pu_kl, pu_qe0, pu_qe1, ap, a0, ne, e]
        all_goals try simp [bX12_call_32, bX12_call_157, bX12_call_49, a_icne, a_ifle, a_ild, a_iret, a_ist, a_isub, a_push, pu_rv, pu_as, Value.category, pu_bk, pu_kl, List.replicate, pu_wi_1, pu_wi_2, nl_add, nl_ladd, nl_aa, nl_mul, nl_rmul, nl_mm, pu_qe0, pu_qe1, ap, a0, ne, e]
        all_goals try simp (maxSteps := 400000) (disch := omega) [nl_tle, nl_fle, nl_tlt, nl_flt, nl_teq, nl_feq, nl_sub, nl_ss, nl_lt, nl_llt, nl_ltt, nl_le, nl_lle, nl_lee, nl_eq, nl_leq, nl_ee, nl_div, nl_rem, nl_cl, nl_n1, nl_n2, nl_n3, nl_n4, nl_add, nl_ladd, nl_aa, nl_mul, nl_rmul, nl_mm, pu_wi_1, pu_wi_2, bX12_call_32, bX12_call_157, bX12_call_49, a_icne, a_ifle, a_ild, a_iret, a_ist, a_isub, a_push, pu_rv, pu_as, Value.category, pu_bk, pu_kl, pu_qe0, pu_qe1, ap, a0, ne, e]
        all_goals try simp [bX12_call_32, bX12_call_157, bX12_call_49, a_icne, a_ifle, a_ild, a_iret, a_ist, a_isub, a_push, pu_rv, pu_as, Value.category, pu_bk, pu_kl, List.replicate, pu_wi_1, pu_wi_2, nl_add, nl_ladd, nl_aa, nl_mul, nl_rmul, nl_mm, pu_qe0, pu_qe1, ap, a0, ne, e]
        all_goals try simp (maxSteps := 400000) (disch := omega) [nl_tle, nl_fle, nl_tlt, nl_flt, nl_teq, nl_feq, nl_sub, nl_ss, nl_lt, nl_llt, nl_ltt, nl_le, nl_lle, nl_lee, nl_eq, nl_leq, nl_ee, nl_div, nl_rem, nl_cl, nl_n1, nl_n2, nl_n3, nl_n4, nl_add, nl_ladd, nl_aa, nl_mul, nl_rmul, nl_mm, pu_wi_1, pu_wi_2, bX12_call_32, bX12_call_157, bX12_call_49, a_icne, a_ifle, a_ild, a_iret, a_ist, a_isub, a_push, pu_rv, pu_as, Value.category, pu_bk, pu_kl, pu_qe0, pu_qe1, ap, a0, ne, e]
        all_goals try simp [bX12_call_32, bX12_call_157, bX12_call_49, a_icne, a_ifle, a_ild, a_iret, a_ist, a_isub, a_push, pu_rv, pu_as, Value.category, pu_bk, pu_kl, List.replicate, pu_wi_1, pu_wi_2, nl_add, nl_ladd, nl_aa, nl_mul, nl_rmul, nl_mm, pu_qe0, pu_qe1, ap, a0, ne, e]
    obtain ⟨n2, u5, b1, b2, b3, b4⟩ := NX
    -- the days from n2 up to asked mean what asked means
    have K : ∀ d, n2 ≤ d → d < Y → py_sv I L nm tw w x k (nI d) = -1 := fun d h1 h2 => by
      by_cases z : a ≤ d
      · exact g d z h2
      · have e : a ≠ Y := fun q => by have := b2 q; omega
        rw [py_sv_c hw (y1 := nI d) (y2 := nI a) (fun p hp kp => ?_) nm tw w x k]
        · exact g a (Nat.le_refl _) (by omega)
        · have f := pu_on (x := I 7 p) (n := 109575) ⟨(wx_pf hw p hp).1, by have := (wx_pf hw p hp).2; omega⟩
          have fl := f.2
          constructor
          · intro q
            rw [f.1, nI_leI (by omega) (by omega)] at q ⊢
            omega
          · intro q
            have := b3 e p hp kp q
            rw [f.1, nI_leI (by omega) (by omega)] at this ⊢
            omega
    by_cases n0 : n2 = 0
    · subst n0
      refine ⟨M.1 71 21, Or.inl ⟨fun d hd => K d (Nat.zero_le _) hd, ?_⟩⟩
      rw [py_wi_id, b4, nI_0, show (0 : Int32) - 1 = -1 from by decide]
      simp [bX12_call_116, bX12_call_123, bX12_call_151, a_ald, a_cv, a_gr, a_iadd, a_iceq, a_ifge, a_ild, a_iret, a_ist, a_isub, a_push, a_wi, sh_71, sh_72, pu_rv, pu_as, Value.category, pu_bk, pu_kl, List.replicate, pu_wi_1, pu_wi_2, nl_add, nl_ladd, nl_aa, nl_mul, nl_rmul, nl_mm, pu_qe0, pu_qe1]
      all_goals try simp (maxSteps := 400000) (disch := omega) [nl_tle, nl_fle, nl_tlt, nl_flt, nl_teq, nl_feq, nl_sub, nl_ss, nl_lt, nl_llt, nl_ltt, nl_le, nl_lle, nl_lee, nl_eq, nl_leq, nl_ee, nl_div, nl_rem, nl_cl, nl_n1, nl_n2, nl_n3, nl_n4, nl_add, nl_ladd, nl_aa, nl_mul, nl_rmul, nl_mm, pu_wi_1, pu_wi_2, bX12_call_116, bX12_call_123, bX12_call_151, a_ald, a_cv, a_gr, a_iadd, a_iceq, a_ifge, a_ild, a_iret, a_ist, a_isub, a_push, a_wi, sh_71, sh_72, pu_rv, pu_as, Value.category, pu_bk, pu_kl, pu_qe0, pu_qe1]
      all_goals try simp [bX12_call_116, bX12_call_123, bX12_call_151, a_ald, a_cv, a_gr, a_iadd, a_iceq, a_ifge, a_ild, a_iret, a_ist, a_isub, a_push, a_wi, sh_71, sh_72, pu_rv, pu_as, Value.category, pu_bk, pu_kl, List.replicate, pu_wi_1, pu_wi_2, nl_add, nl_ladd, nl_aa, nl_mul, nl_rmul, nl_mm, pu_qe0, pu_qe1]
      all_goals try simp (maxSteps := 400000) (disch := omega) [nl_tle, nl_fle, nl_tlt, nl_flt, nl_teq, nl_feq, nl_sub, nl_ss, nl_lt, nl_llt, nl_ltt, nl_le, nl_lle, nl_lee, nl_eq, nl_leq, nl_ee, nl_div, nl_rem, nl_cl, nl_n1, nl_n2, nl_n3, nl_n4, nl_add, nl_ladd, nl_aa, nl_mul, nl_rmul, nl_mm, pu_wi_1, pu_wi_2, bX12_call_116, bX12_call_123, bX12_call_151, a_ald, a_cv, a_gr, a_iadd, a_iceq, a_ifge, a_ild, a_iret, a_ist, a_isub, a_push, a_wi, sh_71, sh_72, pu_rv, pu_as, Value.category, pu_bk, pu_kl, pu_qe0, pu_qe1]
      all_goals try simp [bX12_call_116, bX12_call_123, bX12_call_151, a_ald, a_cv, a_gr, a_iadd, a_iceq, a_ifge, a_ild, a_iret, a_ist, a_isub, a_push, a_wi, sh_71, sh_72, pu_rv, pu_as, Value.category, pu_bk, pu_kl, List.replicate, pu_wi_1, pu_wi_2, nl_add, nl_ladd, nl_aa, nl_mul, nl_rmul, nl_mm, pu_qe0, pu_qe1]
      all_goals try simp (maxSteps := 400000) (disch := omega) [nl_tle, nl_fle, nl_tlt, nl_flt, nl_teq, nl_feq, nl_sub, nl_ss, nl_lt, nl_llt, nl_ltt, nl_le, nl_lle, nl_lee, nl_eq, nl_leq, nl_ee, nl_div, nl_rem, nl_cl, nl_n1, nl_n2, nl_n3, nl_n4, nl_add, nl_ladd, nl_aa, nl_mul, nl_rmul, nl_mm, pu_wi_1, pu_wi_2, bX12_call_116, bX12_call_123, bX12_call_151, a_ald, a_cv, a_gr, a_iadd, a_iceq, a_ifge, a_ild, a_iret, a_ist, a_isub, a_push, a_wi, sh_71, sh_72, pu_rv, pu_as, Value.category, pu_bk, pu_kl, pu_qe0, pu_qe1]
      all_goals try simp [bX12_call_116, bX12_call_123, bX12_call_151, a_ald, a_cv, a_gr, a_iadd, a_iceq, a_ifge, a_ild, a_iret, a_ist, a_isub, a_push, a_wi, sh_71, sh_72, pu_rv, pu_as, Value.category, pu_bk, pu_kl, List.replicate, pu_wi_1, pu_wi_2, nl_add, nl_ladd, nl_aa, nl_mul, nl_rmul, nl_mm, pu_qe0, pu_qe1]
    · have e1 : nI n2 - 1 = nI (n2 - 1) := pk_sub (b := 1) (by omega)
      rw [e1] at b4
      obtain ⟨v, _, _, es⟩ := r_sure hx hr hw nm tw h3 h4 hxl hk h17 h18 h19 (nI (n2 - 1))
      have nn : 0 ≤ nI (n2 - 1) := Int32.not_lt.mp (nI_pos (by omega))
      by_cases c : py_sv I L nm tw w x k (nI (n2 - 1)) = -1
      · rw [c] at es
        have H2 := py_H_w H v
        obtain ⟨v2, r⟩ := r_call_l hw hxl hk Y hY n (n2 - 1) (pu_wi M 71 21 v) (some (.int (-1))) (some (.int (nI (n2 - 1)))) u5 (by omega) (by omega) H2 (fun d h1 h2 => by
          by_cases z : d = n2 - 1
          · rw [z]; exact c
          · exact K d (by omega) h2)
        rw [py_wi_s] at r
        refine ⟨v2, ?_⟩
        have ST : pu_r 504 [some (.ref 71), some (.int (nI Y)), t2, some (.int (nI a)), t4, t5] [] M = pu_r 504 [some (.ref 71), some (.int (nI Y)), some (.int (-1)), some (.int (nI (n2 - 1))), some (.int (nI (n2 - 1))), u5] [] (pu_wi M 71 21 v) := by
          rw [b4]
          generalize pu_wi M 71 21 v = Q at *
          generalize nI (n2 - 1) = nx at *
          simp [bX12_call_116, bX12_call_123, bX12_call_151, a_ald, a_cv, a_gr, a_iadd, a_iceq, a_ifge, a_ild, a_iret, a_ist, a_isub, a_push, a_wi, sh_71, sh_72, pu_rv, pu_as, Value.category, pu_bk, pu_kl, List.replicate, pu_wi_1, pu_wi_2, nl_add, nl_ladd, nl_aa, nl_mul, nl_rmul, nl_mm, pu_qe0, pu_qe1, nn, es]
          all_goals try simp (maxSteps := 400000) (disch := omega) [nl_tle, nl_fle, nl_tlt, nl_flt, nl_teq, nl_feq, nl_sub, nl_ss, nl_lt, nl_llt, nl_ltt, nl_le, nl_lle, nl_lee, nl_eq, nl_leq, nl_ee, nl_div, nl_rem, nl_cl, nl_n1, nl_n2, nl_n3, nl_n4, nl_add, nl_ladd, nl_aa, nl_mul, nl_rmul, nl_mm, pu_wi_1, pu_wi_2, bX12_call_116, bX12_call_123, bX12_call_151, a_ald, a_cv, a_gr, a_iadd, a_iceq, a_ifge, a_ild, a_iret, a_ist, a_isub, a_push, a_wi, sh_71, sh_72, pu_rv, pu_as, Value.category, pu_bk, pu_kl, pu_qe0, pu_qe1, nn, es]
          all_goals try simp [bX12_call_116, bX12_call_123, bX12_call_151, a_ald, a_cv, a_gr, a_iadd, a_iceq, a_ifge, a_ild, a_iret, a_ist, a_isub, a_push, a_wi, sh_71, sh_72, pu_rv, pu_as, Value.category, pu_bk, pu_kl, List.replicate, pu_wi_1, pu_wi_2, nl_add, nl_ladd, nl_aa, nl_mul, nl_rmul, nl_mm, pu_qe0, pu_qe1, nn, es]
          all_goals try simp (maxSteps := 400000) (disch := omega) [nl_tle, nl_fle, nl_tlt, nl_flt, nl_teq, nl_feq, nl_sub, nl_ss, nl_lt, nl_llt, nl_ltt, nl_le, nl_lle, nl_lee, nl_eq, nl_leq, nl_ee, nl_div, nl_rem, nl_cl, nl_n1, nl_n2, nl_n3, nl_n4, nl_add, nl_ladd, nl_aa, nl_mul, nl_rmul, nl_mm, pu_wi_1, pu_wi_2, bX12_call_116, bX12_call_123, bX12_call_151, a_ald, a_cv, a_gr, a_iadd, a_iceq, a_ifge, a_ild, a_iret, a_ist, a_isub, a_push, a_wi, sh_71, sh_72, pu_rv, pu_as, Value.category, pu_bk, pu_kl, pu_qe0, pu_qe1, nn, es]
          all_goals try simp [bX12_call_116, bX12_call_123, bX12_call_151, a_ald, a_cv, a_gr, a_iadd, a_iceq, a_ifge, a_ild, a_iret, a_ist, a_isub, a_push, a_wi, sh_71, sh_72, pu_rv, pu_as, Value.category, pu_bk, pu_kl, List.replicate, pu_wi_1, pu_wi_2, nl_add, nl_ladd, nl_aa, nl_mul, nl_rmul, nl_mm, pu_qe0, pu_qe1, nn, es]
          all_goals try simp (maxSteps := 400000) (disch := omega) [nl_tle, nl_fle, nl_tlt, nl_flt, nl_teq, nl_feq, nl_sub, nl_ss, nl_lt, nl_llt, nl_ltt, nl_le, nl_lle, nl_lee, nl_eq, nl_leq, nl_ee, nl_div, nl_rem, nl_cl, nl_n1, nl_n2, nl_n3, nl_n4, nl_add, nl_ladd, nl_aa, nl_mul, nl_rmul, nl_mm, pu_wi_1, pu_wi_2, bX12_call_116, bX12_call_123, bX12_call_151, a_ald, a_cv, a_gr, a_iadd, a_iceq, a_ifge, a_ild, a_iret, a_ist, a_isub, a_push, a_wi, sh_71, sh_72, pu_rv, pu_as, Value.category, pu_bk, pu_kl, pu_qe0, pu_qe1, nn, es]
          all_goals try simp [bX12_call_116, bX12_call_123, bX12_call_151, a_ald, a_cv, a_gr, a_iadd, a_iceq, a_ifge, a_ild, a_iret, a_ist, a_isub, a_push, a_wi, sh_71, sh_72, pu_rv, pu_as, Value.category, pu_bk, pu_kl, List.replicate, pu_wi_1, pu_wi_2, nl_add, nl_ladd, nl_aa, nl_mul, nl_rmul, nl_mm, pu_qe0, pu_qe1, nn, es]
        rw [ST]
        exact r
      · refine ⟨v, Or.inr ⟨n2 - 1, by omega, c, fun e h1 h2 => K e (by omega) h2, ?_⟩⟩
        have fQ : (pu_wi M 71 21 v).2.2.1 71 0 = some 72 := fx_71_0 hx
        have pl : nI (n2 - 1) + 1 = nI (n2 - 1 + 1) := by rw [show (1 : Int32) = nI 1 from rfl, nI_add]
        rw [b4]
        generalize py_sv I L nm tw w x k (nI (n2 - 1)) = r at *
        generalize pu_wi M 71 21 v = Q at *
        generalize nI (n2 - 1 + 1) = nz at *
        generalize nI (n2 - 1) = nx at *
        simp [bX12_call_116, bX12_call_123, bX12_call_151, a_ald, a_cv, a_gr, a_iadd, a_iceq, a_ifge, a_ild, a_iret, a_ist, a_isub, a_push, a_wi, sh_71, sh_72, pu_rv, pu_as, Value.category, pu_bk, pu_kl, List.replicate, pu_wi_1, pu_wi_2, nl_add, nl_ladd, nl_aa, nl_mul, nl_rmul, nl_mm, pu_qe0, pu_qe1, nn, es, c, fQ, pl]
        all_goals try simp (maxSteps := 400000) (disch := omega) [nl_tle, nl_fle, nl_tlt, nl_flt, nl_teq, nl_feq, nl_sub, nl_ss, nl_lt, nl_llt, nl_ltt, nl_le, nl_lle, nl_lee, nl_eq, nl_leq, nl_ee, nl_div, nl_rem, nl_cl, nl_n1, nl_n2, nl_n3, nl_n4, nl_add, nl_ladd, nl_aa, nl_mul, nl_rmul, nl_mm, pu_wi_1, pu_wi_2, bX12_call_116, bX12_call_123, bX12_call_151, a_ald, a_cv, a_gr, a_iadd, a_iceq, a_ifge, a_ild, a_iret, a_ist, a_isub, a_push, a_wi, sh_71, sh_72, pu_rv, pu_as, Value.category, pu_bk, pu_kl, pu_qe0, pu_qe1, nn, es, c, fQ, pl]
        all_goals try simp [bX12_call_116, bX12_call_123, bX12_call_151, a_ald, a_cv, a_gr, a_iadd, a_iceq, a_ifge, a_ild, a_iret, a_ist, a_isub, a_push, a_wi, sh_71, sh_72, pu_rv, pu_as, Value.category, pu_bk, pu_kl, List.replicate, pu_wi_1, pu_wi_2, nl_add, nl_ladd, nl_aa, nl_mul, nl_rmul, nl_mm, pu_qe0, pu_qe1, nn, es, c, fQ, pl]
        all_goals try simp (maxSteps := 400000) (disch := omega) [nl_tle, nl_fle, nl_tlt, nl_flt, nl_teq, nl_feq, nl_sub, nl_ss, nl_lt, nl_llt, nl_ltt, nl_le, nl_lle, nl_lee, nl_eq, nl_leq, nl_ee, nl_div, nl_rem, nl_cl, nl_n1, nl_n2, nl_n3, nl_n4, nl_add, nl_ladd, nl_aa, nl_mul, nl_rmul, nl_mm, pu_wi_1, pu_wi_2, bX12_call_116, bX12_call_123, bX12_call_151, a_ald, a_cv, a_gr, a_iadd, a_iceq, a_ifge, a_ild, a_iret, a_ist, a_isub, a_push, a_wi, sh_71, sh_72, pu_rv, pu_as, Value.category, pu_bk, pu_kl, pu_qe0, pu_qe1, nn, es, c, fQ, pl]
        all_goals try simp [bX12_call_116, bX12_call_123, bX12_call_151, a_ald, a_cv, a_gr, a_iadd, a_iceq, a_ifge, a_ild, a_iret, a_ist, a_isub, a_push, a_wi, sh_71, sh_72, pu_rv, pu_as, Value.category, pu_bk, pu_kl, List.replicate, pu_wi_1, pu_wi_2, nl_add, nl_ladd, nl_aa, nl_mul, nl_rmul, nl_mm, pu_qe0, pu_qe1, nn, es, c, fQ, pl]
        all_goals try simp (maxSteps := 400000) (disch := omega) [nl_tle, nl_fle, nl_tlt, nl_flt, nl_teq, nl_feq, nl_sub, nl_ss, nl_lt, nl_llt, nl_ltt, nl_le, nl_lle, nl_lee, nl_eq, nl_leq, nl_ee, nl_div, nl_rem, nl_cl, nl_n1, nl_n2, nl_n3, nl_n4, nl_add, nl_ladd, nl_aa, nl_mul, nl_rmul, nl_mm, pu_wi_1, pu_wi_2, bX12_call_116, bX12_call_123, bX12_call_151, a_ald, a_cv, a_gr, a_iadd, a_iceq, a_ifge, a_ild, a_iret, a_ist, a_isub, a_push, a_wi, sh_71, sh_72, pu_rv, pu_as, Value.category, pu_bk, pu_kl, pu_qe0, pu_qe1, nn, es, c, fQ, pl]
        all_goals try simp [bX12_call_116, bX12_call_123, bX12_call_151, a_ald, a_cv, a_gr, a_iadd, a_iceq, a_ifge, a_ild, a_iret, a_ist, a_isub, a_push, a_wi, sh_71, sh_72, pu_rv, pu_as, Value.category, pu_bk, pu_kl, List.replicate, pu_wi_1, pu_wi_2, nl_add, nl_ladd, nl_aa, nl_mul, nl_rmul, nl_mm, pu_qe0, pu_qe1, nn, es, c, fQ, pl]
end
