/-! what an address means surely on a day -/
section
variable {M : pu_M} {I : Nat → Nat → Int32} {L : Nat → Nat → Int64}
/-- span k of a name is called nm, in the town tw, on day y -/
def py_am (I : Nat → Nat → Int32) (L : Nat → Nat → Int64) (nm tw : Nat → Int64) (y : Int32) (k : Nat) : Prop := (py_lk (L 26) tw (3 * (I 21 k).toNatClampNeg) 0 ∧ py_lk (L 24) nm (3 * k) 0) ∧ py_nh I y k
theorem py_nu7 (hw : pu_WF I L) {nm tw : Nat → Int64} {y : Int32} {k l : Nat} (hk : k < cN I) (hl : l < cN I) (a : py_am I L nm tw y k) (b : py_am I L nm tw y l) : k = l := by
  have bT := wx_bT hw
  have tk := pu_on (x := I 21 k) (n := cT I) ⟨(wx_nt hw k hk).1, (wx_nt hw k hk).2⟩
  have tl := pu_on (x := I 21 l) (n := cT I) ⟨(wx_nt hw l hl).1, (wx_nt hw l hl).2⟩
  have et : (I 21 k).toNatClampNeg = (I 21 l).toNatClampNeg := wx_kt hw _ _ tk.2 tl.2 (fun w hw2 => by rw [a.1.1 w hw2, b.1.1 w hw2])
  have e21 : I 21 k = I 21 l := by rw [tk.1, tl.1, et]
  have ew : ∀ w, w < 3 → L 24 (3 * k + w) = L 24 (3 * l + w) := fun w hw2 => by rw [a.1.2 w hw2, b.1.2 w hw2]
  have W : ∀ k l, k < l → l < cN I → py_nh I y k → py_nh I y l → I 21 k = I 21 l → (∀ w, w < 3 → L 24 (3 * k + w) = L 24 (3 * l + w)) → False := fun k l h hl a b e e2 => by
    obtain ⟨n1, n2, n3⟩ := wx_n7 hw k l h hl e e2
    have h0 := pu_ne1 (wx_nc hw k (by omega)).1 n1
    rcases n3 with n3 | n3
    · exact py_apart hw n1 h0 (wx_no hw l hl).1 (wx_no hw l hl).2.1 n2 n3 a b
    · have e1 := pu_nnT h0
      have e2 := pu_nnT (wx_no hw l hl).1
      have lo := (wx_no hw l hl).2.1
      refine a.2 ⟨n1, py_kn_m hw (r := (I 22 l).toNatClampNeg) (by omega) (by omega) b.1.1, ?_⟩
      have := a.1.2
      rw [Int32.le_iff_toInt_le] at this ⊢
      omega
  rcases Nat.lt_trichotomy k l with h | h | h
  · exact (W k l h hl a.2 b.2 e21 ew).elim
  · exact h
  · exact (W l k h hk b.2 a.2 e21.symm (fun w hw2 => (ew w hw2).symm)).elim
/-- the street of an address on a day, or -1 -/
noncomputable def py_ss (I : Nat → Nat → Int32) (L : Nat → Nat → Int64) (nm tw : Nat → Int64) (y : Int32) : Int32 := @ite Int32 (pu_f1 (py_am I L nm tw y) (cN I) 0 = -1) (Classical.propDecidable _) (-1) (I 20 (pu_f1 (py_am I L nm tw y) (cN I) 0).toNatClampNeg)
theorem py_ss_s (hw : pu_WF I L) (nm tw : Nat → Int64) (y : Int32) : (py_ss I L nm tw y = -1 ∧ ∀ k, k < cN I → ¬ py_am I L nm tw y k) ∨ ∃ k, k < cN I ∧ py_am I L nm tw y k ∧ py_ss I L nm tw y = I 20 k := by
  have bN := wx_bN hw
  unfold py_ss
  rcases pu_f1_spec (py_am I L nm tw y) (cN I) 0 with ⟨q, q2⟩ | ⟨k, _, hk, q, q2, _⟩
  · rw [if_pos q]
    exact Or.inl ⟨rfl, fun k hk => q2 k (by omega) (by omega)⟩
  · have n1 : ¬ nI k = -1 := fun z => by rw [nl_n1 k (by omega)] at z; exact z
    rw [q, if_neg n1, nl_cl k (by omega)]
    exact Or.inr ⟨k, by omega, q2, rfl⟩
theorem py_ss_of (hw : pu_WF I L) {nm tw : Nat → Int64} {y : Int32} {k : Nat} (hk : k < cN I) (h : py_am I L nm tw y k) : py_ss I L nm tw y = I 20 k := by
  rcases py_ss_s hw nm tw y with ⟨_, q⟩ | ⟨l, l1, l2, l3⟩
  · exact absurd h (q k hk)
  · rw [l3, py_nu7 hw hk l1 h l2]
theorem c_streetOn_l (hx : pu_fx M) (hI : pu_ag M I) (hL : pu_al M L) (hw : pu_WF I L) (nm tw : Nat → Int64) (hnm : ∀ k, k < 3 → M.2.1 60 k = nm k) (y tn : Int32) (htn : ∀ k, k < cN I → (I 21 k = tn ↔ py_lk (L 26) tw (3 * (I 21 k).toNatClampNeg) 0)) : ∀ m i, i + m = cN I → (∀ k, k < i → ¬ py_am I L nm tw y k) → pu_r 402 [some (.ref 19), some (.ref 60), some (.int tn), some (.int y), some (.ref 6), some (.int (nI i))] [] M = some (some (.int (py_ss I L nm tw y)), M)
  | 0, i, h, g => by
    have hb := wx_bN hw
    have hn := wx_cN hw
    have hc : nI (cN I) ≤ nI i := nI_le (by omega) (by omega)
    have e : py_ss I L nm tw y = -1 := by
      rcases py_ss_s hw nm tw y with ⟨q, _⟩ | ⟨l, l1, l2, _⟩
      · exact q
      · exact absurd l2 (g l (by omega))
    rw [e]
    rw [qX3_streetOn_3]
    simp [bX3_streetOn_3, bX3_streetOn_60, bX3_streetOn_54, bX3_streetOn_50, a_ai, a_ald, a_cv, a_gi, a_gr, a_icge, a_ifeq, a_ild, a_inc, a_iret, a_push, ag_19 hI, ag_20 hI, ag_22 hI, ag_23 hI, fx_19_1 hx, fx_19_3 hx, fx_19_4 hx, sh_19, sh_20, sh_22, sh_23, sh_6, pu_rv, pu_as, Value.category, pu_bk, pu_kl, List.replicate, pu_wi_1, pu_wi_2, nl_add, nl_ladd, nl_aa, nl_mul, nl_rmul, nl_mm, pu_qe0, pu_qe1, hn, hc]
    all_goals try simp (maxSteps := 400000) (disch := omega) [nl_tle, nl_fle, nl_tlt, nl_flt, nl_teq, nl_feq, nl_sub, nl_ss, nl_lt, nl_llt, nl_ltt, nl_le, nl_lle, nl_lee, nl_eq, nl_leq, nl_ee, nl_div, nl_rem, nl_cl, nl_n1, nl_n2, nl_n3, nl_n4, nl_add, nl_ladd, nl_aa, nl_mul, nl_rmul, nl_mm, pu_wi_1, pu_wi_2, bX3_streetOn_3, bX3_streetOn_60, bX3_streetOn_54, bX3_streetOn_50, a_ai, a_ald, a_cv, a_gi, a_gr, a_icge, a_ifeq, a_ild, a_inc, a_iret, a_push, ag_19 hI, ag_20 hI, ag_22 hI, ag_23 hI, fx_19_1 hx, fx_19_3 hx, fx_19_4 hx, sh_19, sh_20, sh_22, sh_23, sh_6, pu_rv, pu_as, Value.category, pu_bk, pu_kl, pu_qe0, pu_qe1, hn, hc]
    all_goals try simp [bX3_streetOn_3, bX3_streetOn_60, bX3_streetOn_54, bX3_streetOn_50, a_ai, a_ald, a_cv, a_gi, a_gr, a_icge, a_ifeq, a_ild, a_inc, a_iret, a_push, ag_19 hI, ag_20 hI, ag_22 hI, ag_23 hI, fx_19_1 hx, fx_19_3 hx, fx_19_4 hx, sh_19, sh_20, sh_22, sh_23, sh_6, pu_rv, pu_as, Value.category, pu_bk, pu_kl, List.replicate, pu_wi_1, pu_wi_2, nl_add, nl_ladd, nl_aa, nl_mul, nl_rmul, nl_mm, pu_qe0, pu_qe1, hn, hc]
    all_goals try simp (maxSteps := 400000) (disch := omega) [nl_tle, nl_fle, nl_tlt, nl_flt, nl_teq, nl_feq, nl_sub, nl_ss, nl_lt, nl_llt, nl_ltt, nl_le, nl_lle, nl_lee, nl_eq, nl_leq, nl_ee, nl_div, nl_rem, nl_cl, nl_n1, nl_n2, nl_n3, nl_n4, nl_add, nl_ladd, nl_aa, nl_mul, nl_rmul, nl_mm, pu_wi_1, pu_wi_2, bX3_streetOn_3, bX3_streetOn_60, bX3_streetOn_54, bX3_streetOn_50, a_ai, a_ald, a_cv, a_gi, a_gr, a_icge, a_ifeq, a_ild, a_inc, a_iret, a_push, ag_19 hI, ag_20 hI, ag_22 hI, ag_23 hI, fx_19_1 hx, fx_19_3 hx, fx_19_4 hx, sh_19, sh_20, sh_22, sh_23, sh_6, pu_rv, pu_as, Value.category, pu_bk, pu_kl, pu_qe0, pu_qe1, hn, hc]
    all_goals try simp [bX3_streetOn_3, bX3_streetOn_60, bX3_streetOn_54, bX3_streetOn_50, a_ai, a_ald, a_cv, a_gi, a_gr, a_icge, a_ifeq, a_ild, a_inc, a_iret, a_push, ag_19 hI, ag_20 hI, ag_22 hI, ag_23 hI, fx_19_1 hx, fx_19_3 hx, fx_19_4 hx, sh_19, sh_20, sh_22, sh_23, sh_6, pu_rv, pu_as, Value.category, pu_bk, pu_kl, List.replicate, pu_wi_1, pu_wi_2, nl_add, nl_ladd, nl_aa, nl_mul, nl_rmul, nl_mm, pu_qe0, pu_qe1, hn, hc]
    all_goals try simp (maxSteps := 400000) (disch := omega) [nl_tle, nl_fle, nl_tlt, nl_flt, nl_teq, nl_feq, nl_sub, nl_ss, nl_lt, nl_llt, nl_ltt, nl_le, nl_lle, nl_lee, nl_eq, nl_leq, nl_ee, nl_div, nl_rem, nl_cl, nl_n1, nl_n2, nl_n3, nl_n4, nl_add, nl_ladd, nl_aa, nl_mul, nl_rmul, nl_mm, pu_wi_1, pu_wi_2, bX3_streetOn_3, bX3_streetOn_60, bX3_streetOn_54, bX3_streetOn_50, a_ai, a_ald, a_cv, a_gi, a_gr, a_icge, a_ifeq, a_ild, a_inc, a_iret, a_push, ag_19 hI, ag_20 hI, ag_22 hI, ag_23 hI, fx_19_1 hx, fx_19_3 hx, fx_19_4 hx, sh_19, sh_20, sh_22, sh_23, sh_6, pu_rv, pu_as, Value.category, pu_bk, pu_kl, pu_qe0, pu_qe1, hn, hc]
    all_goals try simp [bX3_streetOn_3, bX3_streetOn_60, bX3_streetOn_54, bX3_streetOn_50, a_ai, a_ald, a_cv, a_gi, a_gr, a_icge, a_ifeq, a_ild, a_inc, a_iret, a_push, ag_19 hI, ag_20 hI, ag_22 hI, ag_23 hI, fx_19_1 hx, fx_19_3 hx, fx_19_4 hx, sh_19, sh_20, sh_22, sh_23, sh_6, pu_rv, pu_as, Value.category, pu_bk, pu_kl, List.replicate, pu_wi_1, pu_wi_2, nl_add, nl_ladd, nl_aa, nl_mul, nl_rmul, nl_mm, pu_qe0, pu_qe1, hn, hc]
  | m + 1, i, h, g => by
    have hb := wx_bN hw
    have hn := wx_cN hw
    have hi : i < cN I := by omega
    have hc : ¬ nI (cN I) ≤ nI i := nI_ge (by omega) (by omega)
    have e1 := c_isNamed hx hI hw i hi 60 sh_60 tn
    have e2 := c_nholds hx hI hw y i hi
    have LK : (I 21 i = tn ∧ py_lk (M.2.1 24) (M.2.1 60) (3 * i) 0) = (py_lk (L 26) tw (3 * (I 21 i).toNatClampNeg) 0 ∧ py_lk (L 24) nm (3 * i) 0) := by
      have a : py_lk (M.2.1 24) (M.2.1 60) (3 * i) 0 ↔ py_lk (L 24) nm (3 * i) 0 := by
        constructor
        · intro z w hw2
          have := z w hw2
          rw [al_24 hL, Nat.zero_add, hnm w hw2] at this
          rw [Nat.zero_add]
          exact this
        · intro z w hw2
          have := z w hw2
          rw [Nat.zero_add] at this
          rw [al_24 hL, Nat.zero_add, hnm w hw2]
          exact this
      rw [propext a, propext (htn i hi)]
    rw [LK] at e1
    by_cases c1 : py_lk (L 26) tw (3 * (I 21 i).toNatClampNeg) 0 ∧ py_lk (L 24) nm (3 * i) 0
    · rw [pu_q1 c1] at e1
      by_cases c2 : py_nh I y i
      · rw [pu_q1 c2] at e2
        rw [py_ss_of hw hi ⟨c1, c2⟩]
        rw [qX3_streetOn_3]
        simp [bX3_streetOn_3, bX3_streetOn_60, bX3_streetOn_54, bX3_streetOn_50, a_ai, a_ald, a_cv, a_gi, a_gr, a_icge, a_ifeq, a_ild, a_inc, a_iret, a_push, ag_19 hI, ag_20 hI, ag_22 hI, ag_23 hI, fx_19_1 hx, fx_19_3 hx, fx_19_4 hx, sh_19, sh_20, sh_22, sh_23, sh_6, pu_rv, pu_as, Value.category, pu_bk, pu_kl, List.replicate, pu_wi_1, pu_wi_2, nl_add, nl_ladd, nl_aa, nl_mul, nl_rmul, nl_mm, pu_qe0, pu_qe1, hn, hc, e1, e2, sh_6, sh_60]
        all_goals try simp (maxSteps := 400000) (disch := omega) [nl_tle, nl_fle, nl_tlt, nl_flt, nl_teq, nl_feq, nl_sub, nl_ss, nl_lt, nl_llt, nl_ltt, nl_le, nl_lle, nl_lee, nl_eq, nl_leq, nl_ee, nl_div, nl_rem, nl_cl, nl_n1, nl_n2, nl_n3, nl_n4, nl_add, nl_ladd, nl_aa, nl_mul, nl_rmul, nl_mm, pu_wi_1, pu_wi_2, bX3_streetOn_3, bX3_streetOn_60, bX3_streetOn_54, bX3_streetOn_50, a_ai, a_ald, a_cv, a_gi, a_gr, a_icge, a_ifeq, a_ild, a_inc, a_iret, a_push, ag_19 hI, ag_20 hI, ag_22 hI, ag_23 hI, fx_19_1 hx, fx_19_3 hx, fx_19_4 hx, sh_19, sh_20, sh_22, sh_23, sh_6, pu_rv, pu_as, Value.category, pu_bk, pu_kl, pu_qe0, pu_qe1, hn, hc, e1, e2, sh_6, sh_60]
        all_goals try simp [bX3_streetOn_3, bX3_streetOn_60, bX3_streetOn_54, bX3_streetOn_50, a_ai, a_ald, a_cv, a_gi, a_gr, a_icge, a_ifeq, a_ild, a_inc, a_iret, a_push, ag_19 hI, ag_20 hI, ag_22 hI, ag_23 hI, fx_19_1 hx, fx_19_3 hx, fx_19_4 hx, sh_19, sh_20, sh_22, sh_23, sh_6, pu_rv, pu_as, Value.category, pu_bk, pu_kl, List.replicate, pu_wi_1, pu_wi_2, nl_add, nl_ladd, nl_aa, nl_mul, nl_rmul, nl_mm, pu_qe0, pu_qe1, hn, hc, e1, e2, sh_6, sh_60]
        all_goals try simp (maxSteps := 400000) (disch := omega) [nl_tle, nl_fle, nl_tlt, nl_flt, nl_teq, nl_feq, nl_sub, nl_ss, nl_lt, nl_llt, nl_ltt, nl_le, nl_lle, nl_lee, nl_eq, nl_leq, nl_ee, nl_div, nl_rem, nl_cl, nl_n1, nl_n2, nl_n3, nl_n4, nl_add, nl_ladd, nl_aa, nl_mul, nl_rmul, nl_mm, pu_wi_1, pu_wi_2, bX3_streetOn_3, bX3_streetOn_60, bX3_streetOn_54, bX3_streetOn_50, a_ai, a_ald, a_cv, a_gi, a_gr, a_icge, a_ifeq, a_ild, a_inc, a_iret, a_push, ag_19 hI, ag_20 hI, ag_22 hI, ag_23 hI, fx_19_1 hx, fx_19_3 hx, fx_19_4 hx, sh_19, sh_20, sh_22, sh_23, sh_6, pu_rv, pu_as, Value.category, pu_bk, pu_kl, pu_qe0, pu_qe1, hn, hc, e1, e2, sh_6, sh_60]
        all_goals try simp [bX3_streetOn_3, bX3_streetOn_60, bX3_streetOn_54, bX3_streetOn_50, a_ai, a_ald, a_cv, a_gi, a_gr, a_icge, a_ifeq, a_ild, a_inc, a_iret, a_push, ag_19 hI, ag_20 hI, ag_22 hI, ag_23 hI, fx_19_1 hx, fx_19_3 hx, fx_19_4 hx, sh_19, sh_20, sh_22, sh_23, sh_6, pu_rv, pu_as, Value.category, pu_bk, pu_kl, List.replicate, pu_wi_1, pu_wi_2, nl_add, nl_ladd, nl_aa, nl_mul, nl_rmul, nl_mm, pu_qe0, pu_qe1, hn, hc, e1, e2, sh_6, sh_60]
        all_goals try simp (maxSteps := 400000) (disch := omega) [nl_tle, nl_fle, nl_tlt, nl_flt, nl_teq, nl_feq, nl_sub, nl_ss, nl_lt, nl_llt, nl_ltt, nl_le, nl_lle, nl_lee, nl_eq, nl_leq, nl_ee, nl_div, nl_rem, nl_cl, nl_n1, nl_n2, nl_n3, nl_n4, nl_add, nl_ladd, nl_aa, nl_mul, nl_rmul, nl_mm, pu_wi_1, pu_wi_2, bX3_streetOn_3, bX3_streetOn_60, bX3_streetOn_54, bX3_streetOn_50, a_ai, a_ald, a_cv, a_gi, a_gr, a_icge, a_ifeq, a_ild, a_inc, a_iret, a_push, ag_19 hI, ag_20 hI, ag_22 hI, ag_23 hI, fx_19_1 hx, fx_19_3 hx, fx_19_4 hx, sh_19, sh_20, sh_22, sh_23, sh_6, pu_rv, pu_as, Value.category, pu_bk, pu_kl, pu_qe0, pu_qe1, hn, hc, e1, e2, sh_6, sh_60]
        all_goals try simp [bX3_streetOn_3, bX3_streetOn_60, bX3_streetOn_54, bX3_streetOn_50, a_ai, a_ald, a_cv, a_gi, a_gr, a_icge, a_ifeq, a_ild, a_inc, a_iret, a_push, ag_19 hI, ag_20 hI, ag_22 hI, ag_23 hI, fx_19_1 hx, fx_19_3 hx, fx_19_4 hx, sh_19, sh_20, sh_22, sh_23, sh_6, pu_rv, pu_as, Value.category, pu_bk, pu_kl, List.replicate, pu_wi_1, pu_wi_2, nl_add, nl_ladd, nl_aa, nl_mul, nl_rmul, nl_mm, pu_qe0, pu_qe1, hn, hc, e1, e2, sh_6, sh_60]
      · have ih := c_streetOn_l hx hI hL hw nm tw hnm y tn htn m (i + 1) (by omega) (fun k hk z => by
          by_cases ki : k = i
          · rw [ki] at z; exact c2 z.2
          · exact g k (by omega) z)
        rw [pu_q0 c2] at e2
        rw [qX3_streetOn_3]
        simp [bX3_streetOn_3, bX3_streetOn_60, bX3_streetOn_54, bX3_streetOn_50, a_ai, a_ald, a_cv, a_gi, a_gr, a_icge, a_ifeq, a_ild, a_inc, a_iret, a_push, ag_19 hI, ag_20 hI, ag_22 hI, ag_23 hI, fx_19_1 hx, fx_19_3 hx, fx_19_4 hx, sh_19, sh_20, sh_22, sh_23, sh_6, pu_rv, pu_as, Value.category, pu_bk, pu_kl, List.replicate, pu_wi_1, pu_wi_2, nl_add, nl_ladd, nl_aa, nl_mul, nl_rmul, nl_mm, pu_qe0, pu_qe1, hn, hc, e1, e2, sh_6, sh_60, ih]
        all_goals try simp (maxSteps := 400000) (disch := omega) [nl_tle, nl_fle, nl_tlt, nl_flt, nl_teq, nl_feq, nl_sub, nl_ss, nl_lt, nl_llt, nl_ltt, nl_le, nl_lle, nl_lee, nl_eq, nl_leq, nl_ee, nl_div, nl_rem, nl_cl, nl_n1, nl_n2, nl_n3, nl_n4, nl_add, nl_ladd, nl_aa, nl_mul, nl_rmul, nl_mm, pu_wi_1, pu_wi_2, bX3_streetOn_3, bX3_streetOn_60, bX3_streetOn_54, bX3_streetOn_50, a_ai, a_ald, a_cv, a_gi, a_gr, a_icge, a_ifeq, a_ild, a_inc, a_iret, a_push, ag_19 hI, ag_20 hI, ag_22 hI, ag_23 hI, fx_19_1 hx, fx_19_3 hx, fx_19_4 hx, sh_19, sh_20, sh_22, sh_23, sh_6, pu_rv, pu_as, Value.category, pu_bk, pu_kl, pu_qe0, pu_qe1, hn, hc, e1, e2, sh_6, sh_60, ih]
        all_goals try simp [bX3_streetOn_3, bX3_streetOn_60, bX3_streetOn_54, bX3_streetOn_50, a_ai, a_ald, a_cv, a_gi, a_gr, a_icge, a_ifeq, a_ild, a_inc, a_iret, a_push, ag_19 hI, ag_20 hI, ag_22 hI, ag_23 hI, fx_19_1 hx, fx_19_3 hx, fx_19_4 hx, sh_19, sh_20, sh_22, sh_23, sh_6, pu_rv, pu_as, Value.category, pu_bk, pu_kl, List.replicate, pu_wi_1, pu_wi_2, nl_add, nl_ladd, nl_aa, nl_mul, nl_rmul, nl_mm, pu_qe0, pu_qe1, hn, hc, e1, e2, sh_6, sh_60, ih]
        all_goals try simp (maxSteps := 400000) (disch := omega) [nl_tle, nl_fle, nl_tlt, nl_flt, nl_teq, nl_feq, nl_sub, nl_ss, nl_lt, nl_llt, nl_ltt, nl_le, nl_lle, nl_lee, nl_eq, nl_leq, nl_ee, nl_div, nl_rem, nl_cl, nl_n1, nl_n2, nl_n3, nl_n4, nl_add, nl_ladd, nl_aa, nl_mul, nl_rmul, nl_mm, pu_wi_1, pu_wi_2, bX3_streetOn_3, bX3_streetOn_60, bX3_streetOn_54, bX3_streetOn_50, a_ai, a_ald, a_cv, a_gi, a_gr, a_icge, a_ifeq, a_ild, a_inc, a_iret, a_push, ag_19 hI, ag_20 hI, ag_22 hI, ag_23 hI, fx_19_1 hx, fx_19_3 hx, fx_19_4 hx, sh_19, sh_20, sh_22, sh_23, sh_6, pu_rv, pu_as, Value.category, pu_bk, pu_kl, pu_qe0, pu_qe1, hn, hc, e1, e2, sh_6, sh_60, ih]
        all_goals try simp [bX3_streetOn_3, bX3_streetOn_60, bX3_streetOn_54, bX3_streetOn_50, a_ai, a_ald, a_cv, a_gi, a_gr, a_icge, a_ifeq, a_ild, a_inc, a_iret, a_push, ag_19 hI, ag_20 hI, ag_22 hI, ag_23 hI, fx_19_1 hx, fx_19_3 hx, fx_19_4 hx, sh_19, sh_20, sh_22, sh_23, sh_6, pu_rv, pu_as, Value.category, pu_bk, pu_kl, List.replicate, pu_wi_1, pu_wi_2, nl_add, nl_ladd, nl_aa, nl_mul, nl_rmul, nl_mm, pu_qe0, pu_qe1, hn, hc, e1, e2, sh_6, sh_60, ih]
        all_goals try simp (maxSteps := 400000) (disch := omega) [nl_tle, nl_fle, nl_tlt, nl_flt, nl_teq, nl_feq, nl_sub, nl_ss, nl_lt, nl_llt, nl_ltt, nl_le, nl_lle, nl_lee, nl_eq, nl_leq, nl_ee, nl_div, nl_rem, nl_cl, nl_n1, nl_n2, nl_n3, nl_n4, nl_add, nl_ladd, nl_aa, nl_mul, nl_rmul, nl_mm, pu_wi_1, pu_wi_2, bX3_streetOn_3, bX3_streetOn_60, bX3_streetOn_54, bX3_streetOn_50, a_ai, a_ald, a_cv, a_gi, a_gr, a_icge, a_ifeq, a_ild, a_inc, a_iret, a_push, ag_19 hI, ag_20 hI, ag_22 hI, ag_23 hI, fx_19_1 hx, fx_19_3 hx, fx_19_4 hx, sh_19, sh_20, sh_22, sh_23, sh_6, pu_rv, pu_as, Value.category, pu_bk, pu_kl, pu_qe0, pu_qe1, hn, hc, e1, e2, sh_6, sh_60, ih]
        all_goals try simp [bX3_streetOn_3, bX3_streetOn_60, bX3_streetOn_54, bX3_streetOn_50, a_ai, a_ald, a_cv, a_gi, a_gr, a_icge, a_ifeq, a_ild, a_inc, a_iret, a_push, ag_19 hI, ag_20 hI, ag_22 hI, ag_23 hI, fx_19_1 hx, fx_19_3 hx, fx_19_4 hx, sh_19, sh_20, sh_22, sh_23, sh_6, pu_rv, pu_as, Value.category, pu_bk, pu_kl, List.replicate, pu_wi_1, pu_wi_2, nl_add, nl_ladd, nl_aa, nl_mul, nl_rmul, nl_mm, pu_qe0, pu_qe1, hn, hc, e1, e2, sh_6, sh_60, ih]
    · have ih := c_streetOn_l hx hI hL hw nm tw hnm y tn htn m (i + 1) (by omega) (fun k hk z => by
        by_cases ki : k = i
        · rw [ki] at z; exact c1 z.1
        · exact g k (by omega) z)
      rw [pu_q0 c1] at e1
      rw [qX3_streetOn_3]
      simp [bX3_streetOn_3, bX3_streetOn_60, bX3_streetOn_54, bX3_streetOn_50, a_ai, a_ald, a_cv, a_gi, a_gr, a_icge, a_ifeq, a_ild, a_inc, a_iret, a_push, ag_19 hI, ag_20 hI, ag_22 hI, ag_23 hI, fx_19_1 hx, fx_19_3 hx, fx_19_4 hx, sh_19, sh_20, sh_22, sh_23, sh_6, pu_rv, pu_as, Value.category, pu_bk, pu_kl, List.replicate, pu_wi_1, pu_wi_2, nl_add, nl_ladd, nl_aa, nl_mul, nl_rmul, nl_mm, pu_qe0, pu_qe1, hn, hc, e1, sh_6, sh_60, ih]
      all_goals try simp (maxSteps := 400000) (disch := omega) [nl_tle, nl_fle, nl_tlt, nl_flt, nl_teq, nl_feq, nl_sub, nl_ss, nl_lt, nl_llt, nl_ltt, nl_le, nl_lle, nl_lee, nl_eq, nl_leq, nl_ee, nl_div, nl_rem, nl_cl, nl_n1, nl_n2, nl_n3, nl_n4, nl_add, nl_ladd, nl_aa, nl_mul, nl_rmul, nl_mm, pu_wi_1, pu_wi_2, bX3_streetOn_3, bX3_streetOn_60, bX3_streetOn_54, bX3_streetOn_50, a_ai, a_ald, a_cv, a_gi, a_gr, a_icge, a_ifeq, a_ild, a_inc, a_iret, a_push, ag_19 hI, ag_20 hI, ag_22 hI, ag_23 hI, fx_19_1 hx, fx_19_3 hx, fx_19_4 hx, sh_19, sh_20, sh_22, sh_23, sh_6, pu_rv, pu_as, Value.category, pu_bk, pu_kl, pu_qe0, pu_qe1, hn, hc, e1, sh_6, sh_60, ih]
      all_goals try simp [bX3_streetOn_3, bX3_streetOn_60, bX3_streetOn_54, bX3_streetOn_50, a_ai, a_ald, a_cv, a_gi, a_gr, a_icge, a_ifeq, a_ild, a_inc, a_iret, a_push, ag_19 hI, ag_20 hI, ag_22 hI, ag_23 hI, fx_19_1 hx, fx_19_3 hx, fx_19_4 hx, sh_19, sh_20, sh_22, sh_23, sh_6, pu_rv, pu_as, Value.category, pu_bk, pu_kl, List.replicate, pu_wi_1, pu_wi_2, nl_add, nl_ladd, nl_aa, nl_mul, nl_rmul, nl_mm, pu_qe0, pu_qe1, hn, hc, e1, sh_6, sh_60, ih]
      all_goals try simp (maxSteps := 400000) (disch := omega) [nl_tle, nl_fle, nl_tlt, nl_flt, nl_teq, nl_feq, nl_sub, nl_ss, nl_lt, nl_llt, nl_ltt, nl_le, nl_lle, nl_lee, nl_eq, nl_leq, nl_ee, nl_div, nl_rem, nl_cl, nl_n1, nl_n2, nl_n3, nl_n4, nl_add, nl_ladd, nl_aa, nl_mul, nl_rmul, nl_mm, pu_wi_1, pu_wi_2, bX3_streetOn_3, bX3_streetOn_60, bX3_streetOn_54, bX3_streetOn_50, a_ai, a_ald, a_cv, a_gi, a_gr, a_icge, a_ifeq, a_ild, a_inc, a_iret, a_push, ag_19 hI, ag_20 hI, ag_22 hI, ag_23 hI, fx_19_1 hx, fx_19_3 hx, fx_19_4 hx, sh_19, sh_20, sh_22, sh_23, sh_6, pu_rv, pu_as, Value.category, pu_bk, pu_kl, pu_qe0, pu_qe1, hn, hc, e1, sh_6, sh_60, ih]
      all_goals try simp [bX3_streetOn_3, bX3_streetOn_60, bX3_streetOn_54, bX3_streetOn_50, a_ai, a_ald, a_cv, a_gi, a_gr, a_icge, a_ifeq, a_ild, a_inc, a_iret, a_push, ag_19 hI, ag_20 hI, ag_22 hI, ag_23 hI, fx_19_1 hx, fx_19_3 hx, fx_19_4 hx, sh_19, sh_20, sh_22, sh_23, sh_6, pu_rv, pu_as, Value.category, pu_bk, pu_kl, List.replicate, pu_wi_1, pu_wi_2, nl_add, nl_ladd, nl_aa, nl_mul, nl_rmul, nl_mm, pu_qe0, pu_qe1, hn, hc, e1, sh_6, sh_60, ih]
      all_goals try simp (maxSteps := 400000) (disch := omega) [nl_tle, nl_fle, nl_tlt, nl_flt, nl_teq, nl_feq, nl_sub, nl_ss, nl_lt, nl_llt, nl_ltt, nl_le, nl_lle, nl_lee, nl_eq, nl_leq, nl_ee, nl_div, nl_rem, nl_cl, nl_n1, nl_n2, nl_n3, nl_n4, nl_add, nl_ladd, nl_aa, nl_mul, nl_rmul, nl_mm, pu_wi_1, pu_wi_2, bX3_streetOn_3, bX3_streetOn_60, bX3_streetOn_54, bX3_streetOn_50, a_ai, a_ald, a_cv, a_gi, a_gr, a_icge, a_ifeq, a_ild, a_inc, a_iret, a_push, ag_19 hI, ag_20 hI, ag_22 hI, ag_23 hI, fx_19_1 hx, fx_19_3 hx, fx_19_4 hx, sh_19, sh_20, sh_22, sh_23, sh_6, pu_rv, pu_as, Value.category, pu_bk, pu_kl, pu_qe0, pu_qe1, hn, hc, e1, sh_6, sh_60, ih]
      all_goals try simp [bX3_streetOn_3, bX3_streetOn_60, bX3_streetOn_54, bX3_streetOn_50, a_ai, a_ald, a_cv, a_gi, a_gr, a_icge, a_ifeq, a_ild, a_inc, a_iret, a_push, ag_19 hI, ag_20 hI, ag_22 hI, ag_23 hI, fx_19_1 hx, fx_19_3 hx, fx_19_4 hx, sh_19, sh_20, sh_22, sh_23, sh_6, pu_rv, pu_as, Value.category, pu_bk, pu_kl, List.replicate, pu_wi_1, pu_wi_2, nl_add, nl_ladd, nl_aa, nl_mul, nl_rmul, nl_mm, pu_qe0, pu_qe1, hn, hc, e1, sh_6, sh_60, ih]
theorem c_streetA (hx : pu_fx M) (hI : pu_ag M I) (hL : pu_al M L) (hw : pu_WF I L) (nm tw : Nat → Int64) (hnm : ∀ k, k < 3 → M.2.1 60 k = nm k) (htw : ∀ k, k < 3 → M.2.1 61 k = tw k) (y : Int32) : ∃ tn, pu_r 33 [some (.ref 25), some (.ref 61)] [] M = some (some (.int tn), M) ∧ pu_r 172 [some (.ref 19), some (.ref 60), some (.int tn), some (.int y), some (.ref 6)] [] M = some (some (.int (py_ss I L nm tw y)), M) := by
  have bT := wx_bT hw
  have e := c_townNamed hx hI hw 61 sh_61
  have A : ∀ i, py_lk (M.2.1 26) (M.2.1 61) (3 * i) 0 ↔ py_lk (L 26) tw (3 * i) 0 := fun i => by
    constructor
    · intro z w hw2
      have := z w hw2
      rw [al_26 hL, Nat.zero_add, htw w hw2] at this
      rw [Nat.zero_add]
      exact this
    · intro z w hw2
      have := z w hw2
      rw [Nat.zero_add] at this
      rw [al_26 hL, Nat.zero_add, htw w hw2]
      exact this
  have TN : ∀ k, k < cN I → (I 21 k = pu_f1 (fun i => py_lk (M.2.1 26) (M.2.1 61) (3 * i) 0) (cT I) 0 ↔ py_lk (L 26) tw (3 * (I 21 k).toNatClampNeg) 0) := fun k hk => by
    have tk := pu_on (x := I 21 k) (n := cT I) ⟨(wx_nt hw k hk).1, (wx_nt hw k hk).2⟩
    rcases pu_f1_spec (fun i => py_lk (M.2.1 26) (M.2.1 61) (3 * i) 0) (cT I) 0 with ⟨q, q2⟩ | ⟨i, _, hi, q, q2, _⟩
    · rw [q]
      constructor
      · intro z
        rw [tk.1, nl_n1 _ (by omega)] at z
        exact z.elim
      · intro z
        exact absurd ((A _).mpr z) (q2 _ (by omega) (by omega))
    · rw [q]
      constructor
      · intro z
        rw [z, nl_cl _ (by omega)]
        exact (A i).mp q2
      · intro z
        have := wx_kt hw (I 21 k).toNatClampNeg i tk.2 (by omega) (fun w hw2 => by rw [z w hw2, (A i).mp q2 w hw2])
        rw [tk.1, this]
  have s := c_streetOn_l hx hI hL hw nm tw hnm y _ TN (cN I) 0 (by omega) (fun k hk => by omega)
  rw [nI_0] at s
  refine ⟨_, e, ?_⟩
  generalize pu_f1 (fun i => py_lk (M.2.1 26) (M.2.1 61) (3 * i) 0) (cT I) 0 = tn at *
  rw [qX3_streetOn]
  simp [a_ent, bX3_streetOn_0, a_ist, a_push, pu_rv, pu_as, Value.category, pu_bk, pu_kl, List.replicate, pu_wi_1, pu_wi_2, nl_add, nl_ladd, nl_aa, nl_mul, nl_rmul, nl_mm, pu_qe0, pu_qe1, s]
  all_goals try simp (maxSteps := 400000) (disch := omega) [nl_tle, nl_fle, nl_tlt, nl_flt, nl_teq, nl_feq, nl_sub, nl_ss, nl_lt, nl_llt, nl_ltt, nl_le, nl_lle, nl_lee, nl_eq, nl_leq, nl_ee, nl_div, nl_rem, nl_cl, nl_n1, nl_n2, nl_n3, nl_n4, nl_add, nl_ladd, nl_aa, nl_mul, nl_rmul, nl_mm, pu_wi_1, pu_wi_2, bX3_streetOn_0, a_ist, a_push, pu_rv, pu_as, Value.category, pu_bk, pu_kl, pu_qe0, pu_qe1, s]
  all_goals try simp [bX3_streetOn_0, a_ist, a_push, pu_rv, pu_as, Value.category, pu_bk, pu_kl, List.replicate, pu_wi_1, pu_wi_2, nl_add, nl_ladd, nl_aa, nl_mul, nl_rmul, nl_mm, pu_qe0, pu_qe1, s]
  all_goals try simp (maxSteps := 400000) (disch := omega) [nl_tle, nl_fle, nl_tlt, nl_flt, nl_teq, nl_feq, nl_sub, nl_ss, nl_lt, nl_llt, nl_ltt, nl_le, nl_lle, nl_lee, nl_eq, nl_leq, nl_ee, nl_div, nl_rem, nl_cl, nl_n1, nl_n2, nl_n3, nl_n4, nl_add, nl_ladd, nl_aa, nl_mul, nl_rmul, nl_mm, pu_wi_1, pu_wi_2, bX3_streetOn_0, a_ist, a_push, pu_rv, pu_as, Value.category, pu_bk, pu_kl, pu_qe0, pu_qe1, s]
  all_goals try simp [bX3_streetOn_0, a_ist, a_push, pu_rv, pu_as, Value.category, pu_bk, pu_kl, List.replicate, pu_wi_1, pu_wi_2, nl_add, nl_ladd, nl_aa, nl_mul, nl_rmul, nl_mm, pu_qe0, pu_qe1, s]
  all_goals try simp (maxSteps := 400000) (disch := omega) [nl_tle, nl_fle, nl_tlt, nl_flt, nl_teq, nl_feq, nl_sub, nl_ss, nl_lt, nl_llt, nl_ltt, nl_le, nl_lle, nl_lee, nl_eq, nl_leq, nl_ee, nl_div, nl_rem, nl_cl, nl_n1, nl_n2, nl_n3, nl_n4, nl_add, nl_ladd, nl_aa, nl_mul, nl_rmul, nl_mm, pu_wi_1, pu_wi_2, bX3_streetOn_0, a_ist, a_push, pu_rv, pu_as, Value.category, pu_bk, pu_kl, pu_qe0, pu_qe1, s]
  all_goals try simp [bX3_streetOn_0, a_ist, a_push, pu_rv, pu_as, Value.category, pu_bk, pu_kl, List.replicate, pu_wi_1, pu_wi_2, nl_add, nl_ladd, nl_aa, nl_mul, nl_rmul, nl_mm, pu_qe0, pu_qe1, s]
/-- the reference's -/
theorem r_streetA_l (hx : pu_fx M) (hr : pu_Rel I L (M.1 72)) (hw : pu_WF I L) (nm tw : Nat → Int64) (hnm : ∀ k, k < 3 → pu_Wd (M.1 78) (12 * k) (nm k)) (htw : ∀ k, k < 3 → pu_Wd (M.1 82) (12 * k) (tw k)) (y : Int32) : ∀ m i (t3 : Option Value), i + m = cN I → (∀ j k, j < i → k < cN I → pz_nr I L (M.1 72) j k → ¬ py_am I L nm tw y k) → pu_r 496 [some (.ref 71), some (.int y), some (.int (nI i)), t3] [] M = some (some (.int (py_ss I L nm tw y)), M)
  | 0, i, t3, h, g => by
    have bN := wx_bN hw
    have ff := fx_71_0 hx
    have h7 := rl_h7 hr
    have hc : nI (cN I) ≤ nI i := nI_le (by omega) (by omega)
    have e : py_ss I L nm tw y = -1 := by
      rcases py_ss_s hw nm tw y with ⟨q, _⟩ | ⟨l, l1, l2, _⟩
      · exact q
      · obtain ⟨j, j1, j2⟩ := rl_na hr l l1
        exact absurd l2 (g j l (by omega) l1 j2)
    rw [e]
    rw [qX12_streetOn_2]
    simp [bX12_streetOn_2, bX12_streetOn_96, bX12_streetOn_37, bX12_streetOn_90, bX12_streetOn_77, a_ai, a_ald, a_cv, a_gr, a_iadd, a_icge, a_ifeq, a_ild, a_imul, a_inc, a_iret, a_ist, a_push, fx_71_0 hx, fx_71_16 hx, fx_71_9 hx, sh_71, sh_72, sh_78, sh_82, pu_rv, pu_as, Value.category, pu_bk, pu_kl, List.replicate, pu_wi_1, pu_wi_2, nl_add, nl_ladd, nl_aa, nl_mul, nl_rmul, nl_mm, pu_qe0, pu_qe1, h7, hc]
    all_goals try simp (maxSteps := 400000) (disch := omega) [nl_tle, nl_fle, nl_tlt, nl_flt, nl_teq, nl_feq, nl_sub, nl_ss, nl_lt, nl_llt, nl_ltt, nl_le, nl_lle, nl_lee, nl_eq, nl_leq, nl_ee, nl_div, nl_rem, nl_cl, nl_n1, nl_n2, nl_n3, nl_n4, nl_add, nl_ladd, nl_aa, nl_mul, nl_rmul, nl_mm, pu_wi_1, pu_wi_2, bX12_streetOn_2, bX12_streetOn_96, bX12_streetOn_37, bX12_streetOn_90, bX12_streetOn_77, a_ai, a_ald, a_cv, a_gr, a_iadd, a_icge, a_ifeq, a_ild, a_imul, a_inc, a_iret, a_ist, a_push, fx_71_0 hx, fx_71_16 hx, fx_71_9 hx, sh_71, sh_72, sh_78, sh_82, pu_rv, pu_as, Value.category, pu_bk, pu_kl, pu_qe0, pu_qe1, h7, hc]
    all_goals try simp [bX12_streetOn_2, bX12_streetOn_96, bX12_streetOn_37, bX12_streetOn_90, bX12_streetOn_77, a_ai, a_ald, a_cv, a_gr, a_iadd, a_icge, a_ifeq, a_ild, a_imul, a_inc, a_iret, a_ist, a_push, fx_71_0 hx, fx_71_16 hx, fx_71_9 hx, sh_71, sh_72, sh_78, sh_82, pu_rv, pu_as, Value.category, pu_bk, pu_kl, List.replicate, pu_wi_1, pu_wi_2, nl_add, nl_ladd, nl_aa, nl_mul, nl_rmul, nl_mm, pu_qe0, pu_qe1, h7, hc]
    all_goals try simp (maxSteps := 400000) (disch := omega) [nl_tle, nl_fle, nl_tlt, nl_flt, nl_teq, nl_feq, nl_sub, nl_ss, nl_lt, nl_llt, nl_ltt, nl_le, nl_lle, nl_lee, nl_eq, nl_leq, nl_ee, nl_div, nl_rem, nl_cl, nl_n1, nl_n2, nl_n3, nl_n4, nl_add, nl_ladd, nl_aa, nl_mul, nl_rmul, nl_mm, pu_wi_1, pu_wi_2, bX12_streetOn_2, bX12_streetOn_96, bX12_streetOn_37, bX12_streetOn_90, bX12_streetOn_77, a_ai, a_ald, a_cv, a_gr, a_iadd, a_icge, a_ifeq, a_ild, a_imul, a_inc, a_iret, a_ist, a_push, fx_71_0 hx, fx_71_16 hx, fx_71_9 hx, sh_71, sh_72, sh_78, sh_82, pu_rv, pu_as, Value.category, pu_bk, pu_kl, pu_qe0, pu_qe1, h7, hc]
    all_goals try simp [bX12_streetOn_2, bX12_streetOn_96, bX12_streetOn_37, bX12_streetOn_90, bX12_streetOn_77, a_ai, a_ald, a_cv, a_gr, a_iadd, a_icge, a_ifeq, a_ild, a_imul, a_inc, a_iret, a_ist, a_push, fx_71_0 hx, fx_71_16 hx, fx_71_9 hx, sh_71, sh_72, sh_78, sh_82, pu_rv, pu_as, Value.category, pu_bk, pu_kl, List.replicate, pu_wi_1, pu_wi_2, nl_add, nl_ladd, nl_aa, nl_mul, nl_rmul, nl_mm, pu_qe0, pu_qe1, h7, hc]
    all_goals try simp (maxSteps := 400000) (disch := omega) [nl_tle, nl_fle, nl_tlt, nl_flt, nl_teq, nl_feq, nl_sub, nl_ss, nl_lt, nl_llt, nl_ltt, nl_le, nl_lle, nl_lee, nl_eq, nl_leq, nl_ee, nl_div, nl_rem, nl_cl, nl_n1, nl_n2, nl_n3, nl_n4, nl_add, nl_ladd, nl_aa, nl_mul, nl_rmul, nl_mm, pu_wi_1, pu_wi_2, bX12_streetOn_2, bX12_streetOn_96, bX12_streetOn_37, bX12_streetOn_90, bX12_streetOn_77, a_ai, a_ald, a_cv, a_gr, a_iadd, a_icge, a_ifeq, a_ild, a_imul, a_inc, a_iret, a_ist, a_push, fx_71_0 hx, fx_71_16 hx, fx_71_9 hx, sh_71, sh_72, sh_78, sh_82, pu_rv, pu_as, Value.category, pu_bk, pu_kl, pu_qe0, pu_qe1, h7, hc]
    all_goals try simp [bX12_streetOn_2, bX12_streetOn_96, bX12_streetOn_37, bX12_streetOn_90, bX12_streetOn_77, a_ai, a_ald, a_cv, a_gr, a_iadd, a_icge, a_ifeq, a_ild, a_imul, a_inc, a_iret, a_ist, a_push, fx_71_0 hx, fx_71_16 hx, fx_71_9 hx, sh_71, sh_72, sh_78, sh_82, pu_rv, pu_as, Value.category, pu_bk, pu_kl, List.replicate, pu_wi_1, pu_wi_2, nl_add, nl_ladd, nl_aa, nl_mul, nl_rmul, nl_mm, pu_qe0, pu_qe1, h7, hc]
  | m + 1, i, t3, h, g => by
    have bN := wx_bN hw
    have bT := wx_bT hw
    have ff := fx_71_0 hx
    have h7 := rl_h7 hr
    have hc : ¬ nI (cN I) ≤ nI i := nI_ge (by omega) (by omega)
    have i4 : i < 400 := by omega
    obtain ⟨k, k1, k2⟩ := rl_nb hr i (by omega)
    have g0 : M.1 72 (7552 + 5 * i) = I 20 k := k2.1
    have g1 : M.1 72 (7552 + 5 * i + 1) = I 21 k := k2.2.1
    have g3 : M.1 72 (7552 + 5 * i + 3) = I 22 k := k2.2.2.1
    have g4 : M.1 72 (7552 + 5 * i + 4) = I 23 k := k2.2.2.2.1
    obtain ⟨mm, m1, m2, m3, m4, m5⟩ := k2.2.2.2.2
    have e2 := r_nholds hx hr hw y k k1
    have tk := pu_on (x := I 21 k) (n := cT I) ⟨(wx_nt hw k k1).1, (wx_nt hw k k1).2⟩
    have e3 := r_isName hx 78 36 sh_78 (by omega) (by omega) mm m2
    have e4 := r_isName hx 82 36 sh_82 (by omega) (by omega) (I 21 k).toNatClampNeg (by omega)
    have A3 : (∀ j, j < 36 → M.1 78 j = M.1 72 (32 + 36 * mm + j)) = py_lk (L 24) nm (3 * k) 0 := by
      have := py_row3 (r := M.1 78) (r' := M.1 72) (a := 0) (a' := 32 + 36 * mm) (f := nm) (g := L 24) (x := 0) (y := 3 * k) (fun w hw2 => by rw [Nat.zero_add, Nat.zero_add]; exact hnm w hw2) m5
      simp only [Nat.zero_add] at this
      rw [propext this]
      exact propext ⟨fun z w hw2 => (z w hw2).symm, fun z w hw2 => (z w hw2).symm⟩
    have A4 : (∀ j, j < 36 → M.1 82 j = M.1 72 (32 + 36 * (I 21 k).toNatClampNeg + j)) = py_lk (L 26) tw (3 * (I 21 k).toNatClampNeg) 0 := by
      have := py_row3 (r := M.1 82) (r' := M.1 72) (a := 0) (a' := 32 + 36 * (I 21 k).toNatClampNeg) (f := tw) (g := L 26) (x := 0) (y := 3 * (I 21 k).toNatClampNeg) (fun w hw2 => by rw [Nat.zero_add, Nat.zero_add]; exact htw w hw2) (fun w hw2 => rl_tw hr _ tk.2 w hw2)
      simp only [Nat.zero_add] at this
      rw [propext this]
      exact propext ⟨fun z w hw2 => (z w hw2).symm, fun z w hw2 => (z w hw2).symm⟩
    rw [A3] at e3
    rw [A4, ← tk.1] at e4
    have f9 := fx_71_9 hx
    have f16 := fx_71_16 hx
    have nx : ¬ py_am I L nm tw y k → pu_r 496 [some (.ref 71), some (.int y), some (.int (nI (i + 1))), some (.int (nI (7552 + 5 * i)))] [] M = some (some (.int (py_ss I L nm tw y)), M) := fun no => r_streetA_l hx hr hw nm tw hnm htw y m (i + 1) _ (by omega) (fun j l hj hl q => by
      by_cases ji : j = i
      · rw [ji] at q
        intro z
        apply no
        have b1 : I 20 l = I 20 k := q.1.symm.trans k2.1
        have b2 : I 22 l = I 22 k := q.2.2.1.symm.trans k2.2.2.1
        obtain ⟨j', j1, j2⟩ := rl_na hr l hl
        -- both spans are told by one of the reference's: the same town, days and words
        have b3 : I 21 l = I 21 k := q.2.1.symm.trans k2.2.1
        have b4 : I 23 l = I 23 k := q.2.2.2.1.symm.trans k2.2.2.2.1
        obtain ⟨m', _, m2', _, m4', m5'⟩ := q.2.2.2.2
        have em : m' = mm := by
          have := m4'.symm.trans m4
          rw [nI_eq (by omega) (by omega)] at this
          exact this
        subst em
        refine ⟨⟨by rw [← b3]; exact z.1.1, fun w hw2 => ?_⟩, ?_⟩
        · have e1 := (py_wd_eq (m5 w hw2) (m5' w hw2)).mp (fun _ _ => rfl)
          rw [e1]
          exact z.1.2 w hw2
        · unfold py_nh
          rw [← b2, ← b4]
          exact z.2
      · exact g j l (by omega) hl q)
    by_cases c2 : py_nh I y k
    · rw [pu_q1 c2] at e2
      by_cases c3 : py_lk (L 24) nm (3 * k) 0
      · rw [pu_q1 c3] at e3
        by_cases c4 : py_lk (L 26) tw (3 * (I 21 k).toNatClampNeg) 0
        · rw [pu_q1 c4] at e4
          rw [py_ss_of hw k1 ⟨⟨c4, c3⟩, c2⟩]
          rw [qX12_streetOn_2]
          simp [bX12_streetOn_2, bX12_streetOn_96, bX12_streetOn_37, bX12_streetOn_90, bX12_streetOn_77, a_ai, a_ald, a_cv, a_gr, a_iadd, a_icge, a_ifeq, a_ild, a_imul, a_inc, a_iret, a_ist, a_push, fx_71_0 hx, fx_71_16 hx, fx_71_9 hx, sh_71, sh_72, sh_78, sh_82, pu_rv, pu_as, Value.category, pu_bk, pu_kl, List.replicate, pu_wi_1, pu_wi_2, nl_add, nl_ladd, nl_aa, nl_mul, nl_rmul, nl_mm, pu_qe0, pu_qe1, h7, hc, i4, g0, g1, g3, g4, m4, e2, e3, e4, sh_78, sh_82]
          all_goals try simp (maxSteps := 400000) (disch := omega) [nl_tle, nl_fle, nl_tlt, nl_flt, nl_teq, nl_feq, nl_sub, nl_ss, nl_lt, nl_llt, nl_ltt, nl_le, nl_lle, nl_lee, nl_eq, nl_leq, nl_ee, nl_div, nl_rem, nl_cl, nl_n1, nl_n2, nl_n3, nl_n4, nl_add, nl_ladd, nl_aa, nl_mul, nl_rmul, nl_mm, pu_wi_1, pu_wi_2, bX12_streetOn_2, bX12_streetOn_96, bX12_streetOn_37, bX12_streetOn_90, bX12_streetOn_77, a_ai, a_ald, a_cv, a_gr, a_iadd, a_icge, a_ifeq, a_ild, a_imul, a_inc, a_iret, a_ist, a_push, fx_71_0 hx, fx_71_16 hx, fx_71_9 hx, sh_71, sh_72, sh_78, sh_82, pu_rv, pu_as, Value.category, pu_bk, pu_kl, pu_qe0, pu_qe1, h7, hc, i4, g0, g1, g3, g4, m4, e2, e3, e4, sh_78, sh_82]
          all_goals try simp [bX12_streetOn_2, bX12_streetOn_96, bX12_streetOn_37, bX12_streetOn_90, bX12_streetOn_77, a_ai, a_ald, a_cv, a_gr, a_iadd, a_icge, a_ifeq, a_ild, a_imul, a_inc, a_iret, a_ist, a_push, fx_71_0 hx, fx_71_16 hx, fx_71_9 hx, sh_71, sh_72, sh_78, sh_82, pu_rv, pu_as, Value.category, pu_bk, pu_kl, List.replicate, pu_wi_1, pu_wi_2, nl_add, nl_ladd, nl_aa, nl_mul, nl_rmul, nl_mm, pu_qe0, pu_qe1, h7, hc, i4, g0, g1, g3, g4, m4, e2, e3, e4, sh_78, sh_82]
          all_goals try simp (maxSteps := 400000) (disch := omega) [nl_tle, nl_fle, nl_tlt, nl_flt, nl_teq, nl_feq, nl_sub, nl_ss, nl_lt, nl_llt, nl_ltt, nl_le, nl_lle, nl_lee, nl_eq, nl_leq, nl_ee, nl_div, nl_rem, nl_cl, nl_n1, nl_n2, nl_n3, nl_n4, nl_add, nl_ladd, nl_aa, nl_mul, nl_rmul, nl_mm, pu_wi_1, pu_wi_2, bX12_streetOn_2, bX12_streetOn_96, bX12_streetOn_37, bX12_streetOn_90, bX12_streetOn_77, a_ai, a_ald, a_cv, a_gr, a_iadd, a_icge, a_ifeq, a_ild, a_imul, a_inc, a_iret, a_ist, a_push, fx_71_0 hx, fx_71_16 hx, fx_71_9 hx, sh_71, sh_72, sh_78, sh_82, pu_rv, pu_as, Value.category, pu_bk, pu_kl, pu_qe0, pu_qe1, h7, hc, i4, g0, g1, g3, g4, m4, e2, e3, e4, sh_78, sh_82]
          all_goals try simp [bX12_streetOn_2, bX12_streetOn_96, bX12_streetOn_37, bX12_streetOn_90, bX12_streetOn_77, a_ai, a_ald, a_cv, a_gr, a_iadd, a_icge, a_ifeq, a_ild, a_imul, a_inc, a_iret, a_ist, a_push, fx_71_0 hx, fx_71_16 hx, fx_71_9 hx, sh_71, sh_72, sh_78, sh_82, pu_rv, pu_as, Value.category, pu_bk, pu_kl, List.replicate, pu_wi_1, pu_wi_2, nl_add, nl_ladd, nl_aa, nl_mul, nl_rmul, nl_mm, pu_qe0, pu_qe1, h7, hc, i4, g0, g1, g3, g4, m4, e2, e3, e4, sh_78, sh_82]
          all_goals try simp (maxSteps := 400000) (disch := omega) [nl_tle, nl_fle, nl_tlt, nl_flt, nl_teq, nl_feq, nl_sub, nl_ss, nl_lt, nl_llt, nl_ltt, nl_le, nl_lle, nl_lee, nl_eq, nl_leq, nl_ee, nl_div, nl_rem, nl_cl, nl_n1, nl_n2, nl_n3, nl_n4, nl_add, nl_ladd, nl_aa, nl_mul, nl_rmul, nl_mm, pu_wi_1, pu_wi_2, bX12_streetOn_2, bX12_streetOn_96, bX12_streetOn_37, bX12_streetOn_90, bX12_streetOn_77, a_ai, a_ald, a_cv, a_gr, a_iadd, a_icge, a_ifeq, a_ild, a_imul, a_inc, a_iret, a_ist, a_push, fx_71_0 hx, fx_71_16 hx, fx_71_9 hx, sh_71, sh_72, sh_78, sh_82, pu_rv, pu_as, Value.category, pu_bk, pu_kl, pu_qe0, pu_qe1, h7, hc, i4, g0, g1, g3, g4, m4, e2, e3, e4, sh_78, sh_82]
          all_goals try simp [bX12_streetOn_2, bX12_streetOn_96, bX12_streetOn_37, bX12_streetOn_90, bX12_streetOn_77, a_ai, a_ald, a_cv, a_gr, a_iadd, a_icge, a_ifeq, a_ild, a_imul, a_inc, a_iret, a_ist, a_push, fx_71_0 hx, fx_71_16 hx, fx_71_9 hx, sh_71, sh_72, sh_78, sh_82, pu_rv, pu_as, Value.category, pu_bk, pu_kl, List.replicate, pu_wi_1, pu_wi_2, nl_add, nl_ladd, nl_aa, nl_mul, nl_rmul, nl_mm, pu_qe0, pu_qe1, h7, hc, i4, g0, g1, g3, g4, m4, e2, e3, e4, sh_78, sh_82]
          all_goals rw [nl_cl _ (by omega)]
          all_goals exact ⟨⟨Int32.not_lt.mp (nI_pos (by omega)), by omega⟩, g0⟩
        · rw [pu_q0 c4] at e4
          have ih := nx (fun z => c4 z.1.1)
          rw [qX12_streetOn_2]
          simp [bX12_streetOn_2, bX12_streetOn_96, bX12_streetOn_37, bX12_streetOn_90, bX12_streetOn_77, a_ai, a_ald, a_cv, a_gr, a_iadd, a_icge, a_ifeq, a_ild, a_imul, a_inc, a_iret, a_ist, a_push, fx_71_0 hx, fx_71_16 hx, fx_71_9 hx, sh_71, sh_72, sh_78, sh_82, pu_rv, pu_as, Value.category, pu_bk, pu_kl, List.replicate, pu_wi_1, pu_wi_2, nl_add, nl_ladd, nl_aa, nl_mul, nl_rmul, nl_mm, pu_qe0, pu_qe1, h7, hc, i4, g1, g3, g4, m4, e2, e3, e4, sh_78, sh_82, ih]
          all_goals try simp (maxSteps := 400000) (disch := omega) [nl_tle, nl_fle, nl_tlt, nl_flt, nl_teq, nl_feq, nl_sub, nl_ss, nl_lt, nl_llt, nl_ltt, nl_le, nl_lle, nl_lee, nl_eq, nl_leq, nl_ee, nl_div, nl_rem, nl_cl, nl_n1, nl_n2, nl_n3, nl_n4, nl_add, nl_ladd, nl_aa, nl_mul, nl_rmul, nl_mm, pu_wi_1, pu_wi_2, bX12_streetOn_2, bX12_streetOn_96, bX12_streetOn_37, bX12_streetOn_90, bX12_streetOn_77, a_ai, a_ald, a_cv, a_gr, a_iadd, a_icge, a_ifeq, a_ild, a_imul, a_inc, a_iret, a_ist, a_push, fx_71_0 hx, fx_71_16 hx, fx_71_9 hx, sh_71, sh_72, sh_78, sh_82, pu_rv, pu_as, Value.category, pu_bk, pu_kl, pu_qe0, pu_qe1, h7, hc, i4, g1, g3, g4, m4, e2, e3, e4, sh_78, sh_82, ih]
          all_goals try simp [bX12_streetOn_2, bX12_streetOn_96, bX12_streetOn_37, bX12_streetOn_90, bX12_streetOn_77, a_ai, a_ald, a_cv, a_gr, a_iadd, a_icge, a_ifeq, a_ild, a_imul, a_inc, a_iret, a_ist, a_push, fx_71_0 hx, fx_71_16 hx, fx_71_9 hx, sh_71, sh_72, sh_78, sh_82, pu_rv, pu_as, Value.category, pu_bk, pu_kl, List.replicate, pu_wi_1, pu_wi_2, nl_add, nl_ladd, nl_aa, nl_mul, nl_rmul, nl_mm, pu_qe0, pu_qe1, h7, hc, i4, g1, g3, g4, m4, e2, e3, e4, sh_78, sh_82, ih]
          all_goals try simp (maxSteps := 400000) (disch := omega) [nl_tle, nl_fle, nl_tlt, nl_flt, nl_teq, nl_feq, nl_sub, nl_ss, nl_lt, nl_llt, nl_ltt, nl_le, nl_lle, nl_lee, nl_eq, nl_leq, nl_ee, nl_div, nl_rem, nl_cl, nl_n1, nl_n2, nl_n3, nl_n4, nl_add, nl_ladd, nl_aa, nl_mul, nl_rmul, nl_mm, pu_wi_1, pu_wi_2, bX12_streetOn_2, bX12_streetOn_96, bX12_streetOn_37, bX12_streetOn_90, bX12_streetOn_77, a_ai, a_ald, a_cv, a_gr, a_iadd, a_icge, a_ifeq, a_ild, a_imul, a_inc, a_iret, a_ist, a_push, fx_71_0 hx, fx_71_16 hx, fx_71_9 hx, sh_71, sh_72, sh_78, sh_82, pu_rv, pu_as, Value.category, pu_bk, pu_kl, pu_qe0, pu_qe1, h7, hc, i4, g1, g3, g4, m4, e2, e3, e4, sh_78, sh_82, ih]
          all_goals try simp [bX12_streetOn_2, bX12_streetOn_96, bX12_streetOn_37, bX12_streetOn_90, bX12_streetOn_77, a_ai, a_ald, a_cv, a_gr, a_iadd, a_icge, a_ifeq, a_ild, a_imul, a_inc, a_iret, a_ist, a_push, fx_71_0 hx, fx_71_16 hx, fx_71_9 hx, sh_71, sh_72, sh_78, sh_82, pu_rv, pu_as, Value.category, pu_bk, pu_kl, List.replicate, pu_wi_1, pu_wi_2, nl_add, nl_ladd, nl_aa, nl_mul, nl_rmul, nl_mm, pu_qe0, pu_qe1, h7, hc, i4, g1, g3, g4, m4, e2, e3, e4, sh_78, sh_82, ih]
          all_goals try simp (maxSteps := 400000) (disch := omega) [nl_tle, nl_fle, nl_tlt, nl_flt, nl_teq, nl_feq, nl_sub, nl_ss, nl_lt, nl_llt, nl_ltt, nl_le, nl_lle, nl_lee, nl_eq, nl_leq, nl_ee, nl_div, nl_rem, nl_cl, nl_n1, nl_n2, nl_n3, nl_n4, nl_add, nl_ladd, nl_aa, nl_mul, nl_rmul, nl_mm, pu_wi_1, pu_wi_2, bX12_streetOn_2, bX12_streetOn_96, bX12_streetOn_37, bX12_streetOn_90, bX12_streetOn_77, a_ai, a_ald, a_cv, a_gr, a_iadd, a_icge, a_ifeq, a_ild, a_imul, a_inc, a_iret, a_ist, a_push, fx_71_0 hx, fx_71_16 hx, fx_71_9 hx, sh_71, sh_72, sh_78, sh_82, pu_rv, pu_as, Value.category, pu_bk, pu_kl, pu_qe0, pu_qe1, h7, hc, i4, g1, g3, g4, m4, e2, e3, e4, sh_78, sh_82, ih]
          all_goals try simp [bX12_streetOn_2, bX12_streetOn_96, bX12_streetOn_37, bX12_streetOn_90, bX12_streetOn_77, a_ai, a_ald, a_cv, a_gr, a_iadd, a_icge, a_ifeq, a_ild, a_imul, a_inc, a_iret, a_ist, a_push, fx_71_0 hx, fx_71_16 hx, fx_71_9 hx, sh_71, sh_72, sh_78, sh_82, pu_rv, pu_as, Value.category, pu_bk, pu_kl, List.replicate, pu_wi_1, pu_wi_2, nl_add, nl_ladd, nl_aa, nl_mul, nl_rmul, nl_mm, pu_qe0, pu_qe1, h7, hc, i4, g1, g3, g4, m4, e2, e3, e4, sh_78, sh_82, ih]
      · rw [pu_q0 c3] at e3
        have ih := nx (fun z => c3 z.1.2)
        rw [qX12_streetOn_2]
        simp [bX12_streetOn_2, bX12_streetOn_96, bX12_streetOn_37, bX12_streetOn_90, bX12_streetOn_77, a_ai, a_ald, a_cv, a_gr, a_iadd, a_icge, a_ifeq, a_ild, a_imul, a_inc, a_iret, a_ist, a_push, fx_71_0 hx, fx_71_16 hx, fx_71_9 hx, sh_71, sh_72, sh_78, sh_82, pu_rv, pu_as, Value.category, pu_bk, pu_kl, List.replicate, pu_wi_1, pu_wi_2, nl_add, nl_ladd, nl_aa, nl_mul, nl_rmul, nl_mm, pu_qe0, pu_qe1, h7, hc, i4, g3, g4, m4, e2, e3, sh_78, ih]
        all_goals try simp (maxSteps := 400000) (disch := omega) [nl_tle, nl_fle, nl_tlt, nl_flt, nl_teq, nl_feq, nl_sub, nl_ss, nl_lt, nl_llt, nl_ltt, nl_le, nl_lle, nl_lee, nl_eq, nl_leq, nl_ee, nl_div, nl_rem, nl_cl, nl_n1, nl_n2, nl_n3, nl_n4, nl_add, nl_ladd, nl_aa, nl_mul, nl_rmul, nl_mm, pu_wi_1, pu_wi_2, bX12_streetOn_2, bX12_streetOn_96, bX12_streetOn_37, bX12_streetOn_90, bX12_streetOn_77, a_ai, a_ald, a_cv, a_gr, a_iadd, a_icge, a_ifeq, a_ild, a_imul, a_inc, a_iret, a_ist, a_push, fx_71_0 hx, fx_71_16 hx, fx_71_9 hx, sh_71, sh_72, sh_78, sh_82, pu_rv, pu_as, Value.category, pu_bk, pu_kl, pu_qe0, pu_qe1, h7, hc, i4, g3, g4, m4, e2, e3, sh_78, ih]
        all_goals try simp [bX12_streetOn_2, bX12_streetOn_96, bX12_streetOn_37, bX12_streetOn_90, bX12_streetOn_77, a_ai, a_ald, a_cv, a_gr, a_iadd, a_icge, a_ifeq, a_ild, a_imul, a_inc, a_iret, a_ist, a_push, fx_71_0 hx, fx_71_16 hx, fx_71_9 hx, sh_71, sh_72, sh_78, sh_82, pu_rv, pu_as, Value.category, pu_bk, pu_kl, List.replicate, pu_wi_1, pu_wi_2, nl_add, nl_ladd, nl_aa, nl_mul, nl_rmul, nl_mm, pu_qe0, pu_qe1, h7, hc, i4, g3, g4, m4, e2, e3, sh_78, ih]
        all_goals try simp (maxSteps := 400000) (disch := omega) [nl_tle, nl_fle, nl_tlt, nl_flt, nl_teq, nl_feq, nl_sub, nl_ss, nl_lt, nl_llt, nl_ltt, nl_le, nl_lle, nl_lee, nl_eq, nl_leq, nl_ee, nl_div, nl_rem, nl_cl, nl_n1, nl_n2, nl_n3, nl_n4, nl_add, nl_ladd, nl_aa, nl_mul, nl_rmul, nl_mm, pu_wi_1, pu_wi_2, bX12_streetOn_2, bX12_streetOn_96, bX12_streetOn_37, bX12_streetOn_90, bX12_streetOn_77, a_ai, a_ald, a_cv, a_gr, a_iadd, a_icge, a_ifeq, a_ild, a_imul, a_inc, a_iret, a_ist, a_push, fx_71_0 hx, fx_71_16 hx, fx_71_9 hx, sh_71, sh_72, sh_78, sh_82, pu_rv, pu_as, Value.category, pu_bk, pu_kl, pu_qe0, pu_qe1, h7, hc, i4, g3, g4, m4, e2, e3, sh_78, ih]
        all_goals try simp [bX12_streetOn_2, bX12_streetOn_96, bX12_streetOn_37, bX12_streetOn_90, bX12_streetOn_77, a_ai, a_ald, a_cv, a_gr, a_iadd, a_icge, a_ifeq, a_ild, a_imul, a_inc, a_iret, a_ist, a_push, fx_71_0 hx, fx_71_16 hx, fx_71_9 hx, sh_71, sh_72, sh_78, sh_82, pu_rv, pu_as, Value.category, pu_bk, pu_kl, List.replicate, pu_wi_1, pu_wi_2, nl_add, nl_ladd, nl_aa, nl_mul, nl_rmul, nl_mm, pu_qe0, pu_qe1, h7, hc, i4, g3, g4, m4, e2, e3, sh_78, ih]
        all_goals try simp (maxSteps := 400000) (disch := omega) [nl_tle, nl_fle, nl_tlt, nl_flt, nl_teq, nl_feq, nl_sub, nl_ss, nl_lt, nl_llt, nl_ltt, nl_le, nl_lle, nl_lee, nl_eq, nl_leq, nl_ee, nl_div, nl_rem, nl_cl, nl_n1, nl_n2, nl_n3, nl_n4, nl_add, nl_ladd, nl_aa, nl_mul, nl_rmul, nl_mm, pu_wi_1, pu_wi_2, bX12_streetOn_2, bX12_streetOn_96, bX12_streetOn_37, bX12_streetOn_90, bX12_streetOn_77, a_ai, a_ald, a_cv, a_gr, a_iadd, a_icge, a_ifeq, a_ild, a_imul, a_inc, a_iret, a_ist, a_push, fx_71_0 hx, fx_71_16 hx, fx_71_9 hx, sh_71, sh_72, sh_78, sh_82, pu_rv, pu_as, Value.category, pu_bk, pu_kl, pu_qe0, pu_qe1, h7, hc, i4, g3, g4, m4, e2, e3, sh_78, ih]
        all_goals try simp [bX12_streetOn_2, bX12_streetOn_96, bX12_streetOn_37, bX12_streetOn_90, bX12_streetOn_77, a_ai, a_ald, a_cv, a_gr, a_iadd, a_icge, a_ifeq, a_ild, a_imul, a_inc, a_iret, a_ist, a_push, fx_71_0 hx, fx_71_16 hx, fx_71_9 hx, sh_71, sh_72, sh_78, sh_82, pu_rv, pu_as, Value.category, pu_bk, pu_kl, List.replicate, pu_wi_1, pu_wi_2, nl_add, nl_ladd, nl_aa, nl_mul, nl_rmul, nl_mm, pu_qe0, pu_qe1, h7, hc, i4, g3, g4, m4, e2, e3, sh_78, ih]
    · rw [pu_q0 c2] at e2
      have ih := nx (fun z => c2 z.2)
      rw [qX12_streetOn_2]
      simp [bX12_streetOn_2, bX12_streetOn_96, bX12_streetOn_37, bX12_streetOn_90, bX12_streetOn_77, a_ai, a_ald, a_cv, a_gr, a_iadd, a_icge, a_ifeq, a_ild, a_imul, a_inc, a_iret, a_ist, a_push, fx_71_0 hx, fx_71_16 hx, fx_71_9 hx, sh_71, sh_72, sh_78, sh_82, pu_rv, pu_as, Value.category, pu_bk, pu_kl, List.replicate, pu_wi_1, pu_wi_2, nl_add, nl_ladd, nl_aa, nl_mul, nl_rmul, nl_mm, pu_qe0, pu_qe1, h7, hc, i4, g3, g4, e2, ih]
      all_goals try simp (maxSteps := 400000) (disch := omega) [nl_tle, nl_fle, nl_tlt, nl_flt, nl_teq, nl_feq, nl_sub, nl_ss, nl_lt, nl_llt, nl_ltt, nl_le, nl_lle, nl_lee, nl_eq, nl_leq, nl_ee, nl_div, nl_rem, nl_cl, nl_n1, nl_n2, nl_n3, nl_n4, nl_add, nl_ladd, nl_aa, nl_mul, nl_rmul, nl_mm, pu_wi_1, pu_wi_2, bX12_streetOn_2, bX12_streetOn_96, bX12_streetOn_37, bX12_streetOn_90, bX12_streetOn_77, a_ai, a_ald, a_cv, a_gr, a_iadd, a_icge, a_ifeq, a_ild, a_imul, a_inc, a_iret, a_ist, a_push, fx_71_0 hx, fx_71_16 hx, fx_71_9 hx, sh_71, sh_72, sh_78, sh_82, pu_rv, pu_as, Value.category, pu_bk, pu_kl, pu_qe0, pu_qe1, h7, hc, i4, g3, g4, e2, ih]
      all_goals try simp [bX12_streetOn_2, bX12_streetOn_96, bX12_streetOn_37, bX12_streetOn_90, bX12_streetOn_77, a_ai, a_ald, a_cv, a_gr, a_iadd, a_icge, a_ifeq, a_ild, a_imul, a_inc, a_iret, a_ist, a_push, fx_71_0 hx, fx_71_16 hx, fx_71_9 hx, sh_71, sh_72, sh_78, sh_82, pu_rv, pu_as, Value.category, pu_bk, pu_kl, List.replicate, pu_wi_1, pu_wi_2, nl_add, nl_ladd, nl_aa, nl_mul, nl_rmul, nl_mm, pu_qe0, pu_qe1, h7, hc, i4, g3, g4, e2, ih]
      all_goals try simp (maxSteps := 400000) (disch := omega) [nl_tle, nl_fle, nl_tlt, nl_flt, nl_teq, nl_feq, nl_sub, nl_ss, nl_lt, nl_llt, nl_ltt, nl_le, nl_lle, nl_lee, nl_eq, nl_leq, nl_ee, nl_div, nl_rem, nl_cl, nl_n1, nl_n2, nl_n3, nl_n4, nl_add, nl_ladd, nl_aa, nl_mul, nl_rmul, nl_mm, pu_wi_1, pu_wi_2, bX12_streetOn_2, bX12_streetOn_96, bX12_streetOn_37, bX12_streetOn_90, bX12_streetOn_77, a_ai, a_ald, a_cv, a_gr, a_iadd, a_icge, a_ifeq, a_ild, a_imul, a_inc, a_iret, a_ist, a_push, fx_71_0 hx, fx_71_16 hx, fx_71_9 hx, sh_71, sh_72, sh_78, sh_82, pu_rv, pu_as, Value.category, pu_bk, pu_kl, pu_qe0, pu_qe1, h7, hc, i4, g3, g4, e2, ih]
      all_goals try simp [bX12_streetOn_2, bX12_streetOn_96, bX12_streetOn_37, bX12_streetOn_90, bX12_streetOn_77, a_ai, a_ald, a_cv, a_gr, a_iadd, a_icge, a_ifeq, a_ild, a_imul, a_inc, a_iret, a_ist, a_push, fx_71_0 hx, fx_71_16 hx, fx_71_9 hx, sh_71, sh_72, sh_78, sh_82, pu_rv, pu_as, Value.category, pu_bk, pu_kl, List.replicate, pu_wi_1, pu_wi_2, nl_add, nl_ladd, nl_aa, nl_mul, nl_rmul, nl_mm, pu_qe0, pu_qe1, h7, hc, i4, g3, g4, e2, ih]
      all_goals try simp (maxSteps := 400000) (disch := omega) [nl_tle, nl_fle, nl_tlt, nl_flt, nl_teq, nl_feq, nl_sub, nl_ss, nl_lt, nl_llt, nl_ltt, nl_le, nl_lle, nl_lee, nl_eq, nl_leq, nl_ee, nl_div, nl_rem, nl_cl, nl_n1, nl_n2, nl_n3, nl_n4, nl_add, nl_ladd, nl_aa, nl_mul, nl_rmul, nl_mm, pu_wi_1, pu_wi_2, bX12_streetOn_2, bX12_streetOn_96, bX12_streetOn_37, bX12_streetOn_90, bX12_streetOn_77, a_ai, a_ald, a_cv, a_gr, a_iadd, a_icge, a_ifeq, a_ild, a_imul, a_inc, a_iret, a_ist, a_push, fx_71_0 hx, fx_71_16 hx, fx_71_9 hx, sh_71, sh_72, sh_78, sh_82, pu_rv, pu_as, Value.category, pu_bk, pu_kl, pu_qe0, pu_qe1, h7, hc, i4, g3, g4, e2, ih]
      all_goals try simp [bX12_streetOn_2, bX12_streetOn_96, bX12_streetOn_37, bX12_streetOn_90, bX12_streetOn_77, a_ai, a_ald, a_cv, a_gr, a_iadd, a_icge, a_ifeq, a_ild, a_imul, a_inc, a_iret, a_ist, a_push, fx_71_0 hx, fx_71_16 hx, fx_71_9 hx, sh_71, sh_72, sh_78, sh_82, pu_rv, pu_as, Value.category, pu_bk, pu_kl, List.replicate, pu_wi_1, pu_wi_2, nl_add, nl_ladd, nl_aa, nl_mul, nl_rmul, nl_mm, pu_qe0, pu_qe1, h7, hc, i4, g3, g4, e2, ih]
theorem r_streetA (hx : pu_fx M) (hr : pu_Rel I L (M.1 72)) (hw : pu_WF I L) (nm tw : Nat → Int64) (hnm : ∀ k, k < 3 → pu_Wd (M.1 78) (12 * k) (nm k)) (htw : ∀ k, k < 3 → pu_Wd (M.1 82) (12 * k) (tw k)) (y : Int32) : pu_r 316 [some (.ref 71), some (.int y)] [] M = some (some (.int (py_ss I L nm tw y)), M) := by
  have e := r_streetA_l hx hr hw nm tw hnm htw y (cN I) 0 none (by omega) (fun j k hj => by omega)
  rw [nI_0] at e
  rw [qX12_streetOn]
  simp [a_ent, bX12_streetOn_0, a_ist, a_push, pu_rv, pu_as, Value.category, pu_bk, pu_kl, List.replicate, pu_wi_1, pu_wi_2, nl_add, nl_ladd, nl_aa, nl_mul, nl_rmul, nl_mm, pu_qe0, pu_qe1, e]
  all_goals try simp (maxSteps := 400000) (disch := omega) [nl_tle, nl_fle, nl_tlt, nl_flt, nl_teq, nl_feq, nl_sub, nl_ss, nl_lt, nl_llt, nl_ltt, nl_le, nl_lle, nl_lee, nl_eq, nl_leq, nl_ee, nl_div, nl_rem, nl_cl, nl_n1, nl_n2, nl_n3, nl_n4, nl_add, nl_ladd, nl_aa, nl_mul, nl_rmul, nl_mm, pu_wi_1, pu_wi_2, bX12_streetOn_0, a_ist, a_push, pu_rv, pu_as, Value.category, pu_bk, pu_kl, pu_qe0, pu_qe1, e]
  all_goals try simp [bX12_streetOn_0, a_ist, a_push, pu_rv, pu_as, Value.category, pu_bk, pu_kl, List.replicate, pu_wi_1, pu_wi_2, nl_add, nl_ladd, nl_aa, nl_mul, nl_rmul, nl_mm, pu_qe0, pu_qe1, e]
  all_goals try simp (maxSteps := 400000) (disch := omega) [nl_tle, nl_fle, nl_tlt, nl_flt, nl_teq, nl_feq, nl_sub, nl_ss, nl_lt, nl_llt, nl_ltt, nl_le, nl_lle, nl_lee, nl_eq, nl_leq, nl_ee, nl_div, nl_rem, nl_cl, nl_n1, nl_n2, nl_n3, nl_n4, nl_add, nl_ladd, nl_aa, nl_mul, nl_rmul, nl_mm, pu_wi_1, pu_wi_2, bX12_streetOn_0, a_ist, a_push, pu_rv, pu_as, Value.category, pu_bk, pu_kl, pu_qe0, pu_qe1, e]
  all_goals try simp [bX12_streetOn_0, a_ist, a_push, pu_rv, pu_as, Value.category, pu_bk, pu_kl, List.replicate, pu_wi_1, pu_wi_2, nl_add, nl_ladd, nl_aa, nl_mul, nl_rmul, nl_mm, pu_qe0, pu_qe1, e]
  all_goals try simp (maxSteps := 400000) (disch := omega) [nl_tle, nl_fle, nl_tlt, nl_flt, nl_teq, nl_feq, nl_sub, nl_ss, nl_lt, nl_llt, nl_ltt, nl_le, nl_lle, nl_lee, nl_eq, nl_leq, nl_ee, nl_div, nl_rem, nl_cl, nl_n1, nl_n2, nl_n3, nl_n4, nl_add, nl_ladd, nl_aa, nl_mul, nl_rmul, nl_mm, pu_wi_1, pu_wi_2, bX12_streetOn_0, a_ist, a_push, pu_rv, pu_as, Value.category, pu_bk, pu_kl, pu_qe0, pu_qe1, e]
  all_goals try simp [bX12_streetOn_0, a_ist, a_push, pu_rv, pu_as, Value.category, pu_bk, pu_kl, List.replicate, pu_wi_1, pu_wi_2, nl_add, nl_ladd, nl_aa, nl_mul, nl_rmul, nl_mm, pu_qe0, pu_qe1, e]
end
