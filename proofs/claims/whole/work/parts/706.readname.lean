/-! names of the tape, both sides -/
noncomputable def py_by (M : pu_M) : Nat → Nat := fun j => (M.1 75 j &&& 255).toNatClampNeg
theorem py_by_b (M : pu_M) (j : Nat) : M.1 75 j &&& 255 = nI (py_by M j) ∧ py_by M j < 256 := by
  obtain ⟨b, b1, b2⟩ := pz_byte (M.1 75 j)
  unfold py_by
  rw [b2, nI_clamp (by omega)]
  exact ⟨rfl, b1⟩
theorem c_begin {M : pu_M} : pu_r 21 [some (.ref 59), some (.ref 1)] [] M = some (none, pu_wi (pu_wr M 59 6 (some 1)) 59 7 0) := by
  rw [qX7_begin]
  simp [a_ent, bX7_begin_0, a_ald, a_pi, a_pr, a_push, a_vret, sh_59, pu_rv, pu_as, Value.category, pu_bk, pu_kl, List.replicate, pu_wi_1, pu_wi_2, nl_add, nl_ladd, nl_aa, nl_mul, nl_rmul, nl_mm, pu_qe0, pu_qe1]
  all_goals try simp (maxSteps := 400000) (disch := omega) [nl_tle, nl_fle, nl_tlt, nl_flt, nl_teq, nl_feq, nl_sub, nl_ss, nl_lt, nl_llt, nl_ltt, nl_le, nl_lle, nl_lee, nl_eq, nl_leq, nl_ee, nl_div, nl_rem, nl_cl, nl_n1, nl_n2, nl_n3, nl_n4, nl_add, nl_ladd, nl_aa, nl_mul, nl_rmul, nl_mm, pu_wi_1, pu_wi_2, bX7_begin_0, a_ald, a_pi, a_pr, a_push, a_vret, sh_59, pu_rv, pu_as, Value.category, pu_bk, pu_kl, pu_qe0, pu_qe1]
  all_goals try simp [bX7_begin_0, a_ald, a_pi, a_pr, a_push, a_vret, sh_59, pu_rv, pu_as, Value.category, pu_bk, pu_kl, List.replicate, pu_wi_1, pu_wi_2, nl_add, nl_ladd, nl_aa, nl_mul, nl_rmul, nl_mm, pu_qe0, pu_qe1]
  all_goals try simp (maxSteps := 400000) (disch := omega) [nl_tle, nl_fle, nl_tlt, nl_flt, nl_teq, nl_feq, nl_sub, nl_ss, nl_lt, nl_llt, nl_ltt, nl_le, nl_lle, nl_lee, nl_eq, nl_leq, nl_ee, nl_div, nl_rem, nl_cl, nl_n1, nl_n2, nl_n3, nl_n4, nl_add, nl_ladd, nl_aa, nl_mul, nl_rmul, nl_mm, pu_wi_1, pu_wi_2, bX7_begin_0, a_ald, a_pi, a_pr, a_push, a_vret, sh_59, pu_rv, pu_as, Value.category, pu_bk, pu_kl, pu_qe0, pu_qe1]
theorem py_wr_1 (M : pu_M) (a i : Nat) (v : Option Nat) : (pu_wr M a i v).1 = M.1 := rfl
theorem py_wr_2 (M : pu_M) (a i : Nat) (v : Option Nat) : (pu_wr M a i v).2.1 = M.2.1 := rfl
theorem py_fx_wr {M : pu_M} (hx : pu_fx M) (v : Option Nat) : pu_fx (pu_wr M 59 6 v) := fun a k r q => by
  have hm := pu_RTm q
  have D : ∀ q ∈ pu_RTl, ¬ (q.1 = 59 ∧ q.2.1 = 6) := by decide
  have d := D _ hm
  rw [pu_wr_3]
  by_cases c : a = 59
  · rw [if_pos c, if_neg (fun z => d ⟨c, z⟩)]
    exact hx a k r q
  · rw [if_neg c]
    exact hx a k r q
/-- the class's reader and its tape have changed -/
def py_cr (M N : pu_M) : Prop := N.2.2.2 = M.2.2.2 ∧ (∀ a j, ¬ (a = 59 ∧ j = 6) → N.2.2.1 a j = M.2.2.1 a j) ∧ (∀ a j, a ≠ 59 → ¬ (a = 1 ∧ j = 0) → N.1 a j = M.1 a j) ∧ (∀ a j, a ≠ 60 → a ≠ 61 → N.2.1 a j = M.2.1 a j) ∧ N.1 1 0 = 0 ∧ pu_fx N
theorem c_readName {M : pu_M} (h : pu_Inv M) {t : Nat} (ht : t ≤ 1200) (h1 : M.1 1 0 = nI t) (h2 : ∀ j, j < t → M.1 2 j = M.1 75 j &&& 255) : ∃ N, py_cr M N ∧ (∀ l, py_ns (py_by M) t 3 0 = some l → ∀ k, k < 3 → N.2.1 60 k = py_fu (pu_si M 5) (pu_sj M 5) (lN (pu_wv (l.getD k [])))) ∧ pu_r 31 [some (.ref 0)] [] M = some (some (.int (pu_q (py_ns (py_by M) t 3 0 ≠ none))), N) := by
  have hx := h.1
  have hI := pu_ag5 M
  have hL := pu_al5 M
  have hw := pu_hS h
  have hx1 : pu_fx (pu_wi (pu_wr M 59 6 (some 1)) 59 7 0) := py_fx_wr hx _
  have tv : py_tv (pu_wi (pu_wr M 59 6 (some 1)) 59 7 0) (py_by M) t := ⟨by rw [py_wi_o (by omega)]; exact h1, ht, by show (pu_wr M 59 6 (some 1)).2.2.1 59 6 = some 1; rw [pu_wr_3, if_pos rfl, if_pos rfl], fun j hj => ⟨by rw [py_wi_o (by omega)]; exact (h2 j hj).trans (py_by_b M j).1, (py_by_b M j).2⟩⟩
  obtain ⟨N, n1, n2, n3⟩ := c_toEnd (M := pu_wi (pu_wr M 59 6 (some 1)) 59 7 0) (py_by M) t 60 sh_60 0 hx1 tv (by omega) (by simp [pu_wi_1, nI_0])
  have hxN : pu_fx N := fun a k r q => by
    rw [n1.1]
    exact hx1 a k r q
  have oN : ∀ a j, a ≠ 59 → N.1 a j = M.1 a j := fun a j ha => by
    rw [n1.2.1 a j (by omega), py_wi_o (by omega)]
    rfl
  obtain ⟨F, f1, f2, f3, f4, f5⟩ := c_lengthen (M := N) (I := pu_si M 5) (L := pu_sj M 5) 60 sh_60 (by omega) hxN (fun a j q1 q2 => by rw [oN a j (by omega)]; exact hI a j q1 q2) (fun a j q1 q2 => by rw [n1.2.2 a j (by omega)]; exact hL a j q1 q2) hw
  have b1 := c_begin (M := M)
  have e0 : pu_r 30 [some (.ref 59), some (.ref 1), some (.ref 42)] [] M = some (some (.int (pu_q (py_ns (py_by M) t 3 0 ≠ none))), F) := by
    have g1 := fx_59_0 hx
    have g2 : (pu_wr M 59 6 (some 1)).2.2.1 59 0 = some 60 := fx_59_0 hx1
    have g3 := fx_59_0 hxN
    have q01 : pu_q (py_ns (py_by M) t 3 0 ≠ none) = 0 ∨ pu_q (py_ns (py_by M) t 3 0 ≠ none) = 1 := by
      by_cases c : py_ns (py_by M) t 3 0 ≠ none
      · exact Or.inr (pu_q1 c)
      · exact Or.inl (pu_q0 c)
    rcases q01 with q | q
    · rw [q] at n3 ⊢
      rw [qX7_readName]
      simp [a_ent, bX7_readName_0, a_ald, a_cs, a_cv, a_gr, a_ild, a_ist, a_zret, sh_59, sh_60, pu_rv, pu_as, Value.category, pu_bk, pu_kl, List.replicate, pu_wi_1, pu_wi_2, nl_add, nl_ladd, nl_aa, nl_mul, nl_rmul, nl_mm, pu_qe0, pu_qe1, b1, g1, g2, g3, n3, f5, sh_59, sh_60, sh_42, sh_1]
      all_goals try simp (maxSteps := 400000) (disch := omega) [nl_tle, nl_fle, nl_tlt, nl_flt, nl_teq, nl_feq, nl_sub, nl_ss, nl_lt, nl_llt, nl_ltt, nl_le, nl_lle, nl_lee, nl_eq, nl_leq, nl_ee, nl_div, nl_rem, nl_cl, nl_n1, nl_n2, nl_n3, nl_n4, nl_add, nl_ladd, nl_aa, nl_mul, nl_rmul, nl_mm, pu_wi_1, pu_wi_2, bX7_readName_0, a_ald, a_cs, a_cv, a_gr, a_ild, a_ist, a_zret, sh_59, sh_60, pu_rv, pu_as, Value.category, pu_bk, pu_kl, pu_qe0, pu_qe1, b1, g1, g2, g3, n3, f5, sh_59, sh_60, sh_42, sh_1]
      all_goals try simp [bX7_readName_0, a_ald, a_cs, a_cv, a_gr, a_ild, a_ist, a_zret, sh_59, sh_60, pu_rv, pu_as, Value.category, pu_bk, pu_kl, List.replicate, pu_wi_1, pu_wi_2, nl_add, nl_ladd, nl_aa, nl_mul, nl_rmul, nl_mm, pu_qe0, pu_qe1, b1, g1, g2, g3, n3, f5, sh_59, sh_60, sh_42, sh_1]
      all_goals try simp (maxSteps := 400000) (disch := omega) [nl_tle, nl_fle, nl_tlt, nl_flt, nl_teq, nl_feq, nl_sub, nl_ss, nl_lt, nl_llt, nl_ltt, nl_le, nl_lle, nl_lee, nl_eq, nl_leq, nl_ee, nl_div, nl_rem, nl_cl, nl_n1, nl_n2, nl_n3, nl_n4, nl_add, nl_ladd, nl_aa, nl_mul, nl_rmul, nl_mm, pu_wi_1, pu_wi_2, bX7_readName_0, a_ald, a_cs, a_cv, a_gr, a_ild, a_ist, a_zret, sh_59, sh_60, pu_rv, pu_as, Value.category, pu_bk, pu_kl, pu_qe0, pu_qe1, b1, g1, g2, g3, n3, f5, sh_59, sh_60, sh_42, sh_1]
    · rw [q] at n3 ⊢
      rw [qX7_readName]
      simp [a_ent, bX7_readName_0, a_ald, a_cs, a_cv, a_gr, a_ild, a_ist, a_zret, sh_59, sh_60, pu_rv, pu_as, Value.category, pu_bk, pu_kl, List.replicate, pu_wi_1, pu_wi_2, nl_add, nl_ladd, nl_aa, nl_mul, nl_rmul, nl_mm, pu_qe0, pu_qe1, b1, g1, g2, g3, n3, f5, sh_59, sh_60, sh_42, sh_1]
      all_goals try simp (maxSteps := 400000) (disch := omega) [nl_tle, nl_fle, nl_tlt, nl_flt, nl_teq, nl_feq, nl_sub, nl_ss, nl_lt, nl_llt, nl_ltt, nl_le, nl_lle, nl_lee, nl_eq, nl_leq, nl_ee, nl_div, nl_rem, nl_cl, nl_n1, nl_n2, nl_n3, nl_n4, nl_add, nl_ladd, nl_aa, nl_mul, nl_rmul, nl_mm, pu_wi_1, pu_wi_2, bX7_readName_0, a_ald, a_cs, a_cv, a_gr, a_ild, a_ist, a_zret, sh_59, sh_60, pu_rv, pu_as, Value.category, pu_bk, pu_kl, pu_qe0, pu_qe1, b1, g1, g2, g3, n3, f5, sh_59, sh_60, sh_42, sh_1]
      all_goals try simp [bX7_readName_0, a_ald, a_cs, a_cv, a_gr, a_ild, a_ist, a_zret, sh_59, sh_60, pu_rv, pu_as, Value.category, pu_bk, pu_kl, List.replicate, pu_wi_1, pu_wi_2, nl_add, nl_ladd, nl_aa, nl_mul, nl_rmul, nl_mm, pu_qe0, pu_qe1, b1, g1, g2, g3, n3, f5, sh_59, sh_60, sh_42, sh_1]
      all_goals try simp (maxSteps := 400000) (disch := omega) [nl_tle, nl_fle, nl_tlt, nl_flt, nl_teq, nl_feq, nl_sub, nl_ss, nl_lt, nl_llt, nl_ltt, nl_le, nl_lle, nl_lee, nl_eq, nl_leq, nl_ee, nl_div, nl_rem, nl_cl, nl_n1, nl_n2, nl_n3, nl_n4, nl_add, nl_ladd, nl_aa, nl_mul, nl_rmul, nl_mm, pu_wi_1, pu_wi_2, bX7_readName_0, a_ald, a_cs, a_cv, a_gr, a_ild, a_ist, a_zret, sh_59, sh_60, pu_rv, pu_as, Value.category, pu_bk, pu_kl, pu_qe0, pu_qe1, b1, g1, g2, g3, n3, f5, sh_59, sh_60, sh_42, sh_1]
  have F22 : F.2.2 = (pu_wr M 59 6 (some 1)).2.2 := f2.trans n1.1
  have F0 : F.2.2.1 0 0 = some 1 := by rw [F22, pu_wr_3, if_neg (by omega)]; exact fx_0_0 hx
  have FR : ∀ a j, ¬ (a = 59 ∧ j = 6) → F.2.2.1 a j = M.2.2.1 a j := fun a j hj => by
    rw [F22, pu_wr_3]
    by_cases c : a = 59
    · rw [if_pos c, if_neg (fun z => hj ⟨c, z⟩)]
    · rw [if_neg c]
  refine ⟨pu_wi F 1 0 0, ⟨by show F.2.2.2 = _; rw [F22]; rfl, fun a j hj => FR a j hj, fun a j h1 h2 => by rw [py_wi_o h2, f1, oN a j h1], fun a j h1 h2 => by show F.2.1 a j = _; rw [f3 a j h1, n1.2.2 a j (by omega)]; rfl, by simp [pu_wi_1], fun a k r q => by
    have hm := pu_RTm q
    have D : ∀ q ∈ pu_RTl, ¬ (q.1 = 59 ∧ q.2.1 = 6) := by decide
    have d := D _ hm
    show F.2.2.1 a k = some r
    rw [FR a k d]
    exact hx a k r q⟩, fun l hl k hk => ?_, ?_⟩
  · show F.2.1 60 k = _
    rw [f4 k hk, n2 l hl k hk]
  · have q01 : pu_q (py_ns (py_by M) t 3 0 ≠ none) = 0 ∨ pu_q (py_ns (py_by M) t 3 0 ≠ none) = 1 := by
      by_cases c : py_ns (py_by M) t 3 0 ≠ none
      · exact Or.inr (pu_q1 c)
      · exact Or.inl (pu_q0 c)
    rcases q01 with q | q
    · rw [q] at e0 ⊢
      rw [qX11_readName]
      simp [a_ent, bX11_readName_0, a_ald, a_cv, a_gr, a_ild, a_ist, a_pi, a_push, a_zret, fx_0_0 hx, fx_0_2 hx, fx_0_4 hx, fx_5_5 hx, sh_0, sh_1, sh_3, sh_42, sh_5, sh_59, pu_rv, pu_as, Value.category, pu_bk, pu_kl, List.replicate, pu_wi_1, pu_wi_2, nl_add, nl_ladd, nl_aa, nl_mul, nl_rmul, nl_mm, pu_qe0, pu_qe1, e0, F0]
      all_goals try simp (maxSteps := 400000) (disch := omega) [nl_tle, nl_fle, nl_tlt, nl_flt, nl_teq, nl_feq, nl_sub, nl_ss, nl_lt, nl_llt, nl_ltt, nl_le, nl_lle, nl_lee, nl_eq, nl_leq, nl_ee, nl_div, nl_rem, nl_cl, nl_n1, nl_n2, nl_n3, nl_n4, nl_add, nl_ladd, nl_aa, nl_mul, nl_rmul, nl_mm, pu_wi_1, pu_wi_2, bX11_readName_0, a_ald, a_cv, a_gr, a_ild, a_ist, a_pi, a_push, a_zret, fx_0_0 hx, fx_0_2 hx, fx_0_4 hx, fx_5_5 hx, sh_0, sh_1, sh_3, sh_42, sh_5, sh_59, pu_rv, pu_as, Value.category, pu_bk, pu_kl, pu_qe0, pu_qe1, e0, F0]
      all_goals try simp [bX11_readName_0, a_ald, a_cv, a_gr, a_ild, a_ist, a_pi, a_push, a_zret, fx_0_0 hx, fx_0_2 hx, fx_0_4 hx, fx_5_5 hx, sh_0, sh_1, sh_3, sh_42, sh_5, sh_59, pu_rv, pu_as, Value.category, pu_bk, pu_kl, List.replicate, pu_wi_1, pu_wi_2, nl_add, nl_ladd, nl_aa, nl_mul, nl_rmul, nl_mm, pu_qe0, pu_qe1, e0, F0]
      all_goals try simp (maxSteps := 400000) (disch := omega) [nl_tle, nl_fle, nl_tlt, nl_flt, nl_teq, nl_feq, nl_sub, nl_ss, nl_lt, nl_llt, nl_ltt, nl_le, nl_lle, nl_lee, nl_eq, nl_leq, nl_ee, nl_div, nl_rem, nl_cl, nl_n1, nl_n2, nl_n3, nl_n4, nl_add, nl_ladd, nl_aa, nl_mul, nl_rmul, nl_mm, pu_wi_1, pu_wi_2, bX11_readName_0, a_ald, a_cv, a_gr, a_ild, a_ist, a_pi, a_push, a_zret, fx_0_0 hx, fx_0_2 hx, fx_0_4 hx, fx_5_5 hx, sh_0, sh_1, sh_3, sh_42, sh_5, sh_59, pu_rv, pu_as, Value.category, pu_bk, pu_kl, pu_qe0, pu_qe1, e0, F0]
    · rw [q] at e0 ⊢
      rw [qX11_readName]
      simp [a_ent, bX11_readName_0, a_ald, a_cv, a_gr, a_ild, a_ist, a_pi, a_push, a_zret, fx_0_0 hx, fx_0_2 hx, fx_0_4 hx, fx_5_5 hx, sh_0, sh_1, sh_3, sh_42, sh_5, sh_59, pu_rv, pu_as, Value.category, pu_bk, pu_kl, List.replicate, pu_wi_1, pu_wi_2, nl_add, nl_ladd, nl_aa, nl_mul, nl_rmul, nl_mm, pu_qe0, pu_qe1, e0, F0]
      all_goals try simp (maxSteps := 400000) (disch := omega) [nl_tle, nl_fle, nl_tlt, nl_flt, nl_teq, nl_feq, nl_sub, nl_ss, nl_lt, nl_llt, nl_ltt, nl_le, nl_lle, nl_lee, nl_eq, nl_leq, nl_ee, nl_div, nl_rem, nl_cl, nl_n1, nl_n2, nl_n3, nl_n4, nl_add, nl_ladd, nl_aa, nl_mul, nl_rmul, nl_mm, pu_wi_1, pu_wi_2, bX11_readName_0, a_ald, a_cv, a_gr, a_ild, a_ist, a_pi, a_push, a_zret, fx_0_0 hx, fx_0_2 hx, fx_0_4 hx, fx_5_5 hx, sh_0, sh_1, sh_3, sh_42, sh_5, sh_59, pu_rv, pu_as, Value.category, pu_bk, pu_kl, pu_qe0, pu_qe1, e0, F0]
      all_goals try simp [bX11_readName_0, a_ald, a_cv, a_gr, a_ild, a_ist, a_pi, a_push, a_zret, fx_0_0 hx, fx_0_2 hx, fx_0_4 hx, fx_5_5 hx, sh_0, sh_1, sh_3, sh_42, sh_5, sh_59, pu_rv, pu_as, Value.category, pu_bk, pu_kl, List.replicate, pu_wi_1, pu_wi_2, nl_add, nl_ladd, nl_aa, nl_mul, nl_rmul, nl_mm, pu_qe0, pu_qe1, e0, F0]
      all_goals try simp (maxSteps := 400000) (disch := omega) [nl_tle, nl_fle, nl_tlt, nl_flt, nl_teq, nl_feq, nl_sub, nl_ss, nl_lt, nl_llt, nl_ltt, nl_le, nl_lle, nl_lee, nl_eq, nl_leq, nl_ee, nl_div, nl_rem, nl_cl, nl_n1, nl_n2, nl_n3, nl_n4, nl_add, nl_ladd, nl_aa, nl_mul, nl_rmul, nl_mm, pu_wi_1, pu_wi_2, bX11_readName_0, a_ald, a_cv, a_gr, a_ild, a_ist, a_pi, a_push, a_zret, fx_0_0 hx, fx_0_2 hx, fx_0_4 hx, fx_5_5 hx, sh_0, sh_1, sh_3, sh_42, sh_5, sh_59, pu_rv, pu_as, Value.category, pu_bk, pu_kl, pu_qe0, pu_qe1, e0, F0]
/-- the reference's text and its rows of letters have changed -/
def py_cq (Q R : pu_M) : Prop := R.2 = Q.2 ∧ (∀ a j, ¬ (a = 71 ∧ (j = 4 ∨ j = 6)) → a ≠ 76 → a ≠ 78 → R.1 a j = Q.1 a j) ∧ R.1 71 4 = 0
theorem r_readsName {Q : pu_M} {I : Nat → Nat → Int32} {L : Nat → Nat → Int64} (hx : pu_fx Q) (hr : pu_Rel I L (Q.1 72)) (hw : pu_WF I L) {b : Nat → Nat} {t : Nat} (ht : t ≤ 1200) (h4 : Q.1 71 4 = nI t) (hb : ∀ j, j < t → Q.1 75 j &&& 255 = nI (b j) ∧ b j < 256) : ∃ R, py_cq Q R ∧ (∀ l, py_ns b t 3 0 = some l → ∀ k, k < 3 → pu_Wd (R.1 78) (12 * k) (py_fu I L (lN (pu_wv (l.getD k []))))) ∧ pu_r 244 [some (.ref 71)] [] Q = some (some (.int (pu_q (py_ns b t 3 0 ≠ none))), R) := by
  have tk := e_X12_takes hx (w := t) h4 ht
  have hxT : pu_fx (pu_tk Q t) := pz_fx_of hx rfl
  have T4 : (pu_tk Q t).1 71 4 = 0 := by simp [pu_tk, pu_wi_1]
  have TR : py_tr (pu_tk Q t) b t := ⟨pz_tk_6, ht, fun j hj => ⟨by rw [pz_tk_b hj]; exact (hb j hj).1, (hb j hj).2⟩⟩
  obtain ⟨N, n1, n2, n3, n4⟩ := r_reads (M := pu_tk Q t) b t 1 3 (by omega) (by omega) (by omega) hxT TR
  have hxN : pu_fx N := pz_fx_of hx n1
  rw [show nI 1 = (1 : Int32) from rfl, show nI 3 = (3 : Int32) from rfl] at n4
  have oN : ∀ a j, ¬ (a = 71 ∧ (j = 4 ∨ j = 6)) → a ≠ 76 → a ≠ 78 → N.1 a j = Q.1 a j := fun a j q1 q2 q3 => by
    rw [n2 a j q3, pz_tk_o (by omega) q2]
  have eg : (∃ l, py_ns b t 3 0 = some l ∧ 1 ≤ l.length) = (py_ns b t 3 0 ≠ none) := by
    apply propext
    constructor
    · rintro ⟨l, hl, _⟩ z
      rw [z] at hl
      cases hl
    · intro z
      cases hl : py_ns b t 3 0 with
      | none => exact absurd hl z
      | some l =>
        refine ⟨l, rfl, ?_⟩
        cases l with
        | cons d l => simp
        | nil =>
          exfalso
          unfold py_ns at hl
          by_cases c0 : py_lw b t 12 0 = []
          · rw [if_pos c0] at hl; cases hl
          · rw [if_neg c0] at hl
            by_cases c1 : 0 + (py_lw b t 12 0).length = t
            · rw [if_pos c1] at hl; cases hl
            · rw [if_neg c1, if_neg (show ¬ (2 : Nat) = 0 by decide)] at hl
              by_cases c3 : b (0 + (py_lw b t 12 0).length) = 32
              · rw [if_pos c3, Option.map_eq_some_iff] at hl
                obtain ⟨l2, _, h2⟩ := hl
                cases h2
              · rw [if_neg c3] at hl; cases hl
  rw [eg] at n4
  by_cases g : py_ns b t 3 0 ≠ none
  rotate_left
  · rw [pu_q0 g] at n4 ⊢
    refine ⟨N, ⟨n1, oN, by rw [n2 71 4 (by omega)]; exact T4⟩, fun l hl => absurd hl (fun z => g (by rw [z]; intro y; cases y)), ?_⟩
    rw [qX12_readsName]
    simp [a_ent, bX12_readsName_0, bX12_readsName_15, a_ald, a_cv, a_ifne, a_ist, a_push, a_zret, sh_71, pu_rv, pu_as, Value.category, pu_bk, pu_kl, List.replicate, pu_wi_1, pu_wi_2, nl_add, nl_ladd, nl_aa, nl_mul, nl_rmul, nl_mm, pu_qe0, pu_qe1, tk, n4]
    all_goals try simp (maxSteps := 400000) (disch := omega) [nl_tle, nl_fle, nl_tlt, nl_flt, nl_teq, nl_feq, nl_sub, nl_ss, nl_lt, nl_llt, nl_ltt, nl_le, nl_lle, nl_lee, nl_eq, nl_leq, nl_ee, nl_div, nl_rem, nl_cl, nl_n1, nl_n2, nl_n3, nl_n4, nl_add, nl_ladd, nl_aa, nl_mul, nl_rmul, nl_mm, pu_wi_1, pu_wi_2, bX12_readsName_0, bX12_readsName_15, a_ald, a_cv, a_ifne, a_ist, a_push, a_zret, sh_71, pu_rv, pu_as, Value.category, pu_bk, pu_kl, pu_qe0, pu_qe1, tk, n4]
    all_goals try simp [bX12_readsName_0, bX12_readsName_15, a_ald, a_cv, a_ifne, a_ist, a_push, a_zret, sh_71, pu_rv, pu_as, Value.category, pu_bk, pu_kl, List.replicate, pu_wi_1, pu_wi_2, nl_add, nl_ladd, nl_aa, nl_mul, nl_rmul, nl_mm, pu_qe0, pu_qe1, tk, n4]
    all_goals try simp (maxSteps := 400000) (disch := omega) [nl_tle, nl_fle, nl_tlt, nl_flt, nl_teq, nl_feq, nl_sub, nl_ss, nl_lt, nl_llt, nl_ltt, nl_le, nl_lle, nl_lee, nl_eq, nl_leq, nl_ee, nl_div, nl_rem, nl_cl, nl_n1, nl_n2, nl_n3, nl_n4, nl_add, nl_ladd, nl_aa, nl_mul, nl_rmul, nl_mm, pu_wi_1, pu_wi_2, bX12_readsName_0, bX12_readsName_15, a_ald, a_cv, a_ifne, a_ist, a_push, a_zret, sh_71, pu_rv, pu_as, Value.category, pu_bk, pu_kl, pu_qe0, pu_qe1, tk, n4]
  · rw [pu_q1 g] at n4 ⊢
    obtain ⟨l, hl⟩ : ∃ l, py_ns b t 3 0 = some l := by
      cases hl : py_ns b t 3 0 with
      | none => exact absurd hl g
      | some l => exact ⟨l, rfl⟩
    have pl := py_ns_l b t 3 0 l (by omega) hl
    have W0 : ∀ k, k < 3 → pu_Wd (N.1 78) (12 * k) (lN (pu_wv (l.getD k []))) := fun k hk => by
      refine ⟨l.getD k [], ?_, ?_, fun i hi => n3 l hl k i hk hi, rfl⟩
      · by_cases c : k < l.length
        · have : l.getD k [] = l[k] := by simp [List.getD, c]
          rw [this]
          exact (pl.2 _ (List.getElem_mem c)).2.1
        · have : l.getD k [] = [] := by simp [List.getD, List.getElem?_eq_none (show l.length ≤ k by omega)]
          rw [this]
          exact Nat.zero_le _
      · by_cases c : k < l.length
        · have : l.getD k [] = l[k] := by simp [List.getD, c]
          rw [this]
          exact (pl.2 _ (List.getElem_mem c)).2.2
        · have : l.getD k [] = [] := by simp [List.getD, List.getElem?_eq_none (show l.length ≤ k by omega)]
          rw [this]
          exact fun d hd => by cases hd
    -- the loop over the words
    have G : ∀ m w (P : pu_M), w + m = 3 → P.2 = Q.2 → (∀ a j, a ≠ 78 → P.1 a j = N.1 a j) → (∀ k, k < 3 → (k < w → pu_Wd (P.1 78) (12 * k) (py_fu I L (lN (pu_wv (l.getD k []))))) ∧ (w ≤ k → pu_Wd (P.1 78) (12 * k) (lN (pu_wv (l.getD k []))))) → ∃ R, R.2 = Q.2 ∧ (∀ a j, a ≠ 78 → R.1 a j = N.1 a j) ∧ (∀ k, k < 3 → pu_Wd (R.1 78) (12 * k) (py_fu I L (lN (pu_wv (l.getD k []))))) ∧ pu_r 438 [some (.ref 71), some (.int (nI w))] [] P = some (some (.int 1), R) := by
      intro m
      induction m with
      | zero =>
        intro w P h p1 p2 p3
        have e : w = 3 := by omega
        subst e
        refine ⟨P, p1, p2, fun k hk => (p3 k hk).1 hk, ?_⟩
        have hc : 3 ≤ nI 3 := by decide
        rw [qX12_readsName_17]
        simp [bX12_readsName_17, bX12_readsName_49, bX12_readsName_43, a_ai, a_ald, a_cv, a_gr, a_icge, a_ifeq, a_ild, a_imul, a_inc, a_push, a_zret, sh_71, sh_78, pu_rv, pu_as, Value.category, pu_bk, pu_kl, List.replicate, pu_wi_1, pu_wi_2, nl_add, nl_ladd, nl_aa, nl_mul, nl_rmul, nl_mm, pu_qe0, pu_qe1, hc]
        all_goals try simp (maxSteps := 400000) (disch := omega) [nl_tle, nl_fle, nl_tlt, nl_flt, nl_teq, nl_feq, nl_sub, nl_ss, nl_lt, nl_llt, nl_ltt, nl_le, nl_lle, nl_lee, nl_eq, nl_leq, nl_ee, nl_div, nl_rem, nl_cl, nl_n1, nl_n2, nl_n3, nl_n4, nl_add, nl_ladd, nl_aa, nl_mul, nl_rmul, nl_mm, pu_wi_1, pu_wi_2, bX12_readsName_17, bX12_readsName_49, bX12_readsName_43, a_ai, a_ald, a_cv, a_gr, a_icge, a_ifeq, a_ild, a_imul, a_inc, a_push, a_zret, sh_71, sh_78, pu_rv, pu_as, Value.category, pu_bk, pu_kl, pu_qe0, pu_qe1, hc]
        all_goals try simp [bX12_readsName_17, bX12_readsName_49, bX12_readsName_43, a_ai, a_ald, a_cv, a_gr, a_icge, a_ifeq, a_ild, a_imul, a_inc, a_push, a_zret, sh_71, sh_78, pu_rv, pu_as, Value.category, pu_bk, pu_kl, List.replicate, pu_wi_1, pu_wi_2, nl_add, nl_ladd, nl_aa, nl_mul, nl_rmul, nl_mm, pu_qe0, pu_qe1, hc]
        all_goals try simp (maxSteps := 400000) (disch := omega) [nl_tle, nl_fle, nl_tlt, nl_flt, nl_teq, nl_feq, nl_sub, nl_ss, nl_lt, nl_llt, nl_ltt, nl_le, nl_lle, nl_lee, nl_eq, nl_leq, nl_ee, nl_div, nl_rem, nl_cl, nl_n1, nl_n2, nl_n3, nl_n4, nl_add, nl_ladd, nl_aa, nl_mul, nl_rmul, nl_mm, pu_wi_1, pu_wi_2, bX12_readsName_17, bX12_readsName_49, bX12_readsName_43, a_ai, a_ald, a_cv, a_gr, a_icge, a_ifeq, a_ild, a_imul, a_inc, a_push, a_zret, sh_71, sh_78, pu_rv, pu_as, Value.category, pu_bk, pu_kl, pu_qe0, pu_qe1, hc]
      | succ m ih =>
        intro w P h p1 p2 p3
        have hc : ¬ 3 ≤ nI w := nI_ge (b := 3) (by omega) (by omega)
        have hxP : pu_fx P := pz_fx_of hx p1
        have f := fx_71_9 hxP
        have P72 : P.1 72 = Q.1 72 := funext (fun j => by rw [p2 72 j (by omega), oN 72 j (by omega) (by omega) (by omega)])
        have hrP : pu_Rel I L (P.1 72) := by rw [P72]; exact hr
        have dw := (p3 w (by omega)).2 (Nat.le_refl _)
        have z0 := py_wd_0 dw
        by_cases c : P.1 78 (12 * w) = 0
        · have x0 := z0.mp c
          obtain ⟨R, r1, r2, r3, r4⟩ := ih (w + 1) P (by omega) p1 p2 (fun k hk => ⟨fun kw => by
            by_cases kk : k = w
            · subst kk
              rw [x0, py_fu_0 hw, ← x0]
              exact dw
            · exact (p3 k hk).1 (by omega), fun kw => (p3 k hk).2 (by omega)⟩)
          refine ⟨R, r1, r2, r3, ?_⟩
          rw [qX12_readsName_17]
          simp [bX12_readsName_17, bX12_readsName_49, bX12_readsName_43, a_ai, a_ald, a_cv, a_gr, a_icge, a_ifeq, a_ild, a_imul, a_inc, a_push, a_zret, sh_71, sh_78, pu_rv, pu_as, Value.category, pu_bk, pu_kl, List.replicate, pu_wi_1, pu_wi_2, nl_add, nl_ladd, nl_aa, nl_mul, nl_rmul, nl_mm, pu_qe0, pu_qe1, hc, f, c, r4]
          all_goals try simp (maxSteps := 400000) (disch := omega) [nl_tle, nl_fle, nl_tlt, nl_flt, nl_teq, nl_feq, nl_sub, nl_ss, nl_lt, nl_llt, nl_ltt, nl_le, nl_lle, nl_lee, nl_eq, nl_leq, nl_ee, nl_div, nl_rem, nl_cl, nl_n1, nl_n2, nl_n3, nl_n4, nl_add, nl_ladd, nl_aa, nl_mul, nl_rmul, nl_mm, pu_wi_1, pu_wi_2, bX12_readsName_17, bX12_readsName_49, bX12_readsName_43, a_ai, a_ald, a_cv, a_gr, a_icge, a_ifeq, a_ild, a_imul, a_inc, a_push, a_zret, sh_71, sh_78, pu_rv, pu_as, Value.category, pu_bk, pu_kl, pu_qe0, pu_qe1, hc, f, c, r4]
          all_goals try simp [bX12_readsName_17, bX12_readsName_49, bX12_readsName_43, a_ai, a_ald, a_cv, a_gr, a_icge, a_ifeq, a_ild, a_imul, a_inc, a_push, a_zret, sh_71, sh_78, pu_rv, pu_as, Value.category, pu_bk, pu_kl, List.replicate, pu_wi_1, pu_wi_2, nl_add, nl_ladd, nl_aa, nl_mul, nl_rmul, nl_mm, pu_qe0, pu_qe1, hc, f, c, r4]
          all_goals try simp (maxSteps := 400000) (disch := omega) [nl_tle, nl_fle, nl_tlt, nl_flt, nl_teq, nl_feq, nl_sub, nl_ss, nl_lt, nl_llt, nl_ltt, nl_le, nl_lle, nl_lee, nl_eq, nl_leq, nl_ee, nl_div, nl_rem, nl_cl, nl_n1, nl_n2, nl_n3, nl_n4, nl_add, nl_ladd, nl_aa, nl_mul, nl_rmul, nl_mm, pu_wi_1, pu_wi_2, bX12_readsName_17, bX12_readsName_49, bX12_readsName_43, a_ai, a_ald, a_cv, a_gr, a_icge, a_ifeq, a_ild, a_imul, a_inc, a_push, a_zret, sh_71, sh_78, pu_rv, pu_as, Value.category, pu_bk, pu_kl, pu_qe0, pu_qe1, hc, f, c, r4]
        · obtain ⟨P2, q1, q2, q3, q4⟩ := r_lengthen hxP hrP hw 78 sh_78 (by omega) w (by omega) _ dw
          obtain ⟨R, r1, r2, r3, r4⟩ := ih (w + 1) P2 (by omega) (q1.trans p1) (fun a j ha => by rw [q2 a j (by omega), p2 a j ha]) (fun k hk => ⟨fun kw => by
            by_cases kk : k = w
            · subst kk
              exact q3
            · exact pu_Wd_fr ((p3 k hk).1 (by omega)) (fun i hi => q2 78 _ (by omega)), fun kw => pu_Wd_fr ((p3 k hk).2 (by omega)) (fun i hi => q2 78 _ (by omega))⟩)
          refine ⟨R, r1, r2, r3, ?_⟩
          rw [qX12_readsName_17]
          simp [bX12_readsName_17, bX12_readsName_49, bX12_readsName_43, a_ai, a_ald, a_cv, a_gr, a_icge, a_ifeq, a_ild, a_imul, a_inc, a_push, a_zret, sh_71, sh_78, pu_rv, pu_as, Value.category, pu_bk, pu_kl, List.replicate, pu_wi_1, pu_wi_2, nl_add, nl_ladd, nl_aa, nl_mul, nl_rmul, nl_mm, pu_qe0, pu_qe1, hc, f, c, q4, r4]
          all_goals try simp (maxSteps := 400000) (disch := omega) [nl_tle, nl_fle, nl_tlt, nl_flt, nl_teq, nl_feq, nl_sub, nl_ss, nl_lt, nl_llt, nl_ltt, nl_le, nl_lle, nl_lee, nl_eq, nl_leq, nl_ee, nl_div, nl_rem, nl_cl, nl_n1, nl_n2, nl_n3, nl_n4, nl_add, nl_ladd, nl_aa, nl_mul, nl_rmul, nl_mm, pu_wi_1, pu_wi_2, bX12_readsName_17, bX12_readsName_49, bX12_readsName_43, a_ai, a_ald, a_cv, a_gr, a_icge, a_ifeq, a_ild, a_imul, a_inc, a_push, a_zret, sh_71, sh_78, pu_rv, pu_as, Value.category, pu_bk, pu_kl, pu_qe0, pu_qe1, hc, f, c, q4, r4]
          all_goals try simp [bX12_readsName_17, bX12_readsName_49, bX12_readsName_43, a_ai, a_ald, a_cv, a_gr, a_icge, a_ifeq, a_ild, a_imul, a_inc, a_push, a_zret, sh_71, sh_78, pu_rv, pu_as, Value.category, pu_bk, pu_kl, List.replicate, pu_wi_1, pu_wi_2, nl_add, nl_ladd, nl_aa, nl_mul, nl_rmul, nl_mm, pu_qe0, pu_qe1, hc, f, c, q4, r4]
          all_goals try simp (maxSteps := 400000) (disch := omega) [nl_tle, nl_fle, nl_tlt, nl_flt, nl_teq, nl_feq, nl_sub, nl_ss, nl_lt, nl_llt, nl_ltt, nl_le, nl_lle, nl_lee, nl_eq, nl_leq, nl_ee, nl_div, nl_rem, nl_cl, nl_n1, nl_n2, nl_n3, nl_n4, nl_add, nl_ladd, nl_aa, nl_mul, nl_rmul, nl_mm, pu_wi_1, pu_wi_2, bX12_readsName_17, bX12_readsName_49, bX12_readsName_43, a_ai, a_ald, a_cv, a_gr, a_icge, a_ifeq, a_ild, a_imul, a_inc, a_push, a_zret, sh_71, sh_78, pu_rv, pu_as, Value.category, pu_bk, pu_kl, pu_qe0, pu_qe1, hc, f, c, q4, r4]
    obtain ⟨R, r1, r2, r3, r4⟩ := G 3 0 N (by omega) n1 (fun _ _ _ => rfl) (fun k hk => ⟨fun z => by omega, fun _ => W0 k hk⟩)
    rw [nI_0] at r4
    refine ⟨R, ⟨r1, fun a j q1 q2 q3 => by rw [r2 a j q3, oN a j q1 q2 q3], by rw [r2 71 4 (by omega), n2 71 4 (by omega)]; exact T4⟩, fun l2 hl2 k hk => ?_, ?_⟩
    · rw [hl] at hl2
      cases hl2
      exact r3 k hk
    · rw [qX12_readsName]
      simp [a_ent, bX12_readsName_0, bX12_readsName_15, a_ald, a_cv, a_ifne, a_ist, a_push, a_zret, sh_71, pu_rv, pu_as, Value.category, pu_bk, pu_kl, List.replicate, pu_wi_1, pu_wi_2, nl_add, nl_ladd, nl_aa, nl_mul, nl_rmul, nl_mm, pu_qe0, pu_qe1, tk, n4, r4]
      all_goals try simp (maxSteps := 400000) (disch := omega) [nl_tle, nl_fle, nl_tlt, nl_flt, nl_teq, nl_feq, nl_sub, nl_ss, nl_lt, nl_llt, nl_ltt, nl_le, nl_lle, nl_lee, nl_eq, nl_leq, nl_ee, nl_div, nl_rem, nl_cl, nl_n1, nl_n2, nl_n3, nl_n4, nl_add, nl_ladd, nl_aa, nl_mul, nl_rmul, nl_mm, pu_wi_1, pu_wi_2, bX12_readsName_0, bX12_readsName_15, a_ald, a_cv, a_ifne, a_ist, a_push, a_zret, sh_71, pu_rv, pu_as, Value.category, pu_bk, pu_kl, pu_qe0, pu_qe1, tk, n4, r4]
      all_goals try simp [bX12_readsName_0, bX12_readsName_15, a_ald, a_cv, a_ifne, a_ist, a_push, a_zret, sh_71, pu_rv, pu_as, Value.category, pu_bk, pu_kl, List.replicate, pu_wi_1, pu_wi_2, nl_add, nl_ladd, nl_aa, nl_mul, nl_rmul, nl_mm, pu_qe0, pu_qe1, tk, n4, r4]
      all_goals try simp (maxSteps := 400000) (disch := omega) [nl_tle, nl_fle, nl_tlt, nl_flt, nl_teq, nl_feq, nl_sub, nl_ss, nl_lt, nl_llt, nl_ltt, nl_le, nl_lle, nl_lee, nl_eq, nl_leq, nl_ee, nl_div, nl_rem, nl_cl, nl_n1, nl_n2, nl_n3, nl_n4, nl_add, nl_ladd, nl_aa, nl_mul, nl_rmul, nl_mm, pu_wi_1, pu_wi_2, bX12_readsName_0, bX12_readsName_15, a_ald, a_cv, a_ifne, a_ist, a_push, a_zret, sh_71, pu_rv, pu_as, Value.category, pu_bk, pu_kl, pu_qe0, pu_qe1, tk, n4, r4]
