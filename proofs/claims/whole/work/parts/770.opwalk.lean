/-! walks, on the reference's side: a street, all stops; both sides -/
def py_wkx (wy s p : Int32) : Int32 := if wy = 0 then (if s = 0 then p else 20000 - p) else if wy = 1 then 2 * p + s else 30000 - 2 * p - s
theorem r_walkKey (wy s p : Int32) (M : pu_M) : pu_r 345 [some (.int wy), some (.int s), some (.int p)] [] M = some (some (.int (py_wkx wy s p)), M) := by
  unfold py_wkx
  by_cases c1 : wy = 0
  · by_cases c2 : s = 0
    · rw [qX12_walkKey]
      simp [a_ent, bX12_walkKey_0, bX12_walkKey_18, bX12_walkKey_31, bX12_walkKey_40, bX12_walkKey_12, bX12_walkKey_17, a_iadd, a_icne, a_ifne, a_ild, a_imul, a_iret, a_isub, a_push, pu_rv, pu_as, Value.category, pu_bk, pu_kl, List.replicate, pu_wi_1, pu_wi_2, nl_add, nl_ladd, nl_aa, nl_mul, nl_rmul, nl_mm, pu_qe0, pu_qe1, c1, c2]
      all_goals try simp (maxSteps := 400000) (disch := omega) [nl_tle, nl_fle, nl_tlt, nl_flt, nl_teq, nl_feq, nl_sub, nl_ss, nl_lt, nl_llt, nl_ltt, nl_le, nl_lle, nl_lee, nl_eq, nl_leq, nl_ee, nl_div, nl_rem, nl_cl, nl_n1, nl_n2, nl_n3, nl_n4, nl_add, nl_ladd, nl_aa, nl_mul, nl_rmul, nl_mm, pu_wi_1, pu_wi_2, bX12_walkKey_0, bX12_walkKey_18, bX12_walkKey_31, bX12_walkKey_40, bX12_walkKey_12, bX12_walkKey_17, a_iadd, a_icne, a_ifne, a_ild, a_imul, a_iret, a_isub, a_push, pu_rv, pu_as, Value.category, pu_bk, pu_kl, pu_qe0, pu_qe1, c1, c2]
      all_goals try simp [bX12_walkKey_0, bX12_walkKey_18, bX12_walkKey_31, bX12_walkKey_40, bX12_walkKey_12, bX12_walkKey_17, a_iadd, a_icne, a_ifne, a_ild, a_imul, a_iret, a_isub, a_push, pu_rv, pu_as, Value.category, pu_bk, pu_kl, List.replicate, pu_wi_1, pu_wi_2, nl_add, nl_ladd, nl_aa, nl_mul, nl_rmul, nl_mm, pu_qe0, pu_qe1, c1, c2]
      all_goals try simp (maxSteps := 400000) (disch := omega) [nl_tle, nl_fle, nl_tlt, nl_flt, nl_teq, nl_feq, nl_sub, nl_ss, nl_lt, nl_llt, nl_ltt, nl_le, nl_lle, nl_lee, nl_eq, nl_leq, nl_ee, nl_div, nl_rem, nl_cl, nl_n1, nl_n2, nl_n3, nl_n4, nl_add, nl_ladd, nl_aa, nl_mul, nl_rmul, nl_mm, pu_wi_1, pu_wi_2, bX12_walkKey_0, bX12_walkKey_18, bX12_walkKey_31, bX12_walkKey_40, bX12_walkKey_12, bX12_walkKey_17, a_iadd, a_icne, a_ifne, a_ild, a_imul, a_iret, a_isub, a_push, pu_rv, pu_as, Value.category, pu_bk, pu_kl, pu_qe0, pu_qe1, c1, c2]
      all_goals try simp [bX12_walkKey_0, bX12_walkKey_18, bX12_walkKey_31, bX12_walkKey_40, bX12_walkKey_12, bX12_walkKey_17, a_iadd, a_icne, a_ifne, a_ild, a_imul, a_iret, a_isub, a_push, pu_rv, pu_as, Value.category, pu_bk, pu_kl, List.replicate, pu_wi_1, pu_wi_2, nl_add, nl_ladd, nl_aa, nl_mul, nl_rmul, nl_mm, pu_qe0, pu_qe1, c1, c2]
      all_goals try simp (maxSteps := 400000) (disch := omega) [nl_tle, nl_fle, nl_tlt, nl_flt, nl_teq, nl_feq, nl_sub, nl_ss, nl_lt, nl_llt, nl_ltt, nl_le, nl_lle, nl_lee, nl_eq, nl_leq, nl_ee, nl_div, nl_rem, nl_cl, nl_n1, nl_n2, nl_n3, nl_n4, nl_add, nl_ladd, nl_aa, nl_mul, nl_rmul, nl_mm, pu_wi_1, pu_wi_2, bX12_walkKey_0, bX12_walkKey_18, bX12_walkKey_31, bX12_walkKey_40, bX12_walkKey_12, bX12_walkKey_17, a_iadd, a_icne, a_ifne, a_ild, a_imul, a_iret, a_isub, a_push, pu_rv, pu_as, Value.category, pu_bk, pu_kl, pu_qe0, pu_qe1, c1, c2]
      all_goals try simp [bX12_walkKey_0, bX12_walkKey_18, bX12_walkKey_31, bX12_walkKey_40, bX12_walkKey_12, bX12_walkKey_17, a_iadd, a_icne, a_ifne, a_ild, a_imul, a_iret, a_isub, a_push, pu_rv, pu_as, Value.category, pu_bk, pu_kl, List.replicate, pu_wi_1, pu_wi_2, nl_add, nl_ladd, nl_aa, nl_mul, nl_rmul, nl_mm, pu_qe0, pu_qe1, c1, c2]
    · rw [qX12_walkKey]
      simp [a_ent, bX12_walkKey_0, bX12_walkKey_18, bX12_walkKey_31, bX12_walkKey_40, bX12_walkKey_12, bX12_walkKey_17, a_iadd, a_icne, a_ifne, a_ild, a_imul, a_iret, a_isub, a_push, pu_rv, pu_as, Value.category, pu_bk, pu_kl, List.replicate, pu_wi_1, pu_wi_2, nl_add, nl_ladd, nl_aa, nl_mul, nl_rmul, nl_mm, pu_qe0, pu_qe1, c1, c2]
      all_goals try simp (maxSteps := 400000) (disch := omega) [nl_tle, nl_fle, nl_tlt, nl_flt, nl_teq, nl_feq, nl_sub, nl_ss, nl_lt, nl_llt, nl_ltt, nl_le, nl_lle, nl_lee, nl_eq, nl_leq, nl_ee, nl_div, nl_rem, nl_cl, nl_n1, nl_n2, nl_n3, nl_n4, nl_add, nl_ladd, nl_aa, nl_mul, nl_rmul, nl_mm, pu_wi_1, pu_wi_2, bX12_walkKey_0, bX12_walkKey_18, bX12_walkKey_31, bX12_walkKey_40, bX12_walkKey_12, bX12_walkKey_17, a_iadd, a_icne, a_ifne, a_ild, a_imul, a_iret, a_isub, a_push, pu_rv, pu_as, Value.category, pu_bk, pu_kl, pu_qe0, pu_qe1, c1, c2]
      all_goals try simp [bX12_walkKey_0, bX12_walkKey_18, bX12_walkKey_31, bX12_walkKey_40, bX12_walkKey_12, bX12_walkKey_17, a_iadd, a_icne, a_ifne, a_ild, a_imul, a_iret, a_isub, a_push, pu_rv, pu_as, Value.category, pu_bk, pu_kl, List.replicate, pu_wi_1, pu_wi_2, nl_add, nl_ladd, nl_aa, nl_mul, nl_rmul, nl_mm, pu_qe0, pu_qe1, c1, c2]
      all_goals try simp (maxSteps := 400000) (disch := omega) [nl_tle, nl_fle, nl_tlt, nl_flt, nl_teq, nl_feq, nl_sub, nl_ss, nl_lt, nl_llt, nl_ltt, nl_le, nl_lle, nl_lee, nl_eq, nl_leq, nl_ee, nl_div, nl_rem, nl_cl, nl_n1, nl_n2, nl_n3, nl_n4, nl_add, nl_ladd, nl_aa, nl_mul, nl_rmul, nl_mm, pu_wi_1, pu_wi_2, bX12_walkKey_0, bX12_walkKey_18, bX12_walkKey_31, bX12_walkKey_40, bX12_walkKey_12, bX12_walkKey_17, a_iadd, a_icne, a_ifne, a_ild, a_imul, a_iret, a_isub, a_push, pu_rv, pu_as, Value.category, pu_bk, pu_kl, pu_qe0, pu_qe1, c1, c2]
      all_goals try simp [bX12_walkKey_0, bX12_walkKey_18, bX12_walkKey_31, bX12_walkKey_40, bX12_walkKey_12, bX12_walkKey_17, a_iadd, a_icne, a_ifne, a_ild, a_imul, a_iret, a_isub, a_push, pu_rv, pu_as, Value.category, pu_bk, pu_kl, List.replicate, pu_wi_1, pu_wi_2, nl_add, nl_ladd, nl_aa, nl_mul, nl_rmul, nl_mm, pu_qe0, pu_qe1, c1, c2]
      all_goals try simp (maxSteps := 400000) (disch := omega) [nl_tle, nl_fle, nl_tlt, nl_flt, nl_teq, nl_feq, nl_sub, nl_ss, nl_lt, nl_llt, nl_ltt, nl_le, nl_lle, nl_lee, nl_eq, nl_leq, nl_ee, nl_div, nl_rem, nl_cl, nl_n1, nl_n2, nl_n3, nl_n4, nl_add, nl_ladd, nl_aa, nl_mul, nl_rmul, nl_mm, pu_wi_1, pu_wi_2, bX12_walkKey_0, bX12_walkKey_18, bX12_walkKey_31, bX12_walkKey_40, bX12_walkKey_12, bX12_walkKey_17, a_iadd, a_icne, a_ifne, a_ild, a_imul, a_iret, a_isub, a_push, pu_rv, pu_as, Value.category, pu_bk, pu_kl, pu_qe0, pu_qe1, c1, c2]
      all_goals try simp [bX12_walkKey_0, bX12_walkKey_18, bX12_walkKey_31, bX12_walkKey_40, bX12_walkKey_12, bX12_walkKey_17, a_iadd, a_icne, a_ifne, a_ild, a_imul, a_iret, a_isub, a_push, pu_rv, pu_as, Value.category, pu_bk, pu_kl, List.replicate, pu_wi_1, pu_wi_2, nl_add, nl_ladd, nl_aa, nl_mul, nl_rmul, nl_mm, pu_qe0, pu_qe1, c1, c2]
  · by_cases c3 : wy = 1
    · rw [qX12_walkKey]
      simp [a_ent, bX12_walkKey_0, bX12_walkKey_18, bX12_walkKey_31, bX12_walkKey_40, bX12_walkKey_12, bX12_walkKey_17, a_iadd, a_icne, a_ifne, a_ild, a_imul, a_iret, a_isub, a_push, pu_rv, pu_as, Value.category, pu_bk, pu_kl, List.replicate, pu_wi_1, pu_wi_2, nl_add, nl_ladd, nl_aa, nl_mul, nl_rmul, nl_mm, pu_qe0, pu_qe1, c3]
      all_goals try simp (maxSteps := 400000) (disch := omega) [nl_tle, nl_fle, nl_tlt, nl_flt, nl_teq, nl_feq, nl_sub, nl_ss, nl_lt, nl_llt, nl_ltt, nl_le, nl_lle, nl_lee, nl_eq, nl_leq, nl_ee, nl_div, nl_rem, nl_cl, nl_n1, nl_n2, nl_n3, nl_n4, nl_add, nl_ladd, nl_aa, nl_mul, nl_rmul, nl_mm, pu_wi_1, pu_wi_2, bX12_walkKey_0, bX12_walkKey_18, bX12_walkKey_31, bX12_walkKey_40, bX12_walkKey_12, bX12_walkKey_17, a_iadd, a_icne, a_ifne, a_ild, a_imul, a_iret, a_isub, a_push, pu_rv, pu_as, Value.category, pu_bk, pu_kl, pu_qe0, pu_qe1, c3]
      all_goals try simp [bX12_walkKey_0, bX12_walkKey_18, bX12_walkKey_31, bX12_walkKey_40, bX12_walkKey_12, bX12_walkKey_17, a_iadd, a_icne, a_ifne, a_ild, a_imul, a_iret, a_isub, a_push, pu_rv, pu_as, Value.category, pu_bk, pu_kl, List.replicate, pu_wi_1, pu_wi_2, nl_add, nl_ladd, nl_aa, nl_mul, nl_rmul, nl_mm, pu_qe0, pu_qe1, c3]
      all_goals try simp (maxSteps := 400000) (disch := omega) [nl_tle, nl_fle, nl_tlt, nl_flt, nl_teq, nl_feq, nl_sub, nl_ss, nl_lt, nl_llt, nl_ltt, nl_le, nl_lle, nl_lee, nl_eq, nl_leq, nl_ee, nl_div, nl_rem, nl_cl, nl_n1, nl_n2, nl_n3, nl_n4, nl_add, nl_ladd, nl_aa, nl_mul, nl_rmul, nl_mm, pu_wi_1, pu_wi_2, bX12_walkKey_0, bX12_walkKey_18, bX12_walkKey_31, bX12_walkKey_40, bX12_walkKey_12, bX12_walkKey_17, a_iadd, a_icne, a_ifne, a_ild, a_imul, a_iret, a_isub, a_push, pu_rv, pu_as, Value.category, pu_bk, pu_kl, pu_qe0, pu_qe1, c3]
      all_goals try simp [bX12_walkKey_0, bX12_walkKey_18, bX12_walkKey_31, bX12_walkKey_40, bX12_walkKey_12, bX12_walkKey_17, a_iadd, a_icne, a_ifne, a_ild, a_imul, a_iret, a_isub, a_push, pu_rv, pu_as, Value.category, pu_bk, pu_kl, List.replicate, pu_wi_1, pu_wi_2, nl_add, nl_ladd, nl_aa, nl_mul, nl_rmul, nl_mm, pu_qe0, pu_qe1, c3]
      all_goals try simp (maxSteps := 400000) (disch := omega) [nl_tle, nl_fle, nl_tlt, nl_flt, nl_teq, nl_feq, nl_sub, nl_ss, nl_lt, nl_llt, nl_ltt, nl_le, nl_lle, nl_lee, nl_eq, nl_leq, nl_ee, nl_div, nl_rem, nl_cl, nl_n1, nl_n2, nl_n3, nl_n4, nl_add, nl_ladd, nl_aa, nl_mul, nl_rmul, nl_mm, pu_wi_1, pu_wi_2, bX12_walkKey_0, bX12_walkKey_18, bX12_walkKey_31, bX12_walkKey_40, bX12_walkKey_12, bX12_walkKey_17, a_iadd, a_icne, a_ifne, a_ild, a_imul, a_iret, a_isub, a_push, pu_rv, pu_as, Value.category, pu_bk, pu_kl, pu_qe0, pu_qe1, c3]
      all_goals try simp [bX12_walkKey_0, bX12_walkKey_18, bX12_walkKey_31, bX12_walkKey_40, bX12_walkKey_12, bX12_walkKey_17, a_iadd, a_icne, a_ifne, a_ild, a_imul, a_iret, a_isub, a_push, pu_rv, pu_as, Value.category, pu_bk, pu_kl, List.replicate, pu_wi_1, pu_wi_2, nl_add, nl_ladd, nl_aa, nl_mul, nl_rmul, nl_mm, pu_qe0, pu_qe1, c3]
    · rw [qX12_walkKey]
      simp [a_ent, bX12_walkKey_0, bX12_walkKey_18, bX12_walkKey_31, bX12_walkKey_40, bX12_walkKey_12, bX12_walkKey_17, a_iadd, a_icne, a_ifne, a_ild, a_imul, a_iret, a_isub, a_push, pu_rv, pu_as, Value.category, pu_bk, pu_kl, List.replicate, pu_wi_1, pu_wi_2, nl_add, nl_ladd, nl_aa, nl_mul, nl_rmul, nl_mm, pu_qe0, pu_qe1, c1, c3]
      all_goals try simp (maxSteps := 400000) (disch := omega) [nl_tle, nl_fle, nl_tlt, nl_flt, nl_teq, nl_feq, nl_sub, nl_ss, nl_lt, nl_llt, nl_ltt, nl_le, nl_lle, nl_lee, nl_eq, nl_leq, nl_ee, nl_div, nl_rem, nl_cl, nl_n1, nl_n2, nl_n3, nl_n4, nl_add, nl_ladd, nl_aa, nl_mul, nl_rmul, nl_mm, pu_wi_1, pu_wi_2, bX12_walkKey_0, bX12_walkKey_18, bX12_walkKey_31, bX12_walkKey_40, bX12_walkKey_12, bX12_walkKey_17, a_iadd, a_icne, a_ifne, a_ild, a_imul, a_iret, a_isub, a_push, pu_rv, pu_as, Value.category, pu_bk, pu_kl, pu_qe0, pu_qe1, c1, c3]
      all_goals try simp [bX12_walkKey_0, bX12_walkKey_18, bX12_walkKey_31, bX12_walkKey_40, bX12_walkKey_12, bX12_walkKey_17, a_iadd, a_icne, a_ifne, a_ild, a_imul, a_iret, a_isub, a_push, pu_rv, pu_as, Value.category, pu_bk, pu_kl, List.replicate, pu_wi_1, pu_wi_2, nl_add, nl_ladd, nl_aa, nl_mul, nl_rmul, nl_mm, pu_qe0, pu_qe1, c1, c3]
      all_goals try simp (maxSteps := 400000) (disch := omega) [nl_tle, nl_fle, nl_tlt, nl_flt, nl_teq, nl_feq, nl_sub, nl_ss, nl_lt, nl_llt, nl_ltt, nl_le, nl_lle, nl_lee, nl_eq, nl_leq, nl_ee, nl_div, nl_rem, nl_cl, nl_n1, nl_n2, nl_n3, nl_n4, nl_add, nl_ladd, nl_aa, nl_mul, nl_rmul, nl_mm, pu_wi_1, pu_wi_2, bX12_walkKey_0, bX12_walkKey_18, bX12_walkKey_31, bX12_walkKey_40, bX12_walkKey_12, bX12_walkKey_17, a_iadd, a_icne, a_ifne, a_ild, a_imul, a_iret, a_isub, a_push, pu_rv, pu_as, Value.category, pu_bk, pu_kl, pu_qe0, pu_qe1, c1, c3]
      all_goals try simp [bX12_walkKey_0, bX12_walkKey_18, bX12_walkKey_31, bX12_walkKey_40, bX12_walkKey_12, bX12_walkKey_17, a_iadd, a_icne, a_ifne, a_ild, a_imul, a_iret, a_isub, a_push, pu_rv, pu_as, Value.category, pu_bk, pu_kl, List.replicate, pu_wi_1, pu_wi_2, nl_add, nl_ladd, nl_aa, nl_mul, nl_rmul, nl_mm, pu_qe0, pu_qe1, c1, c3]
      all_goals try simp (maxSteps := 400000) (disch := omega) [nl_tle, nl_fle, nl_tlt, nl_flt, nl_teq, nl_feq, nl_sub, nl_ss, nl_lt, nl_llt, nl_ltt, nl_le, nl_lle, nl_lee, nl_eq, nl_leq, nl_ee, nl_div, nl_rem, nl_cl, nl_n1, nl_n2, nl_n3, nl_n4, nl_add, nl_ladd, nl_aa, nl_mul, nl_rmul, nl_mm, pu_wi_1, pu_wi_2, bX12_walkKey_0, bX12_walkKey_18, bX12_walkKey_31, bX12_walkKey_40, bX12_walkKey_12, bX12_walkKey_17, a_iadd, a_icne, a_ifne, a_ild, a_imul, a_iret, a_isub, a_push, pu_rv, pu_as, Value.category, pu_bk, pu_kl, pu_qe0, pu_qe1, c1, c3]
      all_goals try simp [bX12_walkKey_0, bX12_walkKey_18, bX12_walkKey_31, bX12_walkKey_40, bX12_walkKey_12, bX12_walkKey_17, a_iadd, a_icne, a_ifne, a_ild, a_imul, a_iret, a_isub, a_push, pu_rv, pu_as, Value.category, pu_bk, pu_kl, List.replicate, pu_wi_1, pu_wi_2, nl_add, nl_ladd, nl_aa, nl_mul, nl_rmul, nl_mm, pu_qe0, pu_qe1, c1, c3]
theorem py_wkx_e {o s p : Nat} (ho : o < 3) (hs : s < 2) (hp : p < 10000) : py_wkx (nI o) (nI s) (nI p) = nI (py_wk o s p) := by
  unfold py_wkx
  have z0 : (nI s = 0) = (s = 0) := propext (nI_eq (b := 0) (by omega) (by omega))
  have o0 : (nI o = 0) = (o = 0) := propext (nI_eq (b := 0) (by omega) (by omega))
  have o1 : (nI o = 1) = (o = 1) := propext (nI_eq (b := 1) (by omega) (by omega))
  have e2 : (2 : Int32) * nI p = nI (2 * p) := by rw [show (2 : Int32) = nI 2 from rfl, pk_mul]
  simp only [z0, o0, o1]
  unfold py_wk
  by_cases c1 : o = 0
  · rw [if_pos c1, if_pos c1]
    by_cases c2 : s = 0
    · rw [if_pos c2, if_pos c2]
    · rw [if_neg c2, if_neg c2]
      exact pk_sub (a := 20000) (by omega)
  · rw [if_neg c1, if_neg c1]
    by_cases c3 : o = 1
    · rw [if_pos c3, if_pos c3, e2, nI_add]
    · rw [if_neg c3, if_neg c3, e2, show (30000 : Int32) - nI (2 * p) = nI (30000 - 2 * p) from pk_sub (a := 30000) (by omega)]
      exact pk_sub (by omega)
section
variable {I : Nat → Nat → Int32} {L : Nat → Nat → Int64} {s0 : Nat → Int32} {y : Int32}
/-- a place of the street whose door isn't walked yet -/
def py_wc (I : Nat → Nat → Int32) (st : Nat) (y : Int32) (E : Nat → Int32) (c j : Nat) : Prop := pu_in I st y j ∧ ¬ ∃ t, t < c ∧ E t = nI (j / 2)
theorem r_isW (h : pu_St I L s0) {N : pu_M} {c : Nat} (gd : py_GD I (fun t => N.1 72 (59788 + t)) c) (hN : py_rw s0 N c) (e : Int32) : pu_r 346 [some (.ref 71), some (.int e)] [] N = some (some (.int (pu_q (∃ t, t < c ∧ N.1 72 (59788 + t) = e))), N) := by
  have SJ := py_SJw h gd hN
  have hc := py_GD_le h.1 gd
  have r := r_isWalked hN.1 SJ.1 ⟨rl_h12 SJ.2, rl_eE SJ.2, rl_eW SJ.2⟩ e
  have cw : cW (py_JW I (N.1 72) c) = c := pz_cc (show py_JW I (N.1 72) c 45 5 = nI c from rfl) (by omega)
  rw [cw] at r
  exact r
theorem r_ws_i (h : pu_St I L s0) {N : pu_M} {c st d w : Nat} (gd : py_GD I (fun t => N.1 72 (59788 + t)) c) (hN : py_rw s0 N c) (hd : d < cD I) (hw2 : w < 2) (hy : ¬ y < 0 ∧ ¬ 109574 < y) (iv wy mo : Int32) (p : Int32 × Int32) (t10 : Option Value) : ∃ u10, pu_r 528 [some (.ref 71), some (.int y), some (.int iv), some (.int (nI st)), some (.int wy), some (.int mo), some (.int p.1), some (.int p.2), some (.int (nI d)), some (.int (nI w)), t10] [] N = pu_r 528 [some (.ref 71), some (.int y), some (.int iv), some (.int (nI st)), some (.int wy), some (.int mo), some (.int (pz_ms (py_wc I st y (fun t => N.1 72 (59788 + t)) c) (fun j => py_wkx wy (I 40 j) (I 41 j)) (2 * d + w) p).1), some (.int (pz_ms (py_wc I st y (fun t => N.1 72 (59788 + t)) c) (fun j => py_wkx wy (I 40 j) (I 41 j)) (2 * d + w) p).2), some (.int (nI d)), some (.int (nI (w + 1))), u10] [] N := by
  have hw := h.1
  have SJ := py_SJw h gd hN
  have hx := hN.1
  have hc : ¬ 2 ≤ nI w := nI_ge (b := 2) (by omega) (by omega)
  have e1 : pu_r 342 [some (.ref 71), some (.int (nI d)), some (.int (nI w)), some (.int (nI st)), some (.int y)] [] N = some (some (.int (pu_q (pu_in I st y (2 * d + w)))), N) := r_isIn hx SJ.2 SJ.1 d w st hd hw2 y hy
  have e2 := r_isW h gd hN (nI d)
  have e3 : pu_r 270 [some (.ref 71), some (.int (nI d)), some (.int (nI w))] [] N = some (some (.int (I 41 (2 * d + w))), N) := r_pacesAt hx SJ.2 SJ.1 d w hd hw2
  have e4 : pu_r 269 [some (.ref 71), some (.int (nI d)), some (.int (nI w))] [] N = some (some (.int (I 40 (2 * d + w))), N) := r_sideAt hx SJ.2 SJ.1 d w hd hw2
  have e5 := r_walkKey wy (I 40 (2 * d + w)) (I 41 (2 * d + w)) N
  have hj : (2 * d + w) / 2 = d := by omega
  obtain ⟨p1, p2⟩ := p
  generalize hkf : (fun j => py_wkx wy (I 40 j) (I 41 j)) = kf
  have kfe : kf (2 * d + w) = py_wkx wy (I 40 (2 * d + w)) (I 41 (2 * d + w)) := by rw [← hkf]
  rw [← kfe] at e5
  unfold pz_ms
  by_cases c1 : pu_in I st y (2 * d + w)
  · rw [pu_q1 c1] at e1
    by_cases c2 : ∃ t, t < c ∧ N.1 72 (59788 + t) = nI d
    · rw [pu_q1 c2] at e2
      refine ⟨t10, ?_⟩
      rw [if_neg (fun q => q.1.2 (by rw [hj]; exact c2))]
      rw [qX12_walk_103]
      simp [bX12_walk_103, bX12_walk_187, bX12_walk_181, bX12_walk_134, bX12_walk_173, a_ald, a_cs, a_cv, a_iceq, a_icge, a_iclt, a_ifeq, a_ild, a_inc, a_ist, a_push, sh_71, pu_rv, pu_as, Value.category, pu_bk, pu_kl, List.replicate, pu_wi_1, pu_wi_2, nl_add, nl_ladd, nl_aa, nl_mul, nl_rmul, nl_mm, pu_qe0, pu_qe1, hc, e1, e2]
      all_goals try simp (maxSteps := 400000) (disch := omega) [nl_tle, nl_fle, nl_tlt, nl_flt, nl_teq, nl_feq, nl_sub, nl_ss, nl_lt, nl_llt, nl_ltt, nl_le, nl_lle, nl_lee, nl_eq, nl_leq, nl_ee, nl_div, nl_rem, nl_cl, nl_n1, nl_n2, nl_n3, nl_n4, nl_add, nl_ladd, nl_aa, nl_mul, nl_rmul, nl_mm, pu_wi_1, pu_wi_2, bX12_walk_103, bX12_walk_187, bX12_walk_181, bX12_walk_134, bX12_walk_173, a_ald, a_cs, a_cv, a_iceq, a_icge, a_iclt, a_ifeq, a_ild, a_inc, a_ist, a_push, sh_71, pu_rv, pu_as, Value.category, pu_bk, pu_kl, pu_qe0, pu_qe1, hc, e1, e2]
      all_goals try simp [bX12_walk_103, bX12_walk_187, bX12_walk_181, bX12_walk_134, bX12_walk_173, a_ald, a_cs, a_cv, a_iceq, a_icge, a_iclt, a_ifeq, a_ild, a_inc, a_ist, a_push, sh_71, pu_rv, pu_as, Value.category, pu_bk, pu_kl, List.replicate, pu_wi_1, pu_wi_2, nl_add, nl_ladd, nl_aa, nl_mul, nl_rmul, nl_mm, pu_qe0, pu_qe1, hc, e1, e2]
      all_goals try simp (maxSteps := 400000) (disch := omega) [nl_tle, nl_fle, nl_tlt, nl_flt, nl_teq, nl_feq, nl_sub, nl_ss, nl_lt, nl_llt, nl_ltt, nl_le, nl_lle, nl_lee, nl_eq, nl_leq, nl_ee, nl_div, nl_rem, nl_cl, nl_n1, nl_n2, nl_n3, nl_n4, nl_add, nl_ladd, nl_aa, nl_mul, nl_rmul, nl_mm, pu_wi_1, pu_wi_2, bX12_walk_103, bX12_walk_187, bX12_walk_181, bX12_walk_134, bX12_walk_173, a_ald, a_cs, a_cv, a_iceq, a_icge, a_iclt, a_ifeq, a_ild, a_inc, a_ist, a_push, sh_71, pu_rv, pu_as, Value.category, pu_bk, pu_kl, pu_qe0, pu_qe1, hc, e1, e2]
      all_goals try simp [bX12_walk_103, bX12_walk_187, bX12_walk_181, bX12_walk_134, bX12_walk_173, a_ald, a_cs, a_cv, a_iceq, a_icge, a_iclt, a_ifeq, a_ild, a_inc, a_ist, a_push, sh_71, pu_rv, pu_as, Value.category, pu_bk, pu_kl, List.replicate, pu_wi_1, pu_wi_2, nl_add, nl_ladd, nl_aa, nl_mul, nl_rmul, nl_mm, pu_qe0, pu_qe1, hc, e1, e2]
      all_goals try simp (maxSteps := 400000) (disch := omega) [nl_tle, nl_fle, nl_tlt, nl_flt, nl_teq, nl_feq, nl_sub, nl_ss, nl_lt, nl_llt, nl_ltt, nl_le, nl_lle, nl_lee, nl_eq, nl_leq, nl_ee, nl_div, nl_rem, nl_cl, nl_n1, nl_n2, nl_n3, nl_n4, nl_add, nl_ladd, nl_aa, nl_mul, nl_rmul, nl_mm, pu_wi_1, pu_wi_2, bX12_walk_103, bX12_walk_187, bX12_walk_181, bX12_walk_134, bX12_walk_173, a_ald, a_cs, a_cv, a_iceq, a_icge, a_iclt, a_ifeq, a_ild, a_inc, a_ist, a_push, sh_71, pu_rv, pu_as, Value.category, pu_bk, pu_kl, pu_qe0, pu_qe1, hc, e1, e2]
      all_goals try simp [bX12_walk_103, bX12_walk_187, bX12_walk_181, bX12_walk_134, bX12_walk_173, a_ald, a_cs, a_cv, a_iceq, a_icge, a_iclt, a_ifeq, a_ild, a_inc, a_ist, a_push, sh_71, pu_rv, pu_as, Value.category, pu_bk, pu_kl, List.replicate, pu_wi_1, pu_wi_2, nl_add, nl_ladd, nl_aa, nl_mul, nl_rmul, nl_mm, pu_qe0, pu_qe1, hc, e1, e2]
    · rw [pu_q0 c2] at e2
      have wc : py_wc I st y (fun t => N.1 72 (59788 + t)) c (2 * d + w) := ⟨c1, by rw [hj]; exact c2⟩
      clear kfe
      generalize kf (2 * d + w) = K at *
      refine ⟨some (.int K), ?_⟩
      generalize I 40 (2 * d + w) = v40 at *
      generalize I 41 (2 * d + w) = v41 at *
      by_cases c3 : p1 = -1
      · rw [if_pos ⟨wc, Or.inl c3⟩, hj]
        rw [qX12_walk_103]
        simp [bX12_walk_103, bX12_walk_187, bX12_walk_181, bX12_walk_134, bX12_walk_173, a_ald, a_cs, a_cv, a_iceq, a_icge, a_iclt, a_ifeq, a_ild, a_inc, a_ist, a_push, sh_71, pu_rv, pu_as, Value.category, pu_bk, pu_kl, List.replicate, pu_wi_1, pu_wi_2, nl_add, nl_ladd, nl_aa, nl_mul, nl_rmul, nl_mm, pu_qe0, pu_qe1, hc, e1, e2, e3, e4, e5, c3]
        all_goals try simp (maxSteps := 400000) (disch := omega) [nl_tle, nl_fle, nl_tlt, nl_flt, nl_teq, nl_feq, nl_sub, nl_ss, nl_lt, nl_llt, nl_ltt, nl_le, nl_lle, nl_lee, nl_eq, nl_leq, nl_ee, nl_div, nl_rem, nl_cl, nl_n1, nl_n2, nl_n3, nl_n4, nl_add, nl_ladd, nl_aa, nl_mul, nl_rmul, nl_mm, pu_wi_1, pu_wi_2, bX12_walk_103, bX12_walk_187, bX12_walk_181, bX12_walk_134, bX12_walk_173, a_ald, a_cs, a_cv, a_iceq, a_icge, a_iclt, a_ifeq, a_ild, a_inc, a_ist, a_push, sh_71, pu_rv, pu_as, Value.category, pu_bk, pu_kl, pu_qe0, pu_qe1, hc, e1, e2, e3, e4, e5, c3]
        all_goals try simp [bX12_walk_103, bX12_walk_187, bX12_walk_181, bX12_walk_134, bX12_walk_173, a_ald, a_cs, a_cv, a_iceq, a_icge, a_iclt, a_ifeq, a_ild, a_inc, a_ist, a_push, sh_71, pu_rv, pu_as, Value.category, pu_bk, pu_kl, List.replicate, pu_wi_1, pu_wi_2, nl_add, nl_ladd, nl_aa, nl_mul, nl_rmul, nl_mm, pu_qe0, pu_qe1, hc, e1, e2, e3, e4, e5, c3]
        all_goals try simp (maxSteps := 400000) (disch := omega) [nl_tle, nl_fle, nl_tlt, nl_flt, nl_teq, nl_feq, nl_sub, nl_ss, nl_lt, nl_llt, nl_ltt, nl_le, nl_lle, nl_lee, nl_eq, nl_leq, nl_ee, nl_div, nl_rem, nl_cl, nl_n1, nl_n2, nl_n3, nl_n4, nl_add, nl_ladd, nl_aa, nl_mul, nl_rmul, nl_mm, pu_wi_1, pu_wi_2, bX12_walk_103, bX12_walk_187, bX12_walk_181, bX12_walk_134, bX12_walk_173, a_ald, a_cs, a_cv, a_iceq, a_icge, a_iclt, a_ifeq, a_ild, a_inc, a_ist, a_push, sh_71, pu_rv, pu_as, Value.category, pu_bk, pu_kl, pu_qe0, pu_qe1, hc, e1, e2, e3, e4, e5, c3]
        all_goals try simp [bX12_walk_103, bX12_walk_187, bX12_walk_181, bX12_walk_134, bX12_walk_173, a_ald, a_cs, a_cv, a_iceq, a_icge, a_iclt, a_ifeq, a_ild, a_inc, a_ist, a_push, sh_71, pu_rv, pu_as, Value.category, pu_bk, pu_kl, List.replicate, pu_wi_1, pu_wi_2, nl_add, nl_ladd, nl_aa, nl_mul, nl_rmul, nl_mm, pu_qe0, pu_qe1, hc, e1, e2, e3, e4, e5, c3]
        all_goals try simp (maxSteps := 400000) (disch := omega) [nl_tle, nl_fle, nl_tlt, nl_flt, nl_teq, nl_feq, nl_sub, nl_ss, nl_lt, nl_llt, nl_ltt, nl_le, nl_lle, nl_lee, nl_eq, nl_leq, nl_ee, nl_div, nl_rem, nl_cl, nl_n1, nl_n2, nl_n3, nl_n4, nl_add, nl_ladd, nl_aa, nl_mul, nl_rmul, nl_mm, pu_wi_1, pu_wi_2, bX12_walk_103, bX12_walk_187, bX12_walk_181, bX12_walk_134, bX12_walk_173, a_ald, a_cs, a_cv, a_iceq, a_icge, a_iclt, a_ifeq, a_ild, a_inc, a_ist, a_push, sh_71, pu_rv, pu_as, Value.category, pu_bk, pu_kl, pu_qe0, pu_qe1, hc, e1, e2, e3, e4, e5, c3]
        all_goals try simp [bX12_walk_103, bX12_walk_187, bX12_walk_181, bX12_walk_134, bX12_walk_173, a_ald, a_cs, a_cv, a_iceq, a_icge, a_iclt, a_ifeq, a_ild, a_inc, a_ist, a_push, sh_71, pu_rv, pu_as, Value.category, pu_bk, pu_kl, List.replicate, pu_wi_1, pu_wi_2, nl_add, nl_ladd, nl_aa, nl_mul, nl_rmul, nl_mm, pu_qe0, pu_qe1, hc, e1, e2, e3, e4, e5, c3]
      · by_cases c4 : K < p2
        · rw [if_pos ⟨wc, Or.inr c4⟩, hj]
          rw [qX12_walk_103]
          simp [bX12_walk_103, bX12_walk_187, bX12_walk_181, bX12_walk_134, bX12_walk_173, a_ald, a_cs, a_cv, a_iceq, a_icge, a_iclt, a_ifeq, a_ild, a_inc, a_ist, a_push, sh_71, pu_rv, pu_as, Value.category, pu_bk, pu_kl, List.replicate, pu_wi_1, pu_wi_2, nl_add, nl_ladd, nl_aa, nl_mul, nl_rmul, nl_mm, pu_qe0, pu_qe1, hc, e1, e2, e3, e4, e5, c3, c4]
          all_goals try simp (maxSteps := 400000) (disch := omega) [nl_tle, nl_fle, nl_tlt, nl_flt, nl_teq, nl_feq, nl_sub, nl_ss, nl_lt, nl_llt, nl_ltt, nl_le, nl_lle, nl_lee, nl_eq, nl_leq, nl_ee, nl_div, nl_rem, nl_cl, nl_n1, nl_n2, nl_n3, nl_n4, nl_add, nl_ladd, nl_aa, nl_mul, nl_rmul, nl_mm, pu_wi_1, pu_wi_2, bX12_walk_103, bX12_walk_187, bX12_walk_181, bX12_walk_134, bX12_walk_173, a_ald, a_cs, a_cv, a_iceq, a_icge, a_iclt, a_ifeq, a_ild, a_inc, a_ist, a_push, sh_71, pu_rv, pu_as, Value.category, pu_bk, pu_kl, pu_qe0, pu_qe1, hc, e1, e2, e3, e4, e5, c3, c4]
          all_goals try simp [bX12_walk_103, bX12_walk_187, bX12_walk_181, bX12_walk_134, bX12_walk_173, a_ald, a_cs, a_cv, a_iceq, a_icge, a_iclt, a_ifeq, a_ild, a_inc, a_ist, a_push, sh_71, pu_rv, pu_as, Value.category, pu_bk, pu_kl, List.replicate, pu_wi_1, pu_wi_2, nl_add, nl_ladd, nl_aa, nl_mul, nl_rmul, nl_mm, pu_qe0, pu_qe1, hc, e1, e2, e3, e4, e5, c3, c4]
          all_goals try simp (maxSteps := 400000) (disch := omega) [nl_tle, nl_fle, nl_tlt, nl_flt, nl_teq, nl_feq, nl_sub, nl_ss, nl_lt, nl_llt, nl_ltt, nl_le, nl_lle, nl_lee, nl_eq, nl_leq, nl_ee, nl_div, nl_rem, nl_cl, nl_n1, nl_n2, nl_n3, nl_n4, nl_add, nl_ladd, nl_aa, nl_mul, nl_rmul, nl_mm, pu_wi_1, pu_wi_2, bX12_walk_103, bX12_walk_187, bX12_walk_181, bX12_walk_134, bX12_walk_173, a_ald, a_cs, a_cv, a_iceq, a_icge, a_iclt, a_ifeq, a_ild, a_inc, a_ist, a_push, sh_71, pu_rv, pu_as, Value.category, pu_bk, pu_kl, pu_qe0, pu_qe1, hc, e1, e2, e3, e4, e5, c3, c4]
          all_goals try simp [bX12_walk_103, bX12_walk_187, bX12_walk_181, bX12_walk_134, bX12_walk_173, a_ald, a_cs, a_cv, a_iceq, a_icge, a_iclt, a_ifeq, a_ild, a_inc, a_ist, a_push, sh_71, pu_rv, pu_as, Value.category, pu_bk, pu_kl, List.replicate, pu_wi_1, pu_wi_2, nl_add, nl_ladd, nl_aa, nl_mul, nl_rmul, nl_mm, pu_qe0, pu_qe1, hc, e1, e2, e3, e4, e5, c3, c4]
          all_goals try simp (maxSteps := 400000) (disch := omega) [nl_tle, nl_fle, nl_tlt, nl_flt, nl_teq, nl_feq, nl_sub, nl_ss, nl_lt, nl_llt, nl_ltt, nl_le, nl_lle, nl_lee, nl_eq, nl_leq, nl_ee, nl_div, nl_rem, nl_cl, nl_n1, nl_n2, nl_n3, nl_n4, nl_add, nl_ladd, nl_aa, nl_mul, nl_rmul, nl_mm, pu_wi_1, pu_wi_2, bX12_walk_103, bX12_walk_187, bX12_walk_181, bX12_walk_134, bX12_walk_173, a_ald, a_cs, a_cv, a_iceq, a_icge, a_iclt, a_ifeq, a_ild, a_inc, a_ist, a_push, sh_71, pu_rv, pu_as, Value.category, pu_bk, pu_kl, pu_qe0, pu_qe1, hc, e1, e2, e3, e4, e5, c3, c4]
          all_goals try simp [bX12_walk_103, bX12_walk_187, bX12_walk_181, bX12_walk_134, bX12_walk_173, a_ald, a_cs, a_cv, a_iceq, a_icge, a_iclt, a_ifeq, a_ild, a_inc, a_ist, a_push, sh_71, pu_rv, pu_as, Value.category, pu_bk, pu_kl, List.replicate, pu_wi_1, pu_wi_2, nl_add, nl_ladd, nl_aa, nl_mul, nl_rmul, nl_mm, pu_qe0, pu_qe1, hc, e1, e2, e3, e4, e5, c3, c4]
        · rw [if_neg (fun q => q.2.elim c3 c4)]
          rw [qX12_walk_103]
          simp [bX12_walk_103, bX12_walk_187, bX12_walk_181, bX12_walk_134, bX12_walk_173, a_ald, a_cs, a_cv, a_iceq, a_icge, a_iclt, a_ifeq, a_ild, a_inc, a_ist, a_push, sh_71, pu_rv, pu_as, Value.category, pu_bk, pu_kl, List.replicate, pu_wi_1, pu_wi_2, nl_add, nl_ladd, nl_aa, nl_mul, nl_rmul, nl_mm, pu_qe0, pu_qe1, hc, e1, e2, e3, e4, e5, c3, c4]
          all_goals try simp (maxSteps := 400000) (disch := omega) [nl_tle, nl_fle, nl_tlt, nl_flt, nl_teq, nl_feq, nl_sub, nl_ss, nl_lt, nl_llt, nl_ltt, nl_le, nl_lle, nl_lee, nl_eq, nl_leq, nl_ee, nl_div, nl_rem, nl_cl, nl_n1, nl_n2, nl_n3, nl_n4, nl_add, nl_ladd, nl_aa, nl_mul, nl_rmul, nl_mm, pu_wi_1, pu_wi_2, bX12_walk_103, bX12_walk_187, bX12_walk_181, bX12_walk_134, bX12_walk_173, a_ald, a_cs, a_cv, a_iceq, a_icge, a_iclt, a_ifeq, a_ild, a_inc, a_ist, a_push, sh_71, pu_rv, pu_as, Value.category, pu_bk, pu_kl, pu_qe0, pu_qe1, hc, e1, e2, e3, e4, e5, c3, c4]
          all_goals try simp [bX12_walk_103, bX12_walk_187, bX12_walk_181, bX12_walk_134, bX12_walk_173, a_ald, a_cs, a_cv, a_iceq, a_icge, a_iclt, a_ifeq, a_ild, a_inc, a_ist, a_push, sh_71, pu_rv, pu_as, Value.category, pu_bk, pu_kl, List.replicate, pu_wi_1, pu_wi_2, nl_add, nl_ladd, nl_aa, nl_mul, nl_rmul, nl_mm, pu_qe0, pu_qe1, hc, e1, e2, e3, e4, e5, c3, c4]
          all_goals try simp (maxSteps := 400000) (disch := omega) [nl_tle, nl_fle, nl_tlt, nl_flt, nl_teq, nl_feq, nl_sub, nl_ss, nl_lt, nl_llt, nl_ltt, nl_le, nl_lle, nl_lee, nl_eq, nl_leq, nl_ee, nl_div, nl_rem, nl_cl, nl_n1, nl_n2, nl_n3, nl_n4, nl_add, nl_ladd, nl_aa, nl_mul, nl_rmul, nl_mm, pu_wi_1, pu_wi_2, bX12_walk_103, bX12_walk_187, bX12_walk_181, bX12_walk_134, bX12_walk_173, a_ald, a_cs, a_cv, a_iceq, a_icge, a_iclt, a_ifeq, a_ild, a_inc, a_ist, a_push, sh_71, pu_rv, pu_as, Value.category, pu_bk, pu_kl, pu_qe0, pu_qe1, hc, e1, e2, e3, e4, e5, c3, c4]
          all_goals try simp [bX12_walk_103, bX12_walk_187, bX12_walk_181, bX12_walk_134, bX12_walk_173, a_ald, a_cs, a_cv, a_iceq, a_icge, a_iclt, a_ifeq, a_ild, a_inc, a_ist, a_push, sh_71, pu_rv, pu_as, Value.category, pu_bk, pu_kl, List.replicate, pu_wi_1, pu_wi_2, nl_add, nl_ladd, nl_aa, nl_mul, nl_rmul, nl_mm, pu_qe0, pu_qe1, hc, e1, e2, e3, e4, e5, c3, c4]
          all_goals try simp (maxSteps := 400000) (disch := omega) [nl_tle, nl_fle, nl_tlt, nl_flt, nl_teq, nl_feq, nl_sub, nl_ss, nl_lt, nl_llt, nl_ltt, nl_le, nl_lle, nl_lee, nl_eq, nl_leq, nl_ee, nl_div, nl_rem, nl_cl, nl_n1, nl_n2, nl_n3, nl_n4, nl_add, nl_ladd, nl_aa, nl_mul, nl_rmul, nl_mm, pu_wi_1, pu_wi_2, bX12_walk_103, bX12_walk_187, bX12_walk_181, bX12_walk_134, bX12_walk_173, a_ald, a_cs, a_cv, a_iceq, a_icge, a_iclt, a_ifeq, a_ild, a_inc, a_ist, a_push, sh_71, pu_rv, pu_as, Value.category, pu_bk, pu_kl, pu_qe0, pu_qe1, hc, e1, e2, e3, e4, e5, c3, c4]
          all_goals try simp [bX12_walk_103, bX12_walk_187, bX12_walk_181, bX12_walk_134, bX12_walk_173, a_ald, a_cs, a_cv, a_iceq, a_icge, a_iclt, a_ifeq, a_ild, a_inc, a_ist, a_push, sh_71, pu_rv, pu_as, Value.category, pu_bk, pu_kl, List.replicate, pu_wi_1, pu_wi_2, nl_add, nl_ladd, nl_aa, nl_mul, nl_rmul, nl_mm, pu_qe0, pu_qe1, hc, e1, e2, e3, e4, e5, c3, c4]
  · rw [pu_q0 c1] at e1
    refine ⟨t10, ?_⟩
    rw [if_neg (fun q => c1 q.1.1)]
    rw [qX12_walk_103]
    simp [bX12_walk_103, bX12_walk_187, bX12_walk_181, bX12_walk_134, bX12_walk_173, a_ald, a_cs, a_cv, a_iceq, a_icge, a_iclt, a_ifeq, a_ild, a_inc, a_ist, a_push, sh_71, pu_rv, pu_as, Value.category, pu_bk, pu_kl, List.replicate, pu_wi_1, pu_wi_2, nl_add, nl_ladd, nl_aa, nl_mul, nl_rmul, nl_mm, pu_qe0, pu_qe1, hc, e1]
    all_goals try simp (maxSteps := 400000) (disch := omega) [nl_tle, nl_fle, nl_tlt, nl_flt, nl_teq, nl_feq, nl_sub, nl_ss, nl_lt, nl_llt, nl_ltt, nl_le, nl_lle, nl_lee, nl_eq, nl_leq, nl_ee, nl_div, nl_rem, nl_cl, nl_n1, nl_n2, nl_n3, nl_n4, nl_add, nl_ladd, nl_aa, nl_mul, nl_rmul, nl_mm, pu_wi_1, pu_wi_2, bX12_walk_103, bX12_walk_187, bX12_walk_181, bX12_walk_134, bX12_walk_173, a_ald, a_cs, a_cv, a_iceq, a_icge, a_iclt, a_ifeq, a_ild, a_inc, a_ist, a_push, sh_71, pu_rv, pu_as, Value.category, pu_bk, pu_kl, pu_qe0, pu_qe1, hc, e1]
    all_goals try simp [bX12_walk_103, bX12_walk_187, bX12_walk_181, bX12_walk_134, bX12_walk_173, a_ald, a_cs, a_cv, a_iceq, a_icge, a_iclt, a_ifeq, a_ild, a_inc, a_ist, a_push, sh_71, pu_rv, pu_as, Value.category, pu_bk, pu_kl, List.replicate, pu_wi_1, pu_wi_2, nl_add, nl_ladd, nl_aa, nl_mul, nl_rmul, nl_mm, pu_qe0, pu_qe1, hc, e1]
    all_goals try simp (maxSteps := 400000) (disch := omega) [nl_tle, nl_fle, nl_tlt, nl_flt, nl_teq, nl_feq, nl_sub, nl_ss, nl_lt, nl_llt, nl_ltt, nl_le, nl_lle, nl_lee, nl_eq, nl_leq, nl_ee, nl_div, nl_rem, nl_cl, nl_n1, nl_n2, nl_n3, nl_n4, nl_add, nl_ladd, nl_aa, nl_mul, nl_rmul, nl_mm, pu_wi_1, pu_wi_2, bX12_walk_103, bX12_walk_187, bX12_walk_181, bX12_walk_134, bX12_walk_173, a_ald, a_cs, a_cv, a_iceq, a_icge, a_iclt, a_ifeq, a_ild, a_inc, a_ist, a_push, sh_71, pu_rv, pu_as, Value.category, pu_bk, pu_kl, pu_qe0, pu_qe1, hc, e1]
    all_goals try simp [bX12_walk_103, bX12_walk_187, bX12_walk_181, bX12_walk_134, bX12_walk_173, a_ald, a_cs, a_cv, a_iceq, a_icge, a_iclt, a_ifeq, a_ild, a_inc, a_ist, a_push, sh_71, pu_rv, pu_as, Value.category, pu_bk, pu_kl, List.replicate, pu_wi_1, pu_wi_2, nl_add, nl_ladd, nl_aa, nl_mul, nl_rmul, nl_mm, pu_qe0, pu_qe1, hc, e1]
    all_goals try simp (maxSteps := 400000) (disch := omega) [nl_tle, nl_fle, nl_tlt, nl_flt, nl_teq, nl_feq, nl_sub, nl_ss, nl_lt, nl_llt, nl_ltt, nl_le, nl_lle, nl_lee, nl_eq, nl_leq, nl_ee, nl_div, nl_rem, nl_cl, nl_n1, nl_n2, nl_n3, nl_n4, nl_add, nl_ladd, nl_aa, nl_mul, nl_rmul, nl_mm, pu_wi_1, pu_wi_2, bX12_walk_103, bX12_walk_187, bX12_walk_181, bX12_walk_134, bX12_walk_173, a_ald, a_cs, a_cv, a_iceq, a_icge, a_iclt, a_ifeq, a_ild, a_inc, a_ist, a_push, sh_71, pu_rv, pu_as, Value.category, pu_bk, pu_kl, pu_qe0, pu_qe1, hc, e1]
    all_goals try simp [bX12_walk_103, bX12_walk_187, bX12_walk_181, bX12_walk_134, bX12_walk_173, a_ald, a_cs, a_cv, a_iceq, a_icge, a_iclt, a_ifeq, a_ild, a_inc, a_ist, a_push, sh_71, pu_rv, pu_as, Value.category, pu_bk, pu_kl, List.replicate, pu_wi_1, pu_wi_2, nl_add, nl_ladd, nl_aa, nl_mul, nl_rmul, nl_mm, pu_qe0, pu_qe1, hc, e1]
theorem r_ws_l (h : pu_St I L s0) {N : pu_M} {c st : Nat} (gd : py_GD I (fun t => N.1 72 (59788 + t)) c) (hN : py_rw s0 N c) (hy : ¬ y < 0 ∧ ¬ 109574 < y) (iv wy mo : Int32) : ∀ (m d : Nat) (p : Int32 × Int32) (t9 t10 : Option Value), d + m = cD I → ∃ u9 u10, pu_r 527 [some (.ref 71), some (.int y), some (.int iv), some (.int (nI st)), some (.int wy), some (.int mo), some (.int p.1), some (.int p.2), some (.int (nI d)), t9, t10] [] N = kX12_walk_193 pu_r [some (.ref 71), some (.int y), some (.int iv), some (.int (nI st)), some (.int wy), some (.int mo), some (.int (pz_mn (py_wc I st y (fun t => N.1 72 (59788 + t)) c) (fun j => py_wkx wy (I 40 j) (I 41 j)) (2 * m) (2 * d) p).1), some (.int (pz_mn (py_wc I st y (fun t => N.1 72 (59788 + t)) c) (fun j => py_wkx wy (I 40 j) (I 41 j)) (2 * m) (2 * d) p).2), some (.int (nI (cD I))), u9, u10] [] N
  | 0, d, p, t9, t10, hd => by
    have hw := h.1
    have bD := wx_bD hw
    have hx := hN.1
    have h4 : N.1 72 4 = nI (cD I) := by rw [hN.2.1 4 (by omega) (by omega) (by omega)]; exact rl_h4 h.2
    have e : d = cD I := by omega
    have hc : nI (cD I) ≤ nI (cD I) := nI_le (by omega) (by omega)
    refine ⟨t9, t10, ?_⟩
    rw [e, qX12_walk_89]
    show _ = kX12_walk_193 pu_r [some (.ref 71), some (.int y), some (.int iv), some (.int (nI st)), some (.int wy), some (.int mo), some (.int p.1), some (.int p.2), some (.int (nI (cD I))), t9, t10] [] N
    simp [bX12_walk_89, a_ai, a_ald, a_gr, a_icge, a_ild, a_ist, a_push, fx_71_0 hx, sh_71, sh_72, pu_rv, pu_as, Value.category, pu_bk, pu_kl, List.replicate, pu_wi_1, pu_wi_2, nl_add, nl_ladd, nl_aa, nl_mul, nl_rmul, nl_mm, pu_qe0, pu_qe1, h4, hc]
    all_goals try simp (maxSteps := 400000) (disch := omega) [nl_tle, nl_fle, nl_tlt, nl_flt, nl_teq, nl_feq, nl_sub, nl_ss, nl_lt, nl_llt, nl_ltt, nl_le, nl_lle, nl_lee, nl_eq, nl_leq, nl_ee, nl_div, nl_rem, nl_cl, nl_n1, nl_n2, nl_n3, nl_n4, nl_add, nl_ladd, nl_aa, nl_mul, nl_rmul, nl_mm, pu_wi_1, pu_wi_2, bX12_walk_89, a_ai, a_ald, a_gr, a_icge, a_ild, a_ist, a_push, fx_71_0 hx, sh_71, sh_72, pu_rv, pu_as, Value.category, pu_bk, pu_kl, pu_qe0, pu_qe1, h4, hc]
    all_goals try simp [bX12_walk_89, a_ai, a_ald, a_gr, a_icge, a_ild, a_ist, a_push, fx_71_0 hx, sh_71, sh_72, pu_rv, pu_as, Value.category, pu_bk, pu_kl, List.replicate, pu_wi_1, pu_wi_2, nl_add, nl_ladd, nl_aa, nl_mul, nl_rmul, nl_mm, pu_qe0, pu_qe1, h4, hc]
    all_goals try simp (maxSteps := 400000) (disch := omega) [nl_tle, nl_fle, nl_tlt, nl_flt, nl_teq, nl_feq, nl_sub, nl_ss, nl_lt, nl_llt, nl_ltt, nl_le, nl_lle, nl_lee, nl_eq, nl_leq, nl_ee, nl_div, nl_rem, nl_cl, nl_n1, nl_n2, nl_n3, nl_n4, nl_add, nl_ladd, nl_aa, nl_mul, nl_rmul, nl_mm, pu_wi_1, pu_wi_2, bX12_walk_89, a_ai, a_ald, a_gr, a_icge, a_ild, a_ist, a_push, fx_71_0 hx, sh_71, sh_72, pu_rv, pu_as, Value.category, pu_bk, pu_kl, pu_qe0, pu_qe1, h4, hc]
    all_goals try simp [bX12_walk_89, a_ai, a_ald, a_gr, a_icge, a_ild, a_ist, a_push, fx_71_0 hx, sh_71, sh_72, pu_rv, pu_as, Value.category, pu_bk, pu_kl, List.replicate, pu_wi_1, pu_wi_2, nl_add, nl_ladd, nl_aa, nl_mul, nl_rmul, nl_mm, pu_qe0, pu_qe1, h4, hc]
    all_goals try simp (maxSteps := 400000) (disch := omega) [nl_tle, nl_fle, nl_tlt, nl_flt, nl_teq, nl_feq, nl_sub, nl_ss, nl_lt, nl_llt, nl_ltt, nl_le, nl_lle, nl_lee, nl_eq, nl_leq, nl_ee, nl_div, nl_rem, nl_cl, nl_n1, nl_n2, nl_n3, nl_n4, nl_add, nl_ladd, nl_aa, nl_mul, nl_rmul, nl_mm, pu_wi_1, pu_wi_2, bX12_walk_89, a_ai, a_ald, a_gr, a_icge, a_ild, a_ist, a_push, fx_71_0 hx, sh_71, sh_72, pu_rv, pu_as, Value.category, pu_bk, pu_kl, pu_qe0, pu_qe1, h4, hc]
    all_goals try simp [bX12_walk_89, a_ai, a_ald, a_gr, a_icge, a_ild, a_ist, a_push, fx_71_0 hx, sh_71, sh_72, pu_rv, pu_as, Value.category, pu_bk, pu_kl, List.replicate, pu_wi_1, pu_wi_2, nl_add, nl_ladd, nl_aa, nl_mul, nl_rmul, nl_mm, pu_qe0, pu_qe1, h4, hc]
  | m + 1, d, p, t9, t10, hd => by
    have hw := h.1
    have bD := wx_bD hw
    have hx := hN.1
    have h4 : N.1 72 4 = nI (cD I) := by rw [hN.2.1 4 (by omega) (by omega) (by omega)]; exact rl_h4 h.2
    have hc : ¬ nI (cD I) ≤ nI d := nI_ge (by omega) (by omega)
    obtain ⟨a10, a⟩ := r_ws_i h (st := st) gd hN (show d < cD I by omega) (show 0 < 2 by omega) hy iv wy mo p t10
    obtain ⟨b10, b⟩ := r_ws_i h (st := st) gd hN (show d < cD I by omega) (show 1 < 2 by omega) hy iv wy mo (pz_ms (py_wc I st y (fun t => N.1 72 (59788 + t)) c) (fun j => py_wkx wy (I 40 j) (I 41 j)) (2 * d + 0) p) a10
    obtain ⟨u9, u10, ih⟩ := r_ws_l h (st := st) gd hN hy iv wy mo m (d + 1) (pz_ms (py_wc I st y (fun t => N.1 72 (59788 + t)) c) (fun j => py_wkx wy (I 40 j) (I 41 j)) (2 * d + 1) (pz_ms (py_wc I st y (fun t => N.1 72 (59788 + t)) c) (fun j => py_wkx wy (I 40 j) (I 41 j)) (2 * d + 0) p)) (some (.int (nI (1 + 1)))) b10 (by omega)
    refine ⟨u9, u10, ?_⟩
    rw [nI_0] at a
    have e : 2 * (m + 1) = 2 * m + 1 + 1 := by omega
    rw [e, pz_mn, pz_mn]
    rw [show 2 * d + 1 + 1 = 2 * (d + 1) by omega]
    rw [show 2 * d + 0 = 2 * d by omega] at a b ih
    rw [← ih]
    generalize pz_ms (py_wc I st y (fun t => N.1 72 (59788 + t)) c) (fun j => py_wkx wy (I 40 j) (I 41 j)) (2 * d + 1) (pz_ms (py_wc I st y (fun t => N.1 72 (59788 + t)) c) (fun j => py_wkx wy (I 40 j) (I 41 j)) (2 * d) p) = pp at *
    have z : pu_r 528 [some (.ref 71), some (.int y), some (.int iv), some (.int (nI st)), some (.int wy), some (.int mo), some (.int p.1), some (.int p.2), some (.int (nI d)), some (.int 0), t10] [] N = pu_r 527 [some (.ref 71), some (.int y), some (.int iv), some (.int (nI st)), some (.int wy), some (.int mo), some (.int pp.1), some (.int pp.2), some (.int (nI (d + 1))), some (.int (nI (1 + 1))), b10] [] N := by
      rw [a, b]
      have h2 : 2 ≤ nI (1 + 1) := by decide
      obtain ⟨q1, q2⟩ := pp
      rw [qX12_walk_103]
      simp [bX12_walk_103, bX12_walk_187, bX12_walk_181, bX12_walk_134, bX12_walk_173, a_ald, a_cs, a_cv, a_iceq, a_icge, a_iclt, a_ifeq, a_ild, a_inc, a_ist, a_push, sh_71, pu_rv, pu_as, Value.category, pu_bk, pu_kl, List.replicate, pu_wi_1, pu_wi_2, nl_add, nl_ladd, nl_aa, nl_mul, nl_rmul, nl_mm, pu_qe0, pu_qe1, h2]
      all_goals try simp (maxSteps := 400000) (disch := omega) [nl_tle, nl_fle, nl_tlt, nl_flt, nl_teq, nl_feq, nl_sub, nl_ss, nl_lt, nl_llt, nl_ltt, nl_le, nl_lle, nl_lee, nl_eq, nl_leq, nl_ee, nl_div, nl_rem, nl_cl, nl_n1, nl_n2, nl_n3, nl_n4, nl_add, nl_ladd, nl_aa, nl_mul, nl_rmul, nl_mm, pu_wi_1, pu_wi_2, bX12_walk_103, bX12_walk_187, bX12_walk_181, bX12_walk_134, bX12_walk_173, a_ald, a_cs, a_cv, a_iceq, a_icge, a_iclt, a_ifeq, a_ild, a_inc, a_ist, a_push, sh_71, pu_rv, pu_as, Value.category, pu_bk, pu_kl, pu_qe0, pu_qe1, h2]
      all_goals try simp [bX12_walk_103, bX12_walk_187, bX12_walk_181, bX12_walk_134, bX12_walk_173, a_ald, a_cs, a_cv, a_iceq, a_icge, a_iclt, a_ifeq, a_ild, a_inc, a_ist, a_push, sh_71, pu_rv, pu_as, Value.category, pu_bk, pu_kl, List.replicate, pu_wi_1, pu_wi_2, nl_add, nl_ladd, nl_aa, nl_mul, nl_rmul, nl_mm, pu_qe0, pu_qe1, h2]
      all_goals try simp (maxSteps := 400000) (disch := omega) [nl_tle, nl_fle, nl_tlt, nl_flt, nl_teq, nl_feq, nl_sub, nl_ss, nl_lt, nl_llt, nl_ltt, nl_le, nl_lle, nl_lee, nl_eq, nl_leq, nl_ee, nl_div, nl_rem, nl_cl, nl_n1, nl_n2, nl_n3, nl_n4, nl_add, nl_ladd, nl_aa, nl_mul, nl_rmul, nl_mm, pu_wi_1, pu_wi_2, bX12_walk_103, bX12_walk_187, bX12_walk_181, bX12_walk_134, bX12_walk_173, a_ald, a_cs, a_cv, a_iceq, a_icge, a_iclt, a_ifeq, a_ild, a_inc, a_ist, a_push, sh_71, pu_rv, pu_as, Value.category, pu_bk, pu_kl, pu_qe0, pu_qe1, h2]
      all_goals try simp [bX12_walk_103, bX12_walk_187, bX12_walk_181, bX12_walk_134, bX12_walk_173, a_ald, a_cs, a_cv, a_iceq, a_icge, a_iclt, a_ifeq, a_ild, a_inc, a_ist, a_push, sh_71, pu_rv, pu_as, Value.category, pu_bk, pu_kl, List.replicate, pu_wi_1, pu_wi_2, nl_add, nl_ladd, nl_aa, nl_mul, nl_rmul, nl_mm, pu_qe0, pu_qe1, h2]
      all_goals try simp (maxSteps := 400000) (disch := omega) [nl_tle, nl_fle, nl_tlt, nl_flt, nl_teq, nl_feq, nl_sub, nl_ss, nl_lt, nl_llt, nl_ltt, nl_le, nl_lle, nl_lee, nl_eq, nl_leq, nl_ee, nl_div, nl_rem, nl_cl, nl_n1, nl_n2, nl_n3, nl_n4, nl_add, nl_ladd, nl_aa, nl_mul, nl_rmul, nl_mm, pu_wi_1, pu_wi_2, bX12_walk_103, bX12_walk_187, bX12_walk_181, bX12_walk_134, bX12_walk_173, a_ald, a_cs, a_cv, a_iceq, a_icge, a_iclt, a_ifeq, a_ild, a_inc, a_ist, a_push, sh_71, pu_rv, pu_as, Value.category, pu_bk, pu_kl, pu_qe0, pu_qe1, h2]
      all_goals try simp [bX12_walk_103, bX12_walk_187, bX12_walk_181, bX12_walk_134, bX12_walk_173, a_ald, a_cs, a_cv, a_iceq, a_icge, a_iclt, a_ifeq, a_ild, a_inc, a_ist, a_push, sh_71, pu_rv, pu_as, Value.category, pu_bk, pu_kl, List.replicate, pu_wi_1, pu_wi_2, nl_add, nl_ladd, nl_aa, nl_mul, nl_rmul, nl_mm, pu_qe0, pu_qe1, h2]
    rw [← z, qX12_walk_89]
    obtain ⟨q1, q2⟩ := p
    simp [bX12_walk_89, a_ai, a_ald, a_gr, a_icge, a_ild, a_ist, a_push, fx_71_0 hx, sh_71, sh_72, pu_rv, pu_as, Value.category, pu_bk, pu_kl, List.replicate, pu_wi_1, pu_wi_2, nl_add, nl_ladd, nl_aa, nl_mul, nl_rmul, nl_mm, pu_qe0, pu_qe1, h4, hc]
    all_goals try simp (maxSteps := 400000) (disch := omega) [nl_tle, nl_fle, nl_tlt, nl_flt, nl_teq, nl_feq, nl_sub, nl_ss, nl_lt, nl_llt, nl_ltt, nl_le, nl_lle, nl_lee, nl_eq, nl_leq, nl_ee, nl_div, nl_rem, nl_cl, nl_n1, nl_n2, nl_n3, nl_n4, nl_add, nl_ladd, nl_aa, nl_mul, nl_rmul, nl_mm, pu_wi_1, pu_wi_2, bX12_walk_89, a_ai, a_ald, a_gr, a_icge, a_ild, a_ist, a_push, fx_71_0 hx, sh_71, sh_72, pu_rv, pu_as, Value.category, pu_bk, pu_kl, pu_qe0, pu_qe1, h4, hc]
    all_goals try simp [bX12_walk_89, a_ai, a_ald, a_gr, a_icge, a_ild, a_ist, a_push, fx_71_0 hx, sh_71, sh_72, pu_rv, pu_as, Value.category, pu_bk, pu_kl, List.replicate, pu_wi_1, pu_wi_2, nl_add, nl_ladd, nl_aa, nl_mul, nl_rmul, nl_mm, pu_qe0, pu_qe1, h4, hc]
    all_goals try simp (maxSteps := 400000) (disch := omega) [nl_tle, nl_fle, nl_tlt, nl_flt, nl_teq, nl_feq, nl_sub, nl_ss, nl_lt, nl_llt, nl_ltt, nl_le, nl_lle, nl_lee, nl_eq, nl_leq, nl_ee, nl_div, nl_rem, nl_cl, nl_n1, nl_n2, nl_n3, nl_n4, nl_add, nl_ladd, nl_aa, nl_mul, nl_rmul, nl_mm, pu_wi_1, pu_wi_2, bX12_walk_89, a_ai, a_ald, a_gr, a_icge, a_ild, a_ist, a_push, fx_71_0 hx, sh_71, sh_72, pu_rv, pu_as, Value.category, pu_bk, pu_kl, pu_qe0, pu_qe1, h4, hc]
    all_goals try simp [bX12_walk_89, a_ai, a_ald, a_gr, a_icge, a_ild, a_ist, a_push, fx_71_0 hx, sh_71, sh_72, pu_rv, pu_as, Value.category, pu_bk, pu_kl, List.replicate, pu_wi_1, pu_wi_2, nl_add, nl_ladd, nl_aa, nl_mul, nl_rmul, nl_mm, pu_qe0, pu_qe1, h4, hc]
    all_goals try simp (maxSteps := 400000) (disch := omega) [nl_tle, nl_fle, nl_tlt, nl_flt, nl_teq, nl_feq, nl_sub, nl_ss, nl_lt, nl_llt, nl_ltt, nl_le, nl_lle, nl_lee, nl_eq, nl_leq, nl_ee, nl_div, nl_rem, nl_cl, nl_n1, nl_n2, nl_n3, nl_n4, nl_add, nl_ladd, nl_aa, nl_mul, nl_rmul, nl_mm, pu_wi_1, pu_wi_2, bX12_walk_89, a_ai, a_ald, a_gr, a_icge, a_ild, a_ist, a_push, fx_71_0 hx, sh_71, sh_72, pu_rv, pu_as, Value.category, pu_bk, pu_kl, pu_qe0, pu_qe1, h4, hc]
    all_goals try simp [bX12_walk_89, a_ai, a_ald, a_gr, a_icge, a_ild, a_ist, a_push, fx_71_0 hx, sh_71, sh_72, pu_rv, pu_as, Value.category, pu_bk, pu_kl, List.replicate, pu_wi_1, pu_wi_2, nl_add, nl_ladd, nl_aa, nl_mul, nl_rmul, nl_mm, pu_qe0, pu_qe1, h4, hc]
theorem py_VW_wk {V : Nat → Nat} {E : Nat → Int32} {c0 : Nat} : ∀ a c, py_VW I y V E c0 a c → ∀ b, b < a → ∃ t, t < c ∧ E t = nI (pu_sl0 I (V b) / 2)
  | 0, c, _, b, hb => by omega
  | a + 1, c, ⟨c1, h, g⟩, b, hb => by
    rcases g with ⟨⟨t, t1, t2⟩, g2⟩ | ⟨_, g2, U, m, _, g4, _⟩
    · by_cases z : b = a
      · rw [z]; exact ⟨t, by omega, t2⟩
      · obtain ⟨t', x1, x2⟩ := py_VW_wk a c1 h b (by omega)
        exact ⟨t', by omega, x2⟩
    · by_cases z : b = a
      · rw [z]; exact ⟨c1, by omega, g2⟩
      · obtain ⟨t', x1, x2⟩ := py_VW_wk a c1 h b (by omega)
        exact ⟨t', by omega, x2⟩
theorem py_VW_sk {V : Nat → Nat} {E : Nat → Int32} {c0 a c : Nat} (h : py_VW I y V E c0 a c) : ∀ b, (∀ e, a ≤ e → e < a + b → ∃ t, t < c ∧ E t = nI (pu_sl0 I (V e) / 2)) → py_VW I y V E c0 (a + b) c
  | 0, _ => h
  | b + 1, g => ⟨c, py_VW_sk h b (fun e h1 h2 => g e h1 (by omega)), Or.inl ⟨g (a + b) (by omega) (by omega), rfl⟩⟩
theorem r_ww_l (h : pu_St I L s0) {st o n c0 i : Nat} {V : Nat → Nat} {E0 : Nat → Int32} (hy : ¬ y < 0 ∧ ¬ 109574 < y) (hst : st < cK I) (ho : o < 3) (SLV : py_SL (py_wq I o) (fun k => k < cU I ∧ I 39 (pu_sl0 I k) = nI st ∧ pu_sh1 I y k) V n) (gd0 : py_GD I E0 c0) : ∀ (m a : Nat) (N : pu_M) (c : Nat) (t6 t7 t8 t9 t10 : Option Value), n < a + m → a ≤ n → py_rw s0 N c → (∀ t, t < c0 → N.1 72 (59788 + t) = E0 t) → py_VW I y V (fun t => N.1 72 (59788 + t)) c0 a c → ∃ N1 c1 u6 u7 u8 u9 u10, py_rw s0 N1 c1 ∧ N1.2 = N.2 ∧ (∀ x j, x ≠ 72 → N1.1 x j = N.1 x j) ∧ (∀ t, t < c0 → N1.1 72 (59788 + t) = E0 t) ∧ py_VW I y V (fun t => N1.1 72 (59788 + t)) c0 n c1 ∧ pu_r 526 [some (.ref 71), some (.int y), some (.int (nI i)), some (.int (nI st)), some (.int (nI o)), some (.int 1), t6, t7, t8, t9, t10] [] N = pu_r 525 [some (.ref 71), some (.int y), some (.int (nI (i + 1))), some (.int (nI st)), some (.int (nI o)), some (.int 0), u6, u7, u8, u9, u10] [] N1
  | 0, a, N, c, t6, t7, t8, t9, t10, hm, ha, hN, lo, vw => by omega
  | m + 1, a, N, c, t6, t7, t8, t9, t10, hm, ha, hN, lo, vw => by
    have hw := h.1
    have bD := wx_bD hw
    have bK := wx_bK hw
    have bU := wx_bU hw
    have le := py_VW_le a c vw
    have HV : ∀ b, b < n → V b < cU I ∧ pu_sh1 I y (V b) := fun b hb => ⟨(SLV.1 b hb).1, (SLV.1 b hb).2.2⟩
    have GD := py_VW_gd hw (py_GD_c (E' := fun t => N.1 72 (59788 + t)) lo gd0) a c (fun b hb => py_fr_p hw (HV b (by omega)).1 (HV b (by omega)).2) vw
    obtain ⟨u9, u10, R⟩ := r_ws_l h (st := st) GD hN hy (nI i) (nI o) 1 (cD I) 0 (-1, 0) t9 t10 (by omega)
    have gd := pz_gd_n (c := py_wc I st y (fun t => N.1 72 (59788 + t)) c) (key := fun j => py_wkx (nI o) (I 40 j) (I 41 j)) (2 * cD I) 0 (-1, 0) (by omega) (Or.inl ⟨rfl, fun i hi => by omega⟩)
    rw [Nat.mul_zero, nI_0] at R
    generalize pz_mn (py_wc I st y (fun t => N.1 72 (59788 + t)) c) (fun j => py_wkx (nI o) (I 40 j) (I 41 j)) (2 * cD I) 0 (-1, 0) = p at *
    have S1 : pu_r 526 [some (.ref 71), some (.int y), some (.int (nI i)), some (.int (nI st)), some (.int (nI o)), some (.int 1), t6, t7, t8, t9, t10] [] N = kX12_walk_193 pu_r [some (.ref 71), some (.int y), some (.int (nI i)), some (.int (nI st)), some (.int (nI o)), some (.int 1), some (.int p.1), some (.int p.2), some (.int (nI (cD I))), u9, u10] [] N := by
      rw [← R]
      rw [qX12_walk_75]
      simp [bX12_walk_75, bX12_walk_221, a_ifeq, a_ild, a_inc, a_ist, a_push, pu_rv, pu_as, Value.category, pu_bk, pu_kl, List.replicate, pu_wi_1, pu_wi_2, nl_add, nl_ladd, nl_aa, nl_mul, nl_rmul, nl_mm, pu_qe0, pu_qe1]
      all_goals try simp (maxSteps := 400000) (disch := omega) [nl_tle, nl_fle, nl_tlt, nl_flt, nl_teq, nl_feq, nl_sub, nl_ss, nl_lt, nl_llt, nl_ltt, nl_le, nl_lle, nl_lee, nl_eq, nl_leq, nl_ee, nl_div, nl_rem, nl_cl, nl_n1, nl_n2, nl_n3, nl_n4, nl_add, nl_ladd, nl_aa, nl_mul, nl_rmul, nl_mm, pu_wi_1, pu_wi_2, bX12_walk_75, bX12_walk_221, a_ifeq, a_ild, a_inc, a_ist, a_push, pu_rv, pu_as, Value.category, pu_bk, pu_kl, pu_qe0, pu_qe1]
      all_goals try simp [bX12_walk_75, bX12_walk_221, a_ifeq, a_ild, a_inc, a_ist, a_push, pu_rv, pu_as, Value.category, pu_bk, pu_kl, List.replicate, pu_wi_1, pu_wi_2, nl_add, nl_ladd, nl_aa, nl_mul, nl_rmul, nl_mm, pu_qe0, pu_qe1]
      all_goals try simp (maxSteps := 400000) (disch := omega) [nl_tle, nl_fle, nl_tlt, nl_flt, nl_teq, nl_feq, nl_sub, nl_ss, nl_lt, nl_llt, nl_ltt, nl_le, nl_lle, nl_lee, nl_eq, nl_leq, nl_ee, nl_div, nl_rem, nl_cl, nl_n1, nl_n2, nl_n3, nl_n4, nl_add, nl_ladd, nl_aa, nl_mul, nl_rmul, nl_mm, pu_wi_1, pu_wi_2, bX12_walk_75, bX12_walk_221, a_ifeq, a_ild, a_inc, a_ist, a_push, pu_rv, pu_as, Value.category, pu_bk, pu_kl, pu_qe0, pu_qe1]
      all_goals try simp [bX12_walk_75, bX12_walk_221, a_ifeq, a_ild, a_inc, a_ist, a_push, pu_rv, pu_as, Value.category, pu_bk, pu_kl, List.replicate, pu_wi_1, pu_wi_2, nl_add, nl_ladd, nl_aa, nl_mul, nl_rmul, nl_mm, pu_qe0, pu_qe1]
      all_goals try simp (maxSteps := 400000) (disch := omega) [nl_tle, nl_fle, nl_tlt, nl_flt, nl_teq, nl_feq, nl_sub, nl_ss, nl_lt, nl_llt, nl_ltt, nl_le, nl_lle, nl_lee, nl_eq, nl_leq, nl_ee, nl_div, nl_rem, nl_cl, nl_n1, nl_n2, nl_n3, nl_n4, nl_add, nl_ladd, nl_aa, nl_mul, nl_rmul, nl_mm, pu_wi_1, pu_wi_2, bX12_walk_75, bX12_walk_221, a_ifeq, a_ild, a_inc, a_ist, a_push, pu_rv, pu_as, Value.category, pu_bk, pu_kl, pu_qe0, pu_qe1]
      all_goals try simp [bX12_walk_75, bX12_walk_221, a_ifeq, a_ild, a_inc, a_ist, a_push, pu_rv, pu_as, Value.category, pu_bk, pu_kl, List.replicate, pu_wi_1, pu_wi_2, nl_add, nl_ladd, nl_aa, nl_mul, nl_rmul, nl_mm, pu_qe0, pu_qe1]
    rw [S1]
    -- the places of the street are those of the view
    have IN : ∀ b, b < n → pu_in I st y (pu_sl0 I (V b)) := fun b hb => ⟨V b, (SLV.1 b hb).1, rfl, (SLV.1 b hb).2.1, (SLV.1 b hb).2.2⟩
    have KY : ∀ b, b < n → py_wkx (nI o) (I 40 (pu_sl0 I (V b))) (I 41 (pu_sl0 I (V b))) = nI (py_wq I o (V b)) ∧ py_wq I o (V b) < 30001 := fun b hb => by
      have s := SLV.1 b hb
      have pl := py_pl0 (y := y) hw (st := st) (by omega) s.1 s.2.1 (by rw [py_tn_e hy.1]; exact s.2.2)
      have a1 := pu_on (x := I 40 (pu_sl0 I (V b))) (n := 2) ⟨pl.1, by omega⟩
      have a2 := pu_on (x := I 41 (pu_sl0 I (V b))) (n := 10000) ⟨pl.2.2.1, by omega⟩
      have e := py_wkx_e ho a1.2 a2.2
      rw [← a1.1, ← a2.1] at e
      refine ⟨e, ?_⟩
      have b1 := a1.2
      have b2 := a2.2
      unfold py_wq py_wk
      split
      · split <;> omega
      · split <;> omega
    rcases gd with ⟨g1, g2⟩ | ⟨j, j1, j2, j3, j4⟩
    · -- nothing more
      refine ⟨N, c, some (.int p.1), some (.int p.2), some (.int (nI (cD I))), u9, u10, hN, rfl, fun _ _ _ => rfl, lo, ?_, ?_⟩
      · have := py_VW_sk vw (n - a) (fun e h1 h2 => Classical.byContradiction (fun z => by
          have sl := (pu_sl_lt hw (HV e (by omega)).1).1
          exact g2 (pu_sl0 I (V e)) (by omega) ⟨IN e (by omega), z⟩))
        rw [show a + (n - a) = n by omega] at this
        exact this
      · obtain ⟨q1, q2⟩ := p
        have g1' : q1 = -1 := g1
        generalize hR : pu_r 525 [some (.ref 71), some (.int y), some (.int (nI (i + 1))), some (.int (nI st)), some (.int (nI o)), some (.int 0), some (.int q1), some (.int q2), some (.int (nI (cD I))), u9, u10] [] N = R2
        have Z : pu_r 526 [some (.ref 71), some (.int y), some (.int (nI i)), some (.int (nI st)), some (.int (nI o)), some (.int 0), some (.int q1), some (.int q2), some (.int (nI (cD I))), u9, u10] [] N = R2 := by
          rw [qX12_walk_75]
          simp [bX12_walk_75, bX12_walk_221, a_ifeq, a_ild, a_inc, a_ist, a_push, pu_rv, pu_as, Value.category, pu_bk, pu_kl, List.replicate, pu_wi_1, pu_wi_2, nl_add, nl_ladd, nl_aa, nl_mul, nl_rmul, nl_mm, pu_qe0, pu_qe1, hR]
          all_goals try simp (maxSteps := 400000) (disch := omega) [nl_tle, nl_fle, nl_tlt, nl_flt, nl_teq, nl_feq, nl_sub, nl_ss, nl_lt, nl_llt, nl_ltt, nl_le, nl_lle, nl_lee, nl_eq, nl_leq, nl_ee, nl_div, nl_rem, nl_cl, nl_n1, nl_n2, nl_n3, nl_n4, nl_add, nl_ladd, nl_aa, nl_mul, nl_rmul, nl_mm, pu_wi_1, pu_wi_2, bX12_walk_75, bX12_walk_221, a_ifeq, a_ild, a_inc, a_ist, a_push, pu_rv, pu_as, Value.category, pu_bk, pu_kl, pu_qe0, pu_qe1, hR]
          all_goals try simp [bX12_walk_75, bX12_walk_221, a_ifeq, a_ild, a_inc, a_ist, a_push, pu_rv, pu_as, Value.category, pu_bk, pu_kl, List.replicate, pu_wi_1, pu_wi_2, nl_add, nl_ladd, nl_aa, nl_mul, nl_rmul, nl_mm, pu_qe0, pu_qe1, hR]
          all_goals try simp (maxSteps := 400000) (disch := omega) [nl_tle, nl_fle, nl_tlt, nl_flt, nl_teq, nl_feq, nl_sub, nl_ss, nl_lt, nl_llt, nl_ltt, nl_le, nl_lle, nl_lee, nl_eq, nl_leq, nl_ee, nl_div, nl_rem, nl_cl, nl_n1, nl_n2, nl_n3, nl_n4, nl_add, nl_ladd, nl_aa, nl_mul, nl_rmul, nl_mm, pu_wi_1, pu_wi_2, bX12_walk_75, bX12_walk_221, a_ifeq, a_ild, a_inc, a_ist, a_push, pu_rv, pu_as, Value.category, pu_bk, pu_kl, pu_qe0, pu_qe1, hR]
          all_goals try simp [bX12_walk_75, bX12_walk_221, a_ifeq, a_ild, a_inc, a_ist, a_push, pu_rv, pu_as, Value.category, pu_bk, pu_kl, List.replicate, pu_wi_1, pu_wi_2, nl_add, nl_ladd, nl_aa, nl_mul, nl_rmul, nl_mm, pu_qe0, pu_qe1, hR]
          all_goals try simp (maxSteps := 400000) (disch := omega) [nl_tle, nl_fle, nl_tlt, nl_flt, nl_teq, nl_feq, nl_sub, nl_ss, nl_lt, nl_llt, nl_ltt, nl_le, nl_lle, nl_lee, nl_eq, nl_leq, nl_ee, nl_div, nl_rem, nl_cl, nl_n1, nl_n2, nl_n3, nl_n4, nl_add, nl_ladd, nl_aa, nl_mul, nl_rmul, nl_mm, pu_wi_1, pu_wi_2, bX12_walk_75, bX12_walk_221, a_ifeq, a_ild, a_inc, a_ist, a_push, pu_rv, pu_as, Value.category, pu_bk, pu_kl, pu_qe0, pu_qe1, hR]
          all_goals try simp [bX12_walk_75, bX12_walk_221, a_ifeq, a_ild, a_inc, a_ist, a_push, pu_rv, pu_as, Value.category, pu_bk, pu_kl, List.replicate, pu_wi_1, pu_wi_2, nl_add, nl_ladd, nl_aa, nl_mul, nl_rmul, nl_mm, pu_qe0, pu_qe1, hR]
        rw [g1'] at Z ⊢
        simp [bX12_walk_193, bX12_walk_203, bX12_walk_204, bX12_walk_218, a_ald, a_cv, a_iceq, a_ifeq, a_ild, a_ist, a_push, sh_71, pu_rv, pu_as, Value.category, pu_bk, pu_kl, List.replicate, pu_wi_1, pu_wi_2, nl_add, nl_ladd, nl_aa, nl_mul, nl_rmul, nl_mm, pu_qe0, pu_qe1, Z]
        all_goals try simp (maxSteps := 400000) (disch := omega) [nl_tle, nl_fle, nl_tlt, nl_flt, nl_teq, nl_feq, nl_sub, nl_ss, nl_lt, nl_llt, nl_ltt, nl_le, nl_lle, nl_lee, nl_eq, nl_leq, nl_ee, nl_div, nl_rem, nl_cl, nl_n1, nl_n2, nl_n3, nl_n4, nl_add, nl_ladd, nl_aa, nl_mul, nl_rmul, nl_mm, pu_wi_1, pu_wi_2, bX12_walk_193, bX12_walk_203, bX12_walk_204, bX12_walk_218, a_ald, a_cv, a_iceq, a_ifeq, a_ild, a_ist, a_push, sh_71, pu_rv, pu_as, Value.category, pu_bk, pu_kl, pu_qe0, pu_qe1, Z]
        all_goals try simp [bX12_walk_193, bX12_walk_203, bX12_walk_204, bX12_walk_218, a_ald, a_cv, a_iceq, a_ifeq, a_ild, a_ist, a_push, sh_71, pu_rv, pu_as, Value.category, pu_bk, pu_kl, List.replicate, pu_wi_1, pu_wi_2, nl_add, nl_ladd, nl_aa, nl_mul, nl_rmul, nl_mm, pu_qe0, pu_qe1, Z]
        all_goals try simp (maxSteps := 400000) (disch := omega) [nl_tle, nl_fle, nl_tlt, nl_flt, nl_teq, nl_feq, nl_sub, nl_ss, nl_lt, nl_llt, nl_ltt, nl_le, nl_lle, nl_lee, nl_eq, nl_leq, nl_ee, nl_div, nl_rem, nl_cl, nl_n1, nl_n2, nl_n3, nl_n4, nl_add, nl_ladd, nl_aa, nl_mul, nl_rmul, nl_mm, pu_wi_1, pu_wi_2, bX12_walk_193, bX12_walk_203, bX12_walk_204, bX12_walk_218, a_ald, a_cv, a_iceq, a_ifeq, a_ild, a_ist, a_push, sh_71, pu_rv, pu_as, Value.category, pu_bk, pu_kl, pu_qe0, pu_qe1, Z]
        all_goals try simp [bX12_walk_193, bX12_walk_203, bX12_walk_204, bX12_walk_218, a_ald, a_cv, a_iceq, a_ifeq, a_ild, a_ist, a_push, sh_71, pu_rv, pu_as, Value.category, pu_bk, pu_kl, List.replicate, pu_wi_1, pu_wi_2, nl_add, nl_ladd, nl_aa, nl_mul, nl_rmul, nl_mm, pu_qe0, pu_qe1, Z]
        all_goals try simp (maxSteps := 400000) (disch := omega) [nl_tle, nl_fle, nl_tlt, nl_flt, nl_teq, nl_feq, nl_sub, nl_ss, nl_lt, nl_llt, nl_ltt, nl_le, nl_lle, nl_lee, nl_eq, nl_leq, nl_ee, nl_div, nl_rem, nl_cl, nl_n1, nl_n2, nl_n3, nl_n4, nl_add, nl_ladd, nl_aa, nl_mul, nl_rmul, nl_mm, pu_wi_1, pu_wi_2, bX12_walk_193, bX12_walk_203, bX12_walk_204, bX12_walk_218, a_ald, a_cv, a_iceq, a_ifeq, a_ild, a_ist, a_push, sh_71, pu_rv, pu_as, Value.category, pu_bk, pu_kl, pu_qe0, pu_qe1, Z]
        all_goals try simp [bX12_walk_193, bX12_walk_203, bX12_walk_204, bX12_walk_218, a_ald, a_cv, a_iceq, a_ifeq, a_ild, a_ist, a_push, sh_71, pu_rv, pu_as, Value.category, pu_bk, pu_kl, List.replicate, pu_wi_1, pu_wi_2, nl_add, nl_ladd, nl_aa, nl_mul, nl_rmul, nl_mm, pu_qe0, pu_qe1, Z]
    · obtain ⟨⟨k, k1, k2, k3, k4⟩, nw⟩ := j2
      obtain ⟨b, b1, b2⟩ := SLV.2.1 k ⟨k1, by rw [k2]; exact k3, k4⟩
      have jb : j = pu_sl0 I (V b) := by rw [b2, k2]
      rw [jb] at nw j3 j4
      have ab : a ≤ b := Nat.not_lt.mp (fun z => nw (py_VW_wk a c vw b z))
      have SKP := py_VW_sk vw (b - a) (fun e h1 h2 => Classical.byContradiction (fun z => by
        have eb : e < b := by omega
        have k1' := KY e (by omega)
        have k2' := KY b b1
        have sl := (pu_sl_lt hw (HV e (by omega)).1).1
        refine j4 (pu_sl0 I (V e)) (by omega) ⟨IN e (by omega), z⟩ ?_
        show py_wkx (nI o) (I 40 (pu_sl0 I (V e))) (I 41 (pu_sl0 I (V e))) < py_wkx (nI o) (I 40 (pu_sl0 I (V b))) (I 41 (pu_sl0 I (V b)))
        rw [k1'.1, k2'.1]
        exact nI_lt (SLV.2.2 e b eb b1) (by have := k2'.2; omega)))
      rw [show a + (b - a) = b by omega] at SKP
      have fp := py_fr_p hw (HV b b1).1 (HV b b1).2
      obtain ⟨P, U, k', x1, x2, x3, x4, x5, x6, x7, x8⟩ := r_comesToAll h (y := y) fp.1 fp.2 N hN GD (fun t ht z => nw ⟨t, ht, z⟩)
      have lo2 : ∀ t, t < c → (fun t => P.1 72 (59788 + t)) t = (fun t => N.1 72 (59788 + t)) t := fun t ht => x4 t ht
      have VW1 : py_VW I y V (fun t => P.1 72 (59788 + t)) c0 (b + 1) (c + 1 + k') := ⟨c, py_VW_c b c lo2 SKP, Or.inr ⟨fun t ht => by show P.1 72 (59788 + t) ≠ _; rw [x4 t ht]; exact fun z => nw ⟨t, ht, z⟩, x5, U, k', x7, rfl, x6⟩⟩
      obtain ⟨N1, c1, v6, v7, v8, v9, v10, y1, y2, y3, y4, y5, y6⟩ := r_ww_l h hy hst ho SLV gd0 m (b + 1) P (c + 1 + k') (some (.int p.1)) (some (.int p.2)) (some (.int (nI (cD I)))) u9 u10 (by omega) (by omega) x1 (fun t ht => by rw [x4 t (by omega)]; exact lo t ht) VW1
      refine ⟨N1, c1, v6, v7, v8, v9, v10, y1, by rw [y2, x2], fun x j z => by rw [y3 x j z, x3 x j z], y4, y5, ?_⟩
      rw [← y6]
      obtain ⟨q1, q2⟩ := p
      have q1e : q1 = nI (pu_sl0 I (V b) / 2) := congrArg Prod.fst j3
      have nn : ¬ q1 = -1 := by
        rw [q1e]
        exact fun z => by rw [nl_n1 _ (by omega)] at z; exact z
      rw [← q1e] at x8
      simp [bX12_walk_193, bX12_walk_203, bX12_walk_204, bX12_walk_218, a_ald, a_cv, a_iceq, a_ifeq, a_ild, a_ist, a_push, sh_71, pu_rv, pu_as, Value.category, pu_bk, pu_kl, List.replicate, pu_wi_1, pu_wi_2, nl_add, nl_ladd, nl_aa, nl_mul, nl_rmul, nl_mm, pu_qe0, pu_qe1, nn, x8]
      all_goals try simp (maxSteps := 400000) (disch := omega) [nl_tle, nl_fle, nl_tlt, nl_flt, nl_teq, nl_feq, nl_sub, nl_ss, nl_lt, nl_llt, nl_ltt, nl_le, nl_lle, nl_lee, nl_eq, nl_leq, nl_ee, nl_div, nl_rem, nl_cl, nl_n1, nl_n2, nl_n3, nl_n4, nl_add, nl_ladd, nl_aa, nl_mul, nl_rmul, nl_mm, pu_wi_1, pu_wi_2, bX12_walk_193, bX12_walk_203, bX12_walk_204, bX12_walk_218, a_ald, a_cv, a_iceq, a_ifeq, a_ild, a_ist, a_push, sh_71, pu_rv, pu_as, Value.category, pu_bk, pu_kl, pu_qe0, pu_qe1, nn, x8]
      all_goals try simp [bX12_walk_193, bX12_walk_203, bX12_walk_204, bX12_walk_218, a_ald, a_cv, a_iceq, a_ifeq, a_ild, a_ist, a_push, sh_71, pu_rv, pu_as, Value.category, pu_bk, pu_kl, List.replicate, pu_wi_1, pu_wi_2, nl_add, nl_ladd, nl_aa, nl_mul, nl_rmul, nl_mm, pu_qe0, pu_qe1, nn, x8]
      all_goals try simp (maxSteps := 400000) (disch := omega) [nl_tle, nl_fle, nl_tlt, nl_flt, nl_teq, nl_feq, nl_sub, nl_ss, nl_lt, nl_llt, nl_ltt, nl_le, nl_lle, nl_lee, nl_eq, nl_leq, nl_ee, nl_div, nl_rem, nl_cl, nl_n1, nl_n2, nl_n3, nl_n4, nl_add, nl_ladd, nl_aa, nl_mul, nl_rmul, nl_mm, pu_wi_1, pu_wi_2, bX12_walk_193, bX12_walk_203, bX12_walk_204, bX12_walk_218, a_ald, a_cv, a_iceq, a_ifeq, a_ild, a_ist, a_push, sh_71, pu_rv, pu_as, Value.category, pu_bk, pu_kl, pu_qe0, pu_qe1, nn, x8]
      all_goals try simp [bX12_walk_193, bX12_walk_203, bX12_walk_204, bX12_walk_218, a_ald, a_cv, a_iceq, a_ifeq, a_ild, a_ist, a_push, sh_71, pu_rv, pu_as, Value.category, pu_bk, pu_kl, List.replicate, pu_wi_1, pu_wi_2, nl_add, nl_ladd, nl_aa, nl_mul, nl_rmul, nl_mm, pu_qe0, pu_qe1, nn, x8]
      all_goals try simp (maxSteps := 400000) (disch := omega) [nl_tle, nl_fle, nl_tlt, nl_flt, nl_teq, nl_feq, nl_sub, nl_ss, nl_lt, nl_llt, nl_ltt, nl_le, nl_lle, nl_lee, nl_eq, nl_leq, nl_ee, nl_div, nl_rem, nl_cl, nl_n1, nl_n2, nl_n3, nl_n4, nl_add, nl_ladd, nl_aa, nl_mul, nl_rmul, nl_mm, pu_wi_1, pu_wi_2, bX12_walk_193, bX12_walk_203, bX12_walk_204, bX12_walk_218, a_ald, a_cv, a_iceq, a_ifeq, a_ild, a_ist, a_push, sh_71, pu_rv, pu_as, Value.category, pu_bk, pu_kl, pu_qe0, pu_qe1, nn, x8]
      all_goals try simp [bX12_walk_193, bX12_walk_203, bX12_walk_204, bX12_walk_218, a_ald, a_cv, a_iceq, a_ifeq, a_ild, a_ist, a_push, sh_71, pu_rv, pu_as, Value.category, pu_bk, pu_kl, List.replicate, pu_wi_1, pu_wi_2, nl_add, nl_ladd, nl_aa, nl_mul, nl_rmul, nl_mm, pu_qe0, pu_qe1, nn, x8]
theorem r_wa_l (h : pu_St I L s0) (hy : ¬ y < 0 ∧ ¬ 109574 < y) (HV : ∀ st o, st < cK I → o < 3 → ∃ V n, py_SL (py_wq I o) (fun k => k < cU I ∧ I 39 (pu_sl0 I k) = nI st ∧ pu_sh1 I y k) V n) : ∀ (m i : Nat) (N : pu_M) (c : Nat) (t3 t4 t5 t6 t7 t8 t9 t10 : Option Value), i + m = cS I → py_rw s0 N c → py_WS I y (fun t => N.1 72 (59788 + t)) i c → ∃ N1 c1, py_rw s0 N1 c1 ∧ N1.2 = N.2 ∧ (∀ x j, x ≠ 72 → N1.1 x j = N.1 x j) ∧ py_WS I y (fun t => N1.1 72 (59788 + t)) (cS I) c1 ∧ pu_r 525 [some (.ref 71), some (.int y), some (.int (nI i)), t3, t4, t5, t6, t7, t8, t9, t10] [] N = some (some (.int (nI c1)), N1)
  | 0, i, N, c, t3, t4, t5, t6, t7, t8, t9, t10, hi, hN, ws => by
    have hw := h.1
    have bS := wx_bS hw
    have hx := hN.1
    have h12 := hN.2.2
    have h9 : N.1 72 9 = nI (cS I) := by rw [hN.2.1 9 (by omega) (by omega) (by omega)]; exact rl_h9 h.2
    have e : i = cS I := by omega
    have hc : nI (cS I) ≤ nI (cS I) := nI_le (by omega) (by omega)
    refine ⟨N, c, hN, rfl, fun _ _ _ => rfl, by rw [← e]; exact ws, ?_⟩
    rw [e]
    rw [qX12_walk_28]
    simp [bX12_walk_28, bX12_walk_227, bX12_walk_65, a_ai, a_ald, a_cv, a_gr, a_iadd, a_icge, a_ild, a_imul, a_iret, a_ist, a_push, fx_71_0 hx, sh_71, sh_72, pu_rv, pu_as, Value.category, pu_bk, pu_kl, List.replicate, pu_wi_1, pu_wi_2, nl_add, nl_ladd, nl_aa, nl_mul, nl_rmul, nl_mm, pu_qe0, pu_qe1, h9, hc, h12]
    all_goals try simp (maxSteps := 400000) (disch := omega) [nl_tle, nl_fle, nl_tlt, nl_flt, nl_teq, nl_feq, nl_sub, nl_ss, nl_lt, nl_llt, nl_ltt, nl_le, nl_lle, nl_lee, nl_eq, nl_leq, nl_ee, nl_div, nl_rem, nl_cl, nl_n1, nl_n2, nl_n3, nl_n4, nl_add, nl_ladd, nl_aa, nl_mul, nl_rmul, nl_mm, pu_wi_1, pu_wi_2, bX12_walk_28, bX12_walk_227, bX12_walk_65, a_ai, a_ald, a_cv, a_gr, a_iadd, a_icge, a_ild, a_imul, a_iret, a_ist, a_push, fx_71_0 hx, sh_71, sh_72, pu_rv, pu_as, Value.category, pu_bk, pu_kl, pu_qe0, pu_qe1, h9, hc, h12]
    all_goals try simp [bX12_walk_28, bX12_walk_227, bX12_walk_65, a_ai, a_ald, a_cv, a_gr, a_iadd, a_icge, a_ild, a_imul, a_iret, a_ist, a_push, fx_71_0 hx, sh_71, sh_72, pu_rv, pu_as, Value.category, pu_bk, pu_kl, List.replicate, pu_wi_1, pu_wi_2, nl_add, nl_ladd, nl_aa, nl_mul, nl_rmul, nl_mm, pu_qe0, pu_qe1, h9, hc, h12]
    all_goals try simp (maxSteps := 400000) (disch := omega) [nl_tle, nl_fle, nl_tlt, nl_flt, nl_teq, nl_feq, nl_sub, nl_ss, nl_lt, nl_llt, nl_ltt, nl_le, nl_lle, nl_lee, nl_eq, nl_leq, nl_ee, nl_div, nl_rem, nl_cl, nl_n1, nl_n2, nl_n3, nl_n4, nl_add, nl_ladd, nl_aa, nl_mul, nl_rmul, nl_mm, pu_wi_1, pu_wi_2, bX12_walk_28, bX12_walk_227, bX12_walk_65, a_ai, a_ald, a_cv, a_gr, a_iadd, a_icge, a_ild, a_imul, a_iret, a_ist, a_push, fx_71_0 hx, sh_71, sh_72, pu_rv, pu_as, Value.category, pu_bk, pu_kl, pu_qe0, pu_qe1, h9, hc, h12]
    all_goals try simp [bX12_walk_28, bX12_walk_227, bX12_walk_65, a_ai, a_ald, a_cv, a_gr, a_iadd, a_icge, a_ild, a_imul, a_iret, a_ist, a_push, fx_71_0 hx, sh_71, sh_72, pu_rv, pu_as, Value.category, pu_bk, pu_kl, List.replicate, pu_wi_1, pu_wi_2, nl_add, nl_ladd, nl_aa, nl_mul, nl_rmul, nl_mm, pu_qe0, pu_qe1, h9, hc, h12]
    all_goals try simp (maxSteps := 400000) (disch := omega) [nl_tle, nl_fle, nl_tlt, nl_flt, nl_teq, nl_feq, nl_sub, nl_ss, nl_lt, nl_llt, nl_ltt, nl_le, nl_lle, nl_lee, nl_eq, nl_leq, nl_ee, nl_div, nl_rem, nl_cl, nl_n1, nl_n2, nl_n3, nl_n4, nl_add, nl_ladd, nl_aa, nl_mul, nl_rmul, nl_mm, pu_wi_1, pu_wi_2, bX12_walk_28, bX12_walk_227, bX12_walk_65, a_ai, a_ald, a_cv, a_gr, a_iadd, a_icge, a_ild, a_imul, a_iret, a_ist, a_push, fx_71_0 hx, sh_71, sh_72, pu_rv, pu_as, Value.category, pu_bk, pu_kl, pu_qe0, pu_qe1, h9, hc, h12]
    all_goals try simp [bX12_walk_28, bX12_walk_227, bX12_walk_65, a_ai, a_ald, a_cv, a_gr, a_iadd, a_icge, a_ild, a_imul, a_iret, a_ist, a_push, fx_71_0 hx, sh_71, sh_72, pu_rv, pu_as, Value.category, pu_bk, pu_kl, List.replicate, pu_wi_1, pu_wi_2, nl_add, nl_ladd, nl_aa, nl_mul, nl_rmul, nl_mm, pu_qe0, pu_qe1, h9, hc, h12]
  | m + 1, i, N, c, t3, t4, t5, t6, t7, t8, t9, t10, hi, hN, ws => by
    have hw := h.1
    have bS := wx_bS hw
    have bK := wx_bK hw
    have hx := hN.1
    have i1 : i < cS I := by omega
    have i2 : i < 24 := by omega
    have h9 : N.1 72 9 = nI (cS I) := by rw [hN.2.1 9 (by omega) (by omega) (by omega)]; exact rl_h9 h.2
    have hc : ¬ nI (cS I) ≤ nI i := nI_ge (by omega) (by omega)
    have s0' : N.1 72 (59480 + 2 * i) = I 52 i := by rw [hN.2.1 _ (by omega) (by omega) (by omega)]; exact rl_eS0 h.2 i i1
    have s1' : N.1 72 (59480 + 2 * i + 1) = I 53 i := by rw [hN.2.1 _ (by omega) (by omega) (by omega)]; exact rl_eS1 h.2 i i1
    have GD := py_WS_gd hw i c ws
    have SJ := py_SJw h GD hN
    have e1 : pu_r 251 [some (.ref 71), some (.int (I 52 i))] [] N = some (some (.int (pu_q (py_isS I (I 52 i)))), N) := r_isStreet hx SJ.2 (I 52 i)
    have es := wx_es hw i i1
    obtain ⟨o1, o2⟩ := pu_on (x := I 53 i) (n := 3) ⟨es.1, by omega⟩
    have ST : ∀ R, pu_r 526 [some (.ref 71), some (.int y), some (.int (nI i)), some (.int (I 52 i)), some (.int (I 53 i)), some (.int (pu_q (py_isS I (I 52 i)))), t6, t7, t8, t9, t10] [] N = R → pu_r 525 [some (.ref 71), some (.int y), some (.int (nI i)), t3, t4, t5, t6, t7, t8, t9, t10] [] N = R := fun R hR => by
      generalize pu_q (py_isS I (I 52 i)) = bq at *
      generalize I 52 i = v52 at *
      generalize I 53 i = v53 at *
      rw [qX12_walk_28]
      simp [bX12_walk_28, bX12_walk_227, bX12_walk_65, a_ai, a_ald, a_cv, a_gr, a_iadd, a_icge, a_ild, a_imul, a_iret, a_ist, a_push, fx_71_0 hx, sh_71, sh_72, pu_rv, pu_as, Value.category, pu_bk, pu_kl, List.replicate, pu_wi_1, pu_wi_2, nl_add, nl_ladd, nl_aa, nl_mul, nl_rmul, nl_mm, pu_qe0, pu_qe1, h9, hc, i2, s0', s1', e1, hR]
      all_goals try simp (maxSteps := 400000) (disch := omega) [nl_tle, nl_fle, nl_tlt, nl_flt, nl_teq, nl_feq, nl_sub, nl_ss, nl_lt, nl_llt, nl_ltt, nl_le, nl_lle, nl_lee, nl_eq, nl_leq, nl_ee, nl_div, nl_rem, nl_cl, nl_n1, nl_n2, nl_n3, nl_n4, nl_add, nl_ladd, nl_aa, nl_mul, nl_rmul, nl_mm, pu_wi_1, pu_wi_2, bX12_walk_28, bX12_walk_227, bX12_walk_65, a_ai, a_ald, a_cv, a_gr, a_iadd, a_icge, a_ild, a_imul, a_iret, a_ist, a_push, fx_71_0 hx, sh_71, sh_72, pu_rv, pu_as, Value.category, pu_bk, pu_kl, pu_qe0, pu_qe1, h9, hc, i2, s0', s1', e1, hR]
      all_goals try simp [bX12_walk_28, bX12_walk_227, bX12_walk_65, a_ai, a_ald, a_cv, a_gr, a_iadd, a_icge, a_ild, a_imul, a_iret, a_ist, a_push, fx_71_0 hx, sh_71, sh_72, pu_rv, pu_as, Value.category, pu_bk, pu_kl, List.replicate, pu_wi_1, pu_wi_2, nl_add, nl_ladd, nl_aa, nl_mul, nl_rmul, nl_mm, pu_qe0, pu_qe1, h9, hc, i2, s0', s1', e1, hR]
      all_goals try simp (maxSteps := 400000) (disch := omega) [nl_tle, nl_fle, nl_tlt, nl_flt, nl_teq, nl_feq, nl_sub, nl_ss, nl_lt, nl_llt, nl_ltt, nl_le, nl_lle, nl_lee, nl_eq, nl_leq, nl_ee, nl_div, nl_rem, nl_cl, nl_n1, nl_n2, nl_n3, nl_n4, nl_add, nl_ladd, nl_aa, nl_mul, nl_rmul, nl_mm, pu_wi_1, pu_wi_2, bX12_walk_28, bX12_walk_227, bX12_walk_65, a_ai, a_ald, a_cv, a_gr, a_iadd, a_icge, a_ild, a_imul, a_iret, a_ist, a_push, fx_71_0 hx, sh_71, sh_72, pu_rv, pu_as, Value.category, pu_bk, pu_kl, pu_qe0, pu_qe1, h9, hc, i2, s0', s1', e1, hR]
      all_goals try simp [bX12_walk_28, bX12_walk_227, bX12_walk_65, a_ai, a_ald, a_cv, a_gr, a_iadd, a_icge, a_ild, a_imul, a_iret, a_ist, a_push, fx_71_0 hx, sh_71, sh_72, pu_rv, pu_as, Value.category, pu_bk, pu_kl, List.replicate, pu_wi_1, pu_wi_2, nl_add, nl_ladd, nl_aa, nl_mul, nl_rmul, nl_mm, pu_qe0, pu_qe1, h9, hc, i2, s0', s1', e1, hR]
      all_goals try simp (maxSteps := 400000) (disch := omega) [nl_tle, nl_fle, nl_tlt, nl_flt, nl_teq, nl_feq, nl_sub, nl_ss, nl_lt, nl_llt, nl_ltt, nl_le, nl_lle, nl_lee, nl_eq, nl_leq, nl_ee, nl_div, nl_rem, nl_cl, nl_n1, nl_n2, nl_n3, nl_n4, nl_add, nl_ladd, nl_aa, nl_mul, nl_rmul, nl_mm, pu_wi_1, pu_wi_2, bX12_walk_28, bX12_walk_227, bX12_walk_65, a_ai, a_ald, a_cv, a_gr, a_iadd, a_icge, a_ild, a_imul, a_iret, a_ist, a_push, fx_71_0 hx, sh_71, sh_72, pu_rv, pu_as, Value.category, pu_bk, pu_kl, pu_qe0, pu_qe1, h9, hc, i2, s0', s1', e1, hR]
      all_goals try simp [bX12_walk_28, bX12_walk_227, bX12_walk_65, a_ai, a_ald, a_cv, a_gr, a_iadd, a_icge, a_ild, a_imul, a_iret, a_ist, a_push, fx_71_0 hx, sh_71, sh_72, pu_rv, pu_as, Value.category, pu_bk, pu_kl, List.replicate, pu_wi_1, pu_wi_2, nl_add, nl_ladd, nl_aa, nl_mul, nl_rmul, nl_mm, pu_qe0, pu_qe1, h9, hc, i2, s0', s1', e1, hR]
    by_cases c1 : py_isS I (I 52 i)
    rotate_left
    · obtain ⟨N1, c1', x1, x2, x3, x4, x5⟩ := r_wa_l h hy HV m (i + 1) N c (some (.int (I 52 i))) (some (.int (I 53 i))) (some (.int 0)) t6 t7 t8 t9 t10 (by omega) hN ⟨c, ws, Or.inl ⟨c1, rfl⟩⟩
      refine ⟨N1, c1', x1, x2, x3, x4, ST _ ?_⟩
      rw [pu_q0 c1, ← x5]
      generalize I 52 i = v52 at *
      generalize I 53 i = v53 at *
      generalize hR : pu_r 525 [some (.ref 71), some (.int y), some (.int (nI (i + 1))), some (.int v52), some (.int v53), some (.int 0), t6, t7, t8, t9, t10] [] N = R
      rw [qX12_walk_75]
      simp [bX12_walk_75, bX12_walk_221, a_ifeq, a_ild, a_inc, a_ist, a_push, pu_rv, pu_as, Value.category, pu_bk, pu_kl, List.replicate, pu_wi_1, pu_wi_2, nl_add, nl_ladd, nl_aa, nl_mul, nl_rmul, nl_mm, pu_qe0, pu_qe1, hR]
      all_goals try simp (maxSteps := 400000) (disch := omega) [nl_tle, nl_fle, nl_tlt, nl_flt, nl_teq, nl_feq, nl_sub, nl_ss, nl_lt, nl_llt, nl_ltt, nl_le, nl_lle, nl_lee, nl_eq, nl_leq, nl_ee, nl_div, nl_rem, nl_cl, nl_n1, nl_n2, nl_n3, nl_n4, nl_add, nl_ladd, nl_aa, nl_mul, nl_rmul, nl_mm, pu_wi_1, pu_wi_2, bX12_walk_75, bX12_walk_221, a_ifeq, a_ild, a_inc, a_ist, a_push, pu_rv, pu_as, Value.category, pu_bk, pu_kl, pu_qe0, pu_qe1, hR]
      all_goals try simp [bX12_walk_75, bX12_walk_221, a_ifeq, a_ild, a_inc, a_ist, a_push, pu_rv, pu_as, Value.category, pu_bk, pu_kl, List.replicate, pu_wi_1, pu_wi_2, nl_add, nl_ladd, nl_aa, nl_mul, nl_rmul, nl_mm, pu_qe0, pu_qe1, hR]
      all_goals try simp (maxSteps := 400000) (disch := omega) [nl_tle, nl_fle, nl_tlt, nl_flt, nl_teq, nl_feq, nl_sub, nl_ss, nl_lt, nl_llt, nl_ltt, nl_le, nl_lle, nl_lee, nl_eq, nl_leq, nl_ee, nl_div, nl_rem, nl_cl, nl_n1, nl_n2, nl_n3, nl_n4, nl_add, nl_ladd, nl_aa, nl_mul, nl_rmul, nl_mm, pu_wi_1, pu_wi_2, bX12_walk_75, bX12_walk_221, a_ifeq, a_ild, a_inc, a_ist, a_push, pu_rv, pu_as, Value.category, pu_bk, pu_kl, pu_qe0, pu_qe1, hR]
      all_goals try simp [bX12_walk_75, bX12_walk_221, a_ifeq, a_ild, a_inc, a_ist, a_push, pu_rv, pu_as, Value.category, pu_bk, pu_kl, List.replicate, pu_wi_1, pu_wi_2, nl_add, nl_ladd, nl_aa, nl_mul, nl_rmul, nl_mm, pu_qe0, pu_qe1, hR]
      all_goals try simp (maxSteps := 400000) (disch := omega) [nl_tle, nl_fle, nl_tlt, nl_flt, nl_teq, nl_feq, nl_sub, nl_ss, nl_lt, nl_llt, nl_ltt, nl_le, nl_lle, nl_lee, nl_eq, nl_leq, nl_ee, nl_div, nl_rem, nl_cl, nl_n1, nl_n2, nl_n3, nl_n4, nl_add, nl_ladd, nl_aa, nl_mul, nl_rmul, nl_mm, pu_wi_1, pu_wi_2, bX12_walk_75, bX12_walk_221, a_ifeq, a_ild, a_inc, a_ist, a_push, pu_rv, pu_as, Value.category, pu_bk, pu_kl, pu_qe0, pu_qe1, hR]
      all_goals try simp [bX12_walk_75, bX12_walk_221, a_ifeq, a_ild, a_inc, a_ist, a_push, pu_rv, pu_as, Value.category, pu_bk, pu_kl, List.replicate, pu_wi_1, pu_wi_2, nl_add, nl_ladd, nl_aa, nl_mul, nl_rmul, nl_mm, pu_qe0, pu_qe1, hR]
    obtain ⟨st, st1, st2⟩ : ∃ st, st < cK I ∧ I 52 i = nI st := by
      have q1 := Int32.le_iff_toInt_le.mp (Int32.not_lt.mp c1.1)
      have q2 := Int32.lt_iff_toInt_lt.mp c1.2
      rw [nl_n0 (a := cK I) (by omega)] at q2
      have z0 : (0 : Int32).toInt = 0 := by decide
      have := pu_on (x := I 52 i) (n := cK I) ⟨by omega, q2⟩
      exact ⟨_, this.2, this.1⟩
    obtain ⟨V, n, SLV⟩ := HV st (I 53 i).toNatClampNeg st1 o2
    obtain ⟨P, c2, u6, u7, u8, u9, u10, y1, y2, y3, y4, y5, y6⟩ := r_ww_l h (i := i) hy st1 o2 SLV (E0 := fun t => N.1 72 (59788 + t)) (c0 := c) GD (n + 1) 0 N c t6 t7 t8 t9 t10 (by omega) (by omega) hN (fun _ _ => rfl) rfl
    obtain ⟨N1, c3, x1, x2, x3, x4, x5⟩ := r_wa_l h hy HV m (i + 1) P c2 (some (.int (nI st))) (some (.int (nI (I 53 i).toNatClampNeg))) (some (.int 0)) u6 u7 u8 u9 u10 (by omega) y1 ⟨c, py_WS_c i c (fun t ht => y4 t ht) ws, Or.inr ⟨st, V, n, st1, st2, SLV, y5⟩⟩
    refine ⟨N1, c3, x1, by rw [x2, y2], fun x j z => by rw [x3 x j z, y3 x j z], x4, ST _ ?_⟩
    rw [pu_q1 c1, ← x5, ← y6, st2, ← o1]
end
set_option maxRecDepth 8000 in
theorem op_walk (y : Int32) : pu_op pu_Inv 209 349 [.int y] := by
  intro M h
  have hx := h.1
  have hI := pu_ag5 M
  have hS : pu_St (pu_si M 5) (pu_sj M 5) (M.1 72) := h.2.2.2.1
  have hw := hS.1
  have bK := wx_bK hw
  have bW := wx_bW hw
  have e1 := c_isDay y M
  by_cases hy : ¬ y < 0 ∧ ¬ 109574 < y
  rotate_left
  · have e2 := r_isDay y M
    rw [pu_q0 hy] at e1 e2
    refine ⟨-2, M, M, ?_, ?_, h⟩
    · rw [qX11_walk]
      simp [a_ent, bX11_walk_0, a_cs, a_ifne, a_ild, a_iret, a_push, pu_rv, pu_as, Value.category, pu_bk, pu_kl, List.replicate, pu_wi_1, pu_wi_2, nl_add, nl_ladd, nl_aa, nl_mul, nl_rmul, nl_mm, pu_qe0, pu_qe1, e1]
      all_goals try simp (maxSteps := 400000) (disch := omega) [nl_tle, nl_fle, nl_tlt, nl_flt, nl_teq, nl_feq, nl_sub, nl_ss, nl_lt, nl_llt, nl_ltt, nl_le, nl_lle, nl_lee, nl_eq, nl_leq, nl_ee, nl_div, nl_rem, nl_cl, nl_n1, nl_n2, nl_n3, nl_n4, nl_add, nl_ladd, nl_aa, nl_mul, nl_rmul, nl_mm, pu_wi_1, pu_wi_2, bX11_walk_0, a_cs, a_ifne, a_ild, a_iret, a_push, pu_rv, pu_as, Value.category, pu_bk, pu_kl, pu_qe0, pu_qe1, e1]
      all_goals try simp [bX11_walk_0, a_cs, a_ifne, a_ild, a_iret, a_push, pu_rv, pu_as, Value.category, pu_bk, pu_kl, List.replicate, pu_wi_1, pu_wi_2, nl_add, nl_ladd, nl_aa, nl_mul, nl_rmul, nl_mm, pu_qe0, pu_qe1, e1]
      all_goals try simp (maxSteps := 400000) (disch := omega) [nl_tle, nl_fle, nl_tlt, nl_flt, nl_teq, nl_feq, nl_sub, nl_ss, nl_lt, nl_llt, nl_ltt, nl_le, nl_lle, nl_lee, nl_eq, nl_leq, nl_ee, nl_div, nl_rem, nl_cl, nl_n1, nl_n2, nl_n3, nl_n4, nl_add, nl_ladd, nl_aa, nl_mul, nl_rmul, nl_mm, pu_wi_1, pu_wi_2, bX11_walk_0, a_cs, a_ifne, a_ild, a_iret, a_push, pu_rv, pu_as, Value.category, pu_bk, pu_kl, pu_qe0, pu_qe1, e1]
      all_goals try simp [bX11_walk_0, a_cs, a_ifne, a_ild, a_iret, a_push, pu_rv, pu_as, Value.category, pu_bk, pu_kl, List.replicate, pu_wi_1, pu_wi_2, nl_add, nl_ladd, nl_aa, nl_mul, nl_rmul, nl_mm, pu_qe0, pu_qe1, e1]
      all_goals try simp (maxSteps := 400000) (disch := omega) [nl_tle, nl_fle, nl_tlt, nl_flt, nl_teq, nl_feq, nl_sub, nl_ss, nl_lt, nl_llt, nl_ltt, nl_le, nl_lle, nl_lee, nl_eq, nl_leq, nl_ee, nl_div, nl_rem, nl_cl, nl_n1, nl_n2, nl_n3, nl_n4, nl_add, nl_ladd, nl_aa, nl_mul, nl_rmul, nl_mm, pu_wi_1, pu_wi_2, bX11_walk_0, a_cs, a_ifne, a_ild, a_iret, a_push, pu_rv, pu_as, Value.category, pu_bk, pu_kl, pu_qe0, pu_qe1, e1]
      all_goals try simp [bX11_walk_0, a_cs, a_ifne, a_ild, a_iret, a_push, pu_rv, pu_as, Value.category, pu_bk, pu_kl, List.replicate, pu_wi_1, pu_wi_2, nl_add, nl_ladd, nl_aa, nl_mul, nl_rmul, nl_mm, pu_qe0, pu_qe1, e1]
    · rw [qX12_walk]
      simp [a_ent, bX12_walk_0, a_cs, a_ifne, a_ild, a_iret, a_push, pu_rv, pu_as, Value.category, pu_bk, pu_kl, List.replicate, pu_wi_1, pu_wi_2, nl_add, nl_ladd, nl_aa, nl_mul, nl_rmul, nl_mm, pu_qe0, pu_qe1, e2]
      all_goals try simp (maxSteps := 400000) (disch := omega) [nl_tle, nl_fle, nl_tlt, nl_flt, nl_teq, nl_feq, nl_sub, nl_ss, nl_lt, nl_llt, nl_ltt, nl_le, nl_lle, nl_lee, nl_eq, nl_leq, nl_ee, nl_div, nl_rem, nl_cl, nl_n1, nl_n2, nl_n3, nl_n4, nl_add, nl_ladd, nl_aa, nl_mul, nl_rmul, nl_mm, pu_wi_1, pu_wi_2, bX12_walk_0, a_cs, a_ifne, a_ild, a_iret, a_push, pu_rv, pu_as, Value.category, pu_bk, pu_kl, pu_qe0, pu_qe1, e2]
      all_goals try simp [bX12_walk_0, a_cs, a_ifne, a_ild, a_iret, a_push, pu_rv, pu_as, Value.category, pu_bk, pu_kl, List.replicate, pu_wi_1, pu_wi_2, nl_add, nl_ladd, nl_aa, nl_mul, nl_rmul, nl_mm, pu_qe0, pu_qe1, e2]
      all_goals try simp (maxSteps := 400000) (disch := omega) [nl_tle, nl_fle, nl_tlt, nl_flt, nl_teq, nl_feq, nl_sub, nl_ss, nl_lt, nl_llt, nl_ltt, nl_le, nl_lle, nl_lee, nl_eq, nl_leq, nl_ee, nl_div, nl_rem, nl_cl, nl_n1, nl_n2, nl_n3, nl_n4, nl_add, nl_ladd, nl_aa, nl_mul, nl_rmul, nl_mm, pu_wi_1, pu_wi_2, bX12_walk_0, a_cs, a_ifne, a_ild, a_iret, a_push, pu_rv, pu_as, Value.category, pu_bk, pu_kl, pu_qe0, pu_qe1, e2]
      all_goals try simp [bX12_walk_0, a_cs, a_ifne, a_ild, a_iret, a_push, pu_rv, pu_as, Value.category, pu_bk, pu_kl, List.replicate, pu_wi_1, pu_wi_2, nl_add, nl_ladd, nl_aa, nl_mul, nl_rmul, nl_mm, pu_qe0, pu_qe1, e2]
      all_goals try simp (maxSteps := 400000) (disch := omega) [nl_tle, nl_fle, nl_tlt, nl_flt, nl_teq, nl_feq, nl_sub, nl_ss, nl_lt, nl_llt, nl_ltt, nl_le, nl_lle, nl_lee, nl_eq, nl_leq, nl_ee, nl_div, nl_rem, nl_cl, nl_n1, nl_n2, nl_n3, nl_n4, nl_add, nl_ladd, nl_aa, nl_mul, nl_rmul, nl_mm, pu_wi_1, pu_wi_2, bX12_walk_0, a_cs, a_ifne, a_ild, a_iret, a_push, pu_rv, pu_as, Value.category, pu_bk, pu_kl, pu_qe0, pu_qe1, e2]
      all_goals try simp [bX12_walk_0, a_cs, a_ifne, a_ild, a_iret, a_push, pu_rv, pu_as, Value.category, pu_bk, pu_kl, List.replicate, pu_wi_1, pu_wi_2, nl_add, nl_ladd, nl_aa, nl_mul, nl_rmul, nl_mm, pu_qe0, pu_qe1, e2]
  rw [pu_q1 hy] at e1
  have HV : ∀ st o, st < cK (pu_si M 5) → o < 3 → ∃ V n, py_SL (py_wq (pu_si M 5) o) (fun k => k < cU (pu_si M 5) ∧ pu_si M 5 39 (pu_sl0 (pu_si M 5) k) = nI st ∧ pu_sh1 (pu_si M 5) y k) V n := fun st o s1 o1 => by
    obtain ⟨V, n, P, _, _, _, _, _, p6, _⟩ := c_fill hx hI hw o st y (by omega) s1 (pu_inj hw st (by omega) y)
    exact ⟨V, n, py_view_SL hw (by omega) hy.1 o1 p6⟩
  -- the class
  obtain ⟨A, hA⟩ : ∃ A, pu_wi M 45 5 0 = A := ⟨_, rfl⟩
  have Ao : ∀ x j, ¬ (x = 45 ∧ j = 5) → A.1 x j = M.1 x j := fun x j z => by rw [← hA, py_wi_o z]
  have A5 : A.1 45 5 = nI 0 := by rw [← hA]; simp [pu_wi_1]; rfl
  have wgA : py_wg M A := ⟨by rw [← hA]; rfl, fun x j _ z _ => Ao x j z⟩
  obtain ⟨Q, c, q1, q2, q3, q4⟩ := c_wk_l hw hI hx hy (cS (pu_si M 5)) 0 A 0 (by omega) wgA A5 rfl
  rw [nI_0] at q4
  have f1 := fx_0_2 hx
  have f2 := fx_5_6 hx
  -- the reference
  have hxQ : pu_fx Q := pz_fx_of hx q1.1
  have q72 : ∀ j, Q.1 72 j = M.1 72 j := fun j => q1.2 72 j (by omega) (by omega) (by omega)
  have e2 := r_isDay y Q
  rw [pu_q1 hy] at e2
  obtain ⟨B, hB⟩ : ∃ B, pu_wi (pu_wi Q 72 12 0) 72 17 1 = B := ⟨_, rfl⟩
  have Bo : ∀ x j, ¬ (x = 72 ∧ (j = 12 ∨ j = 17)) → B.1 x j = Q.1 x j := fun x j z => by rw [← hB, py_wi_o (by omega), py_wi_o (by omega)]
  have B12 : B.1 72 12 = nI 0 := by rw [← hB, py_wi_o (by omega)]; simp [pu_wi_1]; rfl
  have B2 : B.2 = Q.2 := by rw [← hB]; rfl
  have rB : py_rw (M.1 72) B 0 := ⟨pz_fx_of hxQ B2, fun j z1 z2 _ => by rw [Bo 72 j (by omega)]; exact q72 j, B12⟩
  obtain ⟨F, d, x1, x2, x3, x4, x5⟩ := r_wa_l hS hy HV (cS (pu_si M 5)) 0 B 0 none none none none none none none none (by omega) rB rfl
  rw [nI_0] at x5
  obtain ⟨u1, u2⟩ := py_WS_un hw _ c d q3 x4
  rw [← u1] at x1 x5
  have GDQ := py_WS_gd hw _ c q3
  have hc := py_GD_le hw GDQ
  refine ⟨nI c, Q, F, ?_, ?_, ?_⟩
  · generalize nI c = cc at *
    rw [qX11_walk]
    simp [a_ent, bX11_walk_0, bX11_walk_10, a_ald, a_cs, a_gr, a_ifne, a_ild, a_iret, a_ist, a_pi, a_push, sh_0, sh_45, sh_5, pu_rv, pu_as, Value.category, pu_bk, pu_kl, List.replicate, pu_wi_1, pu_wi_2, nl_add, nl_ladd, nl_aa, nl_mul, nl_rmul, nl_mm, pu_qe0, pu_qe1, e1, f1, f2, hA, q4]
    all_goals try simp (maxSteps := 400000) (disch := omega) [nl_tle, nl_fle, nl_tlt, nl_flt, nl_teq, nl_feq, nl_sub, nl_ss, nl_lt, nl_llt, nl_ltt, nl_le, nl_lle, nl_lee, nl_eq, nl_leq, nl_ee, nl_div, nl_rem, nl_cl, nl_n1, nl_n2, nl_n3, nl_n4, nl_add, nl_ladd, nl_aa, nl_mul, nl_rmul, nl_mm, pu_wi_1, pu_wi_2, bX11_walk_0, bX11_walk_10, a_ald, a_cs, a_gr, a_ifne, a_ild, a_iret, a_ist, a_pi, a_push, sh_0, sh_45, sh_5, pu_rv, pu_as, Value.category, pu_bk, pu_kl, pu_qe0, pu_qe1, e1, f1, f2, hA, q4]
    all_goals try simp [bX11_walk_0, bX11_walk_10, a_ald, a_cs, a_gr, a_ifne, a_ild, a_iret, a_ist, a_pi, a_push, sh_0, sh_45, sh_5, pu_rv, pu_as, Value.category, pu_bk, pu_kl, List.replicate, pu_wi_1, pu_wi_2, nl_add, nl_ladd, nl_aa, nl_mul, nl_rmul, nl_mm, pu_qe0, pu_qe1, e1, f1, f2, hA, q4]
    all_goals try simp (maxSteps := 400000) (disch := omega) [nl_tle, nl_fle, nl_tlt, nl_flt, nl_teq, nl_feq, nl_sub, nl_ss, nl_lt, nl_llt, nl_ltt, nl_le, nl_lle, nl_lee, nl_eq, nl_leq, nl_ee, nl_div, nl_rem, nl_cl, nl_n1, nl_n2, nl_n3, nl_n4, nl_add, nl_ladd, nl_aa, nl_mul, nl_rmul, nl_mm, pu_wi_1, pu_wi_2, bX11_walk_0, bX11_walk_10, a_ald, a_cs, a_gr, a_ifne, a_ild, a_iret, a_ist, a_pi, a_push, sh_0, sh_45, sh_5, pu_rv, pu_as, Value.category, pu_bk, pu_kl, pu_qe0, pu_qe1, e1, f1, f2, hA, q4]
    all_goals try simp [bX11_walk_0, bX11_walk_10, a_ald, a_cs, a_gr, a_ifne, a_ild, a_iret, a_ist, a_pi, a_push, sh_0, sh_45, sh_5, pu_rv, pu_as, Value.category, pu_bk, pu_kl, List.replicate, pu_wi_1, pu_wi_2, nl_add, nl_ladd, nl_aa, nl_mul, nl_rmul, nl_mm, pu_qe0, pu_qe1, e1, f1, f2, hA, q4]
    all_goals try simp (maxSteps := 400000) (disch := omega) [nl_tle, nl_fle, nl_tlt, nl_flt, nl_teq, nl_feq, nl_sub, nl_ss, nl_lt, nl_llt, nl_ltt, nl_le, nl_lle, nl_lee, nl_eq, nl_leq, nl_ee, nl_div, nl_rem, nl_cl, nl_n1, nl_n2, nl_n3, nl_n4, nl_add, nl_ladd, nl_aa, nl_mul, nl_rmul, nl_mm, pu_wi_1, pu_wi_2, bX11_walk_0, bX11_walk_10, a_ald, a_cs, a_gr, a_ifne, a_ild, a_iret, a_ist, a_pi, a_push, sh_0, sh_45, sh_5, pu_rv, pu_as, Value.category, pu_bk, pu_kl, pu_qe0, pu_qe1, e1, f1, f2, hA, q4]
    all_goals try simp [bX11_walk_0, bX11_walk_10, a_ald, a_cs, a_gr, a_ifne, a_ild, a_iret, a_ist, a_pi, a_push, sh_0, sh_45, sh_5, pu_rv, pu_as, Value.category, pu_bk, pu_kl, List.replicate, pu_wi_1, pu_wi_2, nl_add, nl_ladd, nl_aa, nl_mul, nl_rmul, nl_mm, pu_qe0, pu_qe1, e1, f1, f2, hA, q4]
  · have g1 := fx_71_0 hxQ
    have g2 : (pu_wi Q 72 12 0).2.2.1 71 0 = some 72 := g1
    generalize hC : pu_wi Q 72 12 0 = C at *
    generalize nI c = cc at *
    rw [qX12_walk]
    simp [a_ent, bX12_walk_0, bX12_walk_10, a_ald, a_cs, a_gr, a_ifne, a_ild, a_iret, a_ist, a_push, a_wi, sh_71, sh_72, pu_rv, pu_as, Value.category, pu_bk, pu_kl, List.replicate, pu_wi_1, pu_wi_2, nl_add, nl_ladd, nl_aa, nl_mul, nl_rmul, nl_mm, pu_qe0, pu_qe1, e2, g1, hC, g2, hB, x5]
    all_goals try simp (maxSteps := 400000) (disch := omega) [nl_tle, nl_fle, nl_tlt, nl_flt, nl_teq, nl_feq, nl_sub, nl_ss, nl_lt, nl_llt, nl_ltt, nl_le, nl_lle, nl_lee, nl_eq, nl_leq, nl_ee, nl_div, nl_rem, nl_cl, nl_n1, nl_n2, nl_n3, nl_n4, nl_add, nl_ladd, nl_aa, nl_mul, nl_rmul, nl_mm, pu_wi_1, pu_wi_2, bX12_walk_0, bX12_walk_10, a_ald, a_cs, a_gr, a_ifne, a_ild, a_iret, a_ist, a_push, a_wi, sh_71, sh_72, pu_rv, pu_as, Value.category, pu_bk, pu_kl, pu_qe0, pu_qe1, e2, g1, hC, g2, hB, x5]
    all_goals try simp [bX12_walk_0, bX12_walk_10, a_ald, a_cs, a_gr, a_ifne, a_ild, a_iret, a_ist, a_push, a_wi, sh_71, sh_72, pu_rv, pu_as, Value.category, pu_bk, pu_kl, List.replicate, pu_wi_1, pu_wi_2, nl_add, nl_ladd, nl_aa, nl_mul, nl_rmul, nl_mm, pu_qe0, pu_qe1, e2, g1, hC, g2, hB, x5]
    all_goals try simp (maxSteps := 400000) (disch := omega) [nl_tle, nl_fle, nl_tlt, nl_flt, nl_teq, nl_feq, nl_sub, nl_ss, nl_lt, nl_llt, nl_ltt, nl_le, nl_lle, nl_lee, nl_eq, nl_leq, nl_ee, nl_div, nl_rem, nl_cl, nl_n1, nl_n2, nl_n3, nl_n4, nl_add, nl_ladd, nl_aa, nl_mul, nl_rmul, nl_mm, pu_wi_1, pu_wi_2, bX12_walk_0, bX12_walk_10, a_ald, a_cs, a_gr, a_ifne, a_ild, a_iret, a_ist, a_push, a_wi, sh_71, sh_72, pu_rv, pu_as, Value.category, pu_bk, pu_kl, pu_qe0, pu_qe1, e2, g1, hC, g2, hB, x5]
    all_goals try simp [bX12_walk_0, bX12_walk_10, a_ald, a_cs, a_gr, a_ifne, a_ild, a_iret, a_ist, a_push, a_wi, sh_71, sh_72, pu_rv, pu_as, Value.category, pu_bk, pu_kl, List.replicate, pu_wi_1, pu_wi_2, nl_add, nl_ladd, nl_aa, nl_mul, nl_rmul, nl_mm, pu_qe0, pu_qe1, e2, g1, hC, g2, hB, x5]
    all_goals try simp (maxSteps := 400000) (disch := omega) [nl_tle, nl_fle, nl_tlt, nl_flt, nl_teq, nl_feq, nl_sub, nl_ss, nl_lt, nl_llt, nl_ltt, nl_le, nl_lle, nl_lee, nl_eq, nl_leq, nl_ee, nl_div, nl_rem, nl_cl, nl_n1, nl_n2, nl_n3, nl_n4, nl_add, nl_ladd, nl_aa, nl_mul, nl_rmul, nl_mm, pu_wi_1, pu_wi_2, bX12_walk_0, bX12_walk_10, a_ald, a_cs, a_gr, a_ifne, a_ild, a_iret, a_ist, a_push, a_wi, sh_71, sh_72, pu_rv, pu_as, Value.category, pu_bk, pu_kl, pu_qe0, pu_qe1, e2, g1, hC, g2, hB, x5]
    all_goals try simp [bX12_walk_0, bX12_walk_10, a_ald, a_cs, a_gr, a_ifne, a_ild, a_iret, a_ist, a_push, a_wi, sh_71, sh_72, pu_rv, pu_as, Value.category, pu_bk, pu_kl, List.replicate, pu_wi_1, pu_wi_2, nl_add, nl_ladd, nl_aa, nl_mul, nl_rmul, nl_mm, pu_qe0, pu_qe1, e2, g1, hC, g2, hB, x5]
  · have FQ : ∀ x j, x ≠ 72 → F.1 x j = Q.1 x j := fun x j z => by rw [x3 x j z, Bo x j (by omega)]
    have F2 : F.2 = M.2 := by rw [x2, B2, q1.1]
    refine pu_Inv_all h (by rw [F2]) (fun a j _ => by rw [F2]) (fun a j z => by rw [FQ a j (by omega), q1.2 a j (by omega) (by omega) (by omega)]) ?_
    rw [show pu_sj F 5 = pu_sj M 5 from pu_sj_eq (fun a j h1 h2 => by rw [F2])]
    have JQ : ∀ x j, 5 ≤ x → x < 58 → pu_si F 5 x j = Q.1 x j := fun x j z1 z2 => by rw [← pu_ag5 F x j z1 z2]; exact FQ x j (by omega)
    have J54 : ∀ j, pu_si F 5 54 j = Q.1 54 j := fun j => JQ 54 j (by omega) (by omega)
    refine St_walk hS hc (fun x j z1 z2 => ?_) (by rw [JQ 45 5 (by omega) (by omega)]; exact q2) (fun k l z1 z2 => by rw [J54 k, J54 l]; exact py_GD_ne hw GDQ k l z1 z2) x1.2.1 x1.2.2 (fun k hk => by rw [J54 k]; exact (u2 k hk).symm)
    by_cases z : 5 ≤ x ∧ x < 58
    · rw [JQ x j z.1 z.2, q1.2 x j z1 z2 (by omega)]
      exact hI x j z.1 z.2
    · unfold pu_si
      rw [if_neg z, if_neg z]
