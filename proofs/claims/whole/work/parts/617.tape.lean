/-! the tape and OUT on both sides -/
def pu_cb (M : pu_M) (a b k : Nat) : pu_M := (fun c j => if c = b ∧ j < k then pu_by (M.1 a j) else M.1 c j, M.2)
theorem pu_cb_0 (M : pu_M) (a b : Nat) : pu_cb M a b 0 = M := by
  unfold pu_cb
  simp
theorem pu_cb_s (M : pu_M) (a b k : Nat) : pu_wi (pu_cb M a b k) b k (pu_by (M.1 a k)) = pu_cb M a b (k + 1) := by
  unfold pu_wi pu_cb
  congr 1
  funext c j
  by_cases h1 : c = b
  · by_cases h2 : j = k
    · simp [h1, h2]
    · by_cases h3 : j < k
      · have h4 : j < k + 1 := by omega
        simp [h1, h2, h3, h4]
      · have h4 : ¬ j < k + 1 := by omega
        simp [h1, h2, h3, h4]
  · simp [h1]
theorem pu_cb_1 (M : pu_M) (a b k c j : Nat) : (pu_cb M a b k).1 c j = if c = b ∧ j < k then pu_by (M.1 a j) else M.1 c j := rfl
theorem pu_cb_2 (M : pu_M) (a b k : Nat) : (pu_cb M a b k).2 = M.2 := rfl
theorem pu_ci_1 (M : pu_M) (a sp b dp n c j : Nat) : (pu_ci M a sp b dp n).1 c j = if c = b then (if dp ≤ j ∧ j < dp + n then M.1 a (sp + (j - dp)) else M.1 c j) else M.1 c j := rfl
theorem pu_ci_2 (M : pu_M) (a sp b dp n : Nat) : (pu_ci M a sp b dp n).2 = M.2 := rfl
theorem e_X0_copyFrom {M : pu_M} (hx : pu_fx M) {w : Nat} (hn : M.1 3 0 = nI w) (hw : w ≤ 1200) : pu_r 16 [some (.ref 1), some (.ref 3)] [] M = some (none, pu_wi (pu_ci M 4 0 2 0 w) 1 0 (nI w)) := by
  rw [qX0_copyFrom]
  simp [a_ent, bX0_copyFrom_0, a_ald, a_cp1, a_gi, a_gr, a_pi, a_push, a_vret, fx_1_1 hx, fx_3_1 hx, sh_1, sh_2, sh_3, sh_4, pu_rv, pu_as, Value.category, pu_bk, pu_kl, List.replicate, pu_wi_1, pu_wi_2, nl_add, nl_ladd, nl_aa, nl_mul, nl_rmul, nl_mm, pu_qe0, pu_qe1, hn, hw, pu_ci_1, pu_ci_2]
  all_goals try simp (maxSteps := 400000) (disch := omega) [nl_tle, nl_fle, nl_tlt, nl_flt, nl_teq, nl_feq, nl_sub, nl_ss, nl_lt, nl_llt, nl_ltt, nl_le, nl_lle, nl_lee, nl_eq, nl_leq, nl_ee, nl_div, nl_rem, nl_cl, nl_n1, nl_n2, nl_n3, nl_n4, nl_add, nl_ladd, nl_aa, nl_mul, nl_rmul, nl_mm, pu_wi_1, pu_wi_2, hn, hw, pu_ci_1, pu_ci_2]
theorem e_X11_take {M : pu_M} (hx : pu_fx M) {w : Nat} (hn : M.1 3 0 = nI w) (hw : w ≤ 1200) : pu_r 17 [some (.ref 0)] [] M = some (some (.int (nI w)), pu_wi (pu_ci M 4 0 2 0 w) 1 0 (nI w)) := by
  have h := e_X0_copyFrom hx hn hw
  rw [qX11_take]
  simp [a_ent, bX11_take_0, a_ald, a_cv, a_gi, a_gr, a_iret, fx_0_0 hx, fx_0_1 hx, sh_0, sh_1, sh_3, pu_rv, pu_as, Value.category, pu_bk, pu_kl, List.replicate, pu_wi_1, pu_wi_2, nl_add, nl_ladd, nl_aa, nl_mul, nl_rmul, nl_mm, pu_qe0, pu_qe1, h, pu_ci_1, pu_ci_2]
  all_goals try simp (maxSteps := 400000) (disch := omega) [nl_tle, nl_fle, nl_tlt, nl_flt, nl_teq, nl_feq, nl_sub, nl_ss, nl_lt, nl_llt, nl_ltt, nl_le, nl_lle, nl_lee, nl_eq, nl_leq, nl_ee, nl_div, nl_rem, nl_cl, nl_n1, nl_n2, nl_n3, nl_n4, nl_add, nl_ladd, nl_aa, nl_mul, nl_rmul, nl_mm, pu_wi_1, pu_wi_2, h, pu_ci_1, pu_ci_2]
theorem e_X12_take_l {M : pu_M} (hx : pu_fx M) {w : Nat} (hn : M.1 71 4 = nI w) (hw : w ≤ 1200) : ∀ m k, k + m = w → pu_r 431 [some (.ref 71), some (.int (nI k))] [] (pu_cb M 77 75 k) = some (some (.int (nI w)), pu_cb M 77 75 w)
  | 0, k, h => by
    have hk : k = w := by omega
    subst hk
    rw [qX12_take_10]
    simp [bX12_take_10, bX12_take_36, a_ai, a_ald, a_gi, a_gr, a_icge, a_ild, a_inc, a_iret, a_wb, fx_71_3 hx, fx_71_7 hx, sh_71, sh_75, sh_77, pu_rv, pu_as, Value.category, pu_bk, pu_kl, List.replicate, pu_wi_1, pu_wi_2, nl_add, nl_ladd, nl_aa, nl_mul, nl_rmul, nl_mm, pu_qe0, pu_qe1, pu_cb_1, pu_cb_2, hn]
    all_goals try simp (maxSteps := 400000) (disch := omega) [nl_tle, nl_fle, nl_tlt, nl_flt, nl_teq, nl_feq, nl_sub, nl_ss, nl_lt, nl_llt, nl_ltt, nl_le, nl_lle, nl_lee, nl_eq, nl_leq, nl_ee, nl_div, nl_rem, nl_cl, nl_n1, nl_n2, nl_n3, nl_n4, nl_add, nl_ladd, nl_aa, nl_mul, nl_rmul, nl_mm, pu_wi_1, pu_wi_2, pu_cb_1, pu_cb_2, hn]
  | m + 1, k, h => by
    have ih := e_X12_take_l hx hn hw m (k + 1) (by omega)
    have h1 : ¬ w ≤ k := by omega
    rw [← pu_cb_s] at ih
    rw [qX12_take_10]
    simp [bX12_take_10, bX12_take_36, a_ai, a_ald, a_gi, a_gr, a_icge, a_ild, a_inc, a_iret, a_wb, fx_71_3 hx, fx_71_7 hx, sh_71, sh_75, sh_77, pu_rv, pu_as, Value.category, pu_bk, pu_kl, List.replicate, pu_wi_1, pu_wi_2, nl_add, nl_ladd, nl_aa, nl_mul, nl_rmul, nl_mm, pu_qe0, pu_qe1, pu_cb_1, pu_cb_2, hn, h1]
    all_goals try simp (maxSteps := 400000) (disch := omega) [nl_tle, nl_fle, nl_tlt, nl_flt, nl_teq, nl_feq, nl_sub, nl_ss, nl_lt, nl_llt, nl_ltt, nl_le, nl_lle, nl_lee, nl_eq, nl_leq, nl_ee, nl_div, nl_rem, nl_cl, nl_n1, nl_n2, nl_n3, nl_n4, nl_add, nl_ladd, nl_aa, nl_mul, nl_rmul, nl_mm, pu_wi_1, pu_wi_2, pu_cb_1, pu_cb_2, hn, h1]
    exact ih
theorem e_X12_take {M : pu_M} (hx : pu_fx M) {w : Nat} (hn : M.1 71 8 = nI w) (hw : w ≤ 1200) : pu_r 231 [some (.ref 71)] [] M = some (some (.int (nI w)), pu_cb (pu_wi M 71 4 (nI w)) 77 75 w) := by
  have h := e_X12_take_l (M := pu_wi M 71 4 (nI w)) hx (w := w) (by simp [pu_wi_1]) hw w 0 (by omega)
  rw [pu_cb_0] at h
  rw [qX12_take]
  simp [a_ent, bX12_take_0, a_ald, a_gi, a_ist, a_pi, a_push, sh_71, pu_rv, pu_as, Value.category, pu_bk, pu_kl, List.replicate, pu_wi_1, pu_wi_2, nl_add, nl_ladd, nl_aa, nl_mul, nl_rmul, nl_mm, pu_qe0, pu_qe1, hn]
  all_goals try simp (maxSteps := 400000) (disch := omega) [nl_tle, nl_fle, nl_tlt, nl_flt, nl_teq, nl_feq, nl_sub, nl_ss, nl_lt, nl_llt, nl_ltt, nl_le, nl_lle, nl_lee, nl_eq, nl_leq, nl_ee, nl_div, nl_rem, nl_cl, nl_n1, nl_n2, nl_n3, nl_n4, nl_add, nl_ladd, nl_aa, nl_mul, nl_rmul, nl_mm, pu_wi_1, pu_wi_2, hn]
  exact h
theorem e_X12_takes_l {M : pu_M} (hx : pu_fx M) {w : Nat} (hn : M.1 71 6 = nI w) (hw : w ≤ 1200) : ∀ m k, k + m = w → pu_r 432 [some (.ref 71), some (.int (nI k))] [] (pu_cb M 75 76 k) = some (none, pu_wi (pu_cb M 75 76 w) 71 4 0)
  | 0, k, h => by
    have hk : k = w := by omega
    subst hk
    rw [qX12_takes_10]
    simp [bX12_takes_10, bX12_takes_36, a_ai, a_ald, a_gi, a_gr, a_icge, a_ild, a_inc, a_pi, a_push, a_vret, a_wb, fx_71_3 hx, fx_71_5 hx, sh_71, sh_75, sh_76, pu_rv, pu_as, Value.category, pu_bk, pu_kl, List.replicate, pu_wi_1, pu_wi_2, nl_add, nl_ladd, nl_aa, nl_mul, nl_rmul, nl_mm, pu_qe0, pu_qe1, pu_cb_1, pu_cb_2, hn]
    all_goals try simp (maxSteps := 400000) (disch := omega) [nl_tle, nl_fle, nl_tlt, nl_flt, nl_teq, nl_feq, nl_sub, nl_ss, nl_lt, nl_llt, nl_ltt, nl_le, nl_lle, nl_lee, nl_eq, nl_leq, nl_ee, nl_div, nl_rem, nl_cl, nl_n1, nl_n2, nl_n3, nl_n4, nl_add, nl_ladd, nl_aa, nl_mul, nl_rmul, nl_mm, pu_wi_1, pu_wi_2, pu_cb_1, pu_cb_2, hn]
  | m + 1, k, h => by
    have ih := e_X12_takes_l hx hn hw m (k + 1) (by omega)
    have h1 : ¬ w ≤ k := by omega
    rw [← pu_cb_s] at ih
    rw [qX12_takes_10]
    simp [bX12_takes_10, bX12_takes_36, a_ai, a_ald, a_gi, a_gr, a_icge, a_ild, a_inc, a_pi, a_push, a_vret, a_wb, fx_71_3 hx, fx_71_5 hx, sh_71, sh_75, sh_76, pu_rv, pu_as, Value.category, pu_bk, pu_kl, List.replicate, pu_wi_1, pu_wi_2, nl_add, nl_ladd, nl_aa, nl_mul, nl_rmul, nl_mm, pu_qe0, pu_qe1, pu_cb_1, pu_cb_2, hn, h1]
    all_goals try simp (maxSteps := 400000) (disch := omega) [nl_tle, nl_fle, nl_tlt, nl_flt, nl_teq, nl_feq, nl_sub, nl_ss, nl_lt, nl_llt, nl_ltt, nl_le, nl_lle, nl_lee, nl_eq, nl_leq, nl_ee, nl_div, nl_rem, nl_cl, nl_n1, nl_n2, nl_n3, nl_n4, nl_add, nl_ladd, nl_aa, nl_mul, nl_rmul, nl_mm, pu_wi_1, pu_wi_2, pu_cb_1, pu_cb_2, hn, h1]
    exact ih
/-- memory behind takes -/
def pu_tk (M : pu_M) (t : Nat) : pu_M := pu_wi (pu_cb (pu_wi M 71 6 (nI t)) 75 76 t) 71 4 0
theorem e_X12_takes {M : pu_M} (hx : pu_fx M) {w : Nat} (hn : M.1 71 4 = nI w) (hw : w ≤ 1200) : pu_r 233 [some (.ref 71)] [] M = some (none, pu_tk M w) := by
  have h := e_X12_takes_l (M := pu_wi M 71 6 (nI w)) hx (w := w) (by simp [pu_wi_1]) hw w 0 (by omega)
  rw [pu_cb_0] at h
  rw [qX12_takes]
  simp [a_ent, bX12_takes_0, a_ald, a_gi, a_ist, a_pi, a_push, sh_71, pu_rv, pu_as, Value.category, pu_bk, pu_kl, List.replicate, pu_wi_1, pu_wi_2, nl_add, nl_ladd, nl_aa, nl_mul, nl_rmul, nl_mm, pu_qe0, pu_qe1, hn]
  all_goals try simp (maxSteps := 400000) (disch := omega) [nl_tle, nl_fle, nl_tlt, nl_flt, nl_teq, nl_feq, nl_sub, nl_ss, nl_lt, nl_llt, nl_ltt, nl_le, nl_lle, nl_lee, nl_eq, nl_leq, nl_ee, nl_div, nl_rem, nl_cl, nl_n1, nl_n2, nl_n3, nl_n4, nl_add, nl_ladd, nl_aa, nl_mul, nl_rmul, nl_mm, pu_wi_1, pu_wi_2, hn]
  exact h
theorem e_X12_here {M : pu_M} (hx : pu_fx M) {w : Nat} (hn : M.1 71 6 = nI w) (hw : w ≤ 1200) (k : Nat) (hk : k ≤ 1300) : pu_r 241 [some (.ref 71), some (.int (nI k))] [] M = some (some (.int (if k < w then M.1 76 k &&& 255 else -1)), M) := by
  by_cases h1 : k < w
  · have h2 : ¬ w ≤ k := by omega
    rw [qX12_here]
    simp [a_ent, bX12_here_0, bX12_here_21, bX12_here_22, a_ai, a_ald, a_gi, a_gr, a_iand, a_icge, a_ild, a_iret, a_push, fx_71_5 hx, sh_71, sh_76, pu_rv, pu_as, Value.category, pu_bk, pu_kl, List.replicate, pu_wi_1, pu_wi_2, nl_add, nl_ladd, nl_aa, nl_mul, nl_rmul, nl_mm, pu_qe0, pu_qe1, hn, h1, h2]
    all_goals try simp (maxSteps := 400000) (disch := omega) [nl_tle, nl_fle, nl_tlt, nl_flt, nl_teq, nl_feq, nl_sub, nl_ss, nl_lt, nl_llt, nl_ltt, nl_le, nl_lle, nl_lee, nl_eq, nl_leq, nl_ee, nl_div, nl_rem, nl_cl, nl_n1, nl_n2, nl_n3, nl_n4, nl_add, nl_ladd, nl_aa, nl_mul, nl_rmul, nl_mm, pu_wi_1, pu_wi_2, hn, h1, h2]
  · have h2 : w ≤ k := by omega
    rw [qX12_here]
    simp [a_ent, bX12_here_0, bX12_here_21, bX12_here_22, a_ai, a_ald, a_gi, a_gr, a_iand, a_icge, a_ild, a_iret, a_push, fx_71_5 hx, sh_71, sh_76, pu_rv, pu_as, Value.category, pu_bk, pu_kl, List.replicate, pu_wi_1, pu_wi_2, nl_add, nl_ladd, nl_aa, nl_mul, nl_rmul, nl_mm, pu_qe0, pu_qe1, hn, h1, h2]
    all_goals try simp (maxSteps := 400000) (disch := omega) [nl_tle, nl_fle, nl_tlt, nl_flt, nl_teq, nl_feq, nl_sub, nl_ss, nl_lt, nl_llt, nl_ltt, nl_le, nl_lle, nl_lee, nl_eq, nl_leq, nl_ee, nl_div, nl_rem, nl_cl, nl_n1, nl_n2, nl_n3, nl_n4, nl_add, nl_ladd, nl_aa, nl_mul, nl_rmul, nl_mm, pu_wi_1, pu_wi_2, hn, h1, h2]
theorem e_X11_out {M : pu_M} (hx : pu_fx M) {w : Nat} (hn : M.1 3 0 = nI w) (hw : w ≤ 1200) (i : Int32) : pu_r 226 [some (.ref 0), some (.int i)] [] M = some (some (.int (if i < 0 then -1 else if nI w ≤ i then -1 else M.1 4 i.toNatClampNeg)), M) := by
  rcases pk_ix i (n := w) (by omega) with h | h | ⟨j, hj, rfl⟩
  · have e : pu_r 225 [some (.ref 3), some (.int i)] [] M = some (some (.int (-1)), M) := by
      rw [qX0_byteAt]
      simp [a_ent, bX0_byteAt_0, bX0_byteAt_21, bX0_byteAt_22, a_ai, a_ald, a_gi, a_gr, a_icge, a_iflt, a_ild, a_iret, a_push, fx_1_1 hx, fx_3_1 hx, sh_1, sh_2, sh_3, sh_4, pu_rv, pu_as, Value.category, pu_bk, pu_kl, List.replicate, pu_wi_1, pu_wi_2, nl_add, nl_ladd, nl_aa, nl_mul, nl_rmul, nl_mm, pu_qe0, pu_qe1, h]
      all_goals try simp (maxSteps := 400000) (disch := omega) [nl_tle, nl_fle, nl_tlt, nl_flt, nl_teq, nl_feq, nl_sub, nl_ss, nl_lt, nl_llt, nl_ltt, nl_le, nl_lle, nl_lee, nl_eq, nl_leq, nl_ee, nl_div, nl_rem, nl_cl, nl_n1, nl_n2, nl_n3, nl_n4, nl_add, nl_ladd, nl_aa, nl_mul, nl_rmul, nl_mm, pu_wi_1, pu_wi_2, h]
    rw [qX11_out]
    simp [a_ent, bX11_out_0, a_ald, a_cv, a_gr, a_ild, a_iret, fx_0_1 hx, sh_0, sh_1, sh_3, pu_rv, pu_as, Value.category, pu_bk, pu_kl, List.replicate, pu_wi_1, pu_wi_2, nl_add, nl_ladd, nl_aa, nl_mul, nl_rmul, nl_mm, pu_qe0, pu_qe1, e, h]
    all_goals try simp (maxSteps := 400000) (disch := omega) [nl_tle, nl_fle, nl_tlt, nl_flt, nl_teq, nl_feq, nl_sub, nl_ss, nl_lt, nl_llt, nl_ltt, nl_le, nl_lle, nl_lee, nl_eq, nl_leq, nl_ee, nl_div, nl_rem, nl_cl, nl_n1, nl_n2, nl_n3, nl_n4, nl_add, nl_ladd, nl_aa, nl_mul, nl_rmul, nl_mm, pu_wi_1, pu_wi_2, e, h]
  · have h0 : ¬ i < 0 := fun q => absurd (Int32.lt_of_le_of_lt h q) (nI_pos (by omega))
    have e : pu_r 225 [some (.ref 3), some (.int i)] [] M = some (some (.int (-1)), M) := by
      rw [qX0_byteAt]
      simp [a_ent, bX0_byteAt_0, bX0_byteAt_21, bX0_byteAt_22, a_ai, a_ald, a_gi, a_gr, a_icge, a_iflt, a_ild, a_iret, a_push, fx_1_1 hx, fx_3_1 hx, sh_1, sh_2, sh_3, sh_4, pu_rv, pu_as, Value.category, pu_bk, pu_kl, List.replicate, pu_wi_1, pu_wi_2, nl_add, nl_ladd, nl_aa, nl_mul, nl_rmul, nl_mm, pu_qe0, pu_qe1, h, h0, hn]
      all_goals try simp (maxSteps := 400000) (disch := omega) [nl_tle, nl_fle, nl_tlt, nl_flt, nl_teq, nl_feq, nl_sub, nl_ss, nl_lt, nl_llt, nl_ltt, nl_le, nl_lle, nl_lee, nl_eq, nl_leq, nl_ee, nl_div, nl_rem, nl_cl, nl_n1, nl_n2, nl_n3, nl_n4, nl_add, nl_ladd, nl_aa, nl_mul, nl_rmul, nl_mm, pu_wi_1, pu_wi_2, h, h0, hn]
    rw [qX11_out]
    simp [a_ent, bX11_out_0, a_ald, a_cv, a_gr, a_ild, a_iret, fx_0_1 hx, sh_0, sh_1, sh_3, pu_rv, pu_as, Value.category, pu_bk, pu_kl, List.replicate, pu_wi_1, pu_wi_2, nl_add, nl_ladd, nl_aa, nl_mul, nl_rmul, nl_mm, pu_qe0, pu_qe1, e, h, h0]
    all_goals try simp (maxSteps := 400000) (disch := omega) [nl_tle, nl_fle, nl_tlt, nl_flt, nl_teq, nl_feq, nl_sub, nl_ss, nl_lt, nl_llt, nl_ltt, nl_le, nl_lle, nl_lee, nl_eq, nl_leq, nl_ee, nl_div, nl_rem, nl_cl, nl_n1, nl_n2, nl_n3, nl_n4, nl_add, nl_ladd, nl_aa, nl_mul, nl_rmul, nl_mm, pu_wi_1, pu_wi_2, e, h, h0]
  · have h2 : ¬ w ≤ j := by omega
    have e : pu_r 225 [some (.ref 3), some (.int (nI j))] [] M = some (some (.int (M.1 4 j)), M) := by
      rw [qX0_byteAt]
      simp [a_ent, bX0_byteAt_0, bX0_byteAt_21, bX0_byteAt_22, a_ai, a_ald, a_gi, a_gr, a_icge, a_iflt, a_ild, a_iret, a_push, fx_1_1 hx, fx_3_1 hx, sh_1, sh_2, sh_3, sh_4, pu_rv, pu_as, Value.category, pu_bk, pu_kl, List.replicate, pu_wi_1, pu_wi_2, nl_add, nl_ladd, nl_aa, nl_mul, nl_rmul, nl_mm, pu_qe0, pu_qe1, hn, h2]
      all_goals try simp (maxSteps := 400000) (disch := omega) [nl_tle, nl_fle, nl_tlt, nl_flt, nl_teq, nl_feq, nl_sub, nl_ss, nl_lt, nl_llt, nl_ltt, nl_le, nl_lle, nl_lee, nl_eq, nl_leq, nl_ee, nl_div, nl_rem, nl_cl, nl_n1, nl_n2, nl_n3, nl_n4, nl_add, nl_ladd, nl_aa, nl_mul, nl_rmul, nl_mm, pu_wi_1, pu_wi_2, hn, h2]
    rw [qX11_out]
    simp [a_ent, bX11_out_0, a_ald, a_cv, a_gr, a_ild, a_iret, fx_0_1 hx, sh_0, sh_1, sh_3, pu_rv, pu_as, Value.category, pu_bk, pu_kl, List.replicate, pu_wi_1, pu_wi_2, nl_add, nl_ladd, nl_aa, nl_mul, nl_rmul, nl_mm, pu_qe0, pu_qe1, e, h2]
    all_goals try simp (maxSteps := 400000) (disch := omega) [nl_tle, nl_fle, nl_tlt, nl_flt, nl_teq, nl_feq, nl_sub, nl_ss, nl_lt, nl_llt, nl_ltt, nl_le, nl_lle, nl_lee, nl_eq, nl_leq, nl_ee, nl_div, nl_rem, nl_cl, nl_n1, nl_n2, nl_n3, nl_n4, nl_add, nl_ladd, nl_aa, nl_mul, nl_rmul, nl_mm, pu_wi_1, pu_wi_2, e, h2]
theorem e_X12_out {M : pu_M} (hx : pu_fx M) {w : Nat} (hn : M.1 71 8 = nI w) (hw : w ≤ 1200) (i : Int32) : pu_r 232 [some (.ref 71), some (.int i)] [] M = some (some (.int (if i < 0 then -1 else if nI w ≤ i then -1 else M.1 77 i.toNatClampNeg &&& 255)), M) := by
  rcases pk_ix i (n := w) (by omega) with h | h | ⟨j, hj, rfl⟩
  · rw [qX12_out]
    simp [a_ent, bX12_out_0, bX12_out_12, bX12_out_26, bX12_out_16, a_ai, a_ald, a_gi, a_gr, a_iand, a_iclt, a_iflt, a_ild, a_iret, a_push, fx_71_7 hx, sh_71, sh_77, pu_rv, pu_as, Value.category, pu_bk, pu_kl, List.replicate, pu_wi_1, pu_wi_2, nl_add, nl_ladd, nl_aa, nl_mul, nl_rmul, nl_mm, pu_qe0, pu_qe1, h]
    all_goals try simp (maxSteps := 400000) (disch := omega) [nl_tle, nl_fle, nl_tlt, nl_flt, nl_teq, nl_feq, nl_sub, nl_ss, nl_lt, nl_llt, nl_ltt, nl_le, nl_lle, nl_lee, nl_eq, nl_leq, nl_ee, nl_div, nl_rem, nl_cl, nl_n1, nl_n2, nl_n3, nl_n4, nl_add, nl_ladd, nl_aa, nl_mul, nl_rmul, nl_mm, pu_wi_1, pu_wi_2, h]
  · have h0 : ¬ i < 0 := fun q => absurd (Int32.lt_of_le_of_lt h q) (nI_pos (by omega))
    have h1 : ¬ i < nI w := Int32.not_lt.mpr h
    rw [qX12_out]
    simp [a_ent, bX12_out_0, bX12_out_12, bX12_out_26, bX12_out_16, a_ai, a_ald, a_gi, a_gr, a_iand, a_iclt, a_iflt, a_ild, a_iret, a_push, fx_71_7 hx, sh_71, sh_77, pu_rv, pu_as, Value.category, pu_bk, pu_kl, List.replicate, pu_wi_1, pu_wi_2, nl_add, nl_ladd, nl_aa, nl_mul, nl_rmul, nl_mm, pu_qe0, pu_qe1, h, h0, h1, hn]
    all_goals try simp (maxSteps := 400000) (disch := omega) [nl_tle, nl_fle, nl_tlt, nl_flt, nl_teq, nl_feq, nl_sub, nl_ss, nl_lt, nl_llt, nl_ltt, nl_le, nl_lle, nl_lee, nl_eq, nl_leq, nl_ee, nl_div, nl_rem, nl_cl, nl_n1, nl_n2, nl_n3, nl_n4, nl_add, nl_ladd, nl_aa, nl_mul, nl_rmul, nl_mm, pu_wi_1, pu_wi_2, h, h0, h1, hn]
  · have h2 : ¬ w ≤ j := by omega
    rw [qX12_out]
    simp [a_ent, bX12_out_0, bX12_out_12, bX12_out_26, bX12_out_16, a_ai, a_ald, a_gi, a_gr, a_iand, a_iclt, a_iflt, a_ild, a_iret, a_push, fx_71_7 hx, sh_71, sh_77, pu_rv, pu_as, Value.category, pu_bk, pu_kl, List.replicate, pu_wi_1, pu_wi_2, nl_add, nl_ladd, nl_aa, nl_mul, nl_rmul, nl_mm, pu_qe0, pu_qe1, hn, h2, hj]
    all_goals try simp (maxSteps := 400000) (disch := omega) [nl_tle, nl_fle, nl_tlt, nl_flt, nl_teq, nl_feq, nl_sub, nl_ss, nl_lt, nl_llt, nl_ltt, nl_le, nl_lle, nl_lee, nl_eq, nl_leq, nl_ee, nl_div, nl_rem, nl_cl, nl_n1, nl_n2, nl_n3, nl_n4, nl_add, nl_ladd, nl_aa, nl_mul, nl_rmul, nl_mm, pu_wi_1, pu_wi_2, hn, h2, hj]
