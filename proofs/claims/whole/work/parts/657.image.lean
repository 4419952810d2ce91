/-! images, the reference's side -/
def pz_im (M : pu_M) (p k : Nat) : pu_M := (fun a j => if a = 73 ∧ 70000 * p ≤ j ∧ j < 70000 * p + k then M.1 72 (j - 70000 * p) else M.1 a j, M.2)
theorem pz_im_s (M : pu_M) (p k : Nat) : pu_wi (pz_im M p k) 73 (70000 * p + k) (M.1 72 k) = pz_im M p (k + 1) := by
  unfold pu_wi pz_im
  congr 1
  funext a j
  by_cases e : a = 73
  · by_cases f : j = 70000 * p + k
    · simp only [e, f, if_true]
      rw [if_pos ⟨trivial, by omega⟩, show 70000 * p + k - 70000 * p = k by omega]
    · simp only [e, f, if_true, if_false]
      by_cases g : 70000 * p ≤ j ∧ j < 70000 * p + k
      · rw [if_pos ⟨trivial, g⟩, if_pos ⟨trivial, by omega⟩]
      · rw [if_neg (fun q => g q.2), if_neg (fun q => g (by omega))]
  · simp [e]
theorem pz_im_0 (M : pu_M) (p : Nat) : pz_im M p 0 = M := by
  unfold pz_im
  have : (fun a j => if a = 73 ∧ 70000 * p ≤ j ∧ j < 70000 * p + 0 then M.1 72 (j - 70000 * p) else M.1 a j) = M.1 := by
    funext a j
    rw [if_neg (by omega)]
  rw [this]
theorem pz_im_o (M : pu_M) (p k a j : Nat) (h : a ≠ 73) : (pz_im M p k).1 a j = M.1 a j := if_neg (fun q => h q.1)
theorem r_image_l {M : pu_M} (hx : pu_fx M) (p : Nat) (hp : p < 3) : ∀ (m k : Nat), k + m = 70000 → pu_r 488 [some (.ref 71), some (.int (nI p)), some (.int (nI k))] [] (pz_im M p k) = some (some (.int 1), pu_wi (pz_im M p 70000) 74 p 1)
  | 0, k, h => by
    have e : k = 70000 := by omega
    subst e
    have hc : 70000 ≤ nI 70000 := by decide
    have hx : pu_fx (pz_im M p 70000) := hx
    generalize pz_im M p 70000 = N at *
    rw [qX12_image_13]
    simp [bX12_image_13, bX12_image_42, a_ai, a_ald, a_gr, a_iadd, a_icge, a_ild, a_imul, a_inc, a_push, a_wi, a_wz, a_zret, fx_71_0 hx, fx_71_1 hx, fx_71_2 hx, sh_71, sh_72, sh_73, sh_74, pu_rv, pu_as, Value.category, pu_bk, pu_kl, List.replicate, pu_wi_1, pu_wi_2, nl_add, nl_ladd, nl_aa, nl_mul, nl_rmul, nl_mm, pu_qe0, pu_qe1, hc]
    all_goals try simp (maxSteps := 400000) (disch := omega) [nl_tle, nl_fle, nl_tlt, nl_flt, nl_teq, nl_feq, nl_sub, nl_ss, nl_lt, nl_llt, nl_ltt, nl_le, nl_lle, nl_lee, nl_eq, nl_leq, nl_ee, nl_div, nl_rem, nl_cl, nl_n1, nl_n2, nl_n3, nl_n4, nl_add, nl_ladd, nl_aa, nl_mul, nl_rmul, nl_mm, pu_wi_1, pu_wi_2, bX12_image_13, bX12_image_42, a_ai, a_ald, a_gr, a_iadd, a_icge, a_ild, a_imul, a_inc, a_push, a_wi, a_wz, a_zret, fx_71_0 hx, fx_71_1 hx, fx_71_2 hx, sh_71, sh_72, sh_73, sh_74, pu_rv, pu_as, Value.category, pu_bk, pu_kl, pu_qe0, pu_qe1, hc]
    all_goals try simp [bX12_image_13, bX12_image_42, a_ai, a_ald, a_gr, a_iadd, a_icge, a_ild, a_imul, a_inc, a_push, a_wi, a_wz, a_zret, fx_71_0 hx, fx_71_1 hx, fx_71_2 hx, sh_71, sh_72, sh_73, sh_74, pu_rv, pu_as, Value.category, pu_bk, pu_kl, List.replicate, pu_wi_1, pu_wi_2, nl_add, nl_ladd, nl_aa, nl_mul, nl_rmul, nl_mm, pu_qe0, pu_qe1, hc]
    all_goals try simp (maxSteps := 400000) (disch := omega) [nl_tle, nl_fle, nl_tlt, nl_flt, nl_teq, nl_feq, nl_sub, nl_ss, nl_lt, nl_llt, nl_ltt, nl_le, nl_lle, nl_lee, nl_eq, nl_leq, nl_ee, nl_div, nl_rem, nl_cl, nl_n1, nl_n2, nl_n3, nl_n4, nl_add, nl_ladd, nl_aa, nl_mul, nl_rmul, nl_mm, pu_wi_1, pu_wi_2, bX12_image_13, bX12_image_42, a_ai, a_ald, a_gr, a_iadd, a_icge, a_ild, a_imul, a_inc, a_push, a_wi, a_wz, a_zret, fx_71_0 hx, fx_71_1 hx, fx_71_2 hx, sh_71, sh_72, sh_73, sh_74, pu_rv, pu_as, Value.category, pu_bk, pu_kl, pu_qe0, pu_qe1, hc]
  | m + 1, k, h => by
    have hc : ¬ 70000 ≤ nI k := nI_ge (b := 70000) (by omega) (by omega)
    have ih := r_image_l hx p hp m (k + 1) (by omega)
    rw [← pz_im_s] at ih
    have r1 : (pz_im M p k).1 72 k = M.1 72 k := pz_im_o _ _ _ _ _ (by decide)
    have hx : pu_fx (pz_im M p k) := hx
    generalize pz_im M p k = N at *
    rw [qX12_image_13]
    simp [bX12_image_13, bX12_image_42, a_ai, a_ald, a_gr, a_iadd, a_icge, a_ild, a_imul, a_inc, a_push, a_wi, a_wz, a_zret, fx_71_0 hx, fx_71_1 hx, fx_71_2 hx, sh_71, sh_72, sh_73, sh_74, pu_rv, pu_as, Value.category, pu_bk, pu_kl, List.replicate, pu_wi_1, pu_wi_2, nl_add, nl_ladd, nl_aa, nl_mul, nl_rmul, nl_mm, pu_qe0, pu_qe1, hc, r1]
    all_goals try simp (maxSteps := 400000) (disch := omega) [nl_tle, nl_fle, nl_tlt, nl_flt, nl_teq, nl_feq, nl_sub, nl_ss, nl_lt, nl_llt, nl_ltt, nl_le, nl_lle, nl_lee, nl_eq, nl_leq, nl_ee, nl_div, nl_rem, nl_cl, nl_n1, nl_n2, nl_n3, nl_n4, nl_add, nl_ladd, nl_aa, nl_mul, nl_rmul, nl_mm, pu_wi_1, pu_wi_2, bX12_image_13, bX12_image_42, a_ai, a_ald, a_gr, a_iadd, a_icge, a_ild, a_imul, a_inc, a_push, a_wi, a_wz, a_zret, fx_71_0 hx, fx_71_1 hx, fx_71_2 hx, sh_71, sh_72, sh_73, sh_74, pu_rv, pu_as, Value.category, pu_bk, pu_kl, pu_qe0, pu_qe1, hc, r1]
    all_goals try simp [bX12_image_13, bX12_image_42, a_ai, a_ald, a_gr, a_iadd, a_icge, a_ild, a_imul, a_inc, a_push, a_wi, a_wz, a_zret, fx_71_0 hx, fx_71_1 hx, fx_71_2 hx, sh_71, sh_72, sh_73, sh_74, pu_rv, pu_as, Value.category, pu_bk, pu_kl, List.replicate, pu_wi_1, pu_wi_2, nl_add, nl_ladd, nl_aa, nl_mul, nl_rmul, nl_mm, pu_qe0, pu_qe1, hc, r1]
    all_goals try simp (maxSteps := 400000) (disch := omega) [nl_tle, nl_fle, nl_tlt, nl_flt, nl_teq, nl_feq, nl_sub, nl_ss, nl_lt, nl_llt, nl_ltt, nl_le, nl_lle, nl_lee, nl_eq, nl_leq, nl_ee, nl_div, nl_rem, nl_cl, nl_n1, nl_n2, nl_n3, nl_n4, nl_add, nl_ladd, nl_aa, nl_mul, nl_rmul, nl_mm, pu_wi_1, pu_wi_2, bX12_image_13, bX12_image_42, a_ai, a_ald, a_gr, a_iadd, a_icge, a_ild, a_imul, a_inc, a_push, a_wi, a_wz, a_zret, fx_71_0 hx, fx_71_1 hx, fx_71_2 hx, sh_71, sh_72, sh_73, sh_74, pu_rv, pu_as, Value.category, pu_bk, pu_kl, pu_qe0, pu_qe1, hc, r1]
    exact ih
theorem r_image {M : pu_M} (hx : pu_fx M) (p : Nat) (hp : p < 3) : pu_r 302 [some (.ref 71), some (.int (nI p))] [] M = some (some (.int 1), pu_wi (pz_im M p 70000) 74 p 1) := by
  have e := r_image_l hx p hp 70000 0 (by omega)
  rw [pz_im_0, nI_0] at e
  have c1 : ¬ nI p < 0 := nI_pos (by omega)
  have c2 : nI p ≤ 2 := nI_le (b := 2) (by omega) (by omega)
  rw [qX12_image]
  simp [a_ent, bX12_image_0, bX12_image_9, bX12_image_11, a_icle, a_iflt, a_ild, a_ist, a_push, a_zret, pu_rv, pu_as, Value.category, pu_bk, pu_kl, List.replicate, pu_wi_1, pu_wi_2, nl_add, nl_ladd, nl_aa, nl_mul, nl_rmul, nl_mm, pu_qe0, pu_qe1, e, c1, c2]
  all_goals try simp (maxSteps := 400000) (disch := omega) [nl_tle, nl_fle, nl_tlt, nl_flt, nl_teq, nl_feq, nl_sub, nl_ss, nl_lt, nl_llt, nl_ltt, nl_le, nl_lle, nl_lee, nl_eq, nl_leq, nl_ee, nl_div, nl_rem, nl_cl, nl_n1, nl_n2, nl_n3, nl_n4, nl_add, nl_ladd, nl_aa, nl_mul, nl_rmul, nl_mm, pu_wi_1, pu_wi_2, bX12_image_0, bX12_image_9, bX12_image_11, a_icle, a_iflt, a_ild, a_ist, a_push, a_zret, pu_rv, pu_as, Value.category, pu_bk, pu_kl, pu_qe0, pu_qe1, e, c1, c2]
  all_goals try simp [bX12_image_0, bX12_image_9, bX12_image_11, a_icle, a_iflt, a_ild, a_ist, a_push, a_zret, pu_rv, pu_as, Value.category, pu_bk, pu_kl, List.replicate, pu_wi_1, pu_wi_2, nl_add, nl_ladd, nl_aa, nl_mul, nl_rmul, nl_mm, pu_qe0, pu_qe1, e, c1, c2]
  all_goals try simp (maxSteps := 400000) (disch := omega) [nl_tle, nl_fle, nl_tlt, nl_flt, nl_teq, nl_feq, nl_sub, nl_ss, nl_lt, nl_llt, nl_ltt, nl_le, nl_lle, nl_lee, nl_eq, nl_leq, nl_ee, nl_div, nl_rem, nl_cl, nl_n1, nl_n2, nl_n3, nl_n4, nl_add, nl_ladd, nl_aa, nl_mul, nl_rmul, nl_mm, pu_wi_1, pu_wi_2, bX12_image_0, bX12_image_9, bX12_image_11, a_icle, a_iflt, a_ild, a_ist, a_push, a_zret, pu_rv, pu_as, Value.category, pu_bk, pu_kl, pu_qe0, pu_qe1, e, c1, c2]
def pz_ba (M : pu_M) (p k : Nat) : pu_M := (fun a j => if a = 72 ∧ j < k then M.1 73 (70000 * p + j) else M.1 a j, M.2)
theorem pz_ba_s (M : pu_M) (p k : Nat) : pu_wi (pz_ba M p k) 72 k (M.1 73 (70000 * p + k)) = pz_ba M p (k + 1) := by
  unfold pu_wi pz_ba
  congr 1
  funext a j
  by_cases e : a = 72
  · by_cases f : j = k
    · simp only [e, f, if_true]
      rw [if_pos ⟨trivial, by omega⟩]
    · simp only [e, f, if_true, if_false]
      by_cases g : j < k
      · rw [if_pos ⟨trivial, g⟩, if_pos ⟨trivial, by omega⟩]
      · rw [if_neg (fun q => g q.2), if_neg (fun q => g (by omega))]
  · simp [e]
theorem pz_ba_0 (M : pu_M) (p : Nat) : pz_ba M p 0 = M := by
  unfold pz_ba
  have : (fun a j => if a = 72 ∧ j < 0 then M.1 73 (70000 * p + j) else M.1 a j) = M.1 := by
    funext a j
    rw [if_neg (by omega)]
  rw [this]
theorem pz_ba_o (M : pu_M) (p k a j : Nat) (h : a ≠ 72) : (pz_ba M p k).1 a j = M.1 a j := if_neg (fun q => h q.1)
theorem r_back_l {M : pu_M} (hx : pu_fx M) (p : Nat) (hp : p < 3) : ∀ (m k : Nat), k + m = 70000 → pu_r 489 [some (.ref 71), some (.int (nI p)), some (.int (nI k))] [] (pz_ba M p k) = some (some (.int 1), pz_ba M p 70000)
  | 0, k, h => by
    have e : k = 70000 := by omega
    subst e
    have hc : 70000 ≤ nI 70000 := by decide
    have hx : pu_fx (pz_ba M p 70000) := hx
    generalize pz_ba M p 70000 = N at *
    rw [qX12_back_22]
    simp [bX12_back_22, bX12_back_51, a_ai, a_ald, a_gr, a_iadd, a_icge, a_ild, a_imul, a_inc, a_push, a_wi, a_zret, fx_71_0 hx, fx_71_1 hx, sh_71, sh_72, sh_73, pu_rv, pu_as, Value.category, pu_bk, pu_kl, List.replicate, pu_wi_1, pu_wi_2, nl_add, nl_ladd, nl_aa, nl_mul, nl_rmul, nl_mm, pu_qe0, pu_qe1, hc]
    all_goals try simp (maxSteps := 400000) (disch := omega) [nl_tle, nl_fle, nl_tlt, nl_flt, nl_teq, nl_feq, nl_sub, nl_ss, nl_lt, nl_llt, nl_ltt, nl_le, nl_lle, nl_lee, nl_eq, nl_leq, nl_ee, nl_div, nl_rem, nl_cl, nl_n1, nl_n2, nl_n3, nl_n4, nl_add, nl_ladd, nl_aa, nl_mul, nl_rmul, nl_mm, pu_wi_1, pu_wi_2, bX12_back_22, bX12_back_51, a_ai, a_ald, a_gr, a_iadd, a_icge, a_ild, a_imul, a_inc, a_push, a_wi, a_zret, fx_71_0 hx, fx_71_1 hx, sh_71, sh_72, sh_73, pu_rv, pu_as, Value.category, pu_bk, pu_kl, pu_qe0, pu_qe1, hc]
    all_goals try simp [bX12_back_22, bX12_back_51, a_ai, a_ald, a_gr, a_iadd, a_icge, a_ild, a_imul, a_inc, a_push, a_wi, a_zret, fx_71_0 hx, fx_71_1 hx, sh_71, sh_72, sh_73, pu_rv, pu_as, Value.category, pu_bk, pu_kl, List.replicate, pu_wi_1, pu_wi_2, nl_add, nl_ladd, nl_aa, nl_mul, nl_rmul, nl_mm, pu_qe0, pu_qe1, hc]
    all_goals try simp (maxSteps := 400000) (disch := omega) [nl_tle, nl_fle, nl_tlt, nl_flt, nl_teq, nl_feq, nl_sub, nl_ss, nl_lt, nl_llt, nl_ltt, nl_le, nl_lle, nl_lee, nl_eq, nl_leq, nl_ee, nl_div, nl_rem, nl_cl, nl_n1, nl_n2, nl_n3, nl_n4, nl_add, nl_ladd, nl_aa, nl_mul, nl_rmul, nl_mm, pu_wi_1, pu_wi_2, bX12_back_22, bX12_back_51, a_ai, a_ald, a_gr, a_iadd, a_icge, a_ild, a_imul, a_inc, a_push, a_wi, a_zret, fx_71_0 hx, fx_71_1 hx, sh_71, sh_72, sh_73, pu_rv, pu_as, Value.category, pu_bk, pu_kl, pu_qe0, pu_qe1, hc]
  | m + 1, k, h => by
    have hc : ¬ 70000 ≤ nI k := nI_ge (b := 70000) (by omega) (by omega)
    have ih := r_back_l hx p hp m (k + 1) (by omega)
    rw [← pz_ba_s] at ih
    have r1 : (pz_ba M p k).1 73 (70000 * p + k) = M.1 73 (70000 * p + k) := pz_ba_o _ _ _ _ _ (by decide)
    have hx : pu_fx (pz_ba M p k) := hx
    generalize pz_ba M p k = N at *
    rw [qX12_back_22]
    simp [bX12_back_22, bX12_back_51, a_ai, a_ald, a_gr, a_iadd, a_icge, a_ild, a_imul, a_inc, a_push, a_wi, a_zret, fx_71_0 hx, fx_71_1 hx, sh_71, sh_72, sh_73, pu_rv, pu_as, Value.category, pu_bk, pu_kl, List.replicate, pu_wi_1, pu_wi_2, nl_add, nl_ladd, nl_aa, nl_mul, nl_rmul, nl_mm, pu_qe0, pu_qe1, hc, r1]
    all_goals try simp (maxSteps := 400000) (disch := omega) [nl_tle, nl_fle, nl_tlt, nl_flt, nl_teq, nl_feq, nl_sub, nl_ss, nl_lt, nl_llt, nl_ltt, nl_le, nl_lle, nl_lee, nl_eq, nl_leq, nl_ee, nl_div, nl_rem, nl_cl, nl_n1, nl_n2, nl_n3, nl_n4, nl_add, nl_ladd, nl_aa, nl_mul, nl_rmul, nl_mm, pu_wi_1, pu_wi_2, bX12_back_22, bX12_back_51, a_ai, a_ald, a_gr, a_iadd, a_icge, a_ild, a_imul, a_inc, a_push, a_wi, a_zret, fx_71_0 hx, fx_71_1 hx, sh_71, sh_72, sh_73, pu_rv, pu_as, Value.category, pu_bk, pu_kl, pu_qe0, pu_qe1, hc, r1]
    all_goals try simp [bX12_back_22, bX12_back_51, a_ai, a_ald, a_gr, a_iadd, a_icge, a_ild, a_imul, a_inc, a_push, a_wi, a_zret, fx_71_0 hx, fx_71_1 hx, sh_71, sh_72, sh_73, pu_rv, pu_as, Value.category, pu_bk, pu_kl, List.replicate, pu_wi_1, pu_wi_2, nl_add, nl_ladd, nl_aa, nl_mul, nl_rmul, nl_mm, pu_qe0, pu_qe1, hc, r1]
    all_goals try simp (maxSteps := 400000) (disch := omega) [nl_tle, nl_fle, nl_tlt, nl_flt, nl_teq, nl_feq, nl_sub, nl_ss, nl_lt, nl_llt, nl_ltt, nl_le, nl_lle, nl_lee, nl_eq, nl_leq, nl_ee, nl_div, nl_rem, nl_cl, nl_n1, nl_n2, nl_n3, nl_n4, nl_add, nl_ladd, nl_aa, nl_mul, nl_rmul, nl_mm, pu_wi_1, pu_wi_2, bX12_back_22, bX12_back_51, a_ai, a_ald, a_gr, a_iadd, a_icge, a_ild, a_imul, a_inc, a_push, a_wi, a_zret, fx_71_0 hx, fx_71_1 hx, sh_71, sh_72, sh_73, pu_rv, pu_as, Value.category, pu_bk, pu_kl, pu_qe0, pu_qe1, hc, r1]
    exact ih
theorem r_back {M : pu_M} (hx : pu_fx M) (p : Nat) (hp : p < 3) (h : M.1 74 p = 1) : pu_r 303 [some (.ref 71), some (.int (nI p))] [] M = some (some (.int 1), pz_ba M p 70000) := by
  have e := r_back_l hx p hp 70000 0 (by omega)
  rw [pz_ba_0, nI_0] at e
  have c1 : ¬ nI p < 0 := nI_pos (by omega)
  have c2 : ¬ 2 < nI p := nI_nlt (b := p) (a := 2) (by omega) (by omega)
  rw [qX12_back]
  simp [a_ent, bX12_back_0, bX12_back_18, bX12_back_20, a_ai, a_ald, a_gr, a_icgt, a_iflt, a_ifne, a_ild, a_ist, a_push, a_zret, fx_71_2 hx, sh_71, sh_74, pu_rv, pu_as, Value.category, pu_bk, pu_kl, List.replicate, pu_wi_1, pu_wi_2, nl_add, nl_ladd, nl_aa, nl_mul, nl_rmul, nl_mm, pu_qe0, pu_qe1, e, c1, c2, h]
  all_goals try simp (maxSteps := 400000) (disch := omega) [nl_tle, nl_fle, nl_tlt, nl_flt, nl_teq, nl_feq, nl_sub, nl_ss, nl_lt, nl_llt, nl_ltt, nl_le, nl_lle, nl_lee, nl_eq, nl_leq, nl_ee, nl_div, nl_rem, nl_cl, nl_n1, nl_n2, nl_n3, nl_n4, nl_add, nl_ladd, nl_aa, nl_mul, nl_rmul, nl_mm, pu_wi_1, pu_wi_2, bX12_back_0, bX12_back_18, bX12_back_20, a_ai, a_ald, a_gr, a_icgt, a_iflt, a_ifne, a_ild, a_ist, a_push, a_zret, fx_71_2 hx, sh_71, sh_74, pu_rv, pu_as, Value.category, pu_bk, pu_kl, pu_qe0, pu_qe1, e, c1, c2, h]
  all_goals try simp [bX12_back_0, bX12_back_18, bX12_back_20, a_ai, a_ald, a_gr, a_icgt, a_iflt, a_ifne, a_ild, a_ist, a_push, a_zret, fx_71_2 hx, sh_71, sh_74, pu_rv, pu_as, Value.category, pu_bk, pu_kl, List.replicate, pu_wi_1, pu_wi_2, nl_add, nl_ladd, nl_aa, nl_mul, nl_rmul, nl_mm, pu_qe0, pu_qe1, e, c1, c2, h]
  all_goals try simp (maxSteps := 400000) (disch := omega) [nl_tle, nl_fle, nl_tlt, nl_flt, nl_teq, nl_feq, nl_sub, nl_ss, nl_lt, nl_llt, nl_ltt, nl_le, nl_lle, nl_lee, nl_eq, nl_leq, nl_ee, nl_div, nl_rem, nl_cl, nl_n1, nl_n2, nl_n3, nl_n4, nl_add, nl_ladd, nl_aa, nl_mul, nl_rmul, nl_mm, pu_wi_1, pu_wi_2, bX12_back_0, bX12_back_18, bX12_back_20, a_ai, a_ald, a_gr, a_icgt, a_iflt, a_ifne, a_ild, a_ist, a_push, a_zret, fx_71_2 hx, sh_71, sh_74, pu_rv, pu_as, Value.category, pu_bk, pu_kl, pu_qe0, pu_qe1, e, c1, c2, h]
