/-! row -/
def pz_ri (I : Nat → Nat → Int32) (r m : Nat) (w : Nat → Int32) : Nat → Nat → Int32 := fun a j => if a = 29 then (if j = r then nI m else I a j) else if a = 30 then (if r * 100 ≤ j ∧ j < r * 100 + 100 ∧ j < r * 100 + m then w (j - r * 100) else I a j) else I a j
def pz_rs (s : Nat → Int32) (r m : Nat) (w : Nat → Int32) : Nat → Int32 := fun j => if j = 30632 + 601 * r then nI m else if 30632 + 601 * r < j ∧ j ≤ 30632 + 601 * r + m then w (j - (30632 + 601 * r + 1)) else s j
section
variable {I : Nat → Nat → Int32} {L : Nat → Nat → Int64} {s : Nat → Int32}
theorem St_row {r m : Nat} {w : Nat → Int32} (h : pu_St I L s) (hr1 : r < 2 * cK I) (hm : m ≤ 600) (h2 : ∀ i, i < m → 0 ≤ (w i).toInt ∧ (w i).toInt < 65536) : pu_St (pz_ri I r m w) L (pz_rs s r m w) := by
  obtain ⟨hw, hr⟩ := h
  have hK := wx_bK hw
  have l1 := wx_kl hw
  have l2 := wx_kw hw
  have E : ∀ j, j < 30632 ∨ 59480 ≤ j → pz_rs s r m w j = s j := fun j hj => by
    unfold pz_rs
    rw [if_neg (by omega), if_neg (by omega)]
  refine ⟨⟨(wg_c hw :), (wg_b hw :), (wg_p hw :), (wg_u hw :), (wg_n hw :), ⟨(wx_kt hw :), (wx_kr hw :), (wx_ko hw :), (wx_km hw :), fun k hk => ?_, fun k i hk hi hl => ?_, (wx_kp hw :)⟩, (wg_d hw :), (wg_e hw :)⟩, ?_, ?_, ?_, ?_, ?_, ?_, ?_, ?_, ?_⟩
  · have q := l1 k hk
    show -1 ≤ (if k = r then nI m else I 29 k).toInt ∧ (if k = r then nI m else I 29 k).toInt ≤ 600
    by_cases e : k = r
    · rw [if_pos e, nI_toInt (by omega)]; omega
    · rw [if_neg e]; exact q
  · have hl2 : nI i < (if k = r then nI m else I 29 k) := hl
    show 0 ≤ (if r * 100 ≤ k * 100 + i ∧ k * 100 + i < r * 100 + 100 ∧ k * 100 + i < r * 100 + m then w (k * 100 + i - r * 100) else I 30 (k * 100 + i)).toInt ∧ (if r * 100 ≤ k * 100 + i ∧ k * 100 + i < r * 100 + 100 ∧ k * 100 + i < r * 100 + m then w (k * 100 + i - r * 100) else I 30 (k * 100 + i)).toInt < 65536
    by_cases e : k = r
    · rw [if_pos e] at hl2
      rw [nI_ltI (by omega) (by omega)] at hl2
      rw [if_pos (by omega)]
      exact h2 _ (by omega)
    · rw [if_neg e] at hl2
      rw [if_neg (by omega)]
      exact l2 k i hk hi hl2
  · have T := rf_h (rg_h hr) (s' := pz_rs s r m w) (fun j _ _ => E j (by omega))
    exact (T :)
  · have T := rf_p (rg_p hr) (wx_bP hw) (s' := pz_rs s r m w) (fun j _ _ => E j (by omega))
    exact (T :)
  · have T := rf_u (rg_u hr) (wx_bU hw) (s' := pz_rs s r m w) (fun j _ _ => E j (by omega))
    exact (T :)
  · have T := rf_n (rg_n hr) ⟨wx_bN hw, wx_bP hw⟩ (s' := pz_rs s r m w) (fun j _ _ => E j (by omega)) (fun j _ _ => E j (by omega))
    exact (T :)
  · have T := rf_t (rg_t hr) (wx_bT hw) (s' := pz_rs s r m w) (fun j _ _ => E j (by omega)) (fun j _ _ => E j (by omega))
    exact (T :)
  · refine ⟨fun k hk => ?_, fun k hk => ?_, fun k i hk hi hl => ?_⟩
    · have q : k < cK I := hk
      rw [E _ (by omega)]
      exact (rl_k0 hr k hk :)
    · have q := rl_k1 hr k hk
      have hk2 : k < 2 * cK I := hk
      show pz_rs s r m w (30632 + 601 * k) = (if k = r then nI m else I 29 k)
      unfold pz_rs
      by_cases e : k = r
      · rw [if_pos e, if_pos (by omega)]
      · rw [if_neg e, if_neg (by omega), if_neg (by omega)]
        exact q
    · have hl2 : nI i < (if k = r then nI m else I 29 k) := hl
      have hk2 : k < 2 * cK I := hk
      show pz_rs s r m w (30632 + 601 * k + 1 + i) = (if r * 100 ≤ k * 100 + i ∧ k * 100 + i < r * 100 + 100 ∧ k * 100 + i < r * 100 + m then w (k * 100 + i - r * 100) else I 30 (k * 100 + i))
      unfold pz_rs
      by_cases e : k = r
      · rw [if_pos e] at hl2
        rw [nI_ltI (by omega) (by omega)] at hl2
        rw [if_neg (by omega), if_pos (by omega), if_pos (by omega)]
        congr 1
        omega
      · rw [if_neg e] at hl2
        rw [if_neg (by omega), if_neg (by omega), if_neg (by omega)]
        exact rl_k2 hr k i hk hi hl2
  · have T := rf_d (rg_d hr) (wx_bD hw) (s' := pz_rs s r m w) (fun j _ _ => E j (by omega))
    exact (T :)
  · have T := rf_f (rg_f hr) (wx_bF hw) (s' := pz_rs s r m w) (fun j _ _ => E j (by omega))
    exact (T :)
  · have T := rf_e (rg_e hr) ⟨wx_bS hw, wx_bE hw, wx_bQ hw, wx_bW hw, wx_bO hw, wx_bR hw⟩ (s' := pz_rs s r m w) (fun j _ _ => E j (by omega))
    exact (T :)
end
/-- memory behind i steps of keepRow's loop, and of row's -/
def pz_km (M : pu_M) (r i : Nat) (w : Nat → Int32) : pu_M := (fun a j => if a = 30 ∧ r * 100 ≤ j ∧ j < r * 100 + 100 ∧ j < r * 100 + i then w (j - r * 100) else M.1 a j, M.2)
theorem pz_km_s {M : pu_M} {r i : Nat} {w : Nat → Int32} (hi : i < 100) : pu_wi (pz_km M r i w) 30 (r * 100 + i) (w i) = pz_km M r (i + 1) w := by
  unfold pu_wi pz_km
  congr 1
  funext a j
  by_cases e : a = 30
  · by_cases f : j = r * 100 + i
    · have : j - r * 100 = i := by omega
      simp only [e, f, if_true]
      rw [if_pos ⟨trivial, by omega⟩]
      congr 1
      omega
    · simp only [e, f, if_true, if_false]
      by_cases g : r * 100 ≤ j ∧ j < r * 100 + 100 ∧ j < r * 100 + i
      · rw [if_pos ⟨trivial, g⟩, if_pos ⟨trivial, by omega⟩]
      · rw [if_neg (fun q => g q.2), if_neg (fun q => g (by omega))]
  · simp [e]
theorem pz_km_x {M : pu_M} {r i : Nat} {w : Nat → Int32} (hi : 100 ≤ i) : pz_km M r i w = pz_km M r (i + 1) w := by
  unfold pz_km
  congr 1
  funext a j
  by_cases g : a = 30 ∧ r * 100 ≤ j ∧ j < r * 100 + 100 ∧ j < r * 100 + i
  · rw [if_pos g, if_pos (by omega)]
  · rw [if_neg g, if_neg (by omega)]
theorem pz_km_1 {M : pu_M} {r i : Nat} {w : Nat → Int32} {a j : Nat} (h : a ≠ 30) : (pz_km M r i w).1 a j = M.1 a j := if_neg (fun q => h q.1)
theorem c_row_l {M : pu_M} (hx : pu_fx M) (k sd m : Nat) (w : Nat → Int32) (hk : k < 24) (hsd : sd < 2) (hm : m ≤ 600) (hw : ∀ i, i < m → M.1 2 (2 * i) * 256 + M.1 2 (2 * i + 1) = w i) : ∀ (n i : Nat), i + n = m → pu_r 390 [some (.ref 0), some (.int (nI k)), some (.int (nI sd)), some (.int (nI m)), some (.int (nI i))] [] (pz_km M (2 * k + sd) i w) = some (some (.int (nI m)), pz_km M (2 * k + sd) m w)
  | 0, i, h => by
    have hc : nI m ≤ nI i := nI_le (by omega) (by omega)
    have e : i = m := by omega
    subst e
    have hx : pu_fx (pz_km M (2 * k + sd) i w) := hx
    generalize pz_km M (2 * k + sd) i w = N at *
    rw [qX11_keepRow_64]
    simp [bX11_keepRow_64, bX11_keepRow_121, bX11_keepRow_108, a_ai, a_ald, a_cv, a_gr, a_iadd, a_icge, a_ild, a_imul, a_inc, a_iret, a_push, fx_0_0 hx, fx_0_2 hx, fx_1_1 hx, fx_3_1 hx, fx_5_3 hx, sh_0, sh_1, sh_2, sh_25, sh_3, sh_4, sh_5, pu_rv, pu_as, Value.category, pu_bk, pu_kl, List.replicate, pu_wi_1, pu_wi_2, nl_add, nl_ladd, nl_aa, nl_mul, nl_rmul, nl_mm, pu_qe0, pu_qe1, hc]
    all_goals try simp (maxSteps := 400000) (disch := omega) [nl_tle, nl_fle, nl_tlt, nl_flt, nl_teq, nl_feq, nl_sub, nl_ss, nl_lt, nl_llt, nl_ltt, nl_le, nl_lle, nl_lee, nl_eq, nl_leq, nl_ee, nl_div, nl_rem, nl_cl, nl_n1, nl_n2, nl_n3, nl_n4, nl_add, nl_ladd, nl_aa, nl_mul, nl_rmul, nl_mm, pu_wi_1, pu_wi_2, bX11_keepRow_64, bX11_keepRow_121, bX11_keepRow_108, a_ai, a_ald, a_cv, a_gr, a_iadd, a_icge, a_ild, a_imul, a_inc, a_iret, a_push, fx_0_0 hx, fx_0_2 hx, fx_1_1 hx, fx_3_1 hx, fx_5_3 hx, sh_0, sh_1, sh_2, sh_25, sh_3, sh_4, sh_5, pu_rv, pu_as, Value.category, pu_bk, pu_kl, pu_qe0, pu_qe1, hc]
    all_goals try simp [bX11_keepRow_64, bX11_keepRow_121, bX11_keepRow_108, a_ai, a_ald, a_cv, a_gr, a_iadd, a_icge, a_ild, a_imul, a_inc, a_iret, a_push, fx_0_0 hx, fx_0_2 hx, fx_1_1 hx, fx_3_1 hx, fx_5_3 hx, sh_0, sh_1, sh_2, sh_25, sh_3, sh_4, sh_5, pu_rv, pu_as, Value.category, pu_bk, pu_kl, List.replicate, pu_wi_1, pu_wi_2, nl_add, nl_ladd, nl_aa, nl_mul, nl_rmul, nl_mm, pu_qe0, pu_qe1, hc]
    all_goals try simp (maxSteps := 400000) (disch := omega) [nl_tle, nl_fle, nl_tlt, nl_flt, nl_teq, nl_feq, nl_sub, nl_ss, nl_lt, nl_llt, nl_ltt, nl_le, nl_lle, nl_lee, nl_eq, nl_leq, nl_ee, nl_div, nl_rem, nl_cl, nl_n1, nl_n2, nl_n3, nl_n4, nl_add, nl_ladd, nl_aa, nl_mul, nl_rmul, nl_mm, pu_wi_1, pu_wi_2, bX11_keepRow_64, bX11_keepRow_121, bX11_keepRow_108, a_ai, a_ald, a_cv, a_gr, a_iadd, a_icge, a_ild, a_imul, a_inc, a_iret, a_push, fx_0_0 hx, fx_0_2 hx, fx_1_1 hx, fx_3_1 hx, fx_5_3 hx, sh_0, sh_1, sh_2, sh_25, sh_3, sh_4, sh_5, pu_rv, pu_as, Value.category, pu_bk, pu_kl, pu_qe0, pu_qe1, hc]
  | n + 1, i, h => by
    have hc : ¬ nI m ≤ nI i := nI_ge (by omega) (by omega)
    have ih := c_row_l hx k sd m w hk hsd hm hw n (i + 1) (by omega)
    have b1 : (pz_km M (2 * k + sd) i w).1 2 (2 * i) = M.1 2 (2 * i) := pz_km_1 (by decide)
    have b2 : (pz_km M (2 * k + sd) i w).1 2 (2 * i + 1) = M.1 2 (2 * i + 1) := pz_km_1 (by decide)
    have w1 := hw i (by omega)
    have hx : pu_fx (pz_km M (2 * k + sd) i w) := hx
    have st : pu_r 122 [some (.ref 25), some (.int (nI k)), some (.int (nI sd)), some (.int (nI i)), some (.int (w i))] [] (pz_km M (2 * k + sd) i w) = some (none, pz_km M (2 * k + sd) (i + 1) w) := by
      by_cases c : i < 100
      · have c1 : ¬ 100 ≤ nI i := nI_ge (b := 100) c (by omega)
        rw [← pz_km_s c]
        generalize pz_km M (2 * k + sd) i w = N at *
        rw [qX10_setRowWhole]
        simp [a_ent, bX10_setRowWhole_0, bX10_setRowWhole_23, a_ald, a_gr, a_iadd, a_icge, a_ild, a_imul, a_push, a_vret, a_wi, fx_25_6 hx, sh_25, sh_30, pu_rv, pu_as, Value.category, pu_bk, pu_kl, List.replicate, pu_wi_1, pu_wi_2, nl_add, nl_ladd, nl_aa, nl_mul, nl_rmul, nl_mm, pu_qe0, pu_qe1, c1]
        all_goals try simp (maxSteps := 400000) (disch := omega) [nl_tle, nl_fle, nl_tlt, nl_flt, nl_teq, nl_feq, nl_sub, nl_ss, nl_lt, nl_llt, nl_ltt, nl_le, nl_lle, nl_lee, nl_eq, nl_leq, nl_ee, nl_div, nl_rem, nl_cl, nl_n1, nl_n2, nl_n3, nl_n4, nl_add, nl_ladd, nl_aa, nl_mul, nl_rmul, nl_mm, pu_wi_1, pu_wi_2, bX10_setRowWhole_0, bX10_setRowWhole_23, a_ald, a_gr, a_iadd, a_icge, a_ild, a_imul, a_push, a_vret, a_wi, fx_25_6 hx, sh_25, sh_30, pu_rv, pu_as, Value.category, pu_bk, pu_kl, pu_qe0, pu_qe1, c1]
        all_goals try simp [bX10_setRowWhole_0, bX10_setRowWhole_23, a_ald, a_gr, a_iadd, a_icge, a_ild, a_imul, a_push, a_vret, a_wi, fx_25_6 hx, sh_25, sh_30, pu_rv, pu_as, Value.category, pu_bk, pu_kl, List.replicate, pu_wi_1, pu_wi_2, nl_add, nl_ladd, nl_aa, nl_mul, nl_rmul, nl_mm, pu_qe0, pu_qe1, c1]
        all_goals try simp (maxSteps := 400000) (disch := omega) [nl_tle, nl_fle, nl_tlt, nl_flt, nl_teq, nl_feq, nl_sub, nl_ss, nl_lt, nl_llt, nl_ltt, nl_le, nl_lle, nl_lee, nl_eq, nl_leq, nl_ee, nl_div, nl_rem, nl_cl, nl_n1, nl_n2, nl_n3, nl_n4, nl_add, nl_ladd, nl_aa, nl_mul, nl_rmul, nl_mm, pu_wi_1, pu_wi_2, bX10_setRowWhole_0, bX10_setRowWhole_23, a_ald, a_gr, a_iadd, a_icge, a_ild, a_imul, a_push, a_vret, a_wi, fx_25_6 hx, sh_25, sh_30, pu_rv, pu_as, Value.category, pu_bk, pu_kl, pu_qe0, pu_qe1, c1]
      · have c1 : 100 ≤ nI i := nI_le (a := 100) (by omega) (by omega)
        rw [← pz_km_x (by omega)]
        generalize pz_km M (2 * k + sd) i w = N at *
        rw [qX10_setRowWhole]
        simp [a_ent, bX10_setRowWhole_0, bX10_setRowWhole_23, a_ald, a_gr, a_iadd, a_icge, a_ild, a_imul, a_push, a_vret, a_wi, fx_25_6 hx, sh_25, sh_30, pu_rv, pu_as, Value.category, pu_bk, pu_kl, List.replicate, pu_wi_1, pu_wi_2, nl_add, nl_ladd, nl_aa, nl_mul, nl_rmul, nl_mm, pu_qe0, pu_qe1, c1]
        all_goals try simp (maxSteps := 400000) (disch := omega) [nl_tle, nl_fle, nl_tlt, nl_flt, nl_teq, nl_feq, nl_sub, nl_ss, nl_lt, nl_llt, nl_ltt, nl_le, nl_lle, nl_lee, nl_eq, nl_leq, nl_ee, nl_div, nl_rem, nl_cl, nl_n1, nl_n2, nl_n3, nl_n4, nl_add, nl_ladd, nl_aa, nl_mul, nl_rmul, nl_mm, pu_wi_1, pu_wi_2, bX10_setRowWhole_0, bX10_setRowWhole_23, a_ald, a_gr, a_iadd, a_icge, a_ild, a_imul, a_push, a_vret, a_wi, fx_25_6 hx, sh_25, sh_30, pu_rv, pu_as, Value.category, pu_bk, pu_kl, pu_qe0, pu_qe1, c1]
        all_goals try simp [bX10_setRowWhole_0, bX10_setRowWhole_23, a_ald, a_gr, a_iadd, a_icge, a_ild, a_imul, a_push, a_vret, a_wi, fx_25_6 hx, sh_25, sh_30, pu_rv, pu_as, Value.category, pu_bk, pu_kl, List.replicate, pu_wi_1, pu_wi_2, nl_add, nl_ladd, nl_aa, nl_mul, nl_rmul, nl_mm, pu_qe0, pu_qe1, c1]
        all_goals try simp (maxSteps := 400000) (disch := omega) [nl_tle, nl_fle, nl_tlt, nl_flt, nl_teq, nl_feq, nl_sub, nl_ss, nl_lt, nl_llt, nl_ltt, nl_le, nl_lle, nl_lee, nl_eq, nl_leq, nl_ee, nl_div, nl_rem, nl_cl, nl_n1, nl_n2, nl_n3, nl_n4, nl_add, nl_ladd, nl_aa, nl_mul, nl_rmul, nl_mm, pu_wi_1, pu_wi_2, bX10_setRowWhole_0, bX10_setRowWhole_23, a_ald, a_gr, a_iadd, a_icge, a_ild, a_imul, a_push, a_vret, a_wi, fx_25_6 hx, sh_25, sh_30, pu_rv, pu_as, Value.category, pu_bk, pu_kl, pu_qe0, pu_qe1, c1]
    generalize pz_km M (2 * k + sd) i w = N at *
    generalize pz_km M (2 * k + sd) (i + 1) w = N2 at *
    rw [qX11_keepRow_64]
    simp [bX11_keepRow_64, bX11_keepRow_121, bX11_keepRow_108, a_ai, a_ald, a_cv, a_gr, a_iadd, a_icge, a_ild, a_imul, a_inc, a_iret, a_push, fx_0_0 hx, fx_0_2 hx, fx_1_1 hx, fx_3_1 hx, fx_5_3 hx, sh_0, sh_1, sh_2, sh_25, sh_3, sh_4, sh_5, pu_rv, pu_as, Value.category, pu_bk, pu_kl, List.replicate, pu_wi_1, pu_wi_2, nl_add, nl_ladd, nl_aa, nl_mul, nl_rmul, nl_mm, pu_qe0, pu_qe1, hc, b1, b2, w1, st, ih]
    all_goals try simp (maxSteps := 400000) (disch := omega) [nl_tle, nl_fle, nl_tlt, nl_flt, nl_teq, nl_feq, nl_sub, nl_ss, nl_lt, nl_llt, nl_ltt, nl_le, nl_lle, nl_lee, nl_eq, nl_leq, nl_ee, nl_div, nl_rem, nl_cl, nl_n1, nl_n2, nl_n3, nl_n4, nl_add, nl_ladd, nl_aa, nl_mul, nl_rmul, nl_mm, pu_wi_1, pu_wi_2, bX11_keepRow_64, bX11_keepRow_121, bX11_keepRow_108, a_ai, a_ald, a_cv, a_gr, a_iadd, a_icge, a_ild, a_imul, a_inc, a_iret, a_push, fx_0_0 hx, fx_0_2 hx, fx_1_1 hx, fx_3_1 hx, fx_5_3 hx, sh_0, sh_1, sh_2, sh_25, sh_3, sh_4, sh_5, pu_rv, pu_as, Value.category, pu_bk, pu_kl, pu_qe0, pu_qe1, hc, b1, b2, w1, st, ih]
    all_goals try simp [bX11_keepRow_64, bX11_keepRow_121, bX11_keepRow_108, a_ai, a_ald, a_cv, a_gr, a_iadd, a_icge, a_ild, a_imul, a_inc, a_iret, a_push, fx_0_0 hx, fx_0_2 hx, fx_1_1 hx, fx_3_1 hx, fx_5_3 hx, sh_0, sh_1, sh_2, sh_25, sh_3, sh_4, sh_5, pu_rv, pu_as, Value.category, pu_bk, pu_kl, List.replicate, pu_wi_1, pu_wi_2, nl_add, nl_ladd, nl_aa, nl_mul, nl_rmul, nl_mm, pu_qe0, pu_qe1, hc, b1, b2, w1, st, ih]
    all_goals try simp (maxSteps := 400000) (disch := omega) [nl_tle, nl_fle, nl_tlt, nl_flt, nl_teq, nl_feq, nl_sub, nl_ss, nl_lt, nl_llt, nl_ltt, nl_le, nl_lle, nl_lee, nl_eq, nl_leq, nl_ee, nl_div, nl_rem, nl_cl, nl_n1, nl_n2, nl_n3, nl_n4, nl_add, nl_ladd, nl_aa, nl_mul, nl_rmul, nl_mm, pu_wi_1, pu_wi_2, bX11_keepRow_64, bX11_keepRow_121, bX11_keepRow_108, a_ai, a_ald, a_cv, a_gr, a_iadd, a_icge, a_ild, a_imul, a_inc, a_iret, a_push, fx_0_0 hx, fx_0_2 hx, fx_1_1 hx, fx_3_1 hx, fx_5_3 hx, sh_0, sh_1, sh_2, sh_25, sh_3, sh_4, sh_5, pu_rv, pu_as, Value.category, pu_bk, pu_kl, pu_qe0, pu_qe1, hc, b1, b2, w1, st, ih]
def pz_rm (M : pu_M) (a0 i : Nat) (w : Nat → Int32) : pu_M := (fun a j => if a = 72 ∧ a0 < j ∧ j ≤ a0 + i then w (j - (a0 + 1)) else M.1 a j, M.2)
theorem pz_rm_s {M : pu_M} {a0 i : Nat} {w : Nat → Int32} : pu_wi (pz_rm M a0 i w) 72 (a0 + 1 + i) (w i) = pz_rm M a0 (i + 1) w := by
  unfold pu_wi pz_rm
  congr 1
  funext a j
  by_cases e : a = 72
  · by_cases f : j = a0 + 1 + i
    · simp only [e, f, if_true]
      rw [if_pos ⟨trivial, by omega⟩]
      congr 1
      omega
    · simp only [e, f, if_true, if_false]
      by_cases g : a0 < j ∧ j ≤ a0 + i
      · rw [if_pos ⟨trivial, g⟩, if_pos ⟨trivial, by omega⟩]
      · rw [if_neg (fun q => g q.2), if_neg (fun q => g (by omega))]
  · simp [e]
theorem pz_rm_1 {M : pu_M} {a0 i : Nat} {w : Nat → Int32} {a j : Nat} (h : a ≠ 72) : (pz_rm M a0 i w).1 a j = M.1 a j := if_neg (fun q => h q.1)
theorem r_row_l {M : pu_M} (hx : pu_fx M) (x y : Int32) (a0 t : Nat) (w : Nat → Int32) (ha : a0 + 601 ≤ 70000) (ht : t ≤ 1200) (hn : M.1 71 6 = nI t) (hw : ∀ i, i < t / 2 → (M.1 76 (2 * i) &&& 255) * 256 + (M.1 76 (2 * i + 1) &&& 255) = w i) : ∀ (n i : Nat), i + n = t / 2 → pu_r 478 [some (.ref 71), some (.int x), some (.int y), some (.int (nI a0)), some (.int (nI i))] [] (pz_rm M a0 i w) = some (some (.int (nI (t / 2))), pz_rm M a0 (t / 2) w)
  | 0, i, h => by
    have e : i = t / 2 := by omega
    subst e
    have dv : nI t / 2 = nI (t / 2) := pk_div (d := 2) (by omega) (by omega) (by omega)
    have hc : nI (t / 2) ≤ nI (t / 2) := nI_le (by omega) (by omega)
    have b1 : (pz_rm M a0 (t / 2) w).1 71 6 = nI t := by rw [pz_rm_1 (by decide)]; exact hn
    have hx : pu_fx (pz_rm M a0 (t / 2) w) := hx
    generalize pz_rm M a0 (t / 2) w = N at *
    rw [qX12_row_65]
    simp [bX12_row_65, bX12_row_116, bX12_row_103, a_ald, a_cv, a_gi, a_gr, a_iadd, a_icge, a_idiv, a_ild, a_imul, a_inc, a_iret, a_push, a_wi, fx_71_0 hx, sh_71, sh_72, pu_rv, pu_as, Value.category, pu_bk, pu_kl, List.replicate, pu_wi_1, pu_wi_2, nl_add, nl_ladd, nl_aa, nl_mul, nl_rmul, nl_mm, pu_qe0, pu_qe1, b1, dv, hc]
    all_goals try simp (maxSteps := 400000) (disch := omega) [nl_tle, nl_fle, nl_tlt, nl_flt, nl_teq, nl_feq, nl_sub, nl_ss, nl_lt, nl_llt, nl_ltt, nl_le, nl_lle, nl_lee, nl_eq, nl_leq, nl_ee, nl_div, nl_rem, nl_cl, nl_n1, nl_n2, nl_n3, nl_n4, nl_add, nl_ladd, nl_aa, nl_mul, nl_rmul, nl_mm, pu_wi_1, pu_wi_2, bX12_row_65, bX12_row_116, bX12_row_103, a_ald, a_cv, a_gi, a_gr, a_iadd, a_icge, a_idiv, a_ild, a_imul, a_inc, a_iret, a_push, a_wi, fx_71_0 hx, sh_71, sh_72, pu_rv, pu_as, Value.category, pu_bk, pu_kl, pu_qe0, pu_qe1, b1, dv, hc]
    all_goals try simp [bX12_row_65, bX12_row_116, bX12_row_103, a_ald, a_cv, a_gi, a_gr, a_iadd, a_icge, a_idiv, a_ild, a_imul, a_inc, a_iret, a_push, a_wi, fx_71_0 hx, sh_71, sh_72, pu_rv, pu_as, Value.category, pu_bk, pu_kl, List.replicate, pu_wi_1, pu_wi_2, nl_add, nl_ladd, nl_aa, nl_mul, nl_rmul, nl_mm, pu_qe0, pu_qe1, b1, dv, hc]
    all_goals try simp (maxSteps := 400000) (disch := omega) [nl_tle, nl_fle, nl_tlt, nl_flt, nl_teq, nl_feq, nl_sub, nl_ss, nl_lt, nl_llt, nl_ltt, nl_le, nl_lle, nl_lee, nl_eq, nl_leq, nl_ee, nl_div, nl_rem, nl_cl, nl_n1, nl_n2, nl_n3, nl_n4, nl_add, nl_ladd, nl_aa, nl_mul, nl_rmul, nl_mm, pu_wi_1, pu_wi_2, bX12_row_65, bX12_row_116, bX12_row_103, a_ald, a_cv, a_gi, a_gr, a_iadd, a_icge, a_idiv, a_ild, a_imul, a_inc, a_iret, a_push, a_wi, fx_71_0 hx, sh_71, sh_72, pu_rv, pu_as, Value.category, pu_bk, pu_kl, pu_qe0, pu_qe1, b1, dv, hc]
  | n + 1, i, h => by
    have dv : nI t / 2 = nI (t / 2) := pk_div (d := 2) (by omega) (by omega) (by omega)
    have hc : ¬ nI (t / 2) ≤ nI i := nI_ge (by omega) (by omega)
    have ih := r_row_l hx x y a0 t w ha ht hn hw n (i + 1) (by omega)
    have w1 := hw i (by omega)
    have b0 : (pz_rm M a0 i w).1 71 6 = nI t := by rw [pz_rm_1 (by decide)]; exact hn
    have b1 : (pz_rm M a0 i w).1 76 (2 * i) = M.1 76 (2 * i) := pz_rm_1 (by decide)
    have b2 : (pz_rm M a0 i w).1 76 (2 * i + 1) = M.1 76 (2 * i + 1) := pz_rm_1 (by decide)
    have hx : pu_fx (pz_rm M a0 i w) := hx
    have h1 := e_X12_here hx b0 ht (2 * i) (by omega)
    have h2 := e_X12_here hx b0 ht (2 * i + 1) (by omega)
    rw [if_pos (by omega), b1] at h1
    rw [if_pos (by omega), b2] at h2
    rw [← pz_rm_s] at ih
    generalize pz_rm M a0 i w = N at *
    rw [qX12_row_65]
    simp [bX12_row_65, bX12_row_116, bX12_row_103, a_ald, a_cv, a_gi, a_gr, a_iadd, a_icge, a_idiv, a_ild, a_imul, a_inc, a_iret, a_push, a_wi, fx_71_0 hx, sh_71, sh_72, pu_rv, pu_as, Value.category, pu_bk, pu_kl, List.replicate, pu_wi_1, pu_wi_2, nl_add, nl_ladd, nl_aa, nl_mul, nl_rmul, nl_mm, pu_qe0, pu_qe1, b0, dv, hc, h1, h2, w1]
    all_goals try simp (maxSteps := 400000) (disch := omega) [nl_tle, nl_fle, nl_tlt, nl_flt, nl_teq, nl_feq, nl_sub, nl_ss, nl_lt, nl_llt, nl_ltt, nl_le, nl_lle, nl_lee, nl_eq, nl_leq, nl_ee, nl_div, nl_rem, nl_cl, nl_n1, nl_n2, nl_n3, nl_n4, nl_add, nl_ladd, nl_aa, nl_mul, nl_rmul, nl_mm, pu_wi_1, pu_wi_2, bX12_row_65, bX12_row_116, bX12_row_103, a_ald, a_cv, a_gi, a_gr, a_iadd, a_icge, a_idiv, a_ild, a_imul, a_inc, a_iret, a_push, a_wi, fx_71_0 hx, sh_71, sh_72, pu_rv, pu_as, Value.category, pu_bk, pu_kl, pu_qe0, pu_qe1, b0, dv, hc, h1, h2, w1]
    all_goals try simp [bX12_row_65, bX12_row_116, bX12_row_103, a_ald, a_cv, a_gi, a_gr, a_iadd, a_icge, a_idiv, a_ild, a_imul, a_inc, a_iret, a_push, a_wi, fx_71_0 hx, sh_71, sh_72, pu_rv, pu_as, Value.category, pu_bk, pu_kl, List.replicate, pu_wi_1, pu_wi_2, nl_add, nl_ladd, nl_aa, nl_mul, nl_rmul, nl_mm, pu_qe0, pu_qe1, b0, dv, hc, h1, h2, w1]
    all_goals try simp (maxSteps := 400000) (disch := omega) [nl_tle, nl_fle, nl_tlt, nl_flt, nl_teq, nl_feq, nl_sub, nl_ss, nl_lt, nl_llt, nl_ltt, nl_le, nl_lle, nl_lee, nl_eq, nl_leq, nl_ee, nl_div, nl_rem, nl_cl, nl_n1, nl_n2, nl_n3, nl_n4, nl_add, nl_ladd, nl_aa, nl_mul, nl_rmul, nl_mm, pu_wi_1, pu_wi_2, bX12_row_65, bX12_row_116, bX12_row_103, a_ald, a_cv, a_gi, a_gr, a_iadd, a_icge, a_idiv, a_ild, a_imul, a_inc, a_iret, a_push, a_wi, fx_71_0 hx, sh_71, sh_72, pu_rv, pu_as, Value.category, pu_bk, pu_kl, pu_qe0, pu_qe1, b0, dv, hc, h1, h2, w1]
    exact ih
theorem pz_byte (x : Int32) : ∃ b : Nat, b < 256 ∧ x &&& 255 = nI b := pk_andE x 8 rfl
