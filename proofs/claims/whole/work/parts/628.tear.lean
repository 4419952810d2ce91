/-! a street's rows -/
section
variable {I : Nat → Nat → Int32} {L : Nat → Nat → Int64} {s : Nat → Int32}
theorem St_rl {r : Nat} {v : Int32} (h : pu_St I L s) (hr1 : r < 2 * cK I) (h1 : -1 ≤ v.toInt) (h2 : v ≤ I 29 r) : pu_St (pu_ui I 29 r v) L (pu_us s (30632 + 601 * r) v) := by
  obtain ⟨hw, hr⟩ := h
  have hk := wg_k hw
  have hK := wx_bK hw
  have l1 := wx_kl hw
  have l2 := wx_kw hw
  have h3 := Int32.le_iff_toInt_le.mp h2
  refine ⟨⟨(wg_c hw :), (wg_b hw :), (wg_p hw :), (wg_u hw :), (wg_n hw :), ⟨(wx_kt hw :), (wx_kr hw :), (wx_ko hw :), (wx_km hw :), fun k hk => ?_, fun k i hk hi hl => ?_, (wx_kp hw :)⟩, (wg_d hw :), (wg_e hw :)⟩, ?_, ?_, ?_, ?_, ?_, ?_, ?_, ?_, ?_⟩
  · have q := l1 k hk
    have q2 := l1 r hr1
    show -1 ≤ (if k = r then v else I 29 k).toInt ∧ (if k = r then v else I 29 k).toInt ≤ 600
    by_cases e : k = r
    · rw [if_pos e]; omega
    · rw [if_neg e]; exact q
  · refine (l2 k i hk hi ?_ :)
    have hl2 : nI i < (if k = r then v else I 29 k) := hl
    by_cases e : k = r
    · rw [if_pos e] at hl2
      rw [e]
      exact Int32.lt_of_lt_of_le hl2 h2
    · rw [if_neg e] at hl2
      exact hl2
  · have T := rf_h (rg_h hr) (s' := pu_us s (30632 + 601 * r) v) (fun j _ _ => if_neg (by omega))
    exact (T :)
  · have T := rf_p (rg_p hr) (wx_bP hw) (s' := pu_us s (30632 + 601 * r) v) (fun j _ _ => if_neg (by omega))
    exact (T :)
  · have T := rf_u (rg_u hr) (wx_bU hw) (s' := pu_us s (30632 + 601 * r) v) (fun j _ _ => if_neg (by omega))
    exact (T :)
  · have T := rf_n (rg_n hr) ⟨wx_bN hw, wx_bP hw⟩ (s' := pu_us s (30632 + 601 * r) v) (fun j _ _ => if_neg (by omega)) (fun j _ _ => if_neg (by omega))
    exact (T :)
  · have T := rf_t (rg_t hr) (wx_bT hw) (s' := pu_us s (30632 + 601 * r) v) (fun j _ _ => if_neg (by omega)) (fun j _ _ => if_neg (by omega))
    exact (T :)
  · refine ⟨fun k hk => ?_, fun k hk => ?_, fun k i hk hi hl => ?_⟩
    · have q : k < cK I := hk
      show (if _ then _ else _) = _
      rw [if_neg (by omega)]
      exact (rl_k0 hr k hk :)
    · have q := rl_k1 hr k hk
      show (if 30632 + 601 * k = 30632 + 601 * r then v else s (30632 + 601 * k)) = (if k = r then v else I 29 k)
      by_cases e : k = r
      · rw [if_pos e, if_pos (by omega)]
      · rw [if_neg e, if_neg (by omega)]
        exact q
    · show (if 30632 + 601 * k + 1 + i = 30632 + 601 * r then v else s (30632 + 601 * k + 1 + i)) = I 30 (k * 100 + i)
      rw [if_neg (by omega)]
      refine rl_k2 hr k i hk hi ?_
      have hl2 : nI i < (if k = r then v else I 29 k) := hl
      by_cases e : k = r
      · rw [if_pos e] at hl2
        rw [e]
        exact Int32.lt_of_lt_of_le hl2 h2
      · rw [if_neg e] at hl2
        exact hl2
  · have T := rf_d (rg_d hr) (wx_bD hw) (s' := pu_us s (30632 + 601 * r) v) (fun j _ _ => if_neg (by omega))
    exact (T :)
  · have T := rf_f (rg_f hr) (wx_bF hw) (s' := pu_us s (30632 + 601 * r) v) (fun j _ _ => if_neg (by omega))
    exact (T :)
  · have T := rf_e (rg_e hr) ⟨wx_bS hw, wx_bE hw, wx_bQ hw, wx_bW hw, wx_bO hw, wx_bR hw⟩ (s' := pu_us s (30632 + 601 * r) v) (fun j _ _ => if_neg (by omega))
    exact (T :)
theorem pu_ui_id (a i : Nat) : pu_ui I a i (I a i) = I := by
  funext b j
  unfold pu_ui
  split
  · split
    · rename_i h1 h2
      rw [h1, h2]
    · rfl
  · rfl
end
theorem c_isSide (x : Int32) (M : pu_M) : pu_r 57 [some (.int x)] [] M = some (some (.int (pu_q (x = 0 ∨ x = 1))), M) := by
  rw [qX11_isSide]
  simp [a_ent, bX11_isSide_0, bX11_isSide_9, bX11_isSide_14, bX11_isSide_13, a_icne, a_ifeq, a_ild, a_push, a_zret, pu_rv, pu_as, Value.category, pu_bk, pu_kl, List.replicate, pu_wi_1, pu_wi_2, nl_add, nl_ladd, nl_aa, nl_mul, nl_rmul, nl_mm, pu_qe0, pu_qe1]
  all_goals try simp (maxSteps := 400000) (disch := omega) [nl_tle, nl_fle, nl_tlt, nl_flt, nl_teq, nl_feq, nl_sub, nl_ss, nl_lt, nl_llt, nl_ltt, nl_le, nl_lle, nl_lee, nl_eq, nl_leq, nl_ee, nl_div, nl_rem, nl_cl, nl_n1, nl_n2, nl_n3, nl_n4, nl_add, nl_ladd, nl_aa, nl_mul, nl_rmul, nl_mm, pu_wi_1, pu_wi_2, bX11_isSide_0, bX11_isSide_9, bX11_isSide_14, bX11_isSide_13, a_icne, a_ifeq, a_ild, a_push, a_zret, pu_rv, pu_as, Value.category, pu_bk, pu_kl, pu_qe0, pu_qe1]
  all_goals try simp [bX11_isSide_0, bX11_isSide_9, bX11_isSide_14, bX11_isSide_13, a_icne, a_ifeq, a_ild, a_push, a_zret, pu_rv, pu_as, Value.category, pu_bk, pu_kl, List.replicate, pu_wi_1, pu_wi_2, nl_add, nl_ladd, nl_aa, nl_mul, nl_rmul, nl_mm, pu_qe0, pu_qe1]
  all_goals try simp (maxSteps := 400000) (disch := omega) [nl_tle, nl_fle, nl_tlt, nl_flt, nl_teq, nl_feq, nl_sub, nl_ss, nl_lt, nl_llt, nl_ltt, nl_le, nl_lle, nl_lee, nl_eq, nl_leq, nl_ee, nl_div, nl_rem, nl_cl, nl_n1, nl_n2, nl_n3, nl_n4, nl_add, nl_ladd, nl_aa, nl_mul, nl_rmul, nl_mm, pu_wi_1, pu_wi_2, bX11_isSide_0, bX11_isSide_9, bX11_isSide_14, bX11_isSide_13, a_icne, a_ifeq, a_ild, a_push, a_zret, pu_rv, pu_as, Value.category, pu_bk, pu_kl, pu_qe0, pu_qe1]
  grind [pu_q]
theorem op_tear (x y n : Int32) : pu_op pu_Inv 126 299 [.int x, .int y, .int n] := by
  intro M h
  have hx := h.1
  have hI := pu_ag5 M
  have hr := pu_hR h
  have hw := pu_hS h
  have hSt := h.2.2.2.1
  have e1 := c_isStreet hx hI hw x
  have hb := wx_bK hw
  have e5 := c_isSide y M
  by_cases hd : ¬ x < 0 ∧ x < nI (cK (pu_si M 5))
  · obtain ⟨k, hk, rfl⟩ := pu_st_of (by omega) hd
    rw [pu_q1 hd] at e1
    have e2 : ∀ N : pu_M, pu_fx N → pu_Rel (pu_si M 5) (pu_sj M 5) (N.1 72) → pu_r 251 [some (.ref 71), some (.int (nI k))] [] N = some (some (.int 1), N) := fun N hN hR => by
      rw [r_isStreet (M := N) hN hR, pu_q1 hd]
    by_cases hy : y = 0 ∨ y = 1
    · obtain ⟨w, hw2, rfl⟩ : ∃ w, w < 2 ∧ y = nI w := by
        rcases hy with hy | hy
        · exact ⟨0, by omega, hy⟩
        · exact ⟨1, by omega, hy⟩
      rw [pu_q1 hy] at e5
      by_cases hn : n < -1
      · have hn1 : ¬ -1 ≤ n := Int32.not_le.mpr hn
        have e3 := e2 M hx hr
        refine ⟨-2, M, M, ?_, ?_, h⟩
        · rw [qX11_tear]
          simp [a_ent, bX11_tear_0, bX11_tear_21, bX11_tear_23, bX11_tear_31, a_ald, a_cs, a_cv, a_gr, a_icge, a_ifeq, a_ifne, a_ild, a_iret, a_ist, a_min, a_push, ag_25 hI, fx_0_2 hx, fx_5_3 hx, sh_0, sh_25, sh_5, pu_rv, pu_as, Value.category, pu_bk, pu_kl, List.replicate, pu_wi_1, pu_wi_2, nl_add, nl_ladd, nl_aa, nl_mul, nl_rmul, nl_mm, pu_qe0, pu_qe1, e1, e5, hn, hn1]
          all_goals try simp (maxSteps := 400000) (disch := omega) [nl_tle, nl_fle, nl_tlt, nl_flt, nl_teq, nl_feq, nl_sub, nl_ss, nl_lt, nl_llt, nl_ltt, nl_le, nl_lle, nl_lee, nl_eq, nl_leq, nl_ee, nl_div, nl_rem, nl_cl, nl_n1, nl_n2, nl_n3, nl_n4, nl_add, nl_ladd, nl_aa, nl_mul, nl_rmul, nl_mm, pu_wi_1, pu_wi_2, bX11_tear_0, bX11_tear_21, bX11_tear_23, bX11_tear_31, a_ald, a_cs, a_cv, a_gr, a_icge, a_ifeq, a_ifne, a_ild, a_iret, a_ist, a_min, a_push, ag_25 hI, fx_0_2 hx, fx_5_3 hx, sh_0, sh_25, sh_5, pu_rv, pu_as, Value.category, pu_bk, pu_kl, pu_qe0, pu_qe1, e1, e5, hn, hn1]
          all_goals try simp [bX11_tear_0, bX11_tear_21, bX11_tear_23, bX11_tear_31, a_ald, a_cs, a_cv, a_gr, a_icge, a_ifeq, a_ifne, a_ild, a_iret, a_ist, a_min, a_push, ag_25 hI, fx_0_2 hx, fx_5_3 hx, sh_0, sh_25, sh_5, pu_rv, pu_as, Value.category, pu_bk, pu_kl, List.replicate, pu_wi_1, pu_wi_2, nl_add, nl_ladd, nl_aa, nl_mul, nl_rmul, nl_mm, pu_qe0, pu_qe1, e1, e5, hn, hn1]
          all_goals try simp (maxSteps := 400000) (disch := omega) [nl_tle, nl_fle, nl_tlt, nl_flt, nl_teq, nl_feq, nl_sub, nl_ss, nl_lt, nl_llt, nl_ltt, nl_le, nl_lle, nl_lee, nl_eq, nl_leq, nl_ee, nl_div, nl_rem, nl_cl, nl_n1, nl_n2, nl_n3, nl_n4, nl_add, nl_ladd, nl_aa, nl_mul, nl_rmul, nl_mm, pu_wi_1, pu_wi_2, bX11_tear_0, bX11_tear_21, bX11_tear_23, bX11_tear_31, a_ald, a_cs, a_cv, a_gr, a_icge, a_ifeq, a_ifne, a_ild, a_iret, a_ist, a_min, a_push, ag_25 hI, fx_0_2 hx, fx_5_3 hx, sh_0, sh_25, sh_5, pu_rv, pu_as, Value.category, pu_bk, pu_kl, pu_qe0, pu_qe1, e1, e5, hn, hn1]
        · rw [qX12_tear]
          simp [a_ent, bX12_tear_0, bX12_tear_17, bX12_tear_19, bX12_tear_27, bX12_tear_65, a_ai, a_ald, a_cv, a_gr, a_iadd, a_icge, a_icle, a_ifeq, a_iflt, a_ild, a_imul, a_iret, a_ist, a_push, a_wi, fx_71_0 hx, sh_71, sh_72, pu_rv, pu_as, Value.category, pu_bk, pu_kl, List.replicate, pu_wi_1, pu_wi_2, nl_add, nl_ladd, nl_aa, nl_mul, nl_rmul, nl_mm, pu_qe0, pu_qe1, e3, hn, hn1]
          all_goals try simp (maxSteps := 400000) (disch := omega) [nl_tle, nl_fle, nl_tlt, nl_flt, nl_teq, nl_feq, nl_sub, nl_ss, nl_lt, nl_llt, nl_ltt, nl_le, nl_lle, nl_lee, nl_eq, nl_leq, nl_ee, nl_div, nl_rem, nl_cl, nl_n1, nl_n2, nl_n3, nl_n4, nl_add, nl_ladd, nl_aa, nl_mul, nl_rmul, nl_mm, pu_wi_1, pu_wi_2, bX12_tear_0, bX12_tear_17, bX12_tear_19, bX12_tear_27, bX12_tear_65, a_ai, a_ald, a_cv, a_gr, a_iadd, a_icge, a_icle, a_ifeq, a_iflt, a_ild, a_imul, a_iret, a_ist, a_push, a_wi, fx_71_0 hx, sh_71, sh_72, pu_rv, pu_as, Value.category, pu_bk, pu_kl, pu_qe0, pu_qe1, e3, hn, hn1]
          all_goals try simp [bX12_tear_0, bX12_tear_17, bX12_tear_19, bX12_tear_27, bX12_tear_65, a_ai, a_ald, a_cv, a_gr, a_iadd, a_icge, a_icle, a_ifeq, a_iflt, a_ild, a_imul, a_iret, a_ist, a_push, a_wi, fx_71_0 hx, sh_71, sh_72, pu_rv, pu_as, Value.category, pu_bk, pu_kl, List.replicate, pu_wi_1, pu_wi_2, nl_add, nl_ladd, nl_aa, nl_mul, nl_rmul, nl_mm, pu_qe0, pu_qe1, e3, hn, hn1]
          all_goals try simp (maxSteps := 400000) (disch := omega) [nl_tle, nl_fle, nl_tlt, nl_flt, nl_teq, nl_feq, nl_sub, nl_ss, nl_lt, nl_llt, nl_ltt, nl_le, nl_lle, nl_lee, nl_eq, nl_leq, nl_ee, nl_div, nl_rem, nl_cl, nl_n1, nl_n2, nl_n3, nl_n4, nl_add, nl_ladd, nl_aa, nl_mul, nl_rmul, nl_mm, pu_wi_1, pu_wi_2, bX12_tear_0, bX12_tear_17, bX12_tear_19, bX12_tear_27, bX12_tear_65, a_ai, a_ald, a_cv, a_gr, a_iadd, a_icge, a_icle, a_ifeq, a_iflt, a_ild, a_imul, a_iret, a_ist, a_push, a_wi, fx_71_0 hx, sh_71, sh_72, pu_rv, pu_as, Value.category, pu_bk, pu_kl, pu_qe0, pu_qe1, e3, hn, hn1]
      · have hn1 : -1 ≤ n := Int32.not_lt.mp hn
        have had : M.1 29 (2 * k + w) = pu_si M 5 29 (2 * k + w) := ag_29 hI _
        generalize hq : pu_si M 5 29 (2 * k + w) = had0 at *
        have f1 : pu_r 125 [some (.ref 25), some (.int (nI k)), some (.int (nI w))] [] M = some (some (.int had0), M) := by
          rw [qX10_rowLengthOf]
          simp [a_ent, bX10_rowLengthOf_0, a_ai, a_ald, a_gr, a_iadd, a_ild, a_imul, a_iret, a_push, fx_25_5 hx, sh_25, sh_29, pu_rv, pu_as, Value.category, pu_bk, pu_kl, List.replicate, pu_wi_1, pu_wi_2, nl_add, nl_ladd, nl_aa, nl_mul, nl_rmul, nl_mm, pu_qe0, pu_qe1, had]
          all_goals try simp (maxSteps := 400000) (disch := omega) [nl_tle, nl_fle, nl_tlt, nl_flt, nl_teq, nl_feq, nl_sub, nl_ss, nl_lt, nl_llt, nl_ltt, nl_le, nl_lle, nl_lee, nl_eq, nl_leq, nl_ee, nl_div, nl_rem, nl_cl, nl_n1, nl_n2, nl_n3, nl_n4, nl_add, nl_ladd, nl_aa, nl_mul, nl_rmul, nl_mm, pu_wi_1, pu_wi_2, bX10_rowLengthOf_0, a_ai, a_ald, a_gr, a_iadd, a_ild, a_imul, a_iret, a_push, fx_25_5 hx, sh_25, sh_29, pu_rv, pu_as, Value.category, pu_bk, pu_kl, pu_qe0, pu_qe1, had]
          all_goals try simp [bX10_rowLengthOf_0, a_ai, a_ald, a_gr, a_iadd, a_ild, a_imul, a_iret, a_push, fx_25_5 hx, sh_25, sh_29, pu_rv, pu_as, Value.category, pu_bk, pu_kl, List.replicate, pu_wi_1, pu_wi_2, nl_add, nl_ladd, nl_aa, nl_mul, nl_rmul, nl_mm, pu_qe0, pu_qe1, had]
          all_goals try simp (maxSteps := 400000) (disch := omega) [nl_tle, nl_fle, nl_tlt, nl_flt, nl_teq, nl_feq, nl_sub, nl_ss, nl_lt, nl_llt, nl_ltt, nl_le, nl_lle, nl_lee, nl_eq, nl_leq, nl_ee, nl_div, nl_rem, nl_cl, nl_n1, nl_n2, nl_n3, nl_n4, nl_add, nl_ladd, nl_aa, nl_mul, nl_rmul, nl_mm, pu_wi_1, pu_wi_2, bX10_rowLengthOf_0, a_ai, a_ald, a_gr, a_iadd, a_ild, a_imul, a_iret, a_push, fx_25_5 hx, sh_25, sh_29, pu_rv, pu_as, Value.category, pu_bk, pu_kl, pu_qe0, pu_qe1, had]
        have f2 : ∀ v, pu_r 121 [some (.ref 25), some (.int (nI k)), some (.int (nI w)), some (.int v)] [] M = some (none, pu_wi M 29 (2 * k + w) v) := fun v => by
          rw [qX10_setRowLength]
          simp [a_ent, bX10_setRowLength_0, a_ald, a_gr, a_iadd, a_ild, a_imul, a_push, a_vret, a_wi, fx_25_5 hx, sh_25, sh_29, pu_rv, pu_as, Value.category, pu_bk, pu_kl, List.replicate, pu_wi_1, pu_wi_2, nl_add, nl_ladd, nl_aa, nl_mul, nl_rmul, nl_mm, pu_qe0, pu_qe1]
          all_goals try simp (maxSteps := 400000) (disch := omega) [nl_tle, nl_fle, nl_tlt, nl_flt, nl_teq, nl_feq, nl_sub, nl_ss, nl_lt, nl_llt, nl_ltt, nl_le, nl_lle, nl_lee, nl_eq, nl_leq, nl_ee, nl_div, nl_rem, nl_cl, nl_n1, nl_n2, nl_n3, nl_n4, nl_add, nl_ladd, nl_aa, nl_mul, nl_rmul, nl_mm, pu_wi_1, pu_wi_2, bX10_setRowLength_0, a_ald, a_gr, a_iadd, a_ild, a_imul, a_push, a_vret, a_wi, fx_25_5 hx, sh_25, sh_29, pu_rv, pu_as, Value.category, pu_bk, pu_kl, pu_qe0, pu_qe1]
          all_goals try simp [bX10_setRowLength_0, a_ald, a_gr, a_iadd, a_ild, a_imul, a_push, a_vret, a_wi, fx_25_5 hx, sh_25, sh_29, pu_rv, pu_as, Value.category, pu_bk, pu_kl, List.replicate, pu_wi_1, pu_wi_2, nl_add, nl_ladd, nl_aa, nl_mul, nl_rmul, nl_mm, pu_qe0, pu_qe1]
          all_goals try simp (maxSteps := 400000) (disch := omega) [nl_tle, nl_fle, nl_tlt, nl_flt, nl_teq, nl_feq, nl_sub, nl_ss, nl_lt, nl_llt, nl_ltt, nl_le, nl_lle, nl_lee, nl_eq, nl_leq, nl_ee, nl_div, nl_rem, nl_cl, nl_n1, nl_n2, nl_n3, nl_n4, nl_add, nl_ladd, nl_aa, nl_mul, nl_rmul, nl_mm, pu_wi_1, pu_wi_2, bX10_setRowLength_0, a_ald, a_gr, a_iadd, a_ild, a_imul, a_push, a_vret, a_wi, fx_25_5 hx, sh_25, sh_29, pu_rv, pu_as, Value.category, pu_bk, pu_kl, pu_qe0, pu_qe1]
        have g1 := rl_k1 hr (2 * k + w) (by omega)
        rw [hq] at g1
        have em : (-1 : Int32).toInt = -1 := by decide
        by_cases c : n < had0
        · have c1 : ¬ had0 ≤ n := Int32.not_le.mpr c
          have c2 : ¬ had0 < n := Int32.not_lt.mpr (Int32.le_of_lt c)
          refine ⟨had0, pu_wi M 29 (2 * k + w) n, pu_wi (pu_wi M 29 (2 * k + w) n) 72 (30632 + 601 * (2 * k + w)) n, ?_, ?_, pu_Inv_ws h rfl (fun a j q => ?_) ?_⟩
          · rw [qX11_tear]
            simp [a_ent, bX11_tear_0, bX11_tear_21, bX11_tear_23, bX11_tear_31, a_ald, a_cs, a_cv, a_gr, a_icge, a_ifeq, a_ifne, a_ild, a_iret, a_ist, a_min, a_push, fx_0_2 hx, fx_5_3 hx, sh_0, sh_25, sh_5, pu_rv, pu_as, Value.category, pu_bk, pu_kl, List.replicate, pu_wi_1, pu_wi_2, nl_add, nl_ladd, nl_aa, nl_mul, nl_rmul, nl_mm, pu_qe0, pu_qe1, e1, e5, hn, hn1, f1, f2, c, c1, c2]
            all_goals try simp (maxSteps := 400000) (disch := omega) [nl_tle, nl_fle, nl_tlt, nl_flt, nl_teq, nl_feq, nl_sub, nl_ss, nl_lt, nl_llt, nl_ltt, nl_le, nl_lle, nl_lee, nl_eq, nl_leq, nl_ee, nl_div, nl_rem, nl_cl, nl_n1, nl_n2, nl_n3, nl_n4, nl_add, nl_ladd, nl_aa, nl_mul, nl_rmul, nl_mm, pu_wi_1, pu_wi_2, bX11_tear_0, bX11_tear_21, bX11_tear_23, bX11_tear_31, a_ald, a_cs, a_cv, a_gr, a_icge, a_ifeq, a_ifne, a_ild, a_iret, a_ist, a_min, a_push, fx_0_2 hx, fx_5_3 hx, sh_0, sh_25, sh_5, pu_rv, pu_as, Value.category, pu_bk, pu_kl, pu_qe0, pu_qe1, e1, e5, hn, hn1, f1, f2, c, c1, c2]
            all_goals try simp [bX11_tear_0, bX11_tear_21, bX11_tear_23, bX11_tear_31, a_ald, a_cs, a_cv, a_gr, a_icge, a_ifeq, a_ifne, a_ild, a_iret, a_ist, a_min, a_push, fx_0_2 hx, fx_5_3 hx, sh_0, sh_25, sh_5, pu_rv, pu_as, Value.category, pu_bk, pu_kl, List.replicate, pu_wi_1, pu_wi_2, nl_add, nl_ladd, nl_aa, nl_mul, nl_rmul, nl_mm, pu_qe0, pu_qe1, e1, e5, hn, hn1, f1, f2, c, c1, c2]
            all_goals try simp (maxSteps := 400000) (disch := omega) [nl_tle, nl_fle, nl_tlt, nl_flt, nl_teq, nl_feq, nl_sub, nl_ss, nl_lt, nl_llt, nl_ltt, nl_le, nl_lle, nl_lee, nl_eq, nl_leq, nl_ee, nl_div, nl_rem, nl_cl, nl_n1, nl_n2, nl_n3, nl_n4, nl_add, nl_ladd, nl_aa, nl_mul, nl_rmul, nl_mm, pu_wi_1, pu_wi_2, bX11_tear_0, bX11_tear_21, bX11_tear_23, bX11_tear_31, a_ald, a_cs, a_cv, a_gr, a_icge, a_ifeq, a_ifne, a_ild, a_iret, a_ist, a_min, a_push, fx_0_2 hx, fx_5_3 hx, sh_0, sh_25, sh_5, pu_rv, pu_as, Value.category, pu_bk, pu_kl, pu_qe0, pu_qe1, e1, e5, hn, hn1, f1, f2, c, c1, c2]
          · have hx2 : pu_fx (pu_wi M 29 (2 * k + w) n) := hx
            have e3 := e2 _ hx2 (by rw [pu_s_wo (by decide)]; exact hr)
            have g2 : (pu_wi M 29 (2 * k + w) n).1 72 (30632 + 601 * (2 * k + w)) = had0 := by
              rw [pu_s_wo (by decide)]; exact g1
            generalize pu_wi M 29 (2 * k + w) n = N at *
            rw [qX12_tear]
            simp [a_ent, bX12_tear_0, bX12_tear_17, bX12_tear_19, bX12_tear_27, bX12_tear_65, a_ai, a_ald, a_cv, a_gr, a_iadd, a_icge, a_icle, a_ifeq, a_iflt, a_ild, a_imul, a_iret, a_ist, a_push, a_wi, fx_71_0 hx, sh_71, sh_72, pu_rv, pu_as, Value.category, pu_bk, pu_kl, List.replicate, pu_wi_1, pu_wi_2, nl_add, nl_ladd, nl_aa, nl_mul, nl_rmul, nl_mm, pu_qe0, pu_qe1, e3, hn, hn1, g2, c, c1, fx_71_0 hx2]
            all_goals try simp (maxSteps := 400000) (disch := omega) [nl_tle, nl_fle, nl_tlt, nl_flt, nl_teq, nl_feq, nl_sub, nl_ss, nl_lt, nl_llt, nl_ltt, nl_le, nl_lle, nl_lee, nl_eq, nl_leq, nl_ee, nl_div, nl_rem, nl_cl, nl_n1, nl_n2, nl_n3, nl_n4, nl_add, nl_ladd, nl_aa, nl_mul, nl_rmul, nl_mm, pu_wi_1, pu_wi_2, bX12_tear_0, bX12_tear_17, bX12_tear_19, bX12_tear_27, bX12_tear_65, a_ai, a_ald, a_cv, a_gr, a_iadd, a_icge, a_icle, a_ifeq, a_iflt, a_ild, a_imul, a_iret, a_ist, a_push, a_wi, fx_71_0 hx, sh_71, sh_72, pu_rv, pu_as, Value.category, pu_bk, pu_kl, pu_qe0, pu_qe1, e3, hn, hn1, g2, c, c1, fx_71_0 hx2]
            all_goals try simp [bX12_tear_0, bX12_tear_17, bX12_tear_19, bX12_tear_27, bX12_tear_65, a_ai, a_ald, a_cv, a_gr, a_iadd, a_icge, a_icle, a_ifeq, a_iflt, a_ild, a_imul, a_iret, a_ist, a_push, a_wi, fx_71_0 hx, sh_71, sh_72, pu_rv, pu_as, Value.category, pu_bk, pu_kl, List.replicate, pu_wi_1, pu_wi_2, nl_add, nl_ladd, nl_aa, nl_mul, nl_rmul, nl_mm, pu_qe0, pu_qe1, e3, hn, hn1, g2, c, c1, fx_71_0 hx2]
            all_goals try simp (maxSteps := 400000) (disch := omega) [nl_tle, nl_fle, nl_tlt, nl_flt, nl_teq, nl_feq, nl_sub, nl_ss, nl_lt, nl_llt, nl_ltt, nl_le, nl_lle, nl_lee, nl_eq, nl_leq, nl_ee, nl_div, nl_rem, nl_cl, nl_n1, nl_n2, nl_n3, nl_n4, nl_add, nl_ladd, nl_aa, nl_mul, nl_rmul, nl_mm, pu_wi_1, pu_wi_2, bX12_tear_0, bX12_tear_17, bX12_tear_19, bX12_tear_27, bX12_tear_65, a_ai, a_ald, a_cv, a_gr, a_iadd, a_icge, a_icle, a_ifeq, a_iflt, a_ild, a_imul, a_iret, a_ist, a_push, a_wi, fx_71_0 hx, sh_71, sh_72, pu_rv, pu_as, Value.category, pu_bk, pu_kl, pu_qe0, pu_qe1, e3, hn, hn1, g2, c, c1, fx_71_0 hx2]
          · simp only [pu_wi_1]
            grind
          · rw [pu_si_wo (by omega), pu_si_wi (by omega) (by omega), pu_s_wi, pu_s_wo (by decide)]
            exact St_rl hSt (by omega) (by have := Int32.le_iff_toInt_le.mp hn1; omega) (by rw [hq]; exact Int32.le_of_lt c)
        · have c1 : had0 ≤ n := Int32.not_lt.mp c
          refine ⟨had0, pu_wi M 29 (2 * k + w) had0, pu_wi M 29 (2 * k + w) had0, ?_, ?_, pu_Inv_ws h rfl (fun a j q => ?_) ?_⟩
          · rw [qX11_tear]
            simp [a_ent, bX11_tear_0, bX11_tear_21, bX11_tear_23, bX11_tear_31, a_ald, a_cs, a_cv, a_gr, a_icge, a_ifeq, a_ifne, a_ild, a_iret, a_ist, a_min, a_push, fx_0_2 hx, fx_5_3 hx, sh_0, sh_25, sh_5, pu_rv, pu_as, Value.category, pu_bk, pu_kl, List.replicate, pu_wi_1, pu_wi_2, nl_add, nl_ladd, nl_aa, nl_mul, nl_rmul, nl_mm, pu_qe0, pu_qe1, e1, e5, hn, hn1, f1, f2, c, c1]
            all_goals try simp (maxSteps := 400000) (disch := omega) [nl_tle, nl_fle, nl_tlt, nl_flt, nl_teq, nl_feq, nl_sub, nl_ss, nl_lt, nl_llt, nl_ltt, nl_le, nl_lle, nl_lee, nl_eq, nl_leq, nl_ee, nl_div, nl_rem, nl_cl, nl_n1, nl_n2, nl_n3, nl_n4, nl_add, nl_ladd, nl_aa, nl_mul, nl_rmul, nl_mm, pu_wi_1, pu_wi_2, bX11_tear_0, bX11_tear_21, bX11_tear_23, bX11_tear_31, a_ald, a_cs, a_cv, a_gr, a_icge, a_ifeq, a_ifne, a_ild, a_iret, a_ist, a_min, a_push, fx_0_2 hx, fx_5_3 hx, sh_0, sh_25, sh_5, pu_rv, pu_as, Value.category, pu_bk, pu_kl, pu_qe0, pu_qe1, e1, e5, hn, hn1, f1, f2, c, c1]
            all_goals try simp [bX11_tear_0, bX11_tear_21, bX11_tear_23, bX11_tear_31, a_ald, a_cs, a_cv, a_gr, a_icge, a_ifeq, a_ifne, a_ild, a_iret, a_ist, a_min, a_push, fx_0_2 hx, fx_5_3 hx, sh_0, sh_25, sh_5, pu_rv, pu_as, Value.category, pu_bk, pu_kl, List.replicate, pu_wi_1, pu_wi_2, nl_add, nl_ladd, nl_aa, nl_mul, nl_rmul, nl_mm, pu_qe0, pu_qe1, e1, e5, hn, hn1, f1, f2, c, c1]
            all_goals try simp (maxSteps := 400000) (disch := omega) [nl_tle, nl_fle, nl_tlt, nl_flt, nl_teq, nl_feq, nl_sub, nl_ss, nl_lt, nl_llt, nl_ltt, nl_le, nl_lle, nl_lee, nl_eq, nl_leq, nl_ee, nl_div, nl_rem, nl_cl, nl_n1, nl_n2, nl_n3, nl_n4, nl_add, nl_ladd, nl_aa, nl_mul, nl_rmul, nl_mm, pu_wi_1, pu_wi_2, bX11_tear_0, bX11_tear_21, bX11_tear_23, bX11_tear_31, a_ald, a_cs, a_cv, a_gr, a_icge, a_ifeq, a_ifne, a_ild, a_iret, a_ist, a_min, a_push, fx_0_2 hx, fx_5_3 hx, sh_0, sh_25, sh_5, pu_rv, pu_as, Value.category, pu_bk, pu_kl, pu_qe0, pu_qe1, e1, e5, hn, hn1, f1, f2, c, c1]
            grind
          · have hx2 : pu_fx (pu_wi M 29 (2 * k + w) had0) := hx
            have e3 := e2 _ hx2 (by rw [pu_s_wo (by decide)]; exact hr)
            have g2 : (pu_wi M 29 (2 * k + w) had0).1 72 (30632 + 601 * (2 * k + w)) = had0 := by
              rw [pu_s_wo (by decide)]; exact g1
            generalize pu_wi M 29 (2 * k + w) had0 = N at *
            rw [qX12_tear]
            simp [a_ent, bX12_tear_0, bX12_tear_17, bX12_tear_19, bX12_tear_27, bX12_tear_65, a_ai, a_ald, a_cv, a_gr, a_iadd, a_icge, a_icle, a_ifeq, a_iflt, a_ild, a_imul, a_iret, a_ist, a_push, a_wi, fx_71_0 hx, sh_71, sh_72, pu_rv, pu_as, Value.category, pu_bk, pu_kl, List.replicate, pu_wi_1, pu_wi_2, nl_add, nl_ladd, nl_aa, nl_mul, nl_rmul, nl_mm, pu_qe0, pu_qe1, e3, hn, hn1, g2, c, c1, fx_71_0 hx2]
            all_goals try simp (maxSteps := 400000) (disch := omega) [nl_tle, nl_fle, nl_tlt, nl_flt, nl_teq, nl_feq, nl_sub, nl_ss, nl_lt, nl_llt, nl_ltt, nl_le, nl_lle, nl_lee, nl_eq, nl_leq, nl_ee, nl_div, nl_rem, nl_cl, nl_n1, nl_n2, nl_n3, nl_n4, nl_add, nl_ladd, nl_aa, nl_mul, nl_rmul, nl_mm, pu_wi_1, pu_wi_2, bX12_tear_0, bX12_tear_17, bX12_tear_19, bX12_tear_27, bX12_tear_65, a_ai, a_ald, a_cv, a_gr, a_iadd, a_icge, a_icle, a_ifeq, a_iflt, a_ild, a_imul, a_iret, a_ist, a_push, a_wi, fx_71_0 hx, sh_71, sh_72, pu_rv, pu_as, Value.category, pu_bk, pu_kl, pu_qe0, pu_qe1, e3, hn, hn1, g2, c, c1, fx_71_0 hx2]
            all_goals try simp [bX12_tear_0, bX12_tear_17, bX12_tear_19, bX12_tear_27, bX12_tear_65, a_ai, a_ald, a_cv, a_gr, a_iadd, a_icge, a_icle, a_ifeq, a_iflt, a_ild, a_imul, a_iret, a_ist, a_push, a_wi, fx_71_0 hx, sh_71, sh_72, pu_rv, pu_as, Value.category, pu_bk, pu_kl, List.replicate, pu_wi_1, pu_wi_2, nl_add, nl_ladd, nl_aa, nl_mul, nl_rmul, nl_mm, pu_qe0, pu_qe1, e3, hn, hn1, g2, c, c1, fx_71_0 hx2]
            all_goals try simp (maxSteps := 400000) (disch := omega) [nl_tle, nl_fle, nl_tlt, nl_flt, nl_teq, nl_feq, nl_sub, nl_ss, nl_lt, nl_llt, nl_ltt, nl_le, nl_lle, nl_lee, nl_eq, nl_leq, nl_ee, nl_div, nl_rem, nl_cl, nl_n1, nl_n2, nl_n3, nl_n4, nl_add, nl_ladd, nl_aa, nl_mul, nl_rmul, nl_mm, pu_wi_1, pu_wi_2, bX12_tear_0, bX12_tear_17, bX12_tear_19, bX12_tear_27, bX12_tear_65, a_ai, a_ald, a_cv, a_gr, a_iadd, a_icge, a_icle, a_ifeq, a_iflt, a_ild, a_imul, a_iret, a_ist, a_push, a_wi, fx_71_0 hx, sh_71, sh_72, pu_rv, pu_as, Value.category, pu_bk, pu_kl, pu_qe0, pu_qe1, e3, hn, hn1, g2, c, c1, fx_71_0 hx2]
          · simp only [pu_wi_1]
            grind
          · rw [pu_si_wi (by omega) (by omega), pu_s_wo (by decide), ← hq, pu_ui_id]
            exact hSt
    · have e3 := e2 M hx hr
      rw [pu_q0 hy] at e5
      refine ⟨-1, M, M, ?_, ?_, h⟩
      · rw [qX11_tear]
        simp [a_ent, bX11_tear_0, bX11_tear_21, bX11_tear_23, bX11_tear_31, a_ald, a_cs, a_cv, a_gr, a_icge, a_ifeq, a_ifne, a_ild, a_iret, a_ist, a_min, a_push, ag_25 hI, fx_0_2 hx, fx_5_3 hx, sh_0, sh_25, sh_5, pu_rv, pu_as, Value.category, pu_bk, pu_kl, List.replicate, pu_wi_1, pu_wi_2, nl_add, nl_ladd, nl_aa, nl_mul, nl_rmul, nl_mm, pu_qe0, pu_qe1, e1, e5]
        all_goals try simp (maxSteps := 400000) (disch := omega) [nl_tle, nl_fle, nl_tlt, nl_flt, nl_teq, nl_feq, nl_sub, nl_ss, nl_lt, nl_llt, nl_ltt, nl_le, nl_lle, nl_lee, nl_eq, nl_leq, nl_ee, nl_div, nl_rem, nl_cl, nl_n1, nl_n2, nl_n3, nl_n4, nl_add, nl_ladd, nl_aa, nl_mul, nl_rmul, nl_mm, pu_wi_1, pu_wi_2, bX11_tear_0, bX11_tear_21, bX11_tear_23, bX11_tear_31, a_ald, a_cs, a_cv, a_gr, a_icge, a_ifeq, a_ifne, a_ild, a_iret, a_ist, a_min, a_push, ag_25 hI, fx_0_2 hx, fx_5_3 hx, sh_0, sh_25, sh_5, pu_rv, pu_as, Value.category, pu_bk, pu_kl, pu_qe0, pu_qe1, e1, e5]
        all_goals try simp [bX11_tear_0, bX11_tear_21, bX11_tear_23, bX11_tear_31, a_ald, a_cs, a_cv, a_gr, a_icge, a_ifeq, a_ifne, a_ild, a_iret, a_ist, a_min, a_push, ag_25 hI, fx_0_2 hx, fx_5_3 hx, sh_0, sh_25, sh_5, pu_rv, pu_as, Value.category, pu_bk, pu_kl, List.replicate, pu_wi_1, pu_wi_2, nl_add, nl_ladd, nl_aa, nl_mul, nl_rmul, nl_mm, pu_qe0, pu_qe1, e1, e5]
        all_goals try simp (maxSteps := 400000) (disch := omega) [nl_tle, nl_fle, nl_tlt, nl_flt, nl_teq, nl_feq, nl_sub, nl_ss, nl_lt, nl_llt, nl_ltt, nl_le, nl_lle, nl_lee, nl_eq, nl_leq, nl_ee, nl_div, nl_rem, nl_cl, nl_n1, nl_n2, nl_n3, nl_n4, nl_add, nl_ladd, nl_aa, nl_mul, nl_rmul, nl_mm, pu_wi_1, pu_wi_2, bX11_tear_0, bX11_tear_21, bX11_tear_23, bX11_tear_31, a_ald, a_cs, a_cv, a_gr, a_icge, a_ifeq, a_ifne, a_ild, a_iret, a_ist, a_min, a_push, ag_25 hI, fx_0_2 hx, fx_5_3 hx, sh_0, sh_25, sh_5, pu_rv, pu_as, Value.category, pu_bk, pu_kl, pu_qe0, pu_qe1, e1, e5]
      · by_cases z : y < 0
        · rw [qX12_tear]
          simp [a_ent, bX12_tear_0, bX12_tear_17, bX12_tear_19, bX12_tear_27, bX12_tear_65, a_ai, a_ald, a_cv, a_gr, a_iadd, a_icge, a_icle, a_ifeq, a_iflt, a_ild, a_imul, a_iret, a_ist, a_push, a_wi, fx_71_0 hx, sh_71, sh_72, pu_rv, pu_as, Value.category, pu_bk, pu_kl, List.replicate, pu_wi_1, pu_wi_2, nl_add, nl_ladd, nl_aa, nl_mul, nl_rmul, nl_mm, pu_qe0, pu_qe1, e3, z]
          all_goals try simp (maxSteps := 400000) (disch := omega) [nl_tle, nl_fle, nl_tlt, nl_flt, nl_teq, nl_feq, nl_sub, nl_ss, nl_lt, nl_llt, nl_ltt, nl_le, nl_lle, nl_lee, nl_eq, nl_leq, nl_ee, nl_div, nl_rem, nl_cl, nl_n1, nl_n2, nl_n3, nl_n4, nl_add, nl_ladd, nl_aa, nl_mul, nl_rmul, nl_mm, pu_wi_1, pu_wi_2, bX12_tear_0, bX12_tear_17, bX12_tear_19, bX12_tear_27, bX12_tear_65, a_ai, a_ald, a_cv, a_gr, a_iadd, a_icge, a_icle, a_ifeq, a_iflt, a_ild, a_imul, a_iret, a_ist, a_push, a_wi, fx_71_0 hx, sh_71, sh_72, pu_rv, pu_as, Value.category, pu_bk, pu_kl, pu_qe0, pu_qe1, e3, z]
          all_goals try simp [bX12_tear_0, bX12_tear_17, bX12_tear_19, bX12_tear_27, bX12_tear_65, a_ai, a_ald, a_cv, a_gr, a_iadd, a_icge, a_icle, a_ifeq, a_iflt, a_ild, a_imul, a_iret, a_ist, a_push, a_wi, fx_71_0 hx, sh_71, sh_72, pu_rv, pu_as, Value.category, pu_bk, pu_kl, List.replicate, pu_wi_1, pu_wi_2, nl_add, nl_ladd, nl_aa, nl_mul, nl_rmul, nl_mm, pu_qe0, pu_qe1, e3, z]
          all_goals try simp (maxSteps := 400000) (disch := omega) [nl_tle, nl_fle, nl_tlt, nl_flt, nl_teq, nl_feq, nl_sub, nl_ss, nl_lt, nl_llt, nl_ltt, nl_le, nl_lle, nl_lee, nl_eq, nl_leq, nl_ee, nl_div, nl_rem, nl_cl, nl_n1, nl_n2, nl_n3, nl_n4, nl_add, nl_ladd, nl_aa, nl_mul, nl_rmul, nl_mm, pu_wi_1, pu_wi_2, bX12_tear_0, bX12_tear_17, bX12_tear_19, bX12_tear_27, bX12_tear_65, a_ai, a_ald, a_cv, a_gr, a_iadd, a_icge, a_icle, a_ifeq, a_iflt, a_ild, a_imul, a_iret, a_ist, a_push, a_wi, fx_71_0 hx, sh_71, sh_72, pu_rv, pu_as, Value.category, pu_bk, pu_kl, pu_qe0, pu_qe1, e3, z]
        · have z1 : ¬ y ≤ 1 := by grind
          rw [qX12_tear]
          simp [a_ent, bX12_tear_0, bX12_tear_17, bX12_tear_19, bX12_tear_27, bX12_tear_65, a_ai, a_ald, a_cv, a_gr, a_iadd, a_icge, a_icle, a_ifeq, a_iflt, a_ild, a_imul, a_iret, a_ist, a_push, a_wi, fx_71_0 hx, sh_71, sh_72, pu_rv, pu_as, Value.category, pu_bk, pu_kl, List.replicate, pu_wi_1, pu_wi_2, nl_add, nl_ladd, nl_aa, nl_mul, nl_rmul, nl_mm, pu_qe0, pu_qe1, e3, z, z1]
          all_goals try simp (maxSteps := 400000) (disch := omega) [nl_tle, nl_fle, nl_tlt, nl_flt, nl_teq, nl_feq, nl_sub, nl_ss, nl_lt, nl_llt, nl_ltt, nl_le, nl_lle, nl_lee, nl_eq, nl_leq, nl_ee, nl_div, nl_rem, nl_cl, nl_n1, nl_n2, nl_n3, nl_n4, nl_add, nl_ladd, nl_aa, nl_mul, nl_rmul, nl_mm, pu_wi_1, pu_wi_2, bX12_tear_0, bX12_tear_17, bX12_tear_19, bX12_tear_27, bX12_tear_65, a_ai, a_ald, a_cv, a_gr, a_iadd, a_icge, a_icle, a_ifeq, a_iflt, a_ild, a_imul, a_iret, a_ist, a_push, a_wi, fx_71_0 hx, sh_71, sh_72, pu_rv, pu_as, Value.category, pu_bk, pu_kl, pu_qe0, pu_qe1, e3, z, z1]
          all_goals try simp [bX12_tear_0, bX12_tear_17, bX12_tear_19, bX12_tear_27, bX12_tear_65, a_ai, a_ald, a_cv, a_gr, a_iadd, a_icge, a_icle, a_ifeq, a_iflt, a_ild, a_imul, a_iret, a_ist, a_push, a_wi, fx_71_0 hx, sh_71, sh_72, pu_rv, pu_as, Value.category, pu_bk, pu_kl, List.replicate, pu_wi_1, pu_wi_2, nl_add, nl_ladd, nl_aa, nl_mul, nl_rmul, nl_mm, pu_qe0, pu_qe1, e3, z, z1]
          all_goals try simp (maxSteps := 400000) (disch := omega) [nl_tle, nl_fle, nl_tlt, nl_flt, nl_teq, nl_feq, nl_sub, nl_ss, nl_lt, nl_llt, nl_ltt, nl_le, nl_lle, nl_lee, nl_eq, nl_leq, nl_ee, nl_div, nl_rem, nl_cl, nl_n1, nl_n2, nl_n3, nl_n4, nl_add, nl_ladd, nl_aa, nl_mul, nl_rmul, nl_mm, pu_wi_1, pu_wi_2, bX12_tear_0, bX12_tear_17, bX12_tear_19, bX12_tear_27, bX12_tear_65, a_ai, a_ald, a_cv, a_gr, a_iadd, a_icge, a_icle, a_ifeq, a_iflt, a_ild, a_imul, a_iret, a_ist, a_push, a_wi, fx_71_0 hx, sh_71, sh_72, pu_rv, pu_as, Value.category, pu_bk, pu_kl, pu_qe0, pu_qe1, e3, z, z1]
  · rw [pu_q0 hd] at e1
    have e3 := r_isStreet hx hr x
    rw [pu_q0 hd] at e3
    refine ⟨-1, M, M, ?_, ?_, h⟩
    · rw [qX11_tear]
      simp [a_ent, bX11_tear_0, bX11_tear_21, bX11_tear_23, bX11_tear_31, a_ald, a_cs, a_cv, a_gr, a_icge, a_ifeq, a_ifne, a_ild, a_iret, a_ist, a_min, a_push, ag_25 hI, fx_0_2 hx, fx_5_3 hx, sh_0, sh_25, sh_5, pu_rv, pu_as, Value.category, pu_bk, pu_kl, List.replicate, pu_wi_1, pu_wi_2, nl_add, nl_ladd, nl_aa, nl_mul, nl_rmul, nl_mm, pu_qe0, pu_qe1, e1]
      all_goals try simp (maxSteps := 400000) (disch := omega) [nl_tle, nl_fle, nl_tlt, nl_flt, nl_teq, nl_feq, nl_sub, nl_ss, nl_lt, nl_llt, nl_ltt, nl_le, nl_lle, nl_lee, nl_eq, nl_leq, nl_ee, nl_div, nl_rem, nl_cl, nl_n1, nl_n2, nl_n3, nl_n4, nl_add, nl_ladd, nl_aa, nl_mul, nl_rmul, nl_mm, pu_wi_1, pu_wi_2, bX11_tear_0, bX11_tear_21, bX11_tear_23, bX11_tear_31, a_ald, a_cs, a_cv, a_gr, a_icge, a_ifeq, a_ifne, a_ild, a_iret, a_ist, a_min, a_push, ag_25 hI, fx_0_2 hx, fx_5_3 hx, sh_0, sh_25, sh_5, pu_rv, pu_as, Value.category, pu_bk, pu_kl, pu_qe0, pu_qe1, e1]
      all_goals try simp [bX11_tear_0, bX11_tear_21, bX11_tear_23, bX11_tear_31, a_ald, a_cs, a_cv, a_gr, a_icge, a_ifeq, a_ifne, a_ild, a_iret, a_ist, a_min, a_push, ag_25 hI, fx_0_2 hx, fx_5_3 hx, sh_0, sh_25, sh_5, pu_rv, pu_as, Value.category, pu_bk, pu_kl, List.replicate, pu_wi_1, pu_wi_2, nl_add, nl_ladd, nl_aa, nl_mul, nl_rmul, nl_mm, pu_qe0, pu_qe1, e1]
      all_goals try simp (maxSteps := 400000) (disch := omega) [nl_tle, nl_fle, nl_tlt, nl_flt, nl_teq, nl_feq, nl_sub, nl_ss, nl_lt, nl_llt, nl_ltt, nl_le, nl_lle, nl_lee, nl_eq, nl_leq, nl_ee, nl_div, nl_rem, nl_cl, nl_n1, nl_n2, nl_n3, nl_n4, nl_add, nl_ladd, nl_aa, nl_mul, nl_rmul, nl_mm, pu_wi_1, pu_wi_2, bX11_tear_0, bX11_tear_21, bX11_tear_23, bX11_tear_31, a_ald, a_cs, a_cv, a_gr, a_icge, a_ifeq, a_ifne, a_ild, a_iret, a_ist, a_min, a_push, ag_25 hI, fx_0_2 hx, fx_5_3 hx, sh_0, sh_25, sh_5, pu_rv, pu_as, Value.category, pu_bk, pu_kl, pu_qe0, pu_qe1, e1]
    · rw [qX12_tear]
      simp [a_ent, bX12_tear_0, bX12_tear_17, bX12_tear_19, bX12_tear_27, bX12_tear_65, a_ai, a_ald, a_cv, a_gr, a_iadd, a_icge, a_icle, a_ifeq, a_iflt, a_ild, a_imul, a_iret, a_ist, a_push, a_wi, fx_71_0 hx, sh_71, sh_72, pu_rv, pu_as, Value.category, pu_bk, pu_kl, List.replicate, pu_wi_1, pu_wi_2, nl_add, nl_ladd, nl_aa, nl_mul, nl_rmul, nl_mm, pu_qe0, pu_qe1, e3]
      all_goals try simp (maxSteps := 400000) (disch := omega) [nl_tle, nl_fle, nl_tlt, nl_flt, nl_teq, nl_feq, nl_sub, nl_ss, nl_lt, nl_llt, nl_ltt, nl_le, nl_lle, nl_lee, nl_eq, nl_leq, nl_ee, nl_div, nl_rem, nl_cl, nl_n1, nl_n2, nl_n3, nl_n4, nl_add, nl_ladd, nl_aa, nl_mul, nl_rmul, nl_mm, pu_wi_1, pu_wi_2, bX12_tear_0, bX12_tear_17, bX12_tear_19, bX12_tear_27, bX12_tear_65, a_ai, a_ald, a_cv, a_gr, a_iadd, a_icge, a_icle, a_ifeq, a_iflt, a_ild, a_imul, a_iret, a_ist, a_push, a_wi, fx_71_0 hx, sh_71, sh_72, pu_rv, pu_as, Value.category, pu_bk, pu_kl, pu_qe0, pu_qe1, e3]
      all_goals try simp [bX12_tear_0, bX12_tear_17, bX12_tear_19, bX12_tear_27, bX12_tear_65, a_ai, a_ald, a_cv, a_gr, a_iadd, a_icge, a_icle, a_ifeq, a_iflt, a_ild, a_imul, a_iret, a_ist, a_push, a_wi, fx_71_0 hx, sh_71, sh_72, pu_rv, pu_as, Value.category, pu_bk, pu_kl, List.replicate, pu_wi_1, pu_wi_2, nl_add, nl_ladd, nl_aa, nl_mul, nl_rmul, nl_mm, pu_qe0, pu_qe1, e3]
      all_goals try simp (maxSteps := 400000) (disch := omega) [nl_tle, nl_fle, nl_tlt, nl_flt, nl_teq, nl_feq, nl_sub, nl_ss, nl_lt, nl_llt, nl_ltt, nl_le, nl_lle, nl_lee, nl_eq, nl_leq, nl_ee, nl_div, nl_rem, nl_cl, nl_n1, nl_n2, nl_n3, nl_n4, nl_add, nl_ladd, nl_aa, nl_mul, nl_rmul, nl_mm, pu_wi_1, pu_wi_2, bX12_tear_0, bX12_tear_17, bX12_tear_19, bX12_tear_27, bX12_tear_65, a_ai, a_ald, a_cv, a_gr, a_iadd, a_icge, a_icle, a_ifeq, a_iflt, a_ild, a_imul, a_iret, a_ist, a_push, a_wi, fx_71_0 hx, sh_71, sh_72, pu_rv, pu_as, Value.category, pu_bk, pu_kl, pu_qe0, pu_qe1, e3]
