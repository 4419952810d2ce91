/-! fresh numbers given, on the reference's side -/
section
variable {I : Nat → Nat → Int32} {L : Nat → Nat → Int64} {V : Nat → Nat} {n st ru : Nat}
theorem r_rc_l (hw : pu_WF I L) (hV : ∀ a, a < n → py_osx I st (V a)) (hn : n ≤ 100) {N : pu_M} (hx : pu_fx N) (hr : pu_Rel I L (N.1 72)) (h13 : N.1 71 13 = nI n) (h79 : ∀ a, a < n → N.1 79 a = nI (pu_sl0 I (V a))) {W : Nat → Int32} (h80 : ∀ a, a < n → N.1 80 a = W a) (x1 x2 x3 : Int32) (t6 t7 t8 : Option Value) : ∀ (m i c : Nat), i + m = n → pu_r 476 [some (.ref 71), some (.int x1), some (.int x2), some (.int x3), some (.int (nI c)), some (.int (nI i)), t6, t7, t8] [] N = kX12_renumber_116 pu_r [some (.ref 71), some (.int x1), some (.int x2), some (.int x3), some (.int (nI (c + py_cnt (fun a => W a ≠ I 16 (V a)) m i))), some (.int (nI n)), t6, t7, t8] [] N
  | 0, i, c, h => by
    have e : i = n := by omega
    have hc : nI n ≤ nI n := nI_le (by omega) (by omega)
    show _ = kX12_renumber_116 pu_r [some (.ref 71), some (.int x1), some (.int x2), some (.int x3), some (.int (nI c)), some (.int (nI n)), t6, t7, t8] [] N
    rw [e, qX12_renumber_59]
    simp [bX12_renumber_59, a_ai, a_ald, a_cv, a_gi, a_gr, a_icge, a_icne, a_idiv, a_ild, a_irem, a_push, fx_71_12 hx, fx_71_14 hx, sh_71, sh_79, sh_80, pu_rv, pu_as, Value.category, pu_bk, pu_kl, List.replicate, pu_wi_1, pu_wi_2, nl_add, nl_ladd, nl_aa, nl_mul, nl_rmul, nl_mm, pu_qe0, pu_qe1, h13, hc]
    all_goals try simp (maxSteps := 400000) (disch := omega) [nl_tle, nl_fle, nl_tlt, nl_flt, nl_teq, nl_feq, nl_sub, nl_ss, nl_lt, nl_llt, nl_ltt, nl_le, nl_lle, nl_lee, nl_eq, nl_leq, nl_ee, nl_div, nl_rem, nl_cl, nl_n1, nl_n2, nl_n3, nl_n4, nl_add, nl_ladd, nl_aa, nl_mul, nl_rmul, nl_mm, pu_wi_1, pu_wi_2, bX12_renumber_59, a_ai, a_ald, a_cv, a_gi, a_gr, a_icge, a_icne, a_idiv, a_ild, a_irem, a_push, fx_71_12 hx, fx_71_14 hx, sh_71, sh_79, sh_80, pu_rv, pu_as, Value.category, pu_bk, pu_kl, pu_qe0, pu_qe1, h13, hc]
    all_goals try simp [bX12_renumber_59, a_ai, a_ald, a_cv, a_gi, a_gr, a_icge, a_icne, a_idiv, a_ild, a_irem, a_push, fx_71_12 hx, fx_71_14 hx, sh_71, sh_79, sh_80, pu_rv, pu_as, Value.category, pu_bk, pu_kl, List.replicate, pu_wi_1, pu_wi_2, nl_add, nl_ladd, nl_aa, nl_mul, nl_rmul, nl_mm, pu_qe0, pu_qe1, h13, hc]
    all_goals try simp (maxSteps := 400000) (disch := omega) [nl_tle, nl_fle, nl_tlt, nl_flt, nl_teq, nl_feq, nl_sub, nl_ss, nl_lt, nl_llt, nl_ltt, nl_le, nl_lle, nl_lee, nl_eq, nl_leq, nl_ee, nl_div, nl_rem, nl_cl, nl_n1, nl_n2, nl_n3, nl_n4, nl_add, nl_ladd, nl_aa, nl_mul, nl_rmul, nl_mm, pu_wi_1, pu_wi_2, bX12_renumber_59, a_ai, a_ald, a_cv, a_gi, a_gr, a_icge, a_icne, a_idiv, a_ild, a_irem, a_push, fx_71_12 hx, fx_71_14 hx, sh_71, sh_79, sh_80, pu_rv, pu_as, Value.category, pu_bk, pu_kl, pu_qe0, pu_qe1, h13, hc]
    all_goals try simp [bX12_renumber_59, a_ai, a_ald, a_cv, a_gi, a_gr, a_icge, a_icne, a_idiv, a_ild, a_irem, a_push, fx_71_12 hx, fx_71_14 hx, sh_71, sh_79, sh_80, pu_rv, pu_as, Value.category, pu_bk, pu_kl, List.replicate, pu_wi_1, pu_wi_2, nl_add, nl_ladd, nl_aa, nl_mul, nl_rmul, nl_mm, pu_qe0, pu_qe1, h13, hc]
    all_goals try simp (maxSteps := 400000) (disch := omega) [nl_tle, nl_fle, nl_tlt, nl_flt, nl_teq, nl_feq, nl_sub, nl_ss, nl_lt, nl_llt, nl_ltt, nl_le, nl_lle, nl_lee, nl_eq, nl_leq, nl_ee, nl_div, nl_rem, nl_cl, nl_n1, nl_n2, nl_n3, nl_n4, nl_add, nl_ladd, nl_aa, nl_mul, nl_rmul, nl_mm, pu_wi_1, pu_wi_2, bX12_renumber_59, a_ai, a_ald, a_cv, a_gi, a_gr, a_icge, a_icne, a_idiv, a_ild, a_irem, a_push, fx_71_12 hx, fx_71_14 hx, sh_71, sh_79, sh_80, pu_rv, pu_as, Value.category, pu_bk, pu_kl, pu_qe0, pu_qe1, h13, hc]
    all_goals try simp [bX12_renumber_59, a_ai, a_ald, a_cv, a_gi, a_gr, a_icge, a_icne, a_idiv, a_ild, a_irem, a_push, fx_71_12 hx, fx_71_14 hx, sh_71, sh_79, sh_80, pu_rv, pu_as, Value.category, pu_bk, pu_kl, List.replicate, pu_wi_1, pu_wi_2, nl_add, nl_ladd, nl_aa, nl_mul, nl_rmul, nl_mm, pu_qe0, pu_qe1, h13, hc]
  | m + 1, i, c, h => by
    have bD := wx_bD hw
    have inn : i < n := by omega
    have hc : ¬ nI n ≤ nI i := nI_ge (by omega) (by omega)
    have i2 : i < 200 := by omega
    have sl := (pu_sl_lt hw (hV i inn).1).1
    have sl2 : pu_sl0 I (V i) < 200 := by omega
    have wa := r_wholeAt hx hr hw (d := pu_sl0 I (V i) / 2) (w := pu_sl0 I (V i) % 2) (k := V i) (by omega) ⟨(hV i inn).1, by omega, (hV i inn).2.2⟩
    have o79 := h79 i inn
    have o80 := h80 i inn
    have F14 := fx_71_14 hx
    by_cases ch : W i ≠ I 16 (V i)
    · rw [py_cnt_t (c := fun a => W a ≠ I 16 (V a)) ch, ← Nat.add_assoc, ← r_rc_l hw hV hn hx hr h13 h79 h80 x1 x2 x3 t6 t7 t8 m (i + 1) (c + 1) (by omega)]
      have ch' : ¬ I 16 (V i) = W i := fun z => ch z.symm
      generalize pu_sl0 I (V i) = sv at *
      generalize I 16 (V i) = wv at *
      generalize W i = fv at *
      rw [qX12_renumber_59]
      simp [bX12_renumber_59, bX12_renumber_106, bX12_renumber_107, a_ai, a_ald, a_cv, a_gi, a_gr, a_iadd, a_icge, a_icne, a_idiv, a_ild, a_inc, a_irem, a_ist, a_push, fx_71_12 hx, fx_71_14 hx, sh_71, sh_79, sh_80, pu_rv, pu_as, Value.category, pu_bk, pu_kl, List.replicate, pu_wi_1, pu_wi_2, nl_add, nl_ladd, nl_aa, nl_mul, nl_rmul, nl_mm, pu_qe0, pu_qe1, h13, hc, i2, o79, o80, sl2, wa, ch']
      all_goals try simp (maxSteps := 400000) (disch := omega) [nl_tle, nl_fle, nl_tlt, nl_flt, nl_teq, nl_feq, nl_sub, nl_ss, nl_lt, nl_llt, nl_ltt, nl_le, nl_lle, nl_lee, nl_eq, nl_leq, nl_ee, nl_div, nl_rem, nl_cl, nl_n1, nl_n2, nl_n3, nl_n4, nl_add, nl_ladd, nl_aa, nl_mul, nl_rmul, nl_mm, pu_wi_1, pu_wi_2, bX12_renumber_59, bX12_renumber_106, bX12_renumber_107, a_ai, a_ald, a_cv, a_gi, a_gr, a_iadd, a_icge, a_icne, a_idiv, a_ild, a_inc, a_irem, a_ist, a_push, fx_71_12 hx, fx_71_14 hx, sh_71, sh_79, sh_80, pu_rv, pu_as, Value.category, pu_bk, pu_kl, pu_qe0, pu_qe1, h13, hc, i2, o79, o80, sl2, wa, ch']
      all_goals try simp [bX12_renumber_59, bX12_renumber_106, bX12_renumber_107, a_ai, a_ald, a_cv, a_gi, a_gr, a_iadd, a_icge, a_icne, a_idiv, a_ild, a_inc, a_irem, a_ist, a_push, fx_71_12 hx, fx_71_14 hx, sh_71, sh_79, sh_80, pu_rv, pu_as, Value.category, pu_bk, pu_kl, List.replicate, pu_wi_1, pu_wi_2, nl_add, nl_ladd, nl_aa, nl_mul, nl_rmul, nl_mm, pu_qe0, pu_qe1, h13, hc, i2, o79, o80, sl2, wa, ch']
      all_goals try simp (maxSteps := 400000) (disch := omega) [nl_tle, nl_fle, nl_tlt, nl_flt, nl_teq, nl_feq, nl_sub, nl_ss, nl_lt, nl_llt, nl_ltt, nl_le, nl_lle, nl_lee, nl_eq, nl_leq, nl_ee, nl_div, nl_rem, nl_cl, nl_n1, nl_n2, nl_n3, nl_n4, nl_add, nl_ladd, nl_aa, nl_mul, nl_rmul, nl_mm, pu_wi_1, pu_wi_2, bX12_renumber_59, bX12_renumber_106, bX12_renumber_107, a_ai, a_ald, a_cv, a_gi, a_gr, a_iadd, a_icge, a_icne, a_idiv, a_ild, a_inc, a_irem, a_ist, a_push, fx_71_12 hx, fx_71_14 hx, sh_71, sh_79, sh_80, pu_rv, pu_as, Value.category, pu_bk, pu_kl, pu_qe0, pu_qe1, h13, hc, i2, o79, o80, sl2, wa, ch']
      all_goals try simp [bX12_renumber_59, bX12_renumber_106, bX12_renumber_107, a_ai, a_ald, a_cv, a_gi, a_gr, a_iadd, a_icge, a_icne, a_idiv, a_ild, a_inc, a_irem, a_ist, a_push, fx_71_12 hx, fx_71_14 hx, sh_71, sh_79, sh_80, pu_rv, pu_as, Value.category, pu_bk, pu_kl, List.replicate, pu_wi_1, pu_wi_2, nl_add, nl_ladd, nl_aa, nl_mul, nl_rmul, nl_mm, pu_qe0, pu_qe1, h13, hc, i2, o79, o80, sl2, wa, ch']
      all_goals try simp (maxSteps := 400000) (disch := omega) [nl_tle, nl_fle, nl_tlt, nl_flt, nl_teq, nl_feq, nl_sub, nl_ss, nl_lt, nl_llt, nl_ltt, nl_le, nl_lle, nl_lee, nl_eq, nl_leq, nl_ee, nl_div, nl_rem, nl_cl, nl_n1, nl_n2, nl_n3, nl_n4, nl_add, nl_ladd, nl_aa, nl_mul, nl_rmul, nl_mm, pu_wi_1, pu_wi_2, bX12_renumber_59, bX12_renumber_106, bX12_renumber_107, a_ai, a_ald, a_cv, a_gi, a_gr, a_iadd, a_icge, a_icne, a_idiv, a_ild, a_inc, a_irem, a_ist, a_push, fx_71_12 hx, fx_71_14 hx, sh_71, sh_79, sh_80, pu_rv, pu_as, Value.category, pu_bk, pu_kl, pu_qe0, pu_qe1, h13, hc, i2, o79, o80, sl2, wa, ch']
      all_goals try simp [bX12_renumber_59, bX12_renumber_106, bX12_renumber_107, a_ai, a_ald, a_cv, a_gi, a_gr, a_iadd, a_icge, a_icne, a_idiv, a_ild, a_inc, a_irem, a_ist, a_push, fx_71_12 hx, fx_71_14 hx, sh_71, sh_79, sh_80, pu_rv, pu_as, Value.category, pu_bk, pu_kl, List.replicate, pu_wi_1, pu_wi_2, nl_add, nl_ladd, nl_aa, nl_mul, nl_rmul, nl_mm, pu_qe0, pu_qe1, h13, hc, i2, o79, o80, sl2, wa, ch']
    · have ch' : W i = I 16 (V i) := Classical.byContradiction ch
      rw [py_cnt_f (c := fun a => W a ≠ I 16 (V a)) ch, ← r_rc_l hw hV hn hx hr h13 h79 h80 x1 x2 x3 t6 t7 t8 m (i + 1) c (by omega)]
      rw [ch'] at o80
      generalize pu_sl0 I (V i) = sv at *
      generalize I 16 (V i) = wv at *
      rw [qX12_renumber_59]
      simp [bX12_renumber_59, bX12_renumber_102, bX12_renumber_107, a_ai, a_ald, a_cv, a_gi, a_gr, a_iadd, a_icge, a_icne, a_idiv, a_ild, a_inc, a_irem, a_ist, a_push, fx_71_12 hx, fx_71_14 hx, sh_71, sh_79, sh_80, pu_rv, pu_as, Value.category, pu_bk, pu_kl, List.replicate, pu_wi_1, pu_wi_2, nl_add, nl_ladd, nl_aa, nl_mul, nl_rmul, nl_mm, pu_qe0, pu_qe1, h13, hc, i2, o79, o80, sl2, wa]
      all_goals try simp (maxSteps := 400000) (disch := omega) [nl_tle, nl_fle, nl_tlt, nl_flt, nl_teq, nl_feq, nl_sub, nl_ss, nl_lt, nl_llt, nl_ltt, nl_le, nl_lle, nl_lee, nl_eq, nl_leq, nl_ee, nl_div, nl_rem, nl_cl, nl_n1, nl_n2, nl_n3, nl_n4, nl_add, nl_ladd, nl_aa, nl_mul, nl_rmul, nl_mm, pu_wi_1, pu_wi_2, bX12_renumber_59, bX12_renumber_102, bX12_renumber_107, a_ai, a_ald, a_cv, a_gi, a_gr, a_iadd, a_icge, a_icne, a_idiv, a_ild, a_inc, a_irem, a_ist, a_push, fx_71_12 hx, fx_71_14 hx, sh_71, sh_79, sh_80, pu_rv, pu_as, Value.category, pu_bk, pu_kl, pu_qe0, pu_qe1, h13, hc, i2, o79, o80, sl2, wa]
      all_goals try simp [bX12_renumber_59, bX12_renumber_102, bX12_renumber_107, a_ai, a_ald, a_cv, a_gi, a_gr, a_iadd, a_icge, a_icne, a_idiv, a_ild, a_inc, a_irem, a_ist, a_push, fx_71_12 hx, fx_71_14 hx, sh_71, sh_79, sh_80, pu_rv, pu_as, Value.category, pu_bk, pu_kl, List.replicate, pu_wi_1, pu_wi_2, nl_add, nl_ladd, nl_aa, nl_mul, nl_rmul, nl_mm, pu_qe0, pu_qe1, h13, hc, i2, o79, o80, sl2, wa]
      all_goals try simp (maxSteps := 400000) (disch := omega) [nl_tle, nl_fle, nl_tlt, nl_flt, nl_teq, nl_feq, nl_sub, nl_ss, nl_lt, nl_llt, nl_ltt, nl_le, nl_lle, nl_lee, nl_eq, nl_leq, nl_ee, nl_div, nl_rem, nl_cl, nl_n1, nl_n2, nl_n3, nl_n4, nl_add, nl_ladd, nl_aa, nl_mul, nl_rmul, nl_mm, pu_wi_1, pu_wi_2, bX12_renumber_59, bX12_renumber_102, bX12_renumber_107, a_ai, a_ald, a_cv, a_gi, a_gr, a_iadd, a_icge, a_icne, a_idiv, a_ild, a_inc, a_irem, a_ist, a_push, fx_71_12 hx, fx_71_14 hx, sh_71, sh_79, sh_80, pu_rv, pu_as, Value.category, pu_bk, pu_kl, pu_qe0, pu_qe1, h13, hc, i2, o79, o80, sl2, wa]
      all_goals try simp [bX12_renumber_59, bX12_renumber_102, bX12_renumber_107, a_ai, a_ald, a_cv, a_gi, a_gr, a_iadd, a_icge, a_icne, a_idiv, a_ild, a_inc, a_irem, a_ist, a_push, fx_71_12 hx, fx_71_14 hx, sh_71, sh_79, sh_80, pu_rv, pu_as, Value.category, pu_bk, pu_kl, List.replicate, pu_wi_1, pu_wi_2, nl_add, nl_ladd, nl_aa, nl_mul, nl_rmul, nl_mm, pu_qe0, pu_qe1, h13, hc, i2, o79, o80, sl2, wa]
      all_goals try simp (maxSteps := 400000) (disch := omega) [nl_tle, nl_fle, nl_tlt, nl_flt, nl_teq, nl_feq, nl_sub, nl_ss, nl_lt, nl_llt, nl_ltt, nl_le, nl_lle, nl_lee, nl_eq, nl_leq, nl_ee, nl_div, nl_rem, nl_cl, nl_n1, nl_n2, nl_n3, nl_n4, nl_add, nl_ladd, nl_aa, nl_mul, nl_rmul, nl_mm, pu_wi_1, pu_wi_2, bX12_renumber_59, bX12_renumber_102, bX12_renumber_107, a_ai, a_ald, a_cv, a_gi, a_gr, a_iadd, a_icge, a_icne, a_idiv, a_ild, a_inc, a_irem, a_ist, a_push, fx_71_12 hx, fx_71_14 hx, sh_71, sh_79, sh_80, pu_rv, pu_as, Value.category, pu_bk, pu_kl, pu_qe0, pu_qe1, h13, hc, i2, o79, o80, sl2, wa]
      all_goals try simp [bX12_renumber_59, bX12_renumber_102, bX12_renumber_107, a_ai, a_ald, a_cv, a_gi, a_gr, a_iadd, a_icge, a_icne, a_idiv, a_ild, a_inc, a_irem, a_ist, a_push, fx_71_12 hx, fx_71_14 hx, sh_71, sh_79, sh_80, pu_rv, pu_as, Value.category, pu_bk, pu_kl, List.replicate, pu_wi_1, pu_wi_2, nl_add, nl_ladd, nl_aa, nl_mul, nl_rmul, nl_mm, pu_qe0, pu_qe1, h13, hc, i2, o79, o80, sl2, wa]
/-- the reference, c numbers given -/
def py_rGv (I : Nat → Nat → Int32) (st : Nat) (V : Nat → Nat) (W : Nat → Int32) (P : Nat) (B N : pu_M) (X : Nat → Nat) (c : Nat) : Prop := N.2 = B.2 ∧ (∀ x j, x ≠ 72 → N.1 x j = B.1 x j) ∧ (∀ j, j ≠ 6 → ¬ (10752 + 6 * cU I ≤ j ∧ j < 10752 + 6 * (cU I + c)) → (∀ t, t < c → j ≠ 10752 + 6 * V (X t) + 5) → N.1 72 j = B.1 72 j) ∧ N.1 72 6 = nI (cU I + c) ∧ (∀ t, t < c → N.1 72 (10752 + 6 * (cU I + t)) = nI (pu_sl0 I (V (X t)) / 2) ∧ N.1 72 (10752 + 6 * (cU I + t) + 1) = nI (pu_sl0 I (V (X t)) % 2) ∧ N.1 72 (10752 + 6 * (cU I + t) + 2) = nI st ∧ N.1 72 (10752 + 6 * (cU I + t) + 3) = W (X t) ∧ N.1 72 (10752 + 6 * (cU I + t) + 4) = nI P ∧ N.1 72 (10752 + 6 * (cU I + t) + 5) = -1) ∧ (∀ t, t < c → N.1 72 (10752 + 6 * V (X t) + 5) = nI P)
theorem r_gv_l (hw : pu_WF I L) (hn : n ≤ 100) (SLV : py_SL (py_aq I ru) (py_osx I st) V n) {B : pu_M} {P tot : Nat} {W : Nat → Int32} (hP : P < 200) (hxB : pu_fx B) (h13 : B.1 71 13 = nI n) (h79 : ∀ a, a < n → B.1 79 a = nI (pu_sl0 I (V a))) (h80 : ∀ a, a < n → B.1 80 a = W a) (bu : ∀ k, k < cU I → B.1 72 (10752 + 6 * k) = nI (pu_sl0 I k / 2) ∧ B.1 72 (10752 + 6 * k + 1) = nI (pu_sl0 I k % 2) ∧ B.1 72 (10752 + 6 * k + 3) = I 16 k ∧ B.1 72 (10752 + 6 * k + 5) = I 18 k) (hT : cU I + tot ≤ 3000) (x2 x3 x4 : Int32) : ∀ (m i : Nat) (N : pu_M) (X : Nat → Nat) (c : Nat) (t7 t8 : Option Value), i + m = n → c + py_cnt (fun a => W a ≠ I 16 (V a)) m i = tot → py_rGv I st V W P B N X c → py_SL (fun a => a) (fun a => a < i ∧ W a ≠ I 16 (V a)) X c → ∃ N1 X1, py_rGv I st V W P B N1 X1 tot ∧ py_SL (fun a => a) (fun a => a < n ∧ W a ≠ I 16 (V a)) X1 tot ∧ pu_r 477 [some (.ref 71), some (.int (nI st)), some (.int x2), some (.int x3), some (.int x4), some (.int (nI P)), some (.int (nI i)), t7, t8] [] N = some (some (.int x4), N1)
  | 0, i, N, X, c, t7, t8, h, ht, g, sl => by
    have hx : pu_fx N := pz_fx_of hxB g.1
    have e : i = n := by omega
    have n13 : N.1 71 13 = nI n := by rw [g.2.1 71 13 (by omega)]; exact h13
    have hc : nI n ≤ nI n := nI_le (by omega) (by omega)
    have ct : c = tot := ht
    refine ⟨N, X, by rw [← ct]; exact g, by rw [← ct, ← e]; exact sl, ?_⟩
    rw [e]
    rw [qX12_renumber_199]
    simp [bX12_renumber_199, bX12_renumber_299, a_ai, a_ald, a_cv, a_gi, a_gr, a_icge, a_idiv, a_ild, a_irem, a_iret, a_ist, a_push, fx_71_12 hx, fx_71_14 hx, sh_71, sh_79, sh_80, pu_rv, pu_as, Value.category, pu_bk, pu_kl, List.replicate, pu_wi_1, pu_wi_2, nl_add, nl_ladd, nl_aa, nl_mul, nl_rmul, nl_mm, pu_qe0, pu_qe1, n13, hc]
    all_goals try simp (maxSteps := 400000) (disch := omega) [nl_tle, nl_fle, nl_tlt, nl_flt, nl_teq, nl_feq, nl_sub, nl_ss, nl_lt, nl_llt, nl_ltt, nl_le, nl_lle, nl_lee, nl_eq, nl_leq, nl_ee, nl_div, nl_rem, nl_cl, nl_n1, nl_n2, nl_n3, nl_n4, nl_add, nl_ladd, nl_aa, nl_mul, nl_rmul, nl_mm, pu_wi_1, pu_wi_2, bX12_renumber_199, bX12_renumber_299, a_ai, a_ald, a_cv, a_gi, a_gr, a_icge, a_idiv, a_ild, a_irem, a_iret, a_ist, a_push, fx_71_12 hx, fx_71_14 hx, sh_71, sh_79, sh_80, pu_rv, pu_as, Value.category, pu_bk, pu_kl, pu_qe0, pu_qe1, n13, hc]
    all_goals try simp [bX12_renumber_199, bX12_renumber_299, a_ai, a_ald, a_cv, a_gi, a_gr, a_icge, a_idiv, a_ild, a_irem, a_iret, a_ist, a_push, fx_71_12 hx, fx_71_14 hx, sh_71, sh_79, sh_80, pu_rv, pu_as, Value.category, pu_bk, pu_kl, List.replicate, pu_wi_1, pu_wi_2, nl_add, nl_ladd, nl_aa, nl_mul, nl_rmul, nl_mm, pu_qe0, pu_qe1, n13, hc]
    all_goals try simp (maxSteps := 400000) (disch := omega) [nl_tle, nl_fle, nl_tlt, nl_flt, nl_teq, nl_feq, nl_sub, nl_ss, nl_lt, nl_llt, nl_ltt, nl_le, nl_lle, nl_lee, nl_eq, nl_leq, nl_ee, nl_div, nl_rem, nl_cl, nl_n1, nl_n2, nl_n3, nl_n4, nl_add, nl_ladd, nl_aa, nl_mul, nl_rmul, nl_mm, pu_wi_1, pu_wi_2, bX12_renumber_199, bX12_renumber_299, a_ai, a_ald, a_cv, a_gi, a_gr, a_icge, a_idiv, a_ild, a_irem, a_iret, a_ist, a_push, fx_71_12 hx, fx_71_14 hx, sh_71, sh_79, sh_80, pu_rv, pu_as, Value.category, pu_bk, pu_kl, pu_qe0, pu_qe1, n13, hc]
    all_goals try simp [bX12_renumber_199, bX12_renumber_299, a_ai, a_ald, a_cv, a_gi, a_gr, a_icge, a_idiv, a_ild, a_irem, a_iret, a_ist, a_push, fx_71_12 hx, fx_71_14 hx, sh_71, sh_79, sh_80, pu_rv, pu_as, Value.category, pu_bk, pu_kl, List.replicate, pu_wi_1, pu_wi_2, nl_add, nl_ladd, nl_aa, nl_mul, nl_rmul, nl_mm, pu_qe0, pu_qe1, n13, hc]
    all_goals try simp (maxSteps := 400000) (disch := omega) [nl_tle, nl_fle, nl_tlt, nl_flt, nl_teq, nl_feq, nl_sub, nl_ss, nl_lt, nl_llt, nl_ltt, nl_le, nl_lle, nl_lee, nl_eq, nl_leq, nl_ee, nl_div, nl_rem, nl_cl, nl_n1, nl_n2, nl_n3, nl_n4, nl_add, nl_ladd, nl_aa, nl_mul, nl_rmul, nl_mm, pu_wi_1, pu_wi_2, bX12_renumber_199, bX12_renumber_299, a_ai, a_ald, a_cv, a_gi, a_gr, a_icge, a_idiv, a_ild, a_irem, a_iret, a_ist, a_push, fx_71_12 hx, fx_71_14 hx, sh_71, sh_79, sh_80, pu_rv, pu_as, Value.category, pu_bk, pu_kl, pu_qe0, pu_qe1, n13, hc]
    all_goals try simp [bX12_renumber_199, bX12_renumber_299, a_ai, a_ald, a_cv, a_gi, a_gr, a_icge, a_idiv, a_ild, a_irem, a_iret, a_ist, a_push, fx_71_12 hx, fx_71_14 hx, sh_71, sh_79, sh_80, pu_rv, pu_as, Value.category, pu_bk, pu_kl, List.replicate, pu_wi_1, pu_wi_2, nl_add, nl_ladd, nl_aa, nl_mul, nl_rmul, nl_mm, pu_qe0, pu_qe1, n13, hc]
  | m + 1, i, N, X, c, t7, t8, h, ht, g, sl => by
    have bU := wx_bU hw
    have bD := wx_bD hw
    obtain ⟨g1, g2, g3, g4, g5, g6⟩ := id g
    have hx : pu_fx N := pz_fx_of hxB g1
    have inn : i < n := by omega
    have i2 : i < 200 := by omega
    have hc : ¬ nI n ≤ nI i := nI_ge (by omega) (by omega)
    have n13 : N.1 71 13 = nI n := by rw [g2 71 13 (by omega)]; exact h13
    have n79 : N.1 79 i = nI (pu_sl0 I (V i)) := by rw [g2 79 i (by omega)]; exact h79 i inn
    have n80 : N.1 80 i = W i := by rw [g2 80 i (by omega)]; exact h80 i inn
    have os := SLV.1 i inn
    have vU := os.1
    have sl1 := (pu_sl_lt hw vU).1
    have sl2 : pu_sl0 I (V i) < 200 := by omega
    have nX : ∀ t, t < c → X t < i := fun t ht => (sl.1 t ht).1
    have nV : ∀ t, t < c → V (X t) ≠ V i := fun t ht e => by
      have := py_SL_i SLV (by have := nX t ht; omega) inn e
      have := nX t ht
      omega
    have oX : ∀ t, t < c → py_osx I st (V (X t)) := fun t ht => SLV.1 (X t) (by have := nX t ht; omega)
    have cT : c ≤ tot := by omega
    have ro : py_ro N (cU I + c) (fun k => if k < cU I then pu_sl0 I k else pu_sl0 I (V (X (k - cU I)))) := ⟨g4, fun k hk => by
      show N.1 72 (10752 + 6 * k) = nI ((if k < cU I then pu_sl0 I k else pu_sl0 I (V (X (k - cU I)))) / 2) ∧ N.1 72 (10752 + 6 * k + 1) = nI ((if k < cU I then pu_sl0 I k else pu_sl0 I (V (X (k - cU I)))) % 2) ∧ (if k < cU I then pu_sl0 I k else pu_sl0 I (V (X (k - cU I)))) < 200
      by_cases z : k < cU I
      · have b := bu k z
        have l := (pu_sl_lt hw z).1
        rw [if_pos z, g3 _ (by omega) (by omega) (fun t ht => by omega), g3 _ (by omega) (by omega) (fun t ht => by omega)]
        exact ⟨b.1, b.2.1, by omega⟩
      · have q := g5 (k - cU I) (by omega)
        have l := (pu_sl_lt hw (oX (k - cU I) (by omega)).1).1
        rw [show cU I + (k - cU I) = k by omega] at q
        rw [if_neg z]
        exact ⟨q.1, q.2.1, by omega⟩⟩
    have hs : (fun k => if k < cU I then pu_sl0 I k else pu_sl0 I (V (X (k - cU I)))) (V i) = 2 * (pu_sl0 I (V i) / 2) + pu_sl0 I (V i) % 2 := by
      show (if V i < cU I then pu_sl0 I (V i) else _) = _
      rw [if_pos vU]
      omega
    have h5 : N.1 72 (10752 + 6 * V i + 5) = -1 := by
      rw [g3 _ (by omega) (by omega) (fun t ht z => nV t ht (by omega)), (bu (V i) vU).2.2.2]
      exact os.2.2
    have hu : ∀ l, V i < l → l < cU I + c → (fun k => if k < cU I then pu_sl0 I k else pu_sl0 I (V (X (k - cU I)))) l = 2 * (pu_sl0 I (V i) / 2) + pu_sl0 I (V i) % 2 → N.1 72 (10752 + 6 * l + 5) ≠ -1 := fun l l1 l2 l3 => by
      have l3' : (if l < cU I then pu_sl0 I l else pu_sl0 I (V (X (l - cU I)))) = 2 * (pu_sl0 I (V i) / 2) + pu_sl0 I (V i) % 2 := l3
      rw [show 2 * (pu_sl0 I (V i) / 2) + pu_sl0 I (V i) % 2 = pu_sl0 I (V i) by omega] at l3'
      by_cases z : l < cU I
      · rw [if_pos z] at l3'
        by_cases q : ∃ t, t < c ∧ V (X t) = l
        · obtain ⟨t, t1, t2⟩ := q
          rw [← t2, g6 t t1]
          exact fun k => by rw [nl_n1 _ (by omega)] at k; exact k
        · rw [g3 _ (by omega) (by omega) (fun t ht k => q ⟨t, ht, by omega⟩), (bu l z).2.2.2]
          intro k
          have := pz_os_un hw (j := pu_sl0 I (V i)) ⟨z, l3', k⟩ ⟨vU, rfl, os.2.2⟩
          omega
      · rw [if_neg z] at l3'
        have o := oX (l - cU I) (by omega)
        have := pz_os_un hw (j := pu_sl0 I (V i)) ⟨o.1, l3', o.2.2⟩ ⟨vU, rfl, os.2.2⟩
        exact absurd this (nV (l - cU I) (by omega))
    have wa := r_wholeAtG hx (by omega) ro (d := pu_sl0 I (V i) / 2) (w := pu_sl0 I (V i) % 2) (k := V i) (by omega) (by omega) (by omega) hs h5 hu
    have wv : N.1 72 (10752 + 6 * V i + 3) = I 16 (V i) := by
      rw [g3 _ (by omega) (by omega) (fun t ht => by omega)]
      exact (bu (V i) vU).2.2.1
    rw [wv] at wa
    have F14 := fx_71_14 hx
    have K : pu_r 477 [some (.ref 71), some (.int (nI st)), some (.int x2), some (.int x3), some (.int x4), some (.int (nI P)), some (.int (nI i)), t7, t8] [] N = kX12_renumber_242 pu_r [some (.ref 71), some (.int (nI st)), some (.int x2), some (.int x3), some (.int x4), some (.int (nI P)), some (.int (nI i)), some (.int (nI (pu_sl0 I (V i) / 2))), some (.int (nI (pu_sl0 I (V i) % 2)))] [.ref 80, .int (I 16 (V i))] N := by
      rw [qX12_renumber_199]
      generalize pu_sl0 I (V i) = sv at *
      generalize I 16 (V i) = w16 at *
      simp [bX12_renumber_199, a_ai, a_ald, a_cv, a_gi, a_gr, a_icge, a_idiv, a_ild, a_irem, a_ist, a_push, fx_71_12 hx, fx_71_14 hx, sh_71, sh_79, sh_80, pu_rv, pu_as, Value.category, pu_bk, pu_kl, List.replicate, pu_wi_1, pu_wi_2, nl_add, nl_ladd, nl_aa, nl_mul, nl_rmul, nl_mm, pu_qe0, pu_qe1, n13, hc, i2, n79, sl2, wa]
      all_goals try simp (maxSteps := 400000) (disch := omega) [nl_tle, nl_fle, nl_tlt, nl_flt, nl_teq, nl_feq, nl_sub, nl_ss, nl_lt, nl_llt, nl_ltt, nl_le, nl_lle, nl_lee, nl_eq, nl_leq, nl_ee, nl_div, nl_rem, nl_cl, nl_n1, nl_n2, nl_n3, nl_n4, nl_add, nl_ladd, nl_aa, nl_mul, nl_rmul, nl_mm, pu_wi_1, pu_wi_2, bX12_renumber_199, a_ai, a_ald, a_cv, a_gi, a_gr, a_icge, a_idiv, a_ild, a_irem, a_ist, a_push, fx_71_12 hx, fx_71_14 hx, sh_71, sh_79, sh_80, pu_rv, pu_as, Value.category, pu_bk, pu_kl, pu_qe0, pu_qe1, n13, hc, i2, n79, sl2, wa]
      all_goals try simp [bX12_renumber_199, a_ai, a_ald, a_cv, a_gi, a_gr, a_icge, a_idiv, a_ild, a_irem, a_ist, a_push, fx_71_12 hx, fx_71_14 hx, sh_71, sh_79, sh_80, pu_rv, pu_as, Value.category, pu_bk, pu_kl, List.replicate, pu_wi_1, pu_wi_2, nl_add, nl_ladd, nl_aa, nl_mul, nl_rmul, nl_mm, pu_qe0, pu_qe1, n13, hc, i2, n79, sl2, wa]
      all_goals try simp (maxSteps := 400000) (disch := omega) [nl_tle, nl_fle, nl_tlt, nl_flt, nl_teq, nl_feq, nl_sub, nl_ss, nl_lt, nl_llt, nl_ltt, nl_le, nl_lle, nl_lee, nl_eq, nl_leq, nl_ee, nl_div, nl_rem, nl_cl, nl_n1, nl_n2, nl_n3, nl_n4, nl_add, nl_ladd, nl_aa, nl_mul, nl_rmul, nl_mm, pu_wi_1, pu_wi_2, bX12_renumber_199, a_ai, a_ald, a_cv, a_gi, a_gr, a_icge, a_idiv, a_ild, a_irem, a_ist, a_push, fx_71_12 hx, fx_71_14 hx, sh_71, sh_79, sh_80, pu_rv, pu_as, Value.category, pu_bk, pu_kl, pu_qe0, pu_qe1, n13, hc, i2, n79, sl2, wa]
      all_goals try simp [bX12_renumber_199, a_ai, a_ald, a_cv, a_gi, a_gr, a_icge, a_idiv, a_ild, a_irem, a_ist, a_push, fx_71_12 hx, fx_71_14 hx, sh_71, sh_79, sh_80, pu_rv, pu_as, Value.category, pu_bk, pu_kl, List.replicate, pu_wi_1, pu_wi_2, nl_add, nl_ladd, nl_aa, nl_mul, nl_rmul, nl_mm, pu_qe0, pu_qe1, n13, hc, i2, n79, sl2, wa]
      all_goals try simp (maxSteps := 400000) (disch := omega) [nl_tle, nl_fle, nl_tlt, nl_flt, nl_teq, nl_feq, nl_sub, nl_ss, nl_lt, nl_llt, nl_ltt, nl_le, nl_lle, nl_lee, nl_eq, nl_leq, nl_ee, nl_div, nl_rem, nl_cl, nl_n1, nl_n2, nl_n3, nl_n4, nl_add, nl_ladd, nl_aa, nl_mul, nl_rmul, nl_mm, pu_wi_1, pu_wi_2, bX12_renumber_199, a_ai, a_ald, a_cv, a_gi, a_gr, a_icge, a_idiv, a_ild, a_irem, a_ist, a_push, fx_71_12 hx, fx_71_14 hx, sh_71, sh_79, sh_80, pu_rv, pu_as, Value.category, pu_bk, pu_kl, pu_qe0, pu_qe1, n13, hc, i2, n79, sl2, wa]
      all_goals try simp [bX12_renumber_199, a_ai, a_ald, a_cv, a_gi, a_gr, a_icge, a_idiv, a_ild, a_irem, a_ist, a_push, fx_71_12 hx, fx_71_14 hx, sh_71, sh_79, sh_80, pu_rv, pu_as, Value.category, pu_bk, pu_kl, List.replicate, pu_wi_1, pu_wi_2, nl_add, nl_ladd, nl_aa, nl_mul, nl_rmul, nl_mm, pu_qe0, pu_qe1, n13, hc, i2, n79, sl2, wa]
    by_cases ch : W i ≠ I 16 (V i)
    rotate_left
    · rw [py_cnt_f (c := fun a => W a ≠ I 16 (V a)) ch] at ht
      obtain ⟨N1, X1, y1, y2, y3⟩ := r_gv_l hw hn SLV hP hxB h13 h79 h80 bu hT x2 x3 x4 m (i + 1) N X c (some (.int (nI (pu_sl0 I (V i) / 2)))) (some (.int (nI (pu_sl0 I (V i) % 2)))) (by omega) ht g (py_SL_c sl (fun a => ⟨fun z => ⟨by omega, z.2⟩, fun z => ⟨by
        have : a ≠ i := fun q => ch (by rw [← q]; exact z.2)
        have := z.1
        omega, z.2⟩⟩))
      refine ⟨N1, X1, y1, y2, ?_⟩
      rw [K, ← y3]
      have ch' : W i = I 16 (V i) := Classical.byContradiction ch
      rw [ch'] at n80
      generalize pu_sl0 I (V i) = sv at *
      generalize I 16 (V i) = w16 at *
      simp [bX12_renumber_242, bX12_renumber_293, a_ai, a_icne, a_ild, a_inc, pu_rv, pu_as, Value.category, pu_bk, pu_kl, List.replicate, pu_wi_1, pu_wi_2, nl_add, nl_ladd, nl_aa, nl_mul, nl_rmul, nl_mm, pu_qe0, pu_qe1, sh_80, i2, n80]
      all_goals try simp (maxSteps := 400000) (disch := omega) [nl_tle, nl_fle, nl_tlt, nl_flt, nl_teq, nl_feq, nl_sub, nl_ss, nl_lt, nl_llt, nl_ltt, nl_le, nl_lle, nl_lee, nl_eq, nl_leq, nl_ee, nl_div, nl_rem, nl_cl, nl_n1, nl_n2, nl_n3, nl_n4, nl_add, nl_ladd, nl_aa, nl_mul, nl_rmul, nl_mm, pu_wi_1, pu_wi_2, bX12_renumber_242, bX12_renumber_293, a_ai, a_icne, a_ild, a_inc, pu_rv, pu_as, Value.category, pu_bk, pu_kl, pu_qe0, pu_qe1, sh_80, i2, n80]
      all_goals try simp [bX12_renumber_242, bX12_renumber_293, a_ai, a_icne, a_ild, a_inc, pu_rv, pu_as, Value.category, pu_bk, pu_kl, List.replicate, pu_wi_1, pu_wi_2, nl_add, nl_ladd, nl_aa, nl_mul, nl_rmul, nl_mm, pu_qe0, pu_qe1, sh_80, i2, n80]
      all_goals try simp (maxSteps := 400000) (disch := omega) [nl_tle, nl_fle, nl_tlt, nl_flt, nl_teq, nl_feq, nl_sub, nl_ss, nl_lt, nl_llt, nl_ltt, nl_le, nl_lle, nl_lee, nl_eq, nl_leq, nl_ee, nl_div, nl_rem, nl_cl, nl_n1, nl_n2, nl_n3, nl_n4, nl_add, nl_ladd, nl_aa, nl_mul, nl_rmul, nl_mm, pu_wi_1, pu_wi_2, bX12_renumber_242, bX12_renumber_293, a_ai, a_icne, a_ild, a_inc, pu_rv, pu_as, Value.category, pu_bk, pu_kl, pu_qe0, pu_qe1, sh_80, i2, n80]
      all_goals try simp [bX12_renumber_242, bX12_renumber_293, a_ai, a_icne, a_ild, a_inc, pu_rv, pu_as, Value.category, pu_bk, pu_kl, List.replicate, pu_wi_1, pu_wi_2, nl_add, nl_ladd, nl_aa, nl_mul, nl_rmul, nl_mm, pu_qe0, pu_qe1, sh_80, i2, n80]
      all_goals try simp (maxSteps := 400000) (disch := omega) [nl_tle, nl_fle, nl_tlt, nl_flt, nl_teq, nl_feq, nl_sub, nl_ss, nl_lt, nl_llt, nl_ltt, nl_le, nl_lle, nl_lee, nl_eq, nl_leq, nl_ee, nl_div, nl_rem, nl_cl, nl_n1, nl_n2, nl_n3, nl_n4, nl_add, nl_ladd, nl_aa, nl_mul, nl_rmul, nl_mm, pu_wi_1, pu_wi_2, bX12_renumber_242, bX12_renumber_293, a_ai, a_icne, a_ild, a_inc, pu_rv, pu_as, Value.category, pu_bk, pu_kl, pu_qe0, pu_qe1, sh_80, i2, n80]
      all_goals try simp [bX12_renumber_242, bX12_renumber_293, a_ai, a_icne, a_ild, a_inc, pu_rv, pu_as, Value.category, pu_bk, pu_kl, List.replicate, pu_wi_1, pu_wi_2, nl_add, nl_ladd, nl_aa, nl_mul, nl_rmul, nl_mm, pu_qe0, pu_qe1, sh_80, i2, n80]
    · rw [py_cnt_t (c := fun a => W a ≠ I 16 (V a)) ch] at ht
      have ch' : ¬ I 16 (V i) = W i := fun z => ch z.symm
      have osp := r_openSpanG hx (by omega) ro (d := pu_sl0 I (V i) / 2) (w := pu_sl0 I (V i) % 2) (k := V i) (by omega) (by omega) (by omega) hs h5 hu
      obtain ⟨A, hA⟩ : ∃ A, pu_wi N 72 (10752 + 6 * V i + 5) (nI P) = A := ⟨_, rfl⟩
      have Ao : ∀ x j, ¬ (x = 72 ∧ j = 10752 + 6 * V i + 5) → A.1 x j = N.1 x j := fun x j z => by rw [← hA, py_wi_o z]
      have A5 : A.1 72 (10752 + 6 * V i + 5) = nI P := by rw [← hA]; simp [pu_wi_1]
      have hxA : pu_fx A := by rw [← hA]; exact hx
      have a6 : A.1 72 6 = nI (cU I + c) := by rw [Ao 72 6 (by omega)]; exact g4
      have op := r_opens hxA (cU I + c) a6 (by omega) (nI (pu_sl0 I (V i) / 2)) (nI (pu_sl0 I (V i) % 2)) (nI st) (W i) (nI P)
      obtain ⟨T, hT2⟩ : ∃ T, pz_ro1 A (cU I + c) (nI (pu_sl0 I (V i) / 2)) (nI (pu_sl0 I (V i) % 2)) (nI st) (W i) (nI P) = T := ⟨_, rfl⟩
      have To : ∀ x j, ¬ (x = 72 ∧ j = 6) → ¬ (x = 72 ∧ 10752 + 6 * (cU I + c) ≤ j ∧ j < 10752 + 6 * (cU I + c) + 6) → T.1 x j = A.1 x j := fun x j z1 z2 => by rw [← hT2]; exact pz_ro1_o z1 z2
      have Tv := pz_ro1_v (M := A) (n := cU I + c) (d := nI (pu_sl0 I (V i) / 2)) (w := nI (pu_sl0 I (V i) % 2)) (st := nI st) (v := W i) (p := nI P)
      rw [hT2] at op Tv
      have VX : ∀ t, t < c → pu_vi X c i t = X t := fun t ht => by unfold pu_vi; rw [if_pos ht]
      have VC : pu_vi X c i c = i := by unfold pu_vi; rw [if_neg (by omega), if_pos rfl]
      have gT : py_rGv I st V W P B T (pu_vi X c i) (c + 1) := by
        refine ⟨by rw [← hT2, ← g1, ← hA]; rfl, fun x j z => by rw [To x j (by omega) (by omega), Ao x j (by omega)]; exact g2 x j z, fun j z1 z2 z3 => ?_, by rw [← Nat.add_assoc]; exact Tv.1, fun t ht2 => ?_, fun t ht2 => ?_⟩
        · have nz : j ≠ 10752 + 6 * V i + 5 := by
            have := z3 c (by omega)
            rw [VC] at this
            exact this
          rw [To 72 j (by omega) (by omega), Ao 72 j (by omega)]
          exact g3 j z1 (by omega) (fun t ht => by
            have := z3 t (by omega)
            rw [VX t ht] at this
            exact this)
        · by_cases q : t = c
          · rw [q, VC]
            exact Tv.2
          · have tc : t < c := by omega
            rw [VX t tc, To 72 _ (by omega) (by omega), To 72 _ (by omega) (by omega), To 72 _ (by omega) (by omega), To 72 _ (by omega) (by omega), To 72 _ (by omega) (by omega), To 72 _ (by omega) (by omega), Ao 72 _ (by omega), Ao 72 _ (by omega), Ao 72 _ (by omega), Ao 72 _ (by omega), Ao 72 _ (by omega), Ao 72 _ (by omega)]
            exact g5 t tc
        · by_cases q : t = c
          · rw [q, VC, To 72 _ (by omega) (by omega)]
            exact A5
          · have tc : t < c := by omega
            have := (oX t tc).1
            rw [VX t tc, To 72 _ (by omega) (by omega), Ao 72 _ (fun z => nV t tc (by omega))]
            exact g6 t tc
      obtain ⟨N1, X1, y1, y2, y3⟩ := r_gv_l hw hn SLV hP hxB h13 h79 h80 bu hT x2 x3 x4 m (i + 1) T (pu_vi X c i) (c + 1) (some (.int (nI (pu_sl0 I (V i) / 2)))) (some (.int (nI (pu_sl0 I (V i) % 2)))) (by omega) (by omega) gT (py_SL_c (py_SL_add (k := i) sl (Nat.le_refl c) (fun j q1 q2 => by omega) (by
        by_cases z : c = 0
        · exact Or.inl z
        · exact Or.inr (nX (c - 1) (by omega)))) (fun a => ⟨fun z => by
        rcases z with z | z
        · exact ⟨by omega, z.2⟩
        · rw [z]; exact ⟨by omega, ch⟩, fun z => by
        by_cases q : a = i
        · exact Or.inr q
        · exact Or.inl ⟨by omega, z.2⟩⟩))
      refine ⟨N1, X1, y1, y2, ?_⟩
      rw [K, ← y3]
      have F0 := fx_71_0 hx
      have a14 := fx_71_14 hxA
      have a80 : A.1 80 i = W i := by rw [Ao 80 i (by omega)]; exact n80
      have u3 : V i < 3000 := by omega
      generalize pu_sl0 I (V i) / 2 = sd at *
      generalize pu_sl0 I (V i) % 2 = sw at *
      generalize I 16 (V i) = w16 at *
      generalize W i = fv at *
      generalize V i = vi at *
      have K2 : kX12_renumber_242 pu_r [some (.ref 71), some (.int (nI st)), some (.int x2), some (.int x3), some (.int x4), some (.int (nI P)), some (.int (nI i)), some (.int (nI sd)), some (.int (nI sw))] [.ref 80, .int w16] N = kX12_renumber_251 pu_r [some (.ref 71), some (.int (nI st)), some (.int x2), some (.int x3), some (.int x4), some (.int (nI P)), some (.int (nI i)), some (.int (nI sd)), some (.int (nI sw))] [] N := by
        simp [bX12_renumber_242, a_ai, a_icne, a_ild, pu_rv, pu_as, Value.category, pu_bk, pu_kl, List.replicate, pu_wi_1, pu_wi_2, nl_add, nl_ladd, nl_aa, nl_mul, nl_rmul, nl_mm, pu_qe0, pu_qe1, sh_80, i2, n80, ch']
        all_goals try simp (maxSteps := 400000) (disch := omega) [nl_tle, nl_fle, nl_tlt, nl_flt, nl_teq, nl_feq, nl_sub, nl_ss, nl_lt, nl_llt, nl_ltt, nl_le, nl_lle, nl_lee, nl_eq, nl_leq, nl_ee, nl_div, nl_rem, nl_cl, nl_n1, nl_n2, nl_n3, nl_n4, nl_add, nl_ladd, nl_aa, nl_mul, nl_rmul, nl_mm, pu_wi_1, pu_wi_2, bX12_renumber_242, a_ai, a_icne, a_ild, pu_rv, pu_as, Value.category, pu_bk, pu_kl, pu_qe0, pu_qe1, sh_80, i2, n80, ch']
        all_goals try simp [bX12_renumber_242, a_ai, a_icne, a_ild, pu_rv, pu_as, Value.category, pu_bk, pu_kl, List.replicate, pu_wi_1, pu_wi_2, nl_add, nl_ladd, nl_aa, nl_mul, nl_rmul, nl_mm, pu_qe0, pu_qe1, sh_80, i2, n80, ch']
        all_goals try simp (maxSteps := 400000) (disch := omega) [nl_tle, nl_fle, nl_tlt, nl_flt, nl_teq, nl_feq, nl_sub, nl_ss, nl_lt, nl_llt, nl_ltt, nl_le, nl_lle, nl_lee, nl_eq, nl_leq, nl_ee, nl_div, nl_rem, nl_cl, nl_n1, nl_n2, nl_n3, nl_n4, nl_add, nl_ladd, nl_aa, nl_mul, nl_rmul, nl_mm, pu_wi_1, pu_wi_2, bX12_renumber_242, a_ai, a_icne, a_ild, pu_rv, pu_as, Value.category, pu_bk, pu_kl, pu_qe0, pu_qe1, sh_80, i2, n80, ch']
        all_goals try simp [bX12_renumber_242, a_ai, a_icne, a_ild, pu_rv, pu_as, Value.category, pu_bk, pu_kl, List.replicate, pu_wi_1, pu_wi_2, nl_add, nl_ladd, nl_aa, nl_mul, nl_rmul, nl_mm, pu_qe0, pu_qe1, sh_80, i2, n80, ch']
        all_goals try simp (maxSteps := 400000) (disch := omega) [nl_tle, nl_fle, nl_tlt, nl_flt, nl_teq, nl_feq, nl_sub, nl_ss, nl_lt, nl_llt, nl_ltt, nl_le, nl_lle, nl_lee, nl_eq, nl_leq, nl_ee, nl_div, nl_rem, nl_cl, nl_n1, nl_n2, nl_n3, nl_n4, nl_add, nl_ladd, nl_aa, nl_mul, nl_rmul, nl_mm, pu_wi_1, pu_wi_2, bX12_renumber_242, a_ai, a_icne, a_ild, pu_rv, pu_as, Value.category, pu_bk, pu_kl, pu_qe0, pu_qe1, sh_80, i2, n80, ch']
        all_goals try simp [bX12_renumber_242, a_ai, a_icne, a_ild, pu_rv, pu_as, Value.category, pu_bk, pu_kl, List.replicate, pu_wi_1, pu_wi_2, nl_add, nl_ladd, nl_aa, nl_mul, nl_rmul, nl_mm, pu_qe0, pu_qe1, sh_80, i2, n80, ch']
      rw [K2]
      simp [bX12_renumber_251, bX12_renumber_293, a_ai, a_ald, a_cv, a_gr, a_iadd, a_ild, a_imul, a_inc, a_push, a_wi, sh_71, sh_72, sh_80, pu_rv, pu_as, Value.category, pu_bk, pu_kl, List.replicate, pu_wi_1, pu_wi_2, nl_add, nl_ladd, nl_aa, nl_mul, nl_rmul, nl_mm, pu_qe0, pu_qe1, sh_71, sh_72, sh_80, F0, F14, osp, u3, hA, a14, i2, a80, n80, op]
      all_goals try simp (maxSteps := 400000) (disch := omega) [nl_tle, nl_fle, nl_tlt, nl_flt, nl_teq, nl_feq, nl_sub, nl_ss, nl_lt, nl_llt, nl_ltt, nl_le, nl_lle, nl_lee, nl_eq, nl_leq, nl_ee, nl_div, nl_rem, nl_cl, nl_n1, nl_n2, nl_n3, nl_n4, nl_add, nl_ladd, nl_aa, nl_mul, nl_rmul, nl_mm, pu_wi_1, pu_wi_2, bX12_renumber_251, bX12_renumber_293, a_ai, a_ald, a_cv, a_gr, a_iadd, a_ild, a_imul, a_inc, a_push, a_wi, sh_71, sh_72, sh_80, pu_rv, pu_as, Value.category, pu_bk, pu_kl, pu_qe0, pu_qe1, sh_71, sh_72, sh_80, F0, F14, osp, u3, hA, a14, i2, a80, n80, op]
      all_goals try simp [bX12_renumber_251, bX12_renumber_293, a_ai, a_ald, a_cv, a_gr, a_iadd, a_ild, a_imul, a_inc, a_push, a_wi, sh_71, sh_72, sh_80, pu_rv, pu_as, Value.category, pu_bk, pu_kl, List.replicate, pu_wi_1, pu_wi_2, nl_add, nl_ladd, nl_aa, nl_mul, nl_rmul, nl_mm, pu_qe0, pu_qe1, sh_71, sh_72, sh_80, F0, F14, osp, u3, hA, a14, i2, a80, n80, op]
      all_goals try simp (maxSteps := 400000) (disch := omega) [nl_tle, nl_fle, nl_tlt, nl_flt, nl_teq, nl_feq, nl_sub, nl_ss, nl_lt, nl_llt, nl_ltt, nl_le, nl_lle, nl_lee, nl_eq, nl_leq, nl_ee, nl_div, nl_rem, nl_cl, nl_n1, nl_n2, nl_n3, nl_n4, nl_add, nl_ladd, nl_aa, nl_mul, nl_rmul, nl_mm, pu_wi_1, pu_wi_2, bX12_renumber_251, bX12_renumber_293, a_ai, a_ald, a_cv, a_gr, a_iadd, a_ild, a_imul, a_inc, a_push, a_wi, sh_71, sh_72, sh_80, pu_rv, pu_as, Value.category, pu_bk, pu_kl, pu_qe0, pu_qe1, sh_71, sh_72, sh_80, F0, F14, osp, u3, hA, a14, i2, a80, n80, op]
      all_goals try simp [bX12_renumber_251, bX12_renumber_293, a_ai, a_ald, a_cv, a_gr, a_iadd, a_ild, a_imul, a_inc, a_push, a_wi, sh_71, sh_72, sh_80, pu_rv, pu_as, Value.category, pu_bk, pu_kl, List.replicate, pu_wi_1, pu_wi_2, nl_add, nl_ladd, nl_aa, nl_mul, nl_rmul, nl_mm, pu_qe0, pu_qe1, sh_71, sh_72, sh_80, F0, F14, osp, u3, hA, a14, i2, a80, n80, op]
      all_goals try simp (maxSteps := 400000) (disch := omega) [nl_tle, nl_fle, nl_tlt, nl_flt, nl_teq, nl_feq, nl_sub, nl_ss, nl_lt, nl_llt, nl_ltt, nl_le, nl_lle, nl_lee, nl_eq, nl_leq, nl_ee, nl_div, nl_rem, nl_cl, nl_n1, nl_n2, nl_n3, nl_n4, nl_add, nl_ladd, nl_aa, nl_mul, nl_rmul, nl_mm, pu_wi_1, pu_wi_2, bX12_renumber_251, bX12_renumber_293, a_ai, a_ald, a_cv, a_gr, a_iadd, a_ild, a_imul, a_inc, a_push, a_wi, sh_71, sh_72, sh_80, pu_rv, pu_as, Value.category, pu_bk, pu_kl, pu_qe0, pu_qe1, sh_71, sh_72, sh_80, F0, F14, osp, u3, hA, a14, i2, a80, n80, op]
      all_goals try simp [bX12_renumber_251, bX12_renumber_293, a_ai, a_ald, a_cv, a_gr, a_iadd, a_ild, a_imul, a_inc, a_push, a_wi, sh_71, sh_72, sh_80, pu_rv, pu_as, Value.category, pu_bk, pu_kl, List.replicate, pu_wi_1, pu_wi_2, nl_add, nl_ladd, nl_aa, nl_mul, nl_rmul, nl_mm, pu_qe0, pu_qe1, sh_71, sh_72, sh_80, F0, F14, osp, u3, hA, a14, i2, a80, n80, op]
end
