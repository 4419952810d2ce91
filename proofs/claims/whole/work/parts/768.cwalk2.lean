/-! walks, on the class's side: a street, all stops -/
section
variable {M : pu_M} {I : Nat → Nat → Int32} {L : Nat → Nat → Int64} {y : Int32}
theorem c_whenW {N : pu_M} {c : Nat} (hx : pu_fx N) (hw : pu_WF I L) (wd : w_dk N.1) (h5 : N.1 45 5 = nI c) (hc : c ≤ 100) (e : Int32) : pu_r 203 [some (.ref 45), some (.int e)] [] N = some (some (.int (pu_f1 (fun i => N.1 54 i = e) c 0)), N) := by
  have WJ := WF_desk hw wd
  have cW' : cW N.1 = c := pz_cc h5 (by omega)
  have k : N.1 45 5 = nI (cW (pu_dk I N.1)) := (wd.1.2.2.2.1 :)
  have r : pu_r 416 [some (.ref 45), some (.int e), some (.int (nI 0))] [] N = some (some (.int (pu_f1 (fun i => N.1 54 i = e) (cW N.1) 0)), N) := c_when_l hx WJ k (fun j => rfl) e (cW N.1) 0 (nI 0) rfl (Nat.zero_add _)
  rw [cW', nI_0] at r
  generalize pu_f1 (fun i => N.1 54 i = e) c 0 = v at *
  rw [qX1_whenWalked]
  simp [a_ent, bX1_whenWalked_0, a_ist, a_push, pu_rv, pu_as, Value.category, pu_bk, pu_kl, List.replicate, pu_wi_1, pu_wi_2, nl_add, nl_ladd, nl_aa, nl_mul, nl_rmul, nl_mm, pu_qe0, pu_qe1, r]
  all_goals try simp (maxSteps := 400000) (disch := omega) [nl_tle, nl_fle, nl_tlt, nl_flt, nl_teq, nl_feq, nl_sub, nl_ss, nl_lt, nl_llt, nl_ltt, nl_le, nl_lle, nl_lee, nl_eq, nl_leq, nl_ee, nl_div, nl_rem, nl_cl, nl_n1, nl_n2, nl_n3, nl_n4, nl_add, nl_ladd, nl_aa, nl_mul, nl_rmul, nl_mm, pu_wi_1, pu_wi_2, bX1_whenWalked_0, a_ist, a_push, pu_rv, pu_as, Value.category, pu_bk, pu_kl, pu_qe0, pu_qe1, r]
  all_goals try simp [bX1_whenWalked_0, a_ist, a_push, pu_rv, pu_as, Value.category, pu_bk, pu_kl, List.replicate, pu_wi_1, pu_wi_2, nl_add, nl_ladd, nl_aa, nl_mul, nl_rmul, nl_mm, pu_qe0, pu_qe1, r]
  all_goals try simp (maxSteps := 400000) (disch := omega) [nl_tle, nl_fle, nl_tlt, nl_flt, nl_teq, nl_feq, nl_sub, nl_ss, nl_lt, nl_llt, nl_ltt, nl_le, nl_lle, nl_lee, nl_eq, nl_leq, nl_ee, nl_div, nl_rem, nl_cl, nl_n1, nl_n2, nl_n3, nl_n4, nl_add, nl_ladd, nl_aa, nl_mul, nl_rmul, nl_mm, pu_wi_1, pu_wi_2, bX1_whenWalked_0, a_ist, a_push, pu_rv, pu_as, Value.category, pu_bk, pu_kl, pu_qe0, pu_qe1, r]
  all_goals try simp [bX1_whenWalked_0, a_ist, a_push, pu_rv, pu_as, Value.category, pu_bk, pu_kl, List.replicate, pu_wi_1, pu_wi_2, nl_add, nl_ladd, nl_aa, nl_mul, nl_rmul, nl_mm, pu_qe0, pu_qe1, r]
  all_goals try simp (maxSteps := 400000) (disch := omega) [nl_tle, nl_fle, nl_tlt, nl_flt, nl_teq, nl_feq, nl_sub, nl_ss, nl_lt, nl_llt, nl_ltt, nl_le, nl_lle, nl_lee, nl_eq, nl_leq, nl_ee, nl_div, nl_rem, nl_cl, nl_n1, nl_n2, nl_n3, nl_n4, nl_add, nl_ladd, nl_aa, nl_mul, nl_rmul, nl_mm, pu_wi_1, pu_wi_2, bX1_whenWalked_0, a_ist, a_push, pu_rv, pu_as, Value.category, pu_bk, pu_kl, pu_qe0, pu_qe1, r]
  all_goals try simp [bX1_whenWalked_0, a_ist, a_push, pu_rv, pu_as, Value.category, pu_bk, pu_kl, List.replicate, pu_wi_1, pu_wi_2, nl_add, nl_ladd, nl_aa, nl_mul, nl_rmul, nl_mm, pu_qe0, pu_qe1, r]
theorem c_wv_i {N N1 N2 : pu_M} (hx : pu_fx N) {a f sl n : Nat} {v : Int32} (ha : a < n) (hn : n ≤ 100) (v0 : N.1 62 0 = nI n) (v64 : N.1 64 a = nI sl) (hsl : sl < 200) (hf : f = sl / 2) (e1 : pu_r 203 [some (.ref 45), some (.int (nI f))] [] N = some (some (.int v), N)) (e0 : v ≠ -1 → N2 = N) (e2 : v = -1 → pu_r 204 [some (.ref 45), some (.int (nI f))] [] N = some (none, N1) ∧ pu_r 207 [some (.ref 0), some (.int (nI f)), some (.int y)] [] N1 = some (none, N2)) (t3 : Option Value) : pu_r 419 [some (.ref 0), some (.int y), some (.int (nI a)), t3] [] N = pu_r 419 [some (.ref 0), some (.int y), some (.int (nI (a + 1))), some (.int (nI f))] [] N2 := by
  have hc : ¬ nI n ≤ nI a := nI_ge (by omega) (by omega)
  have a1 : a < 100 := by omega
  rw [hf] at e1 e2 ⊢
  generalize hR : pu_r 419 [some (.ref 0), some (.int y), some (.int (nI (a + 1))), some (.int (nI (sl / 2)))] [] N2 = R
  by_cases c1 : v = -1
  · obtain ⟨x1, x2⟩ := e2 c1
    rw [c1] at e1
    rw [qX11_walkView_2]
    simp [bX11_walkView_2, bX11_walkView_63, bX11_walkView_57, bX11_walkView_48, a_ai, a_ald, a_cv, a_gi, a_gr, a_icge, a_icne, a_idiv, a_ild, a_inc, a_ist, a_push, a_vret, fx_0_2 hx, fx_0_5 hx, fx_5_6 hx, fx_62_4 hx, sh_0, sh_45, sh_5, sh_62, sh_64, pu_rv, pu_as, Value.category, pu_bk, pu_kl, List.replicate, pu_wi_1, pu_wi_2, nl_add, nl_ladd, nl_aa, nl_mul, nl_rmul, nl_mm, pu_qe0, pu_qe1, v0, hc, a1, v64, hsl, e1, x1, x2, sh_45, hR]
    all_goals try simp (maxSteps := 400000) (disch := omega) [nl_tle, nl_fle, nl_tlt, nl_flt, nl_teq, nl_feq, nl_sub, nl_ss, nl_lt, nl_llt, nl_ltt, nl_le, nl_lle, nl_lee, nl_eq, nl_leq, nl_ee, nl_div, nl_rem, nl_cl, nl_n1, nl_n2, nl_n3, nl_n4, nl_add, nl_ladd, nl_aa, nl_mul, nl_rmul, nl_mm, pu_wi_1, pu_wi_2, bX11_walkView_2, bX11_walkView_63, bX11_walkView_57, bX11_walkView_48, a_ai, a_ald, a_cv, a_gi, a_gr, a_icge, a_icne, a_idiv, a_ild, a_inc, a_ist, a_push, a_vret, fx_0_2 hx, fx_0_5 hx, fx_5_6 hx, fx_62_4 hx, sh_0, sh_45, sh_5, sh_62, sh_64, pu_rv, pu_as, Value.category, pu_bk, pu_kl, pu_qe0, pu_qe1, v0, hc, a1, v64, hsl, e1, x1, x2, sh_45, hR]
    all_goals try simp [bX11_walkView_2, bX11_walkView_63, bX11_walkView_57, bX11_walkView_48, a_ai, a_ald, a_cv, a_gi, a_gr, a_icge, a_icne, a_idiv, a_ild, a_inc, a_ist, a_push, a_vret, fx_0_2 hx, fx_0_5 hx, fx_5_6 hx, fx_62_4 hx, sh_0, sh_45, sh_5, sh_62, sh_64, pu_rv, pu_as, Value.category, pu_bk, pu_kl, List.replicate, pu_wi_1, pu_wi_2, nl_add, nl_ladd, nl_aa, nl_mul, nl_rmul, nl_mm, pu_qe0, pu_qe1, v0, hc, a1, v64, hsl, e1, x1, x2, sh_45, hR]
    all_goals try simp (maxSteps := 400000) (disch := omega) [nl_tle, nl_fle, nl_tlt, nl_flt, nl_teq, nl_feq, nl_sub, nl_ss, nl_lt, nl_llt, nl_ltt, nl_le, nl_lle, nl_lee, nl_eq, nl_leq, nl_ee, nl_div, nl_rem, nl_cl, nl_n1, nl_n2, nl_n3, nl_n4, nl_add, nl_ladd, nl_aa, nl_mul, nl_rmul, nl_mm, pu_wi_1, pu_wi_2, bX11_walkView_2, bX11_walkView_63, bX11_walkView_57, bX11_walkView_48, a_ai, a_ald, a_cv, a_gi, a_gr, a_icge, a_icne, a_idiv, a_ild, a_inc, a_ist, a_push, a_vret, fx_0_2 hx, fx_0_5 hx, fx_5_6 hx, fx_62_4 hx, sh_0, sh_45, sh_5, sh_62, sh_64, pu_rv, pu_as, Value.category, pu_bk, pu_kl, pu_qe0, pu_qe1, v0, hc, a1, v64, hsl, e1, x1, x2, sh_45, hR]
    all_goals try simp [bX11_walkView_2, bX11_walkView_63, bX11_walkView_57, bX11_walkView_48, a_ai, a_ald, a_cv, a_gi, a_gr, a_icge, a_icne, a_idiv, a_ild, a_inc, a_ist, a_push, a_vret, fx_0_2 hx, fx_0_5 hx, fx_5_6 hx, fx_62_4 hx, sh_0, sh_45, sh_5, sh_62, sh_64, pu_rv, pu_as, Value.category, pu_bk, pu_kl, List.replicate, pu_wi_1, pu_wi_2, nl_add, nl_ladd, nl_aa, nl_mul, nl_rmul, nl_mm, pu_qe0, pu_qe1, v0, hc, a1, v64, hsl, e1, x1, x2, sh_45, hR]
    all_goals try simp (maxSteps := 400000) (disch := omega) [nl_tle, nl_fle, nl_tlt, nl_flt, nl_teq, nl_feq, nl_sub, nl_ss, nl_lt, nl_llt, nl_ltt, nl_le, nl_lle, nl_lee, nl_eq, nl_leq, nl_ee, nl_div, nl_rem, nl_cl, nl_n1, nl_n2, nl_n3, nl_n4, nl_add, nl_ladd, nl_aa, nl_mul, nl_rmul, nl_mm, pu_wi_1, pu_wi_2, bX11_walkView_2, bX11_walkView_63, bX11_walkView_57, bX11_walkView_48, a_ai, a_ald, a_cv, a_gi, a_gr, a_icge, a_icne, a_idiv, a_ild, a_inc, a_ist, a_push, a_vret, fx_0_2 hx, fx_0_5 hx, fx_5_6 hx, fx_62_4 hx, sh_0, sh_45, sh_5, sh_62, sh_64, pu_rv, pu_as, Value.category, pu_bk, pu_kl, pu_qe0, pu_qe1, v0, hc, a1, v64, hsl, e1, x1, x2, sh_45, hR]
    all_goals try simp [bX11_walkView_2, bX11_walkView_63, bX11_walkView_57, bX11_walkView_48, a_ai, a_ald, a_cv, a_gi, a_gr, a_icge, a_icne, a_idiv, a_ild, a_inc, a_ist, a_push, a_vret, fx_0_2 hx, fx_0_5 hx, fx_5_6 hx, fx_62_4 hx, sh_0, sh_45, sh_5, sh_62, sh_64, pu_rv, pu_as, Value.category, pu_bk, pu_kl, List.replicate, pu_wi_1, pu_wi_2, nl_add, nl_ladd, nl_aa, nl_mul, nl_rmul, nl_mm, pu_qe0, pu_qe1, v0, hc, a1, v64, hsl, e1, x1, x2, sh_45, hR]
  · rw [e0 c1] at hR
    rw [qX11_walkView_2]
    simp [bX11_walkView_2, bX11_walkView_63, bX11_walkView_57, bX11_walkView_48, a_ai, a_ald, a_cv, a_gi, a_gr, a_icge, a_icne, a_idiv, a_ild, a_inc, a_ist, a_push, a_vret, fx_0_2 hx, fx_0_5 hx, fx_5_6 hx, fx_62_4 hx, sh_0, sh_45, sh_5, sh_62, sh_64, pu_rv, pu_as, Value.category, pu_bk, pu_kl, List.replicate, pu_wi_1, pu_wi_2, nl_add, nl_ladd, nl_aa, nl_mul, nl_rmul, nl_mm, pu_qe0, pu_qe1, v0, hc, a1, v64, hsl, e1, c1, sh_45, hR]
    all_goals try simp (maxSteps := 400000) (disch := omega) [nl_tle, nl_fle, nl_tlt, nl_flt, nl_teq, nl_feq, nl_sub, nl_ss, nl_lt, nl_llt, nl_ltt, nl_le, nl_lle, nl_lee, nl_eq, nl_leq, nl_ee, nl_div, nl_rem, nl_cl, nl_n1, nl_n2, nl_n3, nl_n4, nl_add, nl_ladd, nl_aa, nl_mul, nl_rmul, nl_mm, pu_wi_1, pu_wi_2, bX11_walkView_2, bX11_walkView_63, bX11_walkView_57, bX11_walkView_48, a_ai, a_ald, a_cv, a_gi, a_gr, a_icge, a_icne, a_idiv, a_ild, a_inc, a_ist, a_push, a_vret, fx_0_2 hx, fx_0_5 hx, fx_5_6 hx, fx_62_4 hx, sh_0, sh_45, sh_5, sh_62, sh_64, pu_rv, pu_as, Value.category, pu_bk, pu_kl, pu_qe0, pu_qe1, v0, hc, a1, v64, hsl, e1, c1, sh_45, hR]
    all_goals try simp [bX11_walkView_2, bX11_walkView_63, bX11_walkView_57, bX11_walkView_48, a_ai, a_ald, a_cv, a_gi, a_gr, a_icge, a_icne, a_idiv, a_ild, a_inc, a_ist, a_push, a_vret, fx_0_2 hx, fx_0_5 hx, fx_5_6 hx, fx_62_4 hx, sh_0, sh_45, sh_5, sh_62, sh_64, pu_rv, pu_as, Value.category, pu_bk, pu_kl, List.replicate, pu_wi_1, pu_wi_2, nl_add, nl_ladd, nl_aa, nl_mul, nl_rmul, nl_mm, pu_qe0, pu_qe1, v0, hc, a1, v64, hsl, e1, c1, sh_45, hR]
    all_goals try simp (maxSteps := 400000) (disch := omega) [nl_tle, nl_fle, nl_tlt, nl_flt, nl_teq, nl_feq, nl_sub, nl_ss, nl_lt, nl_llt, nl_ltt, nl_le, nl_lle, nl_lee, nl_eq, nl_leq, nl_ee, nl_div, nl_rem, nl_cl, nl_n1, nl_n2, nl_n3, nl_n4, nl_add, nl_ladd, nl_aa, nl_mul, nl_rmul, nl_mm, pu_wi_1, pu_wi_2, bX11_walkView_2, bX11_walkView_63, bX11_walkView_57, bX11_walkView_48, a_ai, a_ald, a_cv, a_gi, a_gr, a_icge, a_icne, a_idiv, a_ild, a_inc, a_ist, a_push, a_vret, fx_0_2 hx, fx_0_5 hx, fx_5_6 hx, fx_62_4 hx, sh_0, sh_45, sh_5, sh_62, sh_64, pu_rv, pu_as, Value.category, pu_bk, pu_kl, pu_qe0, pu_qe1, v0, hc, a1, v64, hsl, e1, c1, sh_45, hR]
    all_goals try simp [bX11_walkView_2, bX11_walkView_63, bX11_walkView_57, bX11_walkView_48, a_ai, a_ald, a_cv, a_gi, a_gr, a_icge, a_icne, a_idiv, a_ild, a_inc, a_ist, a_push, a_vret, fx_0_2 hx, fx_0_5 hx, fx_5_6 hx, fx_62_4 hx, sh_0, sh_45, sh_5, sh_62, sh_64, pu_rv, pu_as, Value.category, pu_bk, pu_kl, List.replicate, pu_wi_1, pu_wi_2, nl_add, nl_ladd, nl_aa, nl_mul, nl_rmul, nl_mm, pu_qe0, pu_qe1, v0, hc, a1, v64, hsl, e1, c1, sh_45, hR]
    all_goals try simp (maxSteps := 400000) (disch := omega) [nl_tle, nl_fle, nl_tlt, nl_flt, nl_teq, nl_feq, nl_sub, nl_ss, nl_lt, nl_llt, nl_ltt, nl_le, nl_lle, nl_lee, nl_eq, nl_leq, nl_ee, nl_div, nl_rem, nl_cl, nl_n1, nl_n2, nl_n3, nl_n4, nl_add, nl_ladd, nl_aa, nl_mul, nl_rmul, nl_mm, pu_wi_1, pu_wi_2, bX11_walkView_2, bX11_walkView_63, bX11_walkView_57, bX11_walkView_48, a_ai, a_ald, a_cv, a_gi, a_gr, a_icge, a_icne, a_idiv, a_ild, a_inc, a_ist, a_push, a_vret, fx_0_2 hx, fx_0_5 hx, fx_5_6 hx, fx_62_4 hx, sh_0, sh_45, sh_5, sh_62, sh_64, pu_rv, pu_as, Value.category, pu_bk, pu_kl, pu_qe0, pu_qe1, v0, hc, a1, v64, hsl, e1, c1, sh_45, hR]
    all_goals try simp [bX11_walkView_2, bX11_walkView_63, bX11_walkView_57, bX11_walkView_48, a_ai, a_ald, a_cv, a_gi, a_gr, a_icge, a_icne, a_idiv, a_ild, a_inc, a_ist, a_push, a_vret, fx_0_2 hx, fx_0_5 hx, fx_5_6 hx, fx_62_4 hx, sh_0, sh_45, sh_5, sh_62, sh_64, pu_rv, pu_as, Value.category, pu_bk, pu_kl, List.replicate, pu_wi_1, pu_wi_2, nl_add, nl_ladd, nl_aa, nl_mul, nl_rmul, nl_mm, pu_qe0, pu_qe1, v0, hc, a1, v64, hsl, e1, c1, sh_45, hR]
theorem c_wv_l (hw : pu_WF I L) (hI : pu_ag M I) (hxM : pu_fx M) {N0 : pu_M} (wg0 : py_wg M N0) {n c0 : Nat} {V : Nat → Nat} {E0 : Nat → Int32} (hn : n ≤ 100) (v0 : N0.1 62 0 = nI n) (v64 : ∀ a, a < n → N0.1 64 a = nI (pu_sl0 I (V a))) (HV : ∀ a, a < n → V a < cU I ∧ pu_sh1 I y (V a)) (gd0 : py_GD I E0 c0) : ∀ (m a : Nat) (N : pu_M) (c : Nat) (t3 : Option Value), a + m = n → py_wf N0 N → N.1 45 5 = nI c → (∀ t, t < c0 → N.1 54 t = E0 t) → py_VW I y V (N.1 54) c0 a c → ∃ N1 c1, py_wf N0 N1 ∧ N1.1 45 5 = nI c1 ∧ (∀ t, t < c0 → N1.1 54 t = E0 t) ∧ py_VW I y V (N1.1 54) c0 n c1 ∧ pu_r 419 [some (.ref 0), some (.int y), some (.int (nI a)), t3] [] N = some (none, N1)
  | 0, a, N, c, t3, ha, wf, h5, lo, vw => by
    have hx : pu_fx N := pz_fx_of hxM (py_wg_t wg0 wf).1
    have e : a = n := by omega
    have n0 : N.1 62 0 = nI n := by rw [wf.2 62 0 (by omega) (by omega)]; exact v0
    have hc : nI n ≤ nI n := nI_le (by omega) (by omega)
    refine ⟨N, c, wf, h5, lo, by rw [← e]; exact vw, ?_⟩
    rw [e]
    rw [qX11_walkView_2]
    simp [bX11_walkView_2, bX11_walkView_63, bX11_walkView_57, bX11_walkView_48, a_ai, a_ald, a_cv, a_gi, a_gr, a_icge, a_icne, a_idiv, a_ild, a_inc, a_ist, a_push, a_vret, fx_0_2 hx, fx_0_5 hx, fx_5_6 hx, fx_62_4 hx, sh_0, sh_45, sh_5, sh_62, sh_64, pu_rv, pu_as, Value.category, pu_bk, pu_kl, List.replicate, pu_wi_1, pu_wi_2, nl_add, nl_ladd, nl_aa, nl_mul, nl_rmul, nl_mm, pu_qe0, pu_qe1, n0, hc]
    all_goals try simp (maxSteps := 400000) (disch := omega) [nl_tle, nl_fle, nl_tlt, nl_flt, nl_teq, nl_feq, nl_sub, nl_ss, nl_lt, nl_llt, nl_ltt, nl_le, nl_lle, nl_lee, nl_eq, nl_leq, nl_ee, nl_div, nl_rem, nl_cl, nl_n1, nl_n2, nl_n3, nl_n4, nl_add, nl_ladd, nl_aa, nl_mul, nl_rmul, nl_mm, pu_wi_1, pu_wi_2, bX11_walkView_2, bX11_walkView_63, bX11_walkView_57, bX11_walkView_48, a_ai, a_ald, a_cv, a_gi, a_gr, a_icge, a_icne, a_idiv, a_ild, a_inc, a_ist, a_push, a_vret, fx_0_2 hx, fx_0_5 hx, fx_5_6 hx, fx_62_4 hx, sh_0, sh_45, sh_5, sh_62, sh_64, pu_rv, pu_as, Value.category, pu_bk, pu_kl, pu_qe0, pu_qe1, n0, hc]
    all_goals try simp [bX11_walkView_2, bX11_walkView_63, bX11_walkView_57, bX11_walkView_48, a_ai, a_ald, a_cv, a_gi, a_gr, a_icge, a_icne, a_idiv, a_ild, a_inc, a_ist, a_push, a_vret, fx_0_2 hx, fx_0_5 hx, fx_5_6 hx, fx_62_4 hx, sh_0, sh_45, sh_5, sh_62, sh_64, pu_rv, pu_as, Value.category, pu_bk, pu_kl, List.replicate, pu_wi_1, pu_wi_2, nl_add, nl_ladd, nl_aa, nl_mul, nl_rmul, nl_mm, pu_qe0, pu_qe1, n0, hc]
    all_goals try simp (maxSteps := 400000) (disch := omega) [nl_tle, nl_fle, nl_tlt, nl_flt, nl_teq, nl_feq, nl_sub, nl_ss, nl_lt, nl_llt, nl_ltt, nl_le, nl_lle, nl_lee, nl_eq, nl_leq, nl_ee, nl_div, nl_rem, nl_cl, nl_n1, nl_n2, nl_n3, nl_n4, nl_add, nl_ladd, nl_aa, nl_mul, nl_rmul, nl_mm, pu_wi_1, pu_wi_2, bX11_walkView_2, bX11_walkView_63, bX11_walkView_57, bX11_walkView_48, a_ai, a_ald, a_cv, a_gi, a_gr, a_icge, a_icne, a_idiv, a_ild, a_inc, a_ist, a_push, a_vret, fx_0_2 hx, fx_0_5 hx, fx_5_6 hx, fx_62_4 hx, sh_0, sh_45, sh_5, sh_62, sh_64, pu_rv, pu_as, Value.category, pu_bk, pu_kl, pu_qe0, pu_qe1, n0, hc]
    all_goals try simp [bX11_walkView_2, bX11_walkView_63, bX11_walkView_57, bX11_walkView_48, a_ai, a_ald, a_cv, a_gi, a_gr, a_icge, a_icne, a_idiv, a_ild, a_inc, a_ist, a_push, a_vret, fx_0_2 hx, fx_0_5 hx, fx_5_6 hx, fx_62_4 hx, sh_0, sh_45, sh_5, sh_62, sh_64, pu_rv, pu_as, Value.category, pu_bk, pu_kl, List.replicate, pu_wi_1, pu_wi_2, nl_add, nl_ladd, nl_aa, nl_mul, nl_rmul, nl_mm, pu_qe0, pu_qe1, n0, hc]
    all_goals try simp (maxSteps := 400000) (disch := omega) [nl_tle, nl_fle, nl_tlt, nl_flt, nl_teq, nl_feq, nl_sub, nl_ss, nl_lt, nl_llt, nl_ltt, nl_le, nl_lle, nl_lee, nl_eq, nl_leq, nl_ee, nl_div, nl_rem, nl_cl, nl_n1, nl_n2, nl_n3, nl_n4, nl_add, nl_ladd, nl_aa, nl_mul, nl_rmul, nl_mm, pu_wi_1, pu_wi_2, bX11_walkView_2, bX11_walkView_63, bX11_walkView_57, bX11_walkView_48, a_ai, a_ald, a_cv, a_gi, a_gr, a_icge, a_icne, a_idiv, a_ild, a_inc, a_ist, a_push, a_vret, fx_0_2 hx, fx_0_5 hx, fx_5_6 hx, fx_62_4 hx, sh_0, sh_45, sh_5, sh_62, sh_64, pu_rv, pu_as, Value.category, pu_bk, pu_kl, pu_qe0, pu_qe1, n0, hc]
    all_goals try simp [bX11_walkView_2, bX11_walkView_63, bX11_walkView_57, bX11_walkView_48, a_ai, a_ald, a_cv, a_gi, a_gr, a_icge, a_icne, a_idiv, a_ild, a_inc, a_ist, a_push, a_vret, fx_0_2 hx, fx_0_5 hx, fx_5_6 hx, fx_62_4 hx, sh_0, sh_45, sh_5, sh_62, sh_64, pu_rv, pu_as, Value.category, pu_bk, pu_kl, List.replicate, pu_wi_1, pu_wi_2, nl_add, nl_ladd, nl_aa, nl_mul, nl_rmul, nl_mm, pu_qe0, pu_qe1, n0, hc]
  | m + 1, a, N, c, t3, ha, wf, h5, lo, vw => by
    have hx : pu_fx N := pz_fx_of hxM (py_wg_t wg0 wf).1
    have an : a < n := by omega
    have bD := wx_bD hw
    have GD := py_VW_gd hw (py_GD_c lo gd0) a c (fun b hb => py_fr_p hw (HV b (by omega)).1 (HV b (by omega)).2) vw
    have hc := py_GD_le hw GD
    have le := py_VW_le a c vw
    obtain ⟨wd, agJ⟩ := py_wdw hw hI (py_wg_t wg0 wf) GD h5
    have n0 : N.1 62 0 = nI n := by rw [wf.2 62 0 (by omega) (by omega)]; exact v0
    have n64 : N.1 64 a = nI (pu_sl0 I (V a)) := by rw [wf.2 64 a (by omega) (by omega)]; exact v64 a an
    have sl := (pu_sl_lt hw (HV a an).1).1
    have e1 := c_whenW hx hw wd h5 hc (nI (pu_sl0 I (V a) / 2))
    obtain ⟨fD, f32⟩ := py_fr_p hw (HV a an).1 (HV a an).2
    rcases pu_f1_spec (fun i => N.1 54 i = nI (pu_sl0 I (V a) / 2)) c 0 with ⟨r, r2⟩ | ⟨t, _, ht, r, r2, _⟩
    · -- a door more
      rw [r] at e1
      have no : ∀ t, t < c → N.1 54 t ≠ nI (pu_sl0 I (V a) / 2) := fun t ht => r2 t (by omega) (by omega)
      have GDX : py_GD I (fun t => if t < c then N.1 54 t else nI (pu_sl0 I (V a) / 2)) (c + 1 + 0) := py_GD_add (y := y) (U := fun _ => 0) hw (py_GD_c (fun t ht => by show (if t < c then _ else _) = N.1 54 t; rw [if_pos ht]) GD) fD f32 (fun t ht => by show (if t < c then _ else _) ≠ _; rw [if_pos ht]; exact no t ht) (by show (if c < c then _ else _) = _; rw [if_neg (by omega)]) (fun t ht => by omega) (fun s t _ ht => by omega) (fun t ht => by omega)
      have cl := py_GD_le hw GDX
      have aw := c_addWalked hx (c := c) (by omega) h5 (nI (pu_sl0 I (V a) / 2))
      obtain ⟨P, hP⟩ : ∃ P, pu_wi (pu_wi N 54 c (nI (pu_sl0 I (V a) / 2))) 45 5 (nI (c + 1)) = P := ⟨_, rfl⟩
      rw [hP] at aw
      have Po : ∀ x j, ¬ (x = 45 ∧ j = 5) → ¬ (x = 54 ∧ j = c) → P.1 x j = N.1 x j := fun x j z1 z2 => by rw [← hP, py_wi_o z1, py_wi_o z2]
      have P5 : P.1 45 5 = nI (c + 1) := by rw [← hP]; simp [pu_wi_1]
      have P54 : P.1 54 c = nI (pu_sl0 I (V a) / 2) := by rw [← hP, py_wi_o (by omega)]; simp [pu_wi_1]
      have wfP : py_wf N P := ⟨by rw [← hP]; rfl, fun x j z1 z2 => Po x j z2 (by omega)⟩
      have hxP : pu_fx P := pz_fx_of hx wfP.1
      obtain ⟨Q, U, k, q1, q2, q3, q4, q5, q6⟩ := c_wu_l hw hI hxM (py_wg_t wg0 (py_wf_t wf wfP)) (y := y) (f := pu_sl0 I (V a) / 2) (c1 := c) (E0 := P.1 54) fD f32 (py_GD_c (fun t ht => Po 54 t (by omega) (by omega)) GD) (fun t ht => by rw [Po 54 t (by omega) (by omega)]; exact no t ht) P54 (cD I) 0 P (fun _ => 0) 0 none (by omega) (py_wf_r P) P5 (fun _ _ => rfl) (fun t ht => by omega) ⟨fun a ha => by omega, fun l hl => by have := hl.1; omega, fun a b _ hb => by omega⟩
      rw [nI_0] at q6
      have wu : pu_r 207 [some (.ref 0), some (.int (nI (pu_sl0 I (V a) / 2))), some (.int y)] [] P = some (none, Q) := by
        have g1 := fx_0_2 hxP
        have g2 := fx_5_6 hxP
        rw [qX11_walkUnder]
        simp [a_ent, bX11_walkUnder_0, a_ald, a_gi, a_gr, a_ist, a_push, sh_0, sh_45, sh_5, pu_rv, pu_as, Value.category, pu_bk, pu_kl, List.replicate, pu_wi_1, pu_wi_2, nl_add, nl_ladd, nl_aa, nl_mul, nl_rmul, nl_mm, pu_qe0, pu_qe1, g1, g2, P5, q6, sh_45]
        all_goals try simp (maxSteps := 400000) (disch := omega) [nl_tle, nl_fle, nl_tlt, nl_flt, nl_teq, nl_feq, nl_sub, nl_ss, nl_lt, nl_llt, nl_ltt, nl_le, nl_lle, nl_lee, nl_eq, nl_leq, nl_ee, nl_div, nl_rem, nl_cl, nl_n1, nl_n2, nl_n3, nl_n4, nl_add, nl_ladd, nl_aa, nl_mul, nl_rmul, nl_mm, pu_wi_1, pu_wi_2, bX11_walkUnder_0, a_ald, a_gi, a_gr, a_ist, a_push, sh_0, sh_45, sh_5, pu_rv, pu_as, Value.category, pu_bk, pu_kl, pu_qe0, pu_qe1, g1, g2, P5, q6, sh_45]
        all_goals try simp [bX11_walkUnder_0, a_ald, a_gi, a_gr, a_ist, a_push, sh_0, sh_45, sh_5, pu_rv, pu_as, Value.category, pu_bk, pu_kl, List.replicate, pu_wi_1, pu_wi_2, nl_add, nl_ladd, nl_aa, nl_mul, nl_rmul, nl_mm, pu_qe0, pu_qe1, g1, g2, P5, q6, sh_45]
        all_goals try simp (maxSteps := 400000) (disch := omega) [nl_tle, nl_fle, nl_tlt, nl_flt, nl_teq, nl_feq, nl_sub, nl_ss, nl_lt, nl_llt, nl_ltt, nl_le, nl_lle, nl_lee, nl_eq, nl_leq, nl_ee, nl_div, nl_rem, nl_cl, nl_n1, nl_n2, nl_n3, nl_n4, nl_add, nl_ladd, nl_aa, nl_mul, nl_rmul, nl_mm, pu_wi_1, pu_wi_2, bX11_walkUnder_0, a_ald, a_gi, a_gr, a_ist, a_push, sh_0, sh_45, sh_5, pu_rv, pu_as, Value.category, pu_bk, pu_kl, pu_qe0, pu_qe1, g1, g2, P5, q6, sh_45]
        all_goals try simp [bX11_walkUnder_0, a_ald, a_gi, a_gr, a_ist, a_push, sh_0, sh_45, sh_5, pu_rv, pu_as, Value.category, pu_bk, pu_kl, List.replicate, pu_wi_1, pu_wi_2, nl_add, nl_ladd, nl_aa, nl_mul, nl_rmul, nl_mm, pu_qe0, pu_qe1, g1, g2, P5, q6, sh_45]
        all_goals try simp (maxSteps := 400000) (disch := omega) [nl_tle, nl_fle, nl_tlt, nl_flt, nl_teq, nl_feq, nl_sub, nl_ss, nl_lt, nl_llt, nl_ltt, nl_le, nl_lle, nl_lee, nl_eq, nl_leq, nl_ee, nl_div, nl_rem, nl_cl, nl_n1, nl_n2, nl_n3, nl_n4, nl_add, nl_ladd, nl_aa, nl_mul, nl_rmul, nl_mm, pu_wi_1, pu_wi_2, bX11_walkUnder_0, a_ald, a_gi, a_gr, a_ist, a_push, sh_0, sh_45, sh_5, pu_rv, pu_as, Value.category, pu_bk, pu_kl, pu_qe0, pu_qe1, g1, g2, P5, q6, sh_45]
        all_goals try simp [bX11_walkUnder_0, a_ald, a_gi, a_gr, a_ist, a_push, sh_0, sh_45, sh_5, pu_rv, pu_as, Value.category, pu_bk, pu_kl, List.replicate, pu_wi_1, pu_wi_2, nl_add, nl_ladd, nl_aa, nl_mul, nl_rmul, nl_mm, pu_qe0, pu_qe1, g1, g2, P5, q6, sh_45]
      rw [c_wv_i (N1 := P) (N2 := Q) (f := pu_sl0 I (V a) / 2) hx an hn n0 n64 (by omega) rfl e1 (fun z => absurd rfl z) (fun _ => ⟨aw, wu⟩) t3]
      have lo2 : ∀ t, t < c → Q.1 54 t = N.1 54 t := fun t ht => by rw [q3 t (by omega), Po 54 t (by omega) (by omega)]
      exact c_wv_l hw hI hxM wg0 hn v0 v64 HV gd0 m (a + 1) Q (c + 1 + k) _ (by omega) (py_wf_t wf (py_wf_t wfP q1)) q2 (fun t ht => by rw [lo2 t (by omega)]; exact lo t ht) ⟨c, py_VW_c a c lo2 vw, Or.inr ⟨fun t ht => by rw [lo2 t ht]; exact no t ht, by rw [q3 c (by omega)]; exact P54, U, k, q5, rfl, q4⟩⟩
    · rw [r] at e1
      have tn : ¬ nI t = -1 := fun z => by rw [nl_n1 _ (by omega)] at z; exact z
      rw [c_wv_i (N1 := N) (N2 := N) (f := pu_sl0 I (V a) / 2) hx an hn n0 n64 (by omega) rfl e1 (fun _ => rfl) (fun z => absurd z tn) t3]
      exact c_wv_l hw hI hxM wg0 hn v0 v64 HV gd0 m (a + 1) N c _ (by omega) wf h5 lo ⟨c, vw, Or.inl ⟨⟨t, by omega, r2⟩, rfl⟩⟩
theorem c_wk_l (hw : pu_WF I L) (hI : pu_ag M I) (hxM : pu_fx M) (hy : ¬ y < 0 ∧ ¬ 109574 < y) : ∀ (m i : Nat) (N : pu_M) (c : Nat), i + m = cS I → py_wg M N → N.1 45 5 = nI c → py_WS I y (N.1 54) i c → ∃ N1 c1, py_wg M N1 ∧ N1.1 45 5 = nI c1 ∧ py_WS I y (N1.1 54) (cS I) c1 ∧ pu_r 420 [some (.ref 0), some (.int y), some (.int (nI i))] [] N = some (some (.int (nI c1)), N1)
  | 0, i, N, c, hi, wg, h5, ws => by
    have hx : pu_fx N := pz_fx_of hxM wg.1
    have bS := wx_bS hw
    have e : i = cS I := by omega
    have h4 : N.1 45 4 = nI (cS I) := by rw [wg.2 45 4 (by omega) (by omega) (by omega), hI 45 4 (by omega) (by omega)]; exact wx_cS hw
    have hc : nI (cS I) ≤ nI (cS I) := nI_le (by omega) (by omega)
    refine ⟨N, c, wg, h5, by rw [← e]; exact ws, ?_⟩
    rw [e]
    rw [qX11_walk_23]
    simp [bX11_walk_23, bX11_walk_109, bX11_walk_103, bX11_walk_77, a_ai, a_ald, a_cv, a_gi, a_gr, a_icge, a_ifeq, a_ild, a_inc, a_iret, fx_0_2 hx, fx_0_5 hx, fx_45_14 hx, fx_45_15 hx, fx_5_3 hx, fx_5_6 hx, sh_0, sh_25, sh_45, sh_5, sh_52, sh_53, sh_62, pu_rv, pu_as, Value.category, pu_bk, pu_kl, List.replicate, pu_wi_1, pu_wi_2, nl_add, nl_ladd, nl_aa, nl_mul, nl_rmul, nl_mm, pu_qe0, pu_qe1, h4, hc, h5]
    all_goals try simp (maxSteps := 400000) (disch := omega) [nl_tle, nl_fle, nl_tlt, nl_flt, nl_teq, nl_feq, nl_sub, nl_ss, nl_lt, nl_llt, nl_ltt, nl_le, nl_lle, nl_lee, nl_eq, nl_leq, nl_ee, nl_div, nl_rem, nl_cl, nl_n1, nl_n2, nl_n3, nl_n4, nl_add, nl_ladd, nl_aa, nl_mul, nl_rmul, nl_mm, pu_wi_1, pu_wi_2, bX11_walk_23, bX11_walk_109, bX11_walk_103, bX11_walk_77, a_ai, a_ald, a_cv, a_gi, a_gr, a_icge, a_ifeq, a_ild, a_inc, a_iret, fx_0_2 hx, fx_0_5 hx, fx_45_14 hx, fx_45_15 hx, fx_5_3 hx, fx_5_6 hx, sh_0, sh_25, sh_45, sh_5, sh_52, sh_53, sh_62, pu_rv, pu_as, Value.category, pu_bk, pu_kl, pu_qe0, pu_qe1, h4, hc, h5]
    all_goals try simp [bX11_walk_23, bX11_walk_109, bX11_walk_103, bX11_walk_77, a_ai, a_ald, a_cv, a_gi, a_gr, a_icge, a_ifeq, a_ild, a_inc, a_iret, fx_0_2 hx, fx_0_5 hx, fx_45_14 hx, fx_45_15 hx, fx_5_3 hx, fx_5_6 hx, sh_0, sh_25, sh_45, sh_5, sh_52, sh_53, sh_62, pu_rv, pu_as, Value.category, pu_bk, pu_kl, List.replicate, pu_wi_1, pu_wi_2, nl_add, nl_ladd, nl_aa, nl_mul, nl_rmul, nl_mm, pu_qe0, pu_qe1, h4, hc, h5]
    all_goals try simp (maxSteps := 400000) (disch := omega) [nl_tle, nl_fle, nl_tlt, nl_flt, nl_teq, nl_feq, nl_sub, nl_ss, nl_lt, nl_llt, nl_ltt, nl_le, nl_lle, nl_lee, nl_eq, nl_leq, nl_ee, nl_div, nl_rem, nl_cl, nl_n1, nl_n2, nl_n3, nl_n4, nl_add, nl_ladd, nl_aa, nl_mul, nl_rmul, nl_mm, pu_wi_1, pu_wi_2, bX11_walk_23, bX11_walk_109, bX11_walk_103, bX11_walk_77, a_ai, a_ald, a_cv, a_gi, a_gr, a_icge, a_ifeq, a_ild, a_inc, a_iret, fx_0_2 hx, fx_0_5 hx, fx_45_14 hx, fx_45_15 hx, fx_5_3 hx, fx_5_6 hx, sh_0, sh_25, sh_45, sh_5, sh_52, sh_53, sh_62, pu_rv, pu_as, Value.category, pu_bk, pu_kl, pu_qe0, pu_qe1, h4, hc, h5]
    all_goals try simp [bX11_walk_23, bX11_walk_109, bX11_walk_103, bX11_walk_77, a_ai, a_ald, a_cv, a_gi, a_gr, a_icge, a_ifeq, a_ild, a_inc, a_iret, fx_0_2 hx, fx_0_5 hx, fx_45_14 hx, fx_45_15 hx, fx_5_3 hx, fx_5_6 hx, sh_0, sh_25, sh_45, sh_5, sh_52, sh_53, sh_62, pu_rv, pu_as, Value.category, pu_bk, pu_kl, List.replicate, pu_wi_1, pu_wi_2, nl_add, nl_ladd, nl_aa, nl_mul, nl_rmul, nl_mm, pu_qe0, pu_qe1, h4, hc, h5]
    all_goals try simp (maxSteps := 400000) (disch := omega) [nl_tle, nl_fle, nl_tlt, nl_flt, nl_teq, nl_feq, nl_sub, nl_ss, nl_lt, nl_llt, nl_ltt, nl_le, nl_lle, nl_lee, nl_eq, nl_leq, nl_ee, nl_div, nl_rem, nl_cl, nl_n1, nl_n2, nl_n3, nl_n4, nl_add, nl_ladd, nl_aa, nl_mul, nl_rmul, nl_mm, pu_wi_1, pu_wi_2, bX11_walk_23, bX11_walk_109, bX11_walk_103, bX11_walk_77, a_ai, a_ald, a_cv, a_gi, a_gr, a_icge, a_ifeq, a_ild, a_inc, a_iret, fx_0_2 hx, fx_0_5 hx, fx_45_14 hx, fx_45_15 hx, fx_5_3 hx, fx_5_6 hx, sh_0, sh_25, sh_45, sh_5, sh_52, sh_53, sh_62, pu_rv, pu_as, Value.category, pu_bk, pu_kl, pu_qe0, pu_qe1, h4, hc, h5]
    all_goals try simp [bX11_walk_23, bX11_walk_109, bX11_walk_103, bX11_walk_77, a_ai, a_ald, a_cv, a_gi, a_gr, a_icge, a_ifeq, a_ild, a_inc, a_iret, fx_0_2 hx, fx_0_5 hx, fx_45_14 hx, fx_45_15 hx, fx_5_3 hx, fx_5_6 hx, sh_0, sh_25, sh_45, sh_5, sh_52, sh_53, sh_62, pu_rv, pu_as, Value.category, pu_bk, pu_kl, List.replicate, pu_wi_1, pu_wi_2, nl_add, nl_ladd, nl_aa, nl_mul, nl_rmul, nl_mm, pu_qe0, pu_qe1, h4, hc, h5]
  | m + 1, i, N, c, hi, wg, h5, ws => by
    have hx : pu_fx N := pz_fx_of hxM wg.1
    have bS := wx_bS hw
    have bK := wx_bK hw
    have i1 : i < cS I := by omega
    have i2 : i < 24 := by omega
    have h4 : N.1 45 4 = nI (cS I) := by rw [wg.2 45 4 (by omega) (by omega) (by omega), hI 45 4 (by omega) (by omega)]; exact wx_cS hw
    have hc : ¬ nI (cS I) ≤ nI i := nI_ge (by omega) (by omega)
    have n52 : N.1 52 i = I 52 i := by rw [wg.2 52 i (by omega) (by omega) (by omega)]; exact hI 52 i (by omega) (by omega)
    have n53 : N.1 53 i = I 53 i := by rw [wg.2 53 i (by omega) (by omega) (by omega)]; exact hI 53 i (by omega) (by omega)
    have GD := py_WS_gd hw i c ws
    obtain ⟨wd, agJ⟩ := py_wdw hw hI wg GD h5
    have WJ := WF_desk hw wd
    have e1 : pu_r 56 [some (.ref 25), some (.int (I 52 i))] [] N = some (some (.int (pu_q (py_isS I (I 52 i)))), N) := c_isStreet hx agJ WJ (I 52 i)
    by_cases c1 : py_isS I (I 52 i)
    rotate_left
    · rw [pu_q0 c1] at e1
      obtain ⟨N1, c1', x1, x2, x3, x4⟩ := c_wk_l hw hI hxM hy m (i + 1) N c (by omega) wg h5 ⟨c, ws, Or.inl ⟨c1, rfl⟩⟩
      refine ⟨N1, c1', x1, x2, x3, ?_⟩
      rw [← x4]
      generalize I 52 i = v52 at *
      rw [qX11_walk_23]
      simp [bX11_walk_23, bX11_walk_109, bX11_walk_103, bX11_walk_77, a_ai, a_ald, a_cv, a_gi, a_gr, a_icge, a_ifeq, a_ild, a_inc, a_iret, fx_0_2 hx, fx_0_5 hx, fx_45_14 hx, fx_45_15 hx, fx_5_3 hx, fx_5_6 hx, sh_0, sh_25, sh_45, sh_5, sh_52, sh_53, sh_62, pu_rv, pu_as, Value.category, pu_bk, pu_kl, List.replicate, pu_wi_1, pu_wi_2, nl_add, nl_ladd, nl_aa, nl_mul, nl_rmul, nl_mm, pu_qe0, pu_qe1, h4, hc, i2, n52, e1, sh_25]
      all_goals try simp (maxSteps := 400000) (disch := omega) [nl_tle, nl_fle, nl_tlt, nl_flt, nl_teq, nl_feq, nl_sub, nl_ss, nl_lt, nl_llt, nl_ltt, nl_le, nl_lle, nl_lee, nl_eq, nl_leq, nl_ee, nl_div, nl_rem, nl_cl, nl_n1, nl_n2, nl_n3, nl_n4, nl_add, nl_ladd, nl_aa, nl_mul, nl_rmul, nl_mm, pu_wi_1, pu_wi_2, bX11_walk_23, bX11_walk_109, bX11_walk_103, bX11_walk_77, a_ai, a_ald, a_cv, a_gi, a_gr, a_icge, a_ifeq, a_ild, a_inc, a_iret, fx_0_2 hx, fx_0_5 hx, fx_45_14 hx, fx_45_15 hx, fx_5_3 hx, fx_5_6 hx, sh_0, sh_25, sh_45, sh_5, sh_52, sh_53, sh_62, pu_rv, pu_as, Value.category, pu_bk, pu_kl, pu_qe0, pu_qe1, h4, hc, i2, n52, e1, sh_25]
      all_goals try simp [bX11_walk_23, bX11_walk_109, bX11_walk_103, bX11_walk_77, a_ai, a_ald, a_cv, a_gi, a_gr, a_icge, a_ifeq, a_ild, a_inc, a_iret, fx_0_2 hx, fx_0_5 hx, fx_45_14 hx, fx_45_15 hx, fx_5_3 hx, fx_5_6 hx, sh_0, sh_25, sh_45, sh_5, sh_52, sh_53, sh_62, pu_rv, pu_as, Value.category, pu_bk, pu_kl, List.replicate, pu_wi_1, pu_wi_2, nl_add, nl_ladd, nl_aa, nl_mul, nl_rmul, nl_mm, pu_qe0, pu_qe1, h4, hc, i2, n52, e1, sh_25]
      all_goals try simp (maxSteps := 400000) (disch := omega) [nl_tle, nl_fle, nl_tlt, nl_flt, nl_teq, nl_feq, nl_sub, nl_ss, nl_lt, nl_llt, nl_ltt, nl_le, nl_lle, nl_lee, nl_eq, nl_leq, nl_ee, nl_div, nl_rem, nl_cl, nl_n1, nl_n2, nl_n3, nl_n4, nl_add, nl_ladd, nl_aa, nl_mul, nl_rmul, nl_mm, pu_wi_1, pu_wi_2, bX11_walk_23, bX11_walk_109, bX11_walk_103, bX11_walk_77, a_ai, a_ald, a_cv, a_gi, a_gr, a_icge, a_ifeq, a_ild, a_inc, a_iret, fx_0_2 hx, fx_0_5 hx, fx_45_14 hx, fx_45_15 hx, fx_5_3 hx, fx_5_6 hx, sh_0, sh_25, sh_45, sh_5, sh_52, sh_53, sh_62, pu_rv, pu_as, Value.category, pu_bk, pu_kl, pu_qe0, pu_qe1, h4, hc, i2, n52, e1, sh_25]
      all_goals try simp [bX11_walk_23, bX11_walk_109, bX11_walk_103, bX11_walk_77, a_ai, a_ald, a_cv, a_gi, a_gr, a_icge, a_ifeq, a_ild, a_inc, a_iret, fx_0_2 hx, fx_0_5 hx, fx_45_14 hx, fx_45_15 hx, fx_5_3 hx, fx_5_6 hx, sh_0, sh_25, sh_45, sh_5, sh_52, sh_53, sh_62, pu_rv, pu_as, Value.category, pu_bk, pu_kl, List.replicate, pu_wi_1, pu_wi_2, nl_add, nl_ladd, nl_aa, nl_mul, nl_rmul, nl_mm, pu_qe0, pu_qe1, h4, hc, i2, n52, e1, sh_25]
      all_goals try simp (maxSteps := 400000) (disch := omega) [nl_tle, nl_fle, nl_tlt, nl_flt, nl_teq, nl_feq, nl_sub, nl_ss, nl_lt, nl_llt, nl_ltt, nl_le, nl_lle, nl_lee, nl_eq, nl_leq, nl_ee, nl_div, nl_rem, nl_cl, nl_n1, nl_n2, nl_n3, nl_n4, nl_add, nl_ladd, nl_aa, nl_mul, nl_rmul, nl_mm, pu_wi_1, pu_wi_2, bX11_walk_23, bX11_walk_109, bX11_walk_103, bX11_walk_77, a_ai, a_ald, a_cv, a_gi, a_gr, a_icge, a_ifeq, a_ild, a_inc, a_iret, fx_0_2 hx, fx_0_5 hx, fx_45_14 hx, fx_45_15 hx, fx_5_3 hx, fx_5_6 hx, sh_0, sh_25, sh_45, sh_5, sh_52, sh_53, sh_62, pu_rv, pu_as, Value.category, pu_bk, pu_kl, pu_qe0, pu_qe1, h4, hc, i2, n52, e1, sh_25]
      all_goals try simp [bX11_walk_23, bX11_walk_109, bX11_walk_103, bX11_walk_77, a_ai, a_ald, a_cv, a_gi, a_gr, a_icge, a_ifeq, a_ild, a_inc, a_iret, fx_0_2 hx, fx_0_5 hx, fx_45_14 hx, fx_45_15 hx, fx_5_3 hx, fx_5_6 hx, sh_0, sh_25, sh_45, sh_5, sh_52, sh_53, sh_62, pu_rv, pu_as, Value.category, pu_bk, pu_kl, List.replicate, pu_wi_1, pu_wi_2, nl_add, nl_ladd, nl_aa, nl_mul, nl_rmul, nl_mm, pu_qe0, pu_qe1, h4, hc, i2, n52, e1, sh_25]
    rw [pu_q1 c1] at e1
    obtain ⟨st, st1, st2⟩ : ∃ st, st < cK I ∧ I 52 i = nI st := by
      have q1 := Int32.le_iff_toInt_le.mp (Int32.not_lt.mp c1.1)
      have q2 := Int32.lt_iff_toInt_lt.mp c1.2
      rw [nl_n0 (a := cK I) (by omega)] at q2
      have z0 : (0 : Int32).toInt = 0 := by decide
      have := pu_on (x := I 52 i) (n := cK I) ⟨by omega, q2⟩
      exact ⟨_, this.2, this.1⟩
    have es := wx_es hw i i1
    obtain ⟨o1, o2⟩ := pu_on (x := I 53 i) (n := 3) ⟨es.1, by omega⟩
    obtain ⟨V, n, P, p1, p2, p3, p4, p5, p6, p7⟩ := c_fill hx agJ WJ (I 53 i).toNatClampNeg st y (by omega) (show st < cK I from st1) (pu_inj WJ st (by omega) y)
    have p6' : pu_VI I (I 53 i).toNatClampNeg (pu_cf I st y) (cU I) V n := p6
    have SLV := py_view_SL hw (st := st) (by omega) hy.1 o2 p6'
    have wgP : py_wg M P := ⟨by rw [p2.1, wg.1], fun x j z1 z2 z3 => by rw [p2.2 x j z3, wg.2 x j z1 z2 z3]⟩
    have P5 : P.1 45 5 = nI c := by rw [p2.2 45 5 (by omega)]; exact h5
    have P54 : ∀ t, P.1 54 t = N.1 54 t := fun t => p2.2 54 t (by omega)
    obtain ⟨Q, c1', q1, q2, q3, q4, q5⟩ := c_wv_l hw hI hxM (y := y) wgP (V := V) (c0 := c) (E0 := N.1 54) p1 p5.1 (fun a ha => by
      rw [p5.2 64 a (by omega) (by omega) ha]
      exact (pu_sl_lt hw (SLV.1 a ha).1).2) (fun a ha => ⟨(SLV.1 a ha).1, (SLV.1 a ha).2.2⟩) GD n 0 P c none (by omega) (py_wf_r P) P5 (fun t _ => P54 t) rfl
    rw [nI_0] at q5
    have wv : pu_r 208 [some (.ref 0), some (.int y)] [] P = some (none, Q) := by
      rw [qX11_walkView]
      simp [a_ent, bX11_walkView_0, a_ist, a_push, pu_rv, pu_as, Value.category, pu_bk, pu_kl, List.replicate, pu_wi_1, pu_wi_2, nl_add, nl_ladd, nl_aa, nl_mul, nl_rmul, nl_mm, pu_qe0, pu_qe1, q5]
      all_goals try simp (maxSteps := 400000) (disch := omega) [nl_tle, nl_fle, nl_tlt, nl_flt, nl_teq, nl_feq, nl_sub, nl_ss, nl_lt, nl_llt, nl_ltt, nl_le, nl_lle, nl_lee, nl_eq, nl_leq, nl_ee, nl_div, nl_rem, nl_cl, nl_n1, nl_n2, nl_n3, nl_n4, nl_add, nl_ladd, nl_aa, nl_mul, nl_rmul, nl_mm, pu_wi_1, pu_wi_2, bX11_walkView_0, a_ist, a_push, pu_rv, pu_as, Value.category, pu_bk, pu_kl, pu_qe0, pu_qe1, q5]
      all_goals try simp [bX11_walkView_0, a_ist, a_push, pu_rv, pu_as, Value.category, pu_bk, pu_kl, List.replicate, pu_wi_1, pu_wi_2, nl_add, nl_ladd, nl_aa, nl_mul, nl_rmul, nl_mm, pu_qe0, pu_qe1, q5]
      all_goals try simp (maxSteps := 400000) (disch := omega) [nl_tle, nl_fle, nl_tlt, nl_flt, nl_teq, nl_feq, nl_sub, nl_ss, nl_lt, nl_llt, nl_ltt, nl_le, nl_lle, nl_lee, nl_eq, nl_leq, nl_ee, nl_div, nl_rem, nl_cl, nl_n1, nl_n2, nl_n3, nl_n4, nl_add, nl_ladd, nl_aa, nl_mul, nl_rmul, nl_mm, pu_wi_1, pu_wi_2, bX11_walkView_0, a_ist, a_push, pu_rv, pu_as, Value.category, pu_bk, pu_kl, pu_qe0, pu_qe1, q5]
      all_goals try simp [bX11_walkView_0, a_ist, a_push, pu_rv, pu_as, Value.category, pu_bk, pu_kl, List.replicate, pu_wi_1, pu_wi_2, nl_add, nl_ladd, nl_aa, nl_mul, nl_rmul, nl_mm, pu_qe0, pu_qe1, q5]
      all_goals try simp (maxSteps := 400000) (disch := omega) [nl_tle, nl_fle, nl_tlt, nl_flt, nl_teq, nl_feq, nl_sub, nl_ss, nl_lt, nl_llt, nl_ltt, nl_le, nl_lle, nl_lee, nl_eq, nl_leq, nl_ee, nl_div, nl_rem, nl_cl, nl_n1, nl_n2, nl_n3, nl_n4, nl_add, nl_ladd, nl_aa, nl_mul, nl_rmul, nl_mm, pu_wi_1, pu_wi_2, bX11_walkView_0, a_ist, a_push, pu_rv, pu_as, Value.category, pu_bk, pu_kl, pu_qe0, pu_qe1, q5]
      all_goals try simp [bX11_walkView_0, a_ist, a_push, pu_rv, pu_as, Value.category, pu_bk, pu_kl, List.replicate, pu_wi_1, pu_wi_2, nl_add, nl_ladd, nl_aa, nl_mul, nl_rmul, nl_mm, pu_qe0, pu_qe1, q5]
    obtain ⟨N1, c2, x1, x2, x3, x4⟩ := c_wk_l hw hI hxM hy m (i + 1) Q c1' (by omega) (py_wg_t wgP q1) q2 ⟨c, py_WS_c i c q3 ws, Or.inr ⟨st, V, n, st1, st2, SLV, q4⟩⟩
    refine ⟨N1, c2, x1, x2, x3, ?_⟩
    rw [← x4]
    rw [o1] at n53
    rw [st2] at n52 e1
    generalize (I 53 i).toNatClampNeg = o at *
    rw [qX11_walk_23]
    simp [bX11_walk_23, bX11_walk_109, bX11_walk_103, bX11_walk_77, a_ai, a_ald, a_cv, a_gi, a_gr, a_icge, a_ifeq, a_ild, a_inc, a_iret, fx_0_2 hx, fx_0_5 hx, fx_45_14 hx, fx_45_15 hx, fx_5_3 hx, fx_5_6 hx, sh_0, sh_25, sh_45, sh_5, sh_52, sh_53, sh_62, pu_rv, pu_as, Value.category, pu_bk, pu_kl, List.replicate, pu_wi_1, pu_wi_2, nl_add, nl_ladd, nl_aa, nl_mul, nl_rmul, nl_mm, pu_qe0, pu_qe1, h4, hc, i2, n52, n53, e1, p7, wv, sh_25, sh_5]
    all_goals try simp (maxSteps := 400000) (disch := omega) [nl_tle, nl_fle, nl_tlt, nl_flt, nl_teq, nl_feq, nl_sub, nl_ss, nl_lt, nl_llt, nl_ltt, nl_le, nl_lle, nl_lee, nl_eq, nl_leq, nl_ee, nl_div, nl_rem, nl_cl, nl_n1, nl_n2, nl_n3, nl_n4, nl_add, nl_ladd, nl_aa, nl_mul, nl_rmul, nl_mm, pu_wi_1, pu_wi_2, bX11_walk_23, bX11_walk_109, bX11_walk_103, bX11_walk_77, a_ai, a_ald, a_cv, a_gi, a_gr, a_icge, a_ifeq, a_ild, a_inc, a_iret, fx_0_2 hx, fx_0_5 hx, fx_45_14 hx, fx_45_15 hx, fx_5_3 hx, fx_5_6 hx, sh_0, sh_25, sh_45, sh_5, sh_52, sh_53, sh_62, pu_rv, pu_as, Value.category, pu_bk, pu_kl, pu_qe0, pu_qe1, h4, hc, i2, n52, n53, e1, p7, wv, sh_25, sh_5]
    all_goals try simp [bX11_walk_23, bX11_walk_109, bX11_walk_103, bX11_walk_77, a_ai, a_ald, a_cv, a_gi, a_gr, a_icge, a_ifeq, a_ild, a_inc, a_iret, fx_0_2 hx, fx_0_5 hx, fx_45_14 hx, fx_45_15 hx, fx_5_3 hx, fx_5_6 hx, sh_0, sh_25, sh_45, sh_5, sh_52, sh_53, sh_62, pu_rv, pu_as, Value.category, pu_bk, pu_kl, List.replicate, pu_wi_1, pu_wi_2, nl_add, nl_ladd, nl_aa, nl_mul, nl_rmul, nl_mm, pu_qe0, pu_qe1, h4, hc, i2, n52, n53, e1, p7, wv, sh_25, sh_5]
    all_goals try simp (maxSteps := 400000) (disch := omega) [nl_tle, nl_fle, nl_tlt, nl_flt, nl_teq, nl_feq, nl_sub, nl_ss, nl_lt, nl_llt, nl_ltt, nl_le, nl_lle, nl_lee, nl_eq, nl_leq, nl_ee, nl_div, nl_rem, nl_cl, nl_n1, nl_n2, nl_n3, nl_n4, nl_add, nl_ladd, nl_aa, nl_mul, nl_rmul, nl_mm, pu_wi_1, pu_wi_2, bX11_walk_23, bX11_walk_109, bX11_walk_103, bX11_walk_77, a_ai, a_ald, a_cv, a_gi, a_gr, a_icge, a_ifeq, a_ild, a_inc, a_iret, fx_0_2 hx, fx_0_5 hx, fx_45_14 hx, fx_45_15 hx, fx_5_3 hx, fx_5_6 hx, sh_0, sh_25, sh_45, sh_5, sh_52, sh_53, sh_62, pu_rv, pu_as, Value.category, pu_bk, pu_kl, pu_qe0, pu_qe1, h4, hc, i2, n52, n53, e1, p7, wv, sh_25, sh_5]
    all_goals try simp [bX11_walk_23, bX11_walk_109, bX11_walk_103, bX11_walk_77, a_ai, a_ald, a_cv, a_gi, a_gr, a_icge, a_ifeq, a_ild, a_inc, a_iret, fx_0_2 hx, fx_0_5 hx, fx_45_14 hx, fx_45_15 hx, fx_5_3 hx, fx_5_6 hx, sh_0, sh_25, sh_45, sh_5, sh_52, sh_53, sh_62, pu_rv, pu_as, Value.category, pu_bk, pu_kl, List.replicate, pu_wi_1, pu_wi_2, nl_add, nl_ladd, nl_aa, nl_mul, nl_rmul, nl_mm, pu_qe0, pu_qe1, h4, hc, i2, n52, n53, e1, p7, wv, sh_25, sh_5]
    all_goals try simp (maxSteps := 400000) (disch := omega) [nl_tle, nl_fle, nl_tlt, nl_flt, nl_teq, nl_feq, nl_sub, nl_ss, nl_lt, nl_llt, nl_ltt, nl_le, nl_lle, nl_lee, nl_eq, nl_leq, nl_ee, nl_div, nl_rem, nl_cl, nl_n1, nl_n2, nl_n3, nl_n4, nl_add, nl_ladd, nl_aa, nl_mul, nl_rmul, nl_mm, pu_wi_1, pu_wi_2, bX11_walk_23, bX11_walk_109, bX11_walk_103, bX11_walk_77, a_ai, a_ald, a_cv, a_gi, a_gr, a_icge, a_ifeq, a_ild, a_inc, a_iret, fx_0_2 hx, fx_0_5 hx, fx_45_14 hx, fx_45_15 hx, fx_5_3 hx, fx_5_6 hx, sh_0, sh_25, sh_45, sh_5, sh_52, sh_53, sh_62, pu_rv, pu_as, Value.category, pu_bk, pu_kl, pu_qe0, pu_qe1, h4, hc, i2, n52, n53, e1, p7, wv, sh_25, sh_5]
    all_goals try simp [bX11_walk_23, bX11_walk_109, bX11_walk_103, bX11_walk_77, a_ai, a_ald, a_cv, a_gi, a_gr, a_icge, a_ifeq, a_ild, a_inc, a_iret, fx_0_2 hx, fx_0_5 hx, fx_45_14 hx, fx_45_15 hx, fx_5_3 hx, fx_5_6 hx, sh_0, sh_25, sh_45, sh_5, sh_52, sh_53, sh_62, pu_rv, pu_as, Value.category, pu_bk, pu_kl, List.replicate, pu_wi_1, pu_wi_2, nl_add, nl_ladd, nl_aa, nl_mul, nl_rmul, nl_mm, pu_qe0, pu_qe1, h4, hc, i2, n52, n53, e1, p7, wv, sh_25, sh_5]
end
