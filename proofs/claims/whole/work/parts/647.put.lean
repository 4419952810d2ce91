/-! OUT, byte by byte; the numbers of a day -/
def pz_cp (M : pu_M) (n : Nat) (v : Int32) : pu_M := pu_wi (pu_wi M 4 n (v &&& 255)) 3 0 (nI (n + 1))
def pz_cw (M : pu_M) (n : Nat) : List Int32 → pu_M
  | [] => M
  | v :: vs => pz_cw (pz_cp M n v) (n + 1) vs
def pz_rp (M : pu_M) (n : Nat) (v : Int32) : pu_M := pu_wi (pu_wi M 77 n (pu_by (pu_by v))) 71 8 (nI (n + 1))
def pz_rw (M : pu_M) (n : Nat) : List Int32 → pu_M
  | [] => M
  | v :: vs => pz_rw (pz_rp M n v) (n + 1) vs
theorem pz_cw_2 : ∀ (vs : List Int32) (M : pu_M) (n : Nat), (pz_cw M n vs).2 = M.2
  | [], M, n => rfl
  | v :: vs, M, n => by
    show (pz_cw (pz_cp M n v) (n + 1) vs).2 = _
    rw [pz_cw_2 vs]
    rfl
theorem pz_rw_2 : ∀ (vs : List Int32) (M : pu_M) (n : Nat), (pz_rw M n vs).2 = M.2
  | [], M, n => rfl
  | v :: vs, M, n => by
    show (pz_rw (pz_rp M n v) (n + 1) vs).2 = _
    rw [pz_rw_2 vs]
    rfl
theorem pz_cw_o : ∀ (vs : List Int32) (M : pu_M) (n a j : Nat), ¬ (a = 3 ∧ j = 0) → a ≠ 4 → (pz_cw M n vs).1 a j = M.1 a j
  | [], M, n, a, j, _, _ => rfl
  | v :: vs, M, n, a, j, h1, h2 => by
    show (pz_cw (pz_cp M n v) (n + 1) vs).1 a j = _
    rw [pz_cw_o vs _ _ a j h1 h2]
    unfold pz_cp
    simp only [pu_wi_1]
    grind
theorem pz_rw_o : ∀ (vs : List Int32) (M : pu_M) (n a j : Nat), ¬ (a = 71 ∧ j = 8) → a ≠ 77 → (pz_rw M n vs).1 a j = M.1 a j
  | [], M, n, a, j, _, _ => rfl
  | v :: vs, M, n, a, j, h1, h2 => by
    show (pz_rw (pz_rp M n v) (n + 1) vs).1 a j = _
    rw [pz_rw_o vs _ _ a j h1 h2]
    unfold pz_rp
    simp only [pu_wi_1]
    grind
/-- behind the same bytes the two sheets tell the same -/
theorem pz_wr : ∀ (vs : List Int32) (M N : pu_M) (n : Nat), M.1 3 0 = nI n → N.1 71 8 = nI n → (∀ j, j < n → M.1 4 j = N.1 77 j &&& 255) → (pz_cw M n vs).1 3 0 = nI (n + vs.length) ∧ (pz_rw N n vs).1 71 8 = nI (n + vs.length) ∧ ∀ j, j < n + vs.length → (pz_cw M n vs).1 4 j = (pz_rw N n vs).1 77 j &&& 255
  | [], M, N, n, h1, h2, h3 => ⟨h1, h2, h3⟩
  | v :: vs, M, N, n, h1, h2, h3 => by
    have := pz_wr vs (pz_cp M n v) (pz_rp N n v) (n + 1) (by simp [pz_cp, pu_wi_1]) (by simp [pz_rp, pu_wi_1]) (fun j hj => by
      unfold pz_cp pz_rp
      simp only [pu_wi_1]
      by_cases e : j = n
      · simp [e, pu_by255]
      · simp [e]
        exact h3 j (by omega))
    rw [show n + (v :: vs).length = n + 1 + vs.length by simp; omega]
    exact this
theorem pz_cw_app : ∀ (vs ws : List Int32) (M : pu_M) (n : Nat), pz_cw M n (vs ++ ws) = pz_cw (pz_cw M n vs) (n + vs.length) ws
  | [], ws, M, n => rfl
  | v :: vs, ws, M, n => by
    show pz_cw (pz_cp M n v) (n + 1) (vs ++ ws) = pz_cw (pz_cw (pz_cp M n v) (n + 1) vs) (n + (vs.length + 1)) ws
    rw [pz_cw_app vs ws, show n + 1 + vs.length = n + (vs.length + 1) by omega]
theorem pz_rw_app : ∀ (vs ws : List Int32) (M : pu_M) (n : Nat), pz_rw M n (vs ++ ws) = pz_rw (pz_rw M n vs) (n + vs.length) ws
  | [], ws, M, n => rfl
  | v :: vs, ws, M, n => by
    show pz_rw (pz_rp M n v) (n + 1) (vs ++ ws) = pz_rw (pz_rw (pz_rp M n v) (n + 1) vs) (n + (vs.length + 1)) ws
    rw [pz_rw_app vs ws, show n + 1 + vs.length = n + (vs.length + 1) by omega]
theorem c_put {M : pu_M} (hx : pu_fx M) (n : Nat) (v : Int32) (hn : M.1 3 0 = nI n) (hl : n < 1200) : pu_r 12 [some (.ref 3), some (.int v)] [] M = some (none, pz_cp M n v) := e_put 3 4 v M n sh_3 sh_4 (fx_3_1 hx) hn hl (by decide)
theorem r_put {M : pu_M} (hx : pu_fx M) (n : Nat) (v : Int32) (hn : M.1 71 8 = nI n) (hl : n < 1300) : pu_r 334 [some (.ref 71), some (.int v)] [] M = some (none, pz_rp M n v) := by
  unfold pz_rp pu_by
  rw [qX12_put]
  simp [a_ent, bX12_put_0, a_ald, a_dup, a_gi, a_gr, a_i2b, a_iadd, a_ild, a_pi, a_push, a_vret, a_wb, fx_71_7 hx, sh_71, sh_77, pu_rv, pu_as, Value.category, pu_bk, pu_kl, List.replicate, pu_wi_1, pu_wi_2, nl_add, nl_ladd, nl_aa, nl_mul, nl_rmul, nl_mm, pu_qe0, pu_qe1, hn]
  all_goals try simp (maxSteps := 400000) (disch := omega) [nl_tle, nl_fle, nl_tlt, nl_flt, nl_teq, nl_feq, nl_sub, nl_ss, nl_lt, nl_llt, nl_ltt, nl_le, nl_lle, nl_lee, nl_eq, nl_leq, nl_ee, nl_div, nl_rem, nl_cl, nl_n1, nl_n2, nl_n3, nl_n4, nl_add, nl_ladd, nl_aa, nl_mul, nl_rmul, nl_mm, pu_wi_1, pu_wi_2, bX12_put_0, a_ald, a_dup, a_gi, a_gr, a_i2b, a_iadd, a_ild, a_pi, a_push, a_vret, a_wb, fx_71_7 hx, sh_71, sh_77, pu_rv, pu_as, Value.category, pu_bk, pu_kl, pu_qe0, pu_qe1, hn]
  all_goals try simp [bX12_put_0, a_ald, a_dup, a_gi, a_gr, a_i2b, a_iadd, a_ild, a_pi, a_push, a_vret, a_wb, fx_71_7 hx, sh_71, sh_77, pu_rv, pu_as, Value.category, pu_bk, pu_kl, List.replicate, pu_wi_1, pu_wi_2, nl_add, nl_ladd, nl_aa, nl_mul, nl_rmul, nl_mm, pu_qe0, pu_qe1, hn]
  all_goals try simp (maxSteps := 400000) (disch := omega) [nl_tle, nl_fle, nl_tlt, nl_flt, nl_teq, nl_feq, nl_sub, nl_ss, nl_lt, nl_llt, nl_ltt, nl_le, nl_lle, nl_lee, nl_eq, nl_leq, nl_ee, nl_div, nl_rem, nl_cl, nl_n1, nl_n2, nl_n3, nl_n4, nl_add, nl_ladd, nl_aa, nl_mul, nl_rmul, nl_mm, pu_wi_1, pu_wi_2, bX12_put_0, a_ald, a_dup, a_gi, a_gr, a_i2b, a_iadd, a_ild, a_pi, a_push, a_vret, a_wb, fx_71_7 hx, sh_71, sh_77, pu_rv, pu_as, Value.category, pu_bk, pu_kl, pu_qe0, pu_qe1, hn]
theorem pz_cp_3 (M : pu_M) (n : Nat) (v : Int32) : (pz_cp M n v).1 3 0 = nI (n + 1) := by simp [pz_cp, pu_wi_1]
theorem pz_rp_8 (M : pu_M) (n : Nat) (v : Int32) : (pz_rp M n v).1 71 8 = nI (n + 1) := by simp [pz_rp, pu_wi_1]
theorem pz_cp_o (M : pu_M) (n : Nat) (v : Int32) (a j : Nat) (h1 : a ≠ 3) (h2 : a ≠ 4) : (pz_cp M n v).1 a j = M.1 a j := by
  simp [pz_cp, pu_wi_1, h1, h2]
theorem pz_rp_o (M : pu_M) (n : Nat) (v : Int32) (a j : Nat) (h1 : a ≠ 71) (h2 : a ≠ 77) : (pz_rp M n v).1 a j = M.1 a j := by
  simp [pz_rp, pu_wi_1, h1, h2]
/-! the numbers of a day -/
def pz_70 (M N : pu_M) : Prop := N.2 = M.2 ∧ ∀ a j, a ≠ 70 → N.1 a j = M.1 a j
section
variable {M : pu_M} {I : Nat → Nat → Int32} {L : Nat → Nat → Int64}
theorem pz_hu (hw : pu_WF I L) {y : Int32} {k l : Nat} (hk : k < cU I) (hl : l < cU I) (h1 : pu_sh1 I y k) (h2 : pu_sh1 I y l) (he : pu_sl0 I k = pu_sl0 I l) : k = l := by
  have hK := wx_bK hw
  have u := wx_uk hw k hk
  obtain ⟨s1, s2⟩ := pu_on (x := I 39 (pu_sl0 I k)) (n := cK I) ⟨u.1, u.2.1⟩
  obtain ⟨q, q1, q2⟩ := pu_qex hw (I 39 (pu_sl0 I k)).toNatClampNeg (by omega) y
  rw [pu_sh_oq hw q2 hk s1] at h1
  rw [pu_sh_oq hw q2 hl (by rw [← he]; exact s1)] at h2
  exact wx_u1 hw q k l q1 hk hl h1 h2 (by rw [(pu_sl_lt hw hk).2, (pu_sl_lt hw hl).2, he])
def pz_fm (M : pu_M) (v : Int32) (i : Nat) : pu_M := (fun a j => if a = 70 ∧ j < i then v else M.1 a j, M.2)
theorem pz_fm_s (M : pu_M) (v : Int32) (i : Nat) : pu_wi (pz_fm M v i) 70 i v = pz_fm M v (i + 1) := by
  unfold pu_wi pz_fm
  congr 1
  funext a j
  grind
theorem c_fill70_l (M : pu_M) (v : Int32) : ∀ (m i : Nat), i + m = 200 → pu_r 424 [some (.ref 70), some (.int v), some (.int (nI i)), some (.int (nI 200))] [] (pz_fm M v i) = some (none, pz_fm M v 200)
  | 0, i, h => by
    have e : i = 200 := by omega
    subst e
    have hc : nI 200 ≤ nI 200 := by decide
    generalize pz_fm M v 200 = N
    rw [qJ7_fill_53178_5]
    simp [bJ7_fill_53178_5, bJ7_fill_53178_20, a_ald, a_icge, a_ild, a_inc, a_vret, a_wi, pu_rv, pu_as, Value.category, pu_bk, pu_kl, List.replicate, pu_wi_1, pu_wi_2, nl_add, nl_ladd, nl_aa, nl_mul, nl_rmul, nl_mm, pu_qe0, pu_qe1, hc]
    all_goals try simp (maxSteps := 400000) (disch := omega) [nl_tle, nl_fle, nl_tlt, nl_flt, nl_teq, nl_feq, nl_sub, nl_ss, nl_lt, nl_llt, nl_ltt, nl_le, nl_lle, nl_lee, nl_eq, nl_leq, nl_ee, nl_div, nl_rem, nl_cl, nl_n1, nl_n2, nl_n3, nl_n4, nl_add, nl_ladd, nl_aa, nl_mul, nl_rmul, nl_mm, pu_wi_1, pu_wi_2, bJ7_fill_53178_5, bJ7_fill_53178_20, a_ald, a_icge, a_ild, a_inc, a_vret, a_wi, pu_rv, pu_as, Value.category, pu_bk, pu_kl, pu_qe0, pu_qe1, hc]
    all_goals try simp [bJ7_fill_53178_5, bJ7_fill_53178_20, a_ald, a_icge, a_ild, a_inc, a_vret, a_wi, pu_rv, pu_as, Value.category, pu_bk, pu_kl, List.replicate, pu_wi_1, pu_wi_2, nl_add, nl_ladd, nl_aa, nl_mul, nl_rmul, nl_mm, pu_qe0, pu_qe1, hc]
    all_goals try simp (maxSteps := 400000) (disch := omega) [nl_tle, nl_fle, nl_tlt, nl_flt, nl_teq, nl_feq, nl_sub, nl_ss, nl_lt, nl_llt, nl_ltt, nl_le, nl_lle, nl_lee, nl_eq, nl_leq, nl_ee, nl_div, nl_rem, nl_cl, nl_n1, nl_n2, nl_n3, nl_n4, nl_add, nl_ladd, nl_aa, nl_mul, nl_rmul, nl_mm, pu_wi_1, pu_wi_2, bJ7_fill_53178_5, bJ7_fill_53178_20, a_ald, a_icge, a_ild, a_inc, a_vret, a_wi, pu_rv, pu_as, Value.category, pu_bk, pu_kl, pu_qe0, pu_qe1, hc]
  | m + 1, i, h => by
    have hc : ¬ nI 200 ≤ nI i := nI_ge (by omega) (by omega)
    have ih := c_fill70_l M v m (i + 1) (by omega)
    rw [← pz_fm_s] at ih
    generalize pz_fm M v i = N at *
    rw [qJ7_fill_53178_5]
    simp [bJ7_fill_53178_5, bJ7_fill_53178_20, a_ald, a_icge, a_ild, a_inc, a_vret, a_wi, pu_rv, pu_as, Value.category, pu_bk, pu_kl, List.replicate, pu_wi_1, pu_wi_2, nl_add, nl_ladd, nl_aa, nl_mul, nl_rmul, nl_mm, pu_qe0, pu_qe1, hc, sh_70]
    all_goals try simp (maxSteps := 400000) (disch := omega) [nl_tle, nl_fle, nl_tlt, nl_flt, nl_teq, nl_feq, nl_sub, nl_ss, nl_lt, nl_llt, nl_ltt, nl_le, nl_lle, nl_lee, nl_eq, nl_leq, nl_ee, nl_div, nl_rem, nl_cl, nl_n1, nl_n2, nl_n3, nl_n4, nl_add, nl_ladd, nl_aa, nl_mul, nl_rmul, nl_mm, pu_wi_1, pu_wi_2, bJ7_fill_53178_5, bJ7_fill_53178_20, a_ald, a_icge, a_ild, a_inc, a_vret, a_wi, pu_rv, pu_as, Value.category, pu_bk, pu_kl, pu_qe0, pu_qe1, hc, sh_70]
    all_goals try simp [bJ7_fill_53178_5, bJ7_fill_53178_20, a_ald, a_icge, a_ild, a_inc, a_vret, a_wi, pu_rv, pu_as, Value.category, pu_bk, pu_kl, List.replicate, pu_wi_1, pu_wi_2, nl_add, nl_ladd, nl_aa, nl_mul, nl_rmul, nl_mm, pu_qe0, pu_qe1, hc, sh_70]
    all_goals try simp (maxSteps := 400000) (disch := omega) [nl_tle, nl_fle, nl_tlt, nl_flt, nl_teq, nl_feq, nl_sub, nl_ss, nl_lt, nl_llt, nl_ltt, nl_le, nl_lle, nl_lee, nl_eq, nl_leq, nl_ee, nl_div, nl_rem, nl_cl, nl_n1, nl_n2, nl_n3, nl_n4, nl_add, nl_ladd, nl_aa, nl_mul, nl_rmul, nl_mm, pu_wi_1, pu_wi_2, bJ7_fill_53178_5, bJ7_fill_53178_20, a_ald, a_icge, a_ild, a_inc, a_vret, a_wi, pu_rv, pu_as, Value.category, pu_bk, pu_kl, pu_qe0, pu_qe1, hc, sh_70]
    exact ih
theorem c_fill70 (M : pu_M) (v : Int32) : pu_r 218 [some (.ref 70), some (.int v)] [] M = some (none, pz_fm M v 200) := by
  have e := c_fill70_l M v 200 0 (by omega)
  have e0 : pz_fm M v 0 = M := by
    unfold pz_fm
    simp
  rw [e0, nI_0] at e
  have e1 : Int32.ofNat 200 = nI 200 := rfl
  rw [qJ7_fill_53178]
  simp [a_ent, bJ7_fill_53178_0, a_ald, a_ist, a_len, a_push, pu_rv, pu_as, Value.category, pu_bk, pu_kl, List.replicate, pu_wi_1, pu_wi_2, nl_add, nl_ladd, nl_aa, nl_mul, nl_rmul, nl_mm, pu_qe0, pu_qe1, sh_70, e1, e]
  all_goals try simp (maxSteps := 400000) (disch := omega) [nl_tle, nl_fle, nl_tlt, nl_flt, nl_teq, nl_feq, nl_sub, nl_ss, nl_lt, nl_llt, nl_ltt, nl_le, nl_lle, nl_lee, nl_eq, nl_leq, nl_ee, nl_div, nl_rem, nl_cl, nl_n1, nl_n2, nl_n3, nl_n4, nl_add, nl_ladd, nl_aa, nl_mul, nl_rmul, nl_mm, pu_wi_1, pu_wi_2, bJ7_fill_53178_0, a_ald, a_ist, a_len, a_push, pu_rv, pu_as, Value.category, pu_bk, pu_kl, pu_qe0, pu_qe1, sh_70, e1, e]
  all_goals try simp [bJ7_fill_53178_0, a_ald, a_ist, a_len, a_push, pu_rv, pu_as, Value.category, pu_bk, pu_kl, List.replicate, pu_wi_1, pu_wi_2, nl_add, nl_ladd, nl_aa, nl_mul, nl_rmul, nl_mm, pu_qe0, pu_qe1, sh_70, e1, e]
  all_goals try simp (maxSteps := 400000) (disch := omega) [nl_tle, nl_fle, nl_tlt, nl_flt, nl_teq, nl_feq, nl_sub, nl_ss, nl_lt, nl_llt, nl_ltt, nl_le, nl_lle, nl_lee, nl_eq, nl_leq, nl_ee, nl_div, nl_rem, nl_cl, nl_n1, nl_n2, nl_n3, nl_n4, nl_add, nl_ladd, nl_aa, nl_mul, nl_rmul, nl_mm, pu_wi_1, pu_wi_2, bJ7_fill_53178_0, a_ald, a_ist, a_len, a_push, pu_rv, pu_as, Value.category, pu_bk, pu_kl, pu_qe0, pu_qe1, sh_70, e1, e]
theorem c_wholes_l (hw : pu_WF I L) (y : Int32) : ∀ (m i : Nat) (x : Int32) (N : pu_M) (t4 t5 : Option Value), x = nI i → i + m = cU I → pu_fx N → pu_ag N I → (∀ k, k < i → pu_sh1 I y k → N.1 70 (pu_sl0 I k) = I 16 k) → (∀ j, j < 200 → (∀ k, k < i → pu_sh1 I y k → pu_sl0 I k ≠ j) → N.1 70 j = -1) →
    ∃ N2, pz_70 N N2 ∧ (∀ k, k < cU I → pu_sh1 I y k → N2.1 70 (pu_sl0 I k) = I 16 k) ∧ (∀ j, j < 200 → (∀ k, k < cU I → pu_sh1 I y k → pu_sl0 I k ≠ j) → N2.1 70 j = -1) ∧ pu_r 425 [some (.ref 5), some (.int y), some (.ref 70), some (.int x), t4, t5] [] N = some (none, N2)
  | 0, i, x, N, t4, t5, hi, h, hx, hI, g1, g2 => by
    subst hi
    have hU := wx_bU hw
    have hn := wx_cU hw
    have hc : nI (cU I) ≤ nI i := nI_le (by omega) (by omega)
    have e : i = cU I := by omega
    subst e
    refine ⟨N, ⟨rfl, fun _ _ _ => rfl⟩, g1, g2, ?_⟩
    rw [qX5_setWholesOn_7]
    simp [bX5_setWholesOn_7, bX5_setWholesOn_93, bX5_setWholesOn_52, bX5_setWholesOn_87, a_ai, a_ald, a_cv, a_gi, a_gr, a_icge, a_ifeq, a_iflt, a_ild, a_inc, a_ist, a_len, a_vret, a_wi, ag_14 hI, ag_15 hI, ag_16 hI, ag_17 hI, ag_18 hI, ag_6 hI, fx_14_1 hx, fx_14_2 hx, fx_14_3 hx, fx_14_4 hx, fx_5_0 hx, fx_5_1 hx, sh_14, sh_15, sh_16, sh_17, sh_18, sh_5, sh_6, pu_rv, pu_as, Value.category, pu_bk, pu_kl, List.replicate, pu_wi_1, pu_wi_2, nl_add, nl_ladd, nl_aa, nl_mul, nl_rmul, nl_mm, pu_qe0, pu_qe1, hn, hc]
    all_goals try simp (maxSteps := 400000) (disch := omega) [nl_tle, nl_fle, nl_tlt, nl_flt, nl_teq, nl_feq, nl_sub, nl_ss, nl_lt, nl_llt, nl_ltt, nl_le, nl_lle, nl_lee, nl_eq, nl_leq, nl_ee, nl_div, nl_rem, nl_cl, nl_n1, nl_n2, nl_n3, nl_n4, nl_add, nl_ladd, nl_aa, nl_mul, nl_rmul, nl_mm, pu_wi_1, pu_wi_2, bX5_setWholesOn_7, bX5_setWholesOn_93, bX5_setWholesOn_52, bX5_setWholesOn_87, a_ai, a_ald, a_cv, a_gi, a_gr, a_icge, a_ifeq, a_iflt, a_ild, a_inc, a_ist, a_len, a_vret, a_wi, ag_14 hI, ag_15 hI, ag_16 hI, ag_17 hI, ag_18 hI, ag_6 hI, fx_14_1 hx, fx_14_2 hx, fx_14_3 hx, fx_14_4 hx, fx_5_0 hx, fx_5_1 hx, sh_14, sh_15, sh_16, sh_17, sh_18, sh_5, sh_6, pu_rv, pu_as, Value.category, pu_bk, pu_kl, pu_qe0, pu_qe1, hn, hc]
    all_goals try simp [bX5_setWholesOn_7, bX5_setWholesOn_93, bX5_setWholesOn_52, bX5_setWholesOn_87, a_ai, a_ald, a_cv, a_gi, a_gr, a_icge, a_ifeq, a_iflt, a_ild, a_inc, a_ist, a_len, a_vret, a_wi, ag_14 hI, ag_15 hI, ag_16 hI, ag_17 hI, ag_18 hI, ag_6 hI, fx_14_1 hx, fx_14_2 hx, fx_14_3 hx, fx_14_4 hx, fx_5_0 hx, fx_5_1 hx, sh_14, sh_15, sh_16, sh_17, sh_18, sh_5, sh_6, pu_rv, pu_as, Value.category, pu_bk, pu_kl, List.replicate, pu_wi_1, pu_wi_2, nl_add, nl_ladd, nl_aa, nl_mul, nl_rmul, nl_mm, pu_qe0, pu_qe1, hn, hc]
    all_goals try simp (maxSteps := 400000) (disch := omega) [nl_tle, nl_fle, nl_tlt, nl_flt, nl_teq, nl_feq, nl_sub, nl_ss, nl_lt, nl_llt, nl_ltt, nl_le, nl_lle, nl_lee, nl_eq, nl_leq, nl_ee, nl_div, nl_rem, nl_cl, nl_n1, nl_n2, nl_n3, nl_n4, nl_add, nl_ladd, nl_aa, nl_mul, nl_rmul, nl_mm, pu_wi_1, pu_wi_2, bX5_setWholesOn_7, bX5_setWholesOn_93, bX5_setWholesOn_52, bX5_setWholesOn_87, a_ai, a_ald, a_cv, a_gi, a_gr, a_icge, a_ifeq, a_iflt, a_ild, a_inc, a_ist, a_len, a_vret, a_wi, ag_14 hI, ag_15 hI, ag_16 hI, ag_17 hI, ag_18 hI, ag_6 hI, fx_14_1 hx, fx_14_2 hx, fx_14_3 hx, fx_14_4 hx, fx_5_0 hx, fx_5_1 hx, sh_14, sh_15, sh_16, sh_17, sh_18, sh_5, sh_6, pu_rv, pu_as, Value.category, pu_bk, pu_kl, pu_qe0, pu_qe1, hn, hc]
  | m + 1, i, x, N, t4, t5, hi, h, hx, hI, g1, g2 => by
    subst hi
    have hU := wx_bU hw
    have hD := wx_bD hw
    have hn := wx_cU hw
    have hc : ¬ nI (cU I) ≤ nI i := nI_ge (by omega) (by omega)
    have e1 := c_uholds hx hI hw y i (by omega)
    have s1 := pu_sl_lt hw (k := i) (by omega)
    by_cases c : pu_sh1 I y i
    · rw [pu_q1 c] at e1
      have hx2 : pu_fx (pu_wi N 70 (pu_sl0 I i) (I 16 i)) := hx
      have hI2 : pu_ag (pu_wi N 70 (pu_sl0 I i) (I 16 i)) I := fun a j q1 q2 => by
        rw [pu_wi_1, if_neg (by omega)]
        exact hI a j q1 q2
      obtain ⟨N2, a1, a2, a3, a4⟩ := c_wholes_l hw y m (i + 1) _ (pu_wi N 70 (pu_sl0 I i) (I 16 i)) (some (.int (I 15 i))) (some (.int 1)) rfl (by omega) hx2 hI2 (fun k hk hs => by
        rw [pu_wi_1, if_pos rfl]
        by_cases e : k = i
        · rw [e, if_pos rfl]
        · rw [if_neg (fun z => e (pz_hu hw (by omega) (by omega) hs c z))]
          exact g1 k (by omega) hs) (fun j hj hs => by
        rw [pu_wi_1, if_pos rfl, if_neg (fun z => hs i (by omega) c z.symm)]
        exact g2 j hj (fun k hk => hs k (by omega)))
      refine ⟨N2, ⟨a1.1, fun a j q => ?_⟩, a2, a3, ?_⟩
      · rw [a1.2 a j q, pu_wi_1, if_neg q]
      · have p1 : ¬ nI (pu_sl0 I i) < 0 := nI_pos (by omega)
        have e2 : Int32.ofNat 200 = nI 200 := rfl
        have p2 : ¬ nI 200 ≤ nI (pu_sl0 I i) := nI_ge (by omega) (by omega)
        rw [s1.2] at a4
        rw [qX5_setWholesOn_7]
        simp [bX5_setWholesOn_7, bX5_setWholesOn_93, bX5_setWholesOn_52, bX5_setWholesOn_87, a_ai, a_ald, a_cv, a_gi, a_gr, a_icge, a_ifeq, a_iflt, a_ild, a_inc, a_ist, a_len, a_vret, a_wi, ag_14 hI, ag_15 hI, ag_16 hI, ag_17 hI, ag_18 hI, ag_6 hI, fx_14_1 hx, fx_14_2 hx, fx_14_3 hx, fx_14_4 hx, fx_5_0 hx, fx_5_1 hx, sh_14, sh_15, sh_16, sh_17, sh_18, sh_5, sh_6, pu_rv, pu_as, Value.category, pu_bk, pu_kl, List.replicate, pu_wi_1, pu_wi_2, nl_add, nl_ladd, nl_aa, nl_mul, nl_rmul, nl_mm, pu_qe0, pu_qe1, hn, hc, e1, sh_70, s1.2, p1, p2, e2]
        all_goals try simp (maxSteps := 400000) (disch := omega) [nl_tle, nl_fle, nl_tlt, nl_flt, nl_teq, nl_feq, nl_sub, nl_ss, nl_lt, nl_llt, nl_ltt, nl_le, nl_lle, nl_lee, nl_eq, nl_leq, nl_ee, nl_div, nl_rem, nl_cl, nl_n1, nl_n2, nl_n3, nl_n4, nl_add, nl_ladd, nl_aa, nl_mul, nl_rmul, nl_mm, pu_wi_1, pu_wi_2, bX5_setWholesOn_7, bX5_setWholesOn_93, bX5_setWholesOn_52, bX5_setWholesOn_87, a_ai, a_ald, a_cv, a_gi, a_gr, a_icge, a_ifeq, a_iflt, a_ild, a_inc, a_ist, a_len, a_vret, a_wi, ag_14 hI, ag_15 hI, ag_16 hI, ag_17 hI, ag_18 hI, ag_6 hI, fx_14_1 hx, fx_14_2 hx, fx_14_3 hx, fx_14_4 hx, fx_5_0 hx, fx_5_1 hx, sh_14, sh_15, sh_16, sh_17, sh_18, sh_5, sh_6, pu_rv, pu_as, Value.category, pu_bk, pu_kl, pu_qe0, pu_qe1, hn, hc, e1, sh_70, s1.2, p1, p2, e2]
        all_goals try simp [bX5_setWholesOn_7, bX5_setWholesOn_93, bX5_setWholesOn_52, bX5_setWholesOn_87, a_ai, a_ald, a_cv, a_gi, a_gr, a_icge, a_ifeq, a_iflt, a_ild, a_inc, a_ist, a_len, a_vret, a_wi, ag_14 hI, ag_15 hI, ag_16 hI, ag_17 hI, ag_18 hI, ag_6 hI, fx_14_1 hx, fx_14_2 hx, fx_14_3 hx, fx_14_4 hx, fx_5_0 hx, fx_5_1 hx, sh_14, sh_15, sh_16, sh_17, sh_18, sh_5, sh_6, pu_rv, pu_as, Value.category, pu_bk, pu_kl, List.replicate, pu_wi_1, pu_wi_2, nl_add, nl_ladd, nl_aa, nl_mul, nl_rmul, nl_mm, pu_qe0, pu_qe1, hn, hc, e1, sh_70, s1.2, p1, p2, e2]
        all_goals try simp (maxSteps := 400000) (disch := omega) [nl_tle, nl_fle, nl_tlt, nl_flt, nl_teq, nl_feq, nl_sub, nl_ss, nl_lt, nl_llt, nl_ltt, nl_le, nl_lle, nl_lee, nl_eq, nl_leq, nl_ee, nl_div, nl_rem, nl_cl, nl_n1, nl_n2, nl_n3, nl_n4, nl_add, nl_ladd, nl_aa, nl_mul, nl_rmul, nl_mm, pu_wi_1, pu_wi_2, bX5_setWholesOn_7, bX5_setWholesOn_93, bX5_setWholesOn_52, bX5_setWholesOn_87, a_ai, a_ald, a_cv, a_gi, a_gr, a_icge, a_ifeq, a_iflt, a_ild, a_inc, a_ist, a_len, a_vret, a_wi, ag_14 hI, ag_15 hI, ag_16 hI, ag_17 hI, ag_18 hI, ag_6 hI, fx_14_1 hx, fx_14_2 hx, fx_14_3 hx, fx_14_4 hx, fx_5_0 hx, fx_5_1 hx, sh_14, sh_15, sh_16, sh_17, sh_18, sh_5, sh_6, pu_rv, pu_as, Value.category, pu_bk, pu_kl, pu_qe0, pu_qe1, hn, hc, e1, sh_70, s1.2, p1, p2, e2]
        exact a4
    · rw [pu_q0 c] at e1
      obtain ⟨N2, a1, a2, a3, a4⟩ := c_wholes_l hw y m (i + 1) _ N (some (.int (I 15 i))) (some (.int 0)) rfl (by omega) hx hI (fun k hk hs => g1 k (by have : k ≠ i := fun e => c (by rw [← e]; exact hs); omega) hs) (fun j hj hs => g2 j hj (fun k hk => hs k (by omega)))
      refine ⟨N2, a1, a2, a3, ?_⟩
      rw [qX5_setWholesOn_7]
      simp [bX5_setWholesOn_7, bX5_setWholesOn_93, bX5_setWholesOn_52, bX5_setWholesOn_87, a_ai, a_ald, a_cv, a_gi, a_gr, a_icge, a_ifeq, a_iflt, a_ild, a_inc, a_ist, a_len, a_vret, a_wi, ag_14 hI, ag_15 hI, ag_16 hI, ag_17 hI, ag_18 hI, ag_6 hI, fx_14_1 hx, fx_14_2 hx, fx_14_3 hx, fx_14_4 hx, fx_5_0 hx, fx_5_1 hx, sh_14, sh_15, sh_16, sh_17, sh_18, sh_5, sh_6, pu_rv, pu_as, Value.category, pu_bk, pu_kl, List.replicate, pu_wi_1, pu_wi_2, nl_add, nl_ladd, nl_aa, nl_mul, nl_rmul, nl_mm, pu_qe0, pu_qe1, hn, hc, e1, a4]
      all_goals try simp (maxSteps := 400000) (disch := omega) [nl_tle, nl_fle, nl_tlt, nl_flt, nl_teq, nl_feq, nl_sub, nl_ss, nl_lt, nl_llt, nl_ltt, nl_le, nl_lle, nl_lee, nl_eq, nl_leq, nl_ee, nl_div, nl_rem, nl_cl, nl_n1, nl_n2, nl_n3, nl_n4, nl_add, nl_ladd, nl_aa, nl_mul, nl_rmul, nl_mm, pu_wi_1, pu_wi_2, bX5_setWholesOn_7, bX5_setWholesOn_93, bX5_setWholesOn_52, bX5_setWholesOn_87, a_ai, a_ald, a_cv, a_gi, a_gr, a_icge, a_ifeq, a_iflt, a_ild, a_inc, a_ist, a_len, a_vret, a_wi, ag_14 hI, ag_15 hI, ag_16 hI, ag_17 hI, ag_18 hI, ag_6 hI, fx_14_1 hx, fx_14_2 hx, fx_14_3 hx, fx_14_4 hx, fx_5_0 hx, fx_5_1 hx, sh_14, sh_15, sh_16, sh_17, sh_18, sh_5, sh_6, pu_rv, pu_as, Value.category, pu_bk, pu_kl, pu_qe0, pu_qe1, hn, hc, e1, a4]
      all_goals try simp [bX5_setWholesOn_7, bX5_setWholesOn_93, bX5_setWholesOn_52, bX5_setWholesOn_87, a_ai, a_ald, a_cv, a_gi, a_gr, a_icge, a_ifeq, a_iflt, a_ild, a_inc, a_ist, a_len, a_vret, a_wi, ag_14 hI, ag_15 hI, ag_16 hI, ag_17 hI, ag_18 hI, ag_6 hI, fx_14_1 hx, fx_14_2 hx, fx_14_3 hx, fx_14_4 hx, fx_5_0 hx, fx_5_1 hx, sh_14, sh_15, sh_16, sh_17, sh_18, sh_5, sh_6, pu_rv, pu_as, Value.category, pu_bk, pu_kl, List.replicate, pu_wi_1, pu_wi_2, nl_add, nl_ladd, nl_aa, nl_mul, nl_rmul, nl_mm, pu_qe0, pu_qe1, hn, hc, e1, a4]
      all_goals try simp (maxSteps := 400000) (disch := omega) [nl_tle, nl_fle, nl_tlt, nl_flt, nl_teq, nl_feq, nl_sub, nl_ss, nl_lt, nl_llt, nl_ltt, nl_le, nl_lle, nl_lee, nl_eq, nl_leq, nl_ee, nl_div, nl_rem, nl_cl, nl_n1, nl_n2, nl_n3, nl_n4, nl_add, nl_ladd, nl_aa, nl_mul, nl_rmul, nl_mm, pu_wi_1, pu_wi_2, bX5_setWholesOn_7, bX5_setWholesOn_93, bX5_setWholesOn_52, bX5_setWholesOn_87, a_ai, a_ald, a_cv, a_gi, a_gr, a_icge, a_ifeq, a_iflt, a_ild, a_inc, a_ist, a_len, a_vret, a_wi, ag_14 hI, ag_15 hI, ag_16 hI, ag_17 hI, ag_18 hI, ag_6 hI, fx_14_1 hx, fx_14_2 hx, fx_14_3 hx, fx_14_4 hx, fx_5_0 hx, fx_5_1 hx, sh_14, sh_15, sh_16, sh_17, sh_18, sh_5, sh_6, pu_rv, pu_as, Value.category, pu_bk, pu_kl, pu_qe0, pu_qe1, hn, hc, e1, a4]
theorem c_wholes (hx : pu_fx M) (hI : pu_ag M I) (hw : pu_WF I L) (y : Int32) : ∃ N, pz_70 M N ∧ (∀ k, k < cU I → pu_sh1 I y k → N.1 70 (pu_sl0 I k) = I 16 k) ∧ (∀ j, j < 200 → (∀ k, k < cU I → pu_sh1 I y k → pu_sl0 I k ≠ j) → N.1 70 j = -1) ∧ pu_r 219 [some (.ref 5), some (.int y), some (.ref 70)] [] M = some (none, N) := by
  have e1 := c_fill70 M (-1)
  have hI2 : pu_ag (pz_fm M (-1) 200) I := fun a j q1 q2 => by
    show (if _ then _ else _) = _
    rw [if_neg (by omega)]
    exact hI a j q1 q2
  obtain ⟨N, a1, a2, a3, a4⟩ := c_wholes_l hw y (cU I) 0 0 (pz_fm M (-1) 200) none none rfl (by omega) hx hI2 (fun k hk => by omega) (fun j hj _ => if_pos ⟨rfl, hj⟩)
  refine ⟨N, ⟨a1.1, fun a j q => ?_⟩, a2, a3, ?_⟩
  · rw [a1.2 a j q]
    exact if_neg (fun z => q z.1)
  · rw [qX5_setWholesOn]
    simp [a_ent, bX5_setWholesOn_0, a_ald, a_cs, a_ist, a_push, pu_rv, pu_as, Value.category, pu_bk, pu_kl, List.replicate, pu_wi_1, pu_wi_2, nl_add, nl_ladd, nl_aa, nl_mul, nl_rmul, nl_mm, pu_qe0, pu_qe1, e1, a4]
    all_goals try simp (maxSteps := 400000) (disch := omega) [nl_tle, nl_fle, nl_tlt, nl_flt, nl_teq, nl_feq, nl_sub, nl_ss, nl_lt, nl_llt, nl_ltt, nl_le, nl_lle, nl_lee, nl_eq, nl_leq, nl_ee, nl_div, nl_rem, nl_cl, nl_n1, nl_n2, nl_n3, nl_n4, nl_add, nl_ladd, nl_aa, nl_mul, nl_rmul, nl_mm, pu_wi_1, pu_wi_2, bX5_setWholesOn_0, a_ald, a_cs, a_ist, a_push, pu_rv, pu_as, Value.category, pu_bk, pu_kl, pu_qe0, pu_qe1, e1, a4]
    all_goals try simp [bX5_setWholesOn_0, a_ald, a_cs, a_ist, a_push, pu_rv, pu_as, Value.category, pu_bk, pu_kl, List.replicate, pu_wi_1, pu_wi_2, nl_add, nl_ladd, nl_aa, nl_mul, nl_rmul, nl_mm, pu_qe0, pu_qe1, e1, a4]
    all_goals try simp (maxSteps := 400000) (disch := omega) [nl_tle, nl_fle, nl_tlt, nl_flt, nl_teq, nl_feq, nl_sub, nl_ss, nl_lt, nl_llt, nl_ltt, nl_le, nl_lle, nl_lee, nl_eq, nl_leq, nl_ee, nl_div, nl_rem, nl_cl, nl_n1, nl_n2, nl_n3, nl_n4, nl_add, nl_ladd, nl_aa, nl_mul, nl_rmul, nl_mm, pu_wi_1, pu_wi_2, bX5_setWholesOn_0, a_ald, a_cs, a_ist, a_push, pu_rv, pu_as, Value.category, pu_bk, pu_kl, pu_qe0, pu_qe1, e1, a4]
end
