/-! undo: the reference's loops, over a row r -/
def py_mr (M : pu_M) (r : Nat → Int32) : pu_M := (fun a j => if a = 72 then r j else M.1 a j, M.2)
theorem py_mr_7 (M : pu_M) (r : Nat → Int32) (j : Nat) : (py_mr M r).1 72 j = r j := rfl
theorem py_mr_2 (M : pu_M) (r : Nat → Int32) : (py_mr M r).2 = M.2 := rfl
theorem py_mr_o (M : pu_M) (r : Nat → Int32) {a j : Nat} (h : a ≠ 72) : (py_mr M r).1 a j = M.1 a j := if_neg h
theorem py_mr_w (M : pu_M) (r : Nat → Int32) (i : Nat) (v : Int32) : pu_wi (py_mr M r) 72 i v = py_mr M (pu_us r i v) := by
  unfold pu_wi py_mr pu_us
  simp only [Prod.mk.injEq, and_true]
  funext a j
  by_cases c : a = 72
  · rw [if_pos c, if_pos c]
    simp [c]
  · rw [if_neg c, if_neg c, if_neg c]
theorem py_mr_i (M : pu_M) : py_mr M (M.1 72) = M := by
  unfold py_mr
  have : (fun a j => if a = 72 then M.1 72 j else M.1 a j) = M.1 := by
    funext a j
    by_cases c : a = 72
    · rw [if_pos c, c]
    · rw [if_neg c]
  rw [this]
theorem py_us_o {r : Nat → Int32} {i j : Nat} {v : Int32} (h : j ≠ i) : pu_us r i v j = r j := if_neg h
theorem py_us_v {r : Nat → Int32} {i : Nat} {v : Int32} : pu_us r i v i = v := if_pos rfl
theorem py_us_i {r : Nat → Int32} {i : Nat} {v : Int32} (h : r i = v) : pu_us r i v = r := by
  funext j
  by_cases c : j = i
  · rw [c, py_us_v, h]
  · rw [py_us_o c]
theorem py_us_s {r : Nat → Int32} {i : Nat} {v w : Int32} : pu_us (pu_us r i v) i w = pu_us r i w := by
  funext j
  by_cases c : j = i
  · rw [c, py_us_v, py_us_v]
  · rw [py_us_o c, py_us_o c, py_us_o c]
theorem py_pr {n : Nat} : nI (n + 1) - 1 = nI n := nI_pred n
theorem py_np {n : Nat} (h : n + 1 < 2147483648) : ¬ nI (n + 1) ≤ 0 := by
  rw [show (0 : Int32) = nI 0 from rfl, nl_lee _ _ h (by omega)]
  omega
/-- the row r2 is r with p's at places a k, k below i, made -1 -/
def py_rz (a : Nat → Nat) (r r2 : Nat → Int32) (p : Int32) (i : Nat) : Prop := (∀ k, k < i → r (a k) = p → r2 (a k) = -1) ∧ (∀ j, (∀ k, k < i → r (a k) = p → j ≠ a k) → r2 j = r j)
theorem py_rz_y {a : Nat → Nat} {r r2 : Nat → Int32} {p : Int32} {i : Nat} (hi : ∀ k l, a k = a l → k = l) (h : py_rz a r r2 p i) (c : r (a i) = p) : py_rz a r (pu_us r2 (a i) (-1)) p (i + 1) := by
  refine ⟨fun k hk hc => ?_, fun j hj => ?_⟩
  · by_cases z : k = i
    · rw [z, py_us_v]
    · rw [py_us_o (fun q => z (hi _ _ q))]
      exact h.1 k (by omega) hc
  · rw [py_us_o (hj i (by omega) c)]
    exact h.2 j (fun k hk hc => hj k (by omega) hc)
theorem py_rz_n {a : Nat → Nat} {r r2 : Nat → Int32} {p : Int32} {i : Nat} (h : py_rz a r r2 p i) (c : ¬ r (a i) = p) : py_rz a r r2 p (i + 1) := by
  refine ⟨fun k hk hc => ?_, fun j hj => h.2 j (fun k hk hc => hj k (by omega) hc)⟩
  have z : k ≠ i := fun z => by
    rw [z] at hc
    exact c hc
  exact h.1 k (by omega) hc
theorem py_rz_r {a : Nat → Nat} {r r2 : Nat → Int32} {p : Int32} {i : Nat} (hi : ∀ k l, a k = a l → k = l) (h : py_rz a r r2 p i) : r2 (a i) = r (a i) := h.2 _ (fun k hk _ q => by
  have := hi _ _ q
  omega)
section
variable {M : pu_M} (p at0 : Int32)
theorem r_undoA (hx : pu_fx M) (u : Nat) : ∀ m n (r : Nat → Int32) (t : Option Value), n = u + m → n ≤ 3000 → r 6 = nI n → (∀ k, k < n → (k < u ↔ r (10752 + 6 * k + 4) ≠ p)) → pu_r 480 [some (.ref 71), some (.int p), some (.int at0), t] [] (py_mr M r) = pu_r 481 [some (.ref 71), some (.int p), some (.int at0), some (.int 0)] [] (py_mr M (pu_us r 6 (nI u)))
  | 0, n, r, t, h, hn, h6, hk => by
    have f := fx_71_0 hx
    have e : n = u := by omega
    subst e
    rw [py_us_i h6]
    by_cases z : n = 0
    · subst z
      rw [nI_0] at h6
      rw [qX12_undo_29]
      simp [bX12_undo_29, bX12_undo_80, bX12_undo_70, a_ai, a_ald, a_dup2, a_gr, a_iadd, a_icne, a_ifle, a_ild, a_imul, a_ist, a_isub, a_push, a_wi, sh_71, sh_72, pu_rv, pu_as, Value.category, pu_bk, pu_kl, List.replicate, pu_wi_1, pu_wi_2, nl_add, nl_ladd, nl_aa, nl_mul, nl_rmul, nl_mm, pu_qe0, pu_qe1, f, py_mr_2, py_mr_7, h6]
      all_goals try simp (maxSteps := 400000) (disch := omega) [nl_tle, nl_fle, nl_tlt, nl_flt, nl_teq, nl_feq, nl_sub, nl_ss, nl_lt, nl_llt, nl_ltt, nl_le, nl_lle, nl_lee, nl_eq, nl_leq, nl_ee, nl_div, nl_rem, nl_cl, nl_n1, nl_n2, nl_n3, nl_n4, nl_add, nl_ladd, nl_aa, nl_mul, nl_rmul, nl_mm, pu_wi_1, pu_wi_2, bX12_undo_29, bX12_undo_80, bX12_undo_70, a_ai, a_ald, a_dup2, a_gr, a_iadd, a_icne, a_ifle, a_ild, a_imul, a_ist, a_isub, a_push, a_wi, sh_71, sh_72, pu_rv, pu_as, Value.category, pu_bk, pu_kl, pu_qe0, pu_qe1, f, py_mr_2, py_mr_7, h6]
      all_goals try simp [bX12_undo_29, bX12_undo_80, bX12_undo_70, a_ai, a_ald, a_dup2, a_gr, a_iadd, a_icne, a_ifle, a_ild, a_imul, a_ist, a_isub, a_push, a_wi, sh_71, sh_72, pu_rv, pu_as, Value.category, pu_bk, pu_kl, List.replicate, pu_wi_1, pu_wi_2, nl_add, nl_ladd, nl_aa, nl_mul, nl_rmul, nl_mm, pu_qe0, pu_qe1, f, py_mr_2, py_mr_7, h6]
      all_goals try simp (maxSteps := 400000) (disch := omega) [nl_tle, nl_fle, nl_tlt, nl_flt, nl_teq, nl_feq, nl_sub, nl_ss, nl_lt, nl_llt, nl_ltt, nl_le, nl_lle, nl_lee, nl_eq, nl_leq, nl_ee, nl_div, nl_rem, nl_cl, nl_n1, nl_n2, nl_n3, nl_n4, nl_add, nl_ladd, nl_aa, nl_mul, nl_rmul, nl_mm, pu_wi_1, pu_wi_2, bX12_undo_29, bX12_undo_80, bX12_undo_70, a_ai, a_ald, a_dup2, a_gr, a_iadd, a_icne, a_ifle, a_ild, a_imul, a_ist, a_isub, a_push, a_wi, sh_71, sh_72, pu_rv, pu_as, Value.category, pu_bk, pu_kl, pu_qe0, pu_qe1, f, py_mr_2, py_mr_7, h6]
    · obtain ⟨l, rfl⟩ : ∃ l, n = l + 1 := ⟨n - 1, by omega⟩
      have c := (hk l (by omega)).mp (by omega)
      have np := py_np (n := l) (by omega)
      rw [qX12_undo_29]
      simp [bX12_undo_29, bX12_undo_80, bX12_undo_70, a_ai, a_ald, a_dup2, a_gr, a_iadd, a_icne, a_ifle, a_ild, a_imul, a_ist, a_isub, a_push, a_wi, sh_71, sh_72, pu_rv, pu_as, Value.category, pu_bk, pu_kl, List.replicate, pu_wi_1, pu_wi_2, nl_add, nl_ladd, nl_aa, nl_mul, nl_rmul, nl_mm, pu_qe0, pu_qe1, f, py_mr_2, py_mr_7, h6, np, py_pr, c]
      all_goals try simp (maxSteps := 400000) (disch := omega) [nl_tle, nl_fle, nl_tlt, nl_flt, nl_teq, nl_feq, nl_sub, nl_ss, nl_lt, nl_llt, nl_ltt, nl_le, nl_lle, nl_lee, nl_eq, nl_leq, nl_ee, nl_div, nl_rem, nl_cl, nl_n1, nl_n2, nl_n3, nl_n4, nl_add, nl_ladd, nl_aa, nl_mul, nl_rmul, nl_mm, pu_wi_1, pu_wi_2, bX12_undo_29, bX12_undo_80, bX12_undo_70, a_ai, a_ald, a_dup2, a_gr, a_iadd, a_icne, a_ifle, a_ild, a_imul, a_ist, a_isub, a_push, a_wi, sh_71, sh_72, pu_rv, pu_as, Value.category, pu_bk, pu_kl, pu_qe0, pu_qe1, f, py_mr_2, py_mr_7, h6, np, py_pr, c]
      all_goals try simp [bX12_undo_29, bX12_undo_80, bX12_undo_70, a_ai, a_ald, a_dup2, a_gr, a_iadd, a_icne, a_ifle, a_ild, a_imul, a_ist, a_isub, a_push, a_wi, sh_71, sh_72, pu_rv, pu_as, Value.category, pu_bk, pu_kl, List.replicate, pu_wi_1, pu_wi_2, nl_add, nl_ladd, nl_aa, nl_mul, nl_rmul, nl_mm, pu_qe0, pu_qe1, f, py_mr_2, py_mr_7, h6, np, py_pr, c]
      all_goals try simp (maxSteps := 400000) (disch := omega) [nl_tle, nl_fle, nl_tlt, nl_flt, nl_teq, nl_feq, nl_sub, nl_ss, nl_lt, nl_llt, nl_ltt, nl_le, nl_lle, nl_lee, nl_eq, nl_leq, nl_ee, nl_div, nl_rem, nl_cl, nl_n1, nl_n2, nl_n3, nl_n4, nl_add, nl_ladd, nl_aa, nl_mul, nl_rmul, nl_mm, pu_wi_1, pu_wi_2, bX12_undo_29, bX12_undo_80, bX12_undo_70, a_ai, a_ald, a_dup2, a_gr, a_iadd, a_icne, a_ifle, a_ild, a_imul, a_ist, a_isub, a_push, a_wi, sh_71, sh_72, pu_rv, pu_as, Value.category, pu_bk, pu_kl, pu_qe0, pu_qe1, f, py_mr_2, py_mr_7, h6, np, py_pr, c]
  | m + 1, n, r, t, h, hn, h6, hk => by
    have f := fx_71_0 hx
    obtain ⟨l, rfl⟩ : ∃ l, n = l + 1 := ⟨n - 1, by omega⟩
    have c : r (10752 + 6 * l + 4) = p := Classical.byContradiction (fun q => by
      have := (hk l (by omega)).mpr q
      omega)
    have np := py_np (n := l) (by omega)
    have ih := fun t => r_undoA hx u m l (pu_us r 6 (nI l)) t (by omega) (by omega) py_us_v (fun k hk2 => by rw [py_us_o (by omega)]; exact hk k (by omega))
    rw [py_us_s] at ih
    rw [qX12_undo_29]
    simp [bX12_undo_29, bX12_undo_80, bX12_undo_70, a_ai, a_ald, a_dup2, a_gr, a_iadd, a_icne, a_ifle, a_ild, a_imul, a_ist, a_isub, a_push, a_wi, sh_71, sh_72, pu_rv, pu_as, Value.category, pu_bk, pu_kl, List.replicate, pu_wi_1, pu_wi_2, nl_add, nl_ladd, nl_aa, nl_mul, nl_rmul, nl_mm, pu_qe0, pu_qe1, f, py_mr_2, py_mr_7, h6, np, py_pr, c, py_mr_w, ih]
    all_goals try simp (maxSteps := 400000) (disch := omega) [nl_tle, nl_fle, nl_tlt, nl_flt, nl_teq, nl_feq, nl_sub, nl_ss, nl_lt, nl_llt, nl_ltt, nl_le, nl_lle, nl_lee, nl_eq, nl_leq, nl_ee, nl_div, nl_rem, nl_cl, nl_n1, nl_n2, nl_n3, nl_n4, nl_add, nl_ladd, nl_aa, nl_mul, nl_rmul, nl_mm, pu_wi_1, pu_wi_2, bX12_undo_29, bX12_undo_80, bX12_undo_70, a_ai, a_ald, a_dup2, a_gr, a_iadd, a_icne, a_ifle, a_ild, a_imul, a_ist, a_isub, a_push, a_wi, sh_71, sh_72, pu_rv, pu_as, Value.category, pu_bk, pu_kl, pu_qe0, pu_qe1, f, py_mr_2, py_mr_7, h6, np, py_pr, c, py_mr_w, ih]
    all_goals try simp [bX12_undo_29, bX12_undo_80, bX12_undo_70, a_ai, a_ald, a_dup2, a_gr, a_iadd, a_icne, a_ifle, a_ild, a_imul, a_ist, a_isub, a_push, a_wi, sh_71, sh_72, pu_rv, pu_as, Value.category, pu_bk, pu_kl, List.replicate, pu_wi_1, pu_wi_2, nl_add, nl_ladd, nl_aa, nl_mul, nl_rmul, nl_mm, pu_qe0, pu_qe1, f, py_mr_2, py_mr_7, h6, np, py_pr, c, py_mr_w, ih]
    all_goals try simp (maxSteps := 400000) (disch := omega) [nl_tle, nl_fle, nl_tlt, nl_flt, nl_teq, nl_feq, nl_sub, nl_ss, nl_lt, nl_llt, nl_ltt, nl_le, nl_lle, nl_lee, nl_eq, nl_leq, nl_ee, nl_div, nl_rem, nl_cl, nl_n1, nl_n2, nl_n3, nl_n4, nl_add, nl_ladd, nl_aa, nl_mul, nl_rmul, nl_mm, pu_wi_1, pu_wi_2, bX12_undo_29, bX12_undo_80, bX12_undo_70, a_ai, a_ald, a_dup2, a_gr, a_iadd, a_icne, a_ifle, a_ild, a_imul, a_ist, a_isub, a_push, a_wi, sh_71, sh_72, pu_rv, pu_as, Value.category, pu_bk, pu_kl, pu_qe0, pu_qe1, f, py_mr_2, py_mr_7, h6, np, py_pr, c, py_mr_w, ih]
theorem r_undoB (hx : pu_fx M) (u : Nat) (hu : u ≤ 3000) (r : Nat → Int32) (h6 : r 6 = nI u) : ∀ m i (r2 : Nat → Int32), i + m = u → py_rz (fun k => 10752 + 6 * k + 5) r r2 p i → ∃ r3, py_rz (fun k => 10752 + 6 * k + 5) r r3 p u ∧ pu_r 481 [some (.ref 71), some (.int p), some (.int at0), some (.int (nI i))] [] (py_mr M r2) = pu_r 482 [some (.ref 71), some (.int p), some (.int at0), some (.int (nI u))] [] (py_mr M r3)
  | 0, i, r2, h, g => by
    have f := fx_71_0 hx
    have e6 : r2 6 = nI u := by rw [g.2 6 (fun k hk _ => show 6 ≠ 10752 + 6 * k + 5 by omega)]; exact h6
    have e : i = u := by omega
    subst e
    refine ⟨r2, g, ?_⟩
    rw [qX12_undo_82]
    simp [bX12_undo_82, bX12_undo_128, bX12_undo_123, a_ai, a_ald, a_gr, a_iadd, a_icge, a_icne, a_ild, a_imul, a_inc, a_push, a_wi, sh_71, sh_72, pu_rv, pu_as, Value.category, pu_bk, pu_kl, List.replicate, pu_wi_1, pu_wi_2, nl_add, nl_ladd, nl_aa, nl_mul, nl_rmul, nl_mm, pu_qe0, pu_qe1, f, py_mr_2, py_mr_7, e6]
    all_goals try simp (maxSteps := 400000) (disch := omega) [nl_tle, nl_fle, nl_tlt, nl_flt, nl_teq, nl_feq, nl_sub, nl_ss, nl_lt, nl_llt, nl_ltt, nl_le, nl_lle, nl_lee, nl_eq, nl_leq, nl_ee, nl_div, nl_rem, nl_cl, nl_n1, nl_n2, nl_n3, nl_n4, nl_add, nl_ladd, nl_aa, nl_mul, nl_rmul, nl_mm, pu_wi_1, pu_wi_2, bX12_undo_82, bX12_undo_128, bX12_undo_123, a_ai, a_ald, a_gr, a_iadd, a_icge, a_icne, a_ild, a_imul, a_inc, a_push, a_wi, sh_71, sh_72, pu_rv, pu_as, Value.category, pu_bk, pu_kl, pu_qe0, pu_qe1, f, py_mr_2, py_mr_7, e6]
    all_goals try simp [bX12_undo_82, bX12_undo_128, bX12_undo_123, a_ai, a_ald, a_gr, a_iadd, a_icge, a_icne, a_ild, a_imul, a_inc, a_push, a_wi, sh_71, sh_72, pu_rv, pu_as, Value.category, pu_bk, pu_kl, List.replicate, pu_wi_1, pu_wi_2, nl_add, nl_ladd, nl_aa, nl_mul, nl_rmul, nl_mm, pu_qe0, pu_qe1, f, py_mr_2, py_mr_7, e6]
    all_goals try simp (maxSteps := 400000) (disch := omega) [nl_tle, nl_fle, nl_tlt, nl_flt, nl_teq, nl_feq, nl_sub, nl_ss, nl_lt, nl_llt, nl_ltt, nl_le, nl_lle, nl_lee, nl_eq, nl_leq, nl_ee, nl_div, nl_rem, nl_cl, nl_n1, nl_n2, nl_n3, nl_n4, nl_add, nl_ladd, nl_aa, nl_mul, nl_rmul, nl_mm, pu_wi_1, pu_wi_2, bX12_undo_82, bX12_undo_128, bX12_undo_123, a_ai, a_ald, a_gr, a_iadd, a_icge, a_icne, a_ild, a_imul, a_inc, a_push, a_wi, sh_71, sh_72, pu_rv, pu_as, Value.category, pu_bk, pu_kl, pu_qe0, pu_qe1, f, py_mr_2, py_mr_7, e6]
  | m + 1, i, r2, h, g => by
    have f := fx_71_0 hx
    have inj : ∀ k l : Nat, 10752 + 6 * k + 5 = 10752 + 6 * l + 5 → k = l := fun k l q => by omega
    have e6 : r2 6 = nI u := by rw [g.2 6 (fun k hk _ => show 6 ≠ 10752 + 6 * k + 5 by omega)]; exact h6
    have hc : ¬ nI u ≤ nI i := nI_ge (by omega) (by omega)
    have q := py_rz_r (a := fun k => 10752 + 6 * k + 5) inj g
    by_cases c : r (10752 + 6 * i + 5) = p
    · obtain ⟨r3, a1, a2⟩ := r_undoB hx u hu r h6 m (i + 1) _ (by omega) (py_rz_y (a := fun k => 10752 + 6 * k + 5) inj g c)
      refine ⟨r3, a1, ?_⟩
      have q2 : r2 (10752 + 6 * i + 5) = p := q.trans c
      rw [qX12_undo_82]
      simp [bX12_undo_82, bX12_undo_128, bX12_undo_123, a_ai, a_ald, a_gr, a_iadd, a_icge, a_icne, a_ild, a_imul, a_inc, a_push, a_wi, sh_71, sh_72, pu_rv, pu_as, Value.category, pu_bk, pu_kl, List.replicate, pu_wi_1, pu_wi_2, nl_add, nl_ladd, nl_aa, nl_mul, nl_rmul, nl_mm, pu_qe0, pu_qe1, f, py_mr_2, py_mr_7, e6, hc, q2, py_mr_w, a2]
      all_goals try simp (maxSteps := 400000) (disch := omega) [nl_tle, nl_fle, nl_tlt, nl_flt, nl_teq, nl_feq, nl_sub, nl_ss, nl_lt, nl_llt, nl_ltt, nl_le, nl_lle, nl_lee, nl_eq, nl_leq, nl_ee, nl_div, nl_rem, nl_cl, nl_n1, nl_n2, nl_n3, nl_n4, nl_add, nl_ladd, nl_aa, nl_mul, nl_rmul, nl_mm, pu_wi_1, pu_wi_2, bX12_undo_82, bX12_undo_128, bX12_undo_123, a_ai, a_ald, a_gr, a_iadd, a_icge, a_icne, a_ild, a_imul, a_inc, a_push, a_wi, sh_71, sh_72, pu_rv, pu_as, Value.category, pu_bk, pu_kl, pu_qe0, pu_qe1, f, py_mr_2, py_mr_7, e6, hc, q2, py_mr_w, a2]
      all_goals try simp [bX12_undo_82, bX12_undo_128, bX12_undo_123, a_ai, a_ald, a_gr, a_iadd, a_icge, a_icne, a_ild, a_imul, a_inc, a_push, a_wi, sh_71, sh_72, pu_rv, pu_as, Value.category, pu_bk, pu_kl, List.replicate, pu_wi_1, pu_wi_2, nl_add, nl_ladd, nl_aa, nl_mul, nl_rmul, nl_mm, pu_qe0, pu_qe1, f, py_mr_2, py_mr_7, e6, hc, q2, py_mr_w, a2]
      all_goals try simp (maxSteps := 400000) (disch := omega) [nl_tle, nl_fle, nl_tlt, nl_flt, nl_teq, nl_feq, nl_sub, nl_ss, nl_lt, nl_llt, nl_ltt, nl_le, nl_lle, nl_lee, nl_eq, nl_leq, nl_ee, nl_div, nl_rem, nl_cl, nl_n1, nl_n2, nl_n3, nl_n4, nl_add, nl_ladd, nl_aa, nl_mul, nl_rmul, nl_mm, pu_wi_1, pu_wi_2, bX12_undo_82, bX12_undo_128, bX12_undo_123, a_ai, a_ald, a_gr, a_iadd, a_icge, a_icne, a_ild, a_imul, a_inc, a_push, a_wi, sh_71, sh_72, pu_rv, pu_as, Value.category, pu_bk, pu_kl, pu_qe0, pu_qe1, f, py_mr_2, py_mr_7, e6, hc, q2, py_mr_w, a2]
    · obtain ⟨r3, a1, a2⟩ := r_undoB hx u hu r h6 m (i + 1) _ (by omega) (py_rz_n (a := fun k => 10752 + 6 * k + 5) g c)
      refine ⟨r3, a1, ?_⟩
      have q2 : ¬ r2 (10752 + 6 * i + 5) = p := fun z => c (q.symm.trans z)
      rw [qX12_undo_82]
      simp [bX12_undo_82, bX12_undo_128, bX12_undo_123, a_ai, a_ald, a_gr, a_iadd, a_icge, a_icne, a_ild, a_imul, a_inc, a_push, a_wi, sh_71, sh_72, pu_rv, pu_as, Value.category, pu_bk, pu_kl, List.replicate, pu_wi_1, pu_wi_2, nl_add, nl_ladd, nl_aa, nl_mul, nl_rmul, nl_mm, pu_qe0, pu_qe1, f, py_mr_2, py_mr_7, e6, hc, q2, a2]
      all_goals try simp (maxSteps := 400000) (disch := omega) [nl_tle, nl_fle, nl_tlt, nl_flt, nl_teq, nl_feq, nl_sub, nl_ss, nl_lt, nl_llt, nl_ltt, nl_le, nl_lle, nl_lee, nl_eq, nl_leq, nl_ee, nl_div, nl_rem, nl_cl, nl_n1, nl_n2, nl_n3, nl_n4, nl_add, nl_ladd, nl_aa, nl_mul, nl_rmul, nl_mm, pu_wi_1, pu_wi_2, bX12_undo_82, bX12_undo_128, bX12_undo_123, a_ai, a_ald, a_gr, a_iadd, a_icge, a_icne, a_ild, a_imul, a_inc, a_push, a_wi, sh_71, sh_72, pu_rv, pu_as, Value.category, pu_bk, pu_kl, pu_qe0, pu_qe1, f, py_mr_2, py_mr_7, e6, hc, q2, a2]
      all_goals try simp [bX12_undo_82, bX12_undo_128, bX12_undo_123, a_ai, a_ald, a_gr, a_iadd, a_icge, a_icne, a_ild, a_imul, a_inc, a_push, a_wi, sh_71, sh_72, pu_rv, pu_as, Value.category, pu_bk, pu_kl, List.replicate, pu_wi_1, pu_wi_2, nl_add, nl_ladd, nl_aa, nl_mul, nl_rmul, nl_mm, pu_qe0, pu_qe1, f, py_mr_2, py_mr_7, e6, hc, q2, a2]
      all_goals try simp (maxSteps := 400000) (disch := omega) [nl_tle, nl_fle, nl_tlt, nl_flt, nl_teq, nl_feq, nl_sub, nl_ss, nl_lt, nl_llt, nl_ltt, nl_le, nl_lle, nl_lee, nl_eq, nl_leq, nl_ee, nl_div, nl_rem, nl_cl, nl_n1, nl_n2, nl_n3, nl_n4, nl_add, nl_ladd, nl_aa, nl_mul, nl_rmul, nl_mm, pu_wi_1, pu_wi_2, bX12_undo_82, bX12_undo_128, bX12_undo_123, a_ai, a_ald, a_gr, a_iadd, a_icge, a_icne, a_ild, a_imul, a_inc, a_push, a_wi, sh_71, sh_72, pu_rv, pu_as, Value.category, pu_bk, pu_kl, pu_qe0, pu_qe1, f, py_mr_2, py_mr_7, e6, hc, q2, a2]
theorem r_undoC (hx : pu_fx M) (u : Nat) : ∀ m n (r : Nat → Int32) (t : Option Value), n = u + m → n ≤ 400 → r 7 = nI n → (∀ k, k < n → (k < u ↔ r (7552 + 5 * k + 3) ≠ p)) → pu_r 482 [some (.ref 71), some (.int p), some (.int at0), t] [] (py_mr M r) = pu_r 483 [some (.ref 71), some (.int p), some (.int at0), some (.int 0)] [] (py_mr M (pu_us r 7 (nI u)))
  | 0, n, r, t, h, hn, h6, hk => by
    have f := fx_71_0 hx
    have e : n = u := by omega
    subst e
    rw [py_us_i h6]
    by_cases z : n = 0
    · subst z
      rw [nI_0] at h6
      rw [qX12_undo_134]
      simp [bX12_undo_134, bX12_undo_184, bX12_undo_174, a_ai, a_ald, a_dup2, a_gr, a_iadd, a_icne, a_ifle, a_ild, a_imul, a_ist, a_isub, a_push, a_wi, sh_71, sh_72, pu_rv, pu_as, Value.category, pu_bk, pu_kl, List.replicate, pu_wi_1, pu_wi_2, nl_add, nl_ladd, nl_aa, nl_mul, nl_rmul, nl_mm, pu_qe0, pu_qe1, f, py_mr_2, py_mr_7, h6]
      all_goals try simp (maxSteps := 400000) (disch := omega) [nl_tle, nl_fle, nl_tlt, nl_flt, nl_teq, nl_feq, nl_sub, nl_ss, nl_lt, nl_llt, nl_ltt, nl_le, nl_lle, nl_lee, nl_eq, nl_leq, nl_ee, nl_div, nl_rem, nl_cl, nl_n1, nl_n2, nl_n3, nl_n4, nl_add, nl_ladd, nl_aa, nl_mul, nl_rmul, nl_mm, pu_wi_1, pu_wi_2, bX12_undo_134, bX12_undo_184, bX12_undo_174, a_ai, a_ald, a_dup2, a_gr, a_iadd, a_icne, a_ifle, a_ild, a_imul, a_ist, a_isub, a_push, a_wi, sh_71, sh_72, pu_rv, pu_as, Value.category, pu_bk, pu_kl, pu_qe0, pu_qe1, f, py_mr_2, py_mr_7, h6]
      all_goals try simp [bX12_undo_134, bX12_undo_184, bX12_undo_174, a_ai, a_ald, a_dup2, a_gr, a_iadd, a_icne, a_ifle, a_ild, a_imul, a_ist, a_isub, a_push, a_wi, sh_71, sh_72, pu_rv, pu_as, Value.category, pu_bk, pu_kl, List.replicate, pu_wi_1, pu_wi_2, nl_add, nl_ladd, nl_aa, nl_mul, nl_rmul, nl_mm, pu_qe0, pu_qe1, f, py_mr_2, py_mr_7, h6]
      all_goals try simp (maxSteps := 400000) (disch := omega) [nl_tle, nl_fle, nl_tlt, nl_flt, nl_teq, nl_feq, nl_sub, nl_ss, nl_lt, nl_llt, nl_ltt, nl_le, nl_lle, nl_lee, nl_eq, nl_leq, nl_ee, nl_div, nl_rem, nl_cl, nl_n1, nl_n2, nl_n3, nl_n4, nl_add, nl_ladd, nl_aa, nl_mul, nl_rmul, nl_mm, pu_wi_1, pu_wi_2, bX12_undo_134, bX12_undo_184, bX12_undo_174, a_ai, a_ald, a_dup2, a_gr, a_iadd, a_icne, a_ifle, a_ild, a_imul, a_ist, a_isub, a_push, a_wi, sh_71, sh_72, pu_rv, pu_as, Value.category, pu_bk, pu_kl, pu_qe0, pu_qe1, f, py_mr_2, py_mr_7, h6]
    · obtain ⟨l, rfl⟩ : ∃ l, n = l + 1 := ⟨n - 1, by omega⟩
      have c := (hk l (by omega)).mp (by omega)
      have np := py_np (n := l) (by omega)
      rw [qX12_undo_134]
      simp [bX12_undo_134, bX12_undo_184, bX12_undo_174, a_ai, a_ald, a_dup2, a_gr, a_iadd, a_icne, a_ifle, a_ild, a_imul, a_ist, a_isub, a_push, a_wi, sh_71, sh_72, pu_rv, pu_as, Value.category, pu_bk, pu_kl, List.replicate, pu_wi_1, pu_wi_2, nl_add, nl_ladd, nl_aa, nl_mul, nl_rmul, nl_mm, pu_qe0, pu_qe1, f, py_mr_2, py_mr_7, h6, np, py_pr, c]
      all_goals try simp (maxSteps := 400000) (disch := omega) [nl_tle, nl_fle, nl_tlt, nl_flt, nl_teq, nl_feq, nl_sub, nl_ss, nl_lt, nl_llt, nl_ltt, nl_le, nl_lle, nl_lee, nl_eq, nl_leq, nl_ee, nl_div, nl_rem, nl_cl, nl_n1, nl_n2, nl_n3, nl_n4, nl_add, nl_ladd, nl_aa, nl_mul, nl_rmul, nl_mm, pu_wi_1, pu_wi_2, bX12_undo_134, bX12_undo_184, bX12_undo_174, a_ai, a_ald, a_dup2, a_gr, a_iadd, a_icne, a_ifle, a_ild, a_imul, a_ist, a_isub, a_push, a_wi, sh_71, sh_72, pu_rv, pu_as, Value.category, pu_bk, pu_kl, pu_qe0, pu_qe1, f, py_mr_2, py_mr_7, h6, np, py_pr, c]
      all_goals try simp [bX12_undo_134, bX12_undo_184, bX12_undo_174, a_ai, a_ald, a_dup2, a_gr, a_iadd, a_icne, a_ifle, a_ild, a_imul, a_ist, a_isub, a_push, a_wi, sh_71, sh_72, pu_rv, pu_as, Value.category, pu_bk, pu_kl, List.replicate, pu_wi_1, pu_wi_2, nl_add, nl_ladd, nl_aa, nl_mul, nl_rmul, nl_mm, pu_qe0, pu_qe1, f, py_mr_2, py_mr_7, h6, np, py_pr, c]
      all_goals try simp (maxSteps := 400000) (disch := omega) [nl_tle, nl_fle, nl_tlt, nl_flt, nl_teq, nl_feq, nl_sub, nl_ss, nl_lt, nl_llt, nl_ltt, nl_le, nl_lle, nl_lee, nl_eq, nl_leq, nl_ee, nl_div, nl_rem, nl_cl, nl_n1, nl_n2, nl_n3, nl_n4, nl_add, nl_ladd, nl_aa, nl_mul, nl_rmul, nl_mm, pu_wi_1, pu_wi_2, bX12_undo_134, bX12_undo_184, bX12_undo_174, a_ai, a_ald, a_dup2, a_gr, a_iadd, a_icne, a_ifle, a_ild, a_imul, a_ist, a_isub, a_push, a_wi, sh_71, sh_72, pu_rv, pu_as, Value.category, pu_bk, pu_kl, pu_qe0, pu_qe1, f, py_mr_2, py_mr_7, h6, np, py_pr, c]
  | m + 1, n, r, t, h, hn, h6, hk => by
    have f := fx_71_0 hx
    obtain ⟨l, rfl⟩ : ∃ l, n = l + 1 := ⟨n - 1, by omega⟩
    have c : r (7552 + 5 * l + 3) = p := Classical.byContradiction (fun q => by
      have := (hk l (by omega)).mpr q
      omega)
    have np := py_np (n := l) (by omega)
    have ih := fun t => r_undoC hx u m l (pu_us r 7 (nI l)) t (by omega) (by omega) py_us_v (fun k hk2 => by rw [py_us_o (by omega)]; exact hk k (by omega))
    rw [py_us_s] at ih
    rw [qX12_undo_134]
    simp [bX12_undo_134, bX12_undo_184, bX12_undo_174, a_ai, a_ald, a_dup2, a_gr, a_iadd, a_icne, a_ifle, a_ild, a_imul, a_ist, a_isub, a_push, a_wi, sh_71, sh_72, pu_rv, pu_as, Value.category, pu_bk, pu_kl, List.replicate, pu_wi_1, pu_wi_2, nl_add, nl_ladd, nl_aa, nl_mul, nl_rmul, nl_mm, pu_qe0, pu_qe1, f, py_mr_2, py_mr_7, h6, np, py_pr, c, py_mr_w, ih]
    all_goals try simp (maxSteps := 400000) (disch := omega) [nl_tle, nl_fle, nl_tlt, nl_flt, nl_teq, nl_feq, nl_sub, nl_ss, nl_lt, nl_llt, nl_ltt, nl_le, nl_lle, nl_lee, nl_eq, nl_leq, nl_ee, nl_div, nl_rem, nl_cl, nl_n1, nl_n2, nl_n3, nl_n4, nl_add, nl_ladd, nl_aa, nl_mul, nl_rmul, nl_mm, pu_wi_1, pu_wi_2, bX12_undo_134, bX12_undo_184, bX12_undo_174, a_ai, a_ald, a_dup2, a_gr, a_iadd, a_icne, a_ifle, a_ild, a_imul, a_ist, a_isub, a_push, a_wi, sh_71, sh_72, pu_rv, pu_as, Value.category, pu_bk, pu_kl, pu_qe0, pu_qe1, f, py_mr_2, py_mr_7, h6, np, py_pr, c, py_mr_w, ih]
    all_goals try simp [bX12_undo_134, bX12_undo_184, bX12_undo_174, a_ai, a_ald, a_dup2, a_gr, a_iadd, a_icne, a_ifle, a_ild, a_imul, a_ist, a_isub, a_push, a_wi, sh_71, sh_72, pu_rv, pu_as, Value.category, pu_bk, pu_kl, List.replicate, pu_wi_1, pu_wi_2, nl_add, nl_ladd, nl_aa, nl_mul, nl_rmul, nl_mm, pu_qe0, pu_qe1, f, py_mr_2, py_mr_7, h6, np, py_pr, c, py_mr_w, ih]
    all_goals try simp (maxSteps := 400000) (disch := omega) [nl_tle, nl_fle, nl_tlt, nl_flt, nl_teq, nl_feq, nl_sub, nl_ss, nl_lt, nl_llt, nl_ltt, nl_le, nl_lle, nl_lee, nl_eq, nl_leq, nl_ee, nl_div, nl_rem, nl_cl, nl_n1, nl_n2, nl_n3, nl_n4, nl_add, nl_ladd, nl_aa, nl_mul, nl_rmul, nl_mm, pu_wi_1, pu_wi_2, bX12_undo_134, bX12_undo_184, bX12_undo_174, a_ai, a_ald, a_dup2, a_gr, a_iadd, a_icne, a_ifle, a_ild, a_imul, a_ist, a_isub, a_push, a_wi, sh_71, sh_72, pu_rv, pu_as, Value.category, pu_bk, pu_kl, pu_qe0, pu_qe1, f, py_mr_2, py_mr_7, h6, np, py_pr, c, py_mr_w, ih]
theorem r_undoD (hx : pu_fx M) (u : Nat) (hu : u ≤ 400) (r : Nat → Int32) (h6 : r 7 = nI u) : ∀ m i (r2 : Nat → Int32), i + m = u → py_rz (fun k => 7552 + 5 * k + 4) r r2 p i → ∃ r3, py_rz (fun k => 7552 + 5 * k + 4) r r3 p u ∧ pu_r 483 [some (.ref 71), some (.int p), some (.int at0), some (.int (nI i))] [] (py_mr M r2) = pu_r 484 [some (.ref 71), some (.int p), some (.int at0), some (.int (nI u))] [] (py_mr M r3)
  | 0, i, r2, h, g => by
    have f := fx_71_0 hx
    have e6 : r2 7 = nI u := by rw [g.2 7 (fun k hk _ => show 7 ≠ 7552 + 5 * k + 4 by omega)]; exact h6
    have e : i = u := by omega
    subst e
    refine ⟨r2, g, ?_⟩
    rw [qX12_undo_186]
    simp [bX12_undo_186, bX12_undo_230, bX12_undo_225, a_ai, a_ald, a_gr, a_iadd, a_icge, a_icne, a_ild, a_imul, a_inc, a_push, a_wi, sh_71, sh_72, pu_rv, pu_as, Value.category, pu_bk, pu_kl, List.replicate, pu_wi_1, pu_wi_2, nl_add, nl_ladd, nl_aa, nl_mul, nl_rmul, nl_mm, pu_qe0, pu_qe1, f, py_mr_2, py_mr_7, e6]
    all_goals try simp (maxSteps := 400000) (disch := omega) [nl_tle, nl_fle, nl_tlt, nl_flt, nl_teq, nl_feq, nl_sub, nl_ss, nl_lt, nl_llt, nl_ltt, nl_le, nl_lle, nl_lee, nl_eq, nl_leq, nl_ee, nl_div, nl_rem, nl_cl, nl_n1, nl_n2, nl_n3, nl_n4, nl_add, nl_ladd, nl_aa, nl_mul, nl_rmul, nl_mm, pu_wi_1, pu_wi_2, bX12_undo_186, bX12_undo_230, bX12_undo_225, a_ai, a_ald, a_gr, a_iadd, a_icge, a_icne, a_ild, a_imul, a_inc, a_push, a_wi, sh_71, sh_72, pu_rv, pu_as, Value.category, pu_bk, pu_kl, pu_qe0, pu_qe1, f, py_mr_2, py_mr_7, e6]
    all_goals try simp [bX12_undo_186, bX12_undo_230, bX12_undo_225, a_ai, a_ald, a_gr, a_iadd, a_icge, a_icne, a_ild, a_imul, a_inc, a_push, a_wi, sh_71, sh_72, pu_rv, pu_as, Value.category, pu_bk, pu_kl, List.replicate, pu_wi_1, pu_wi_2, nl_add, nl_ladd, nl_aa, nl_mul, nl_rmul, nl_mm, pu_qe0, pu_qe1, f, py_mr_2, py_mr_7, e6]
    all_goals try simp (maxSteps := 400000) (disch := omega) [nl_tle, nl_fle, nl_tlt, nl_flt, nl_teq, nl_feq, nl_sub, nl_ss, nl_lt, nl_llt, nl_ltt, nl_le, nl_lle, nl_lee, nl_eq, nl_leq, nl_ee, nl_div, nl_rem, nl_cl, nl_n1, nl_n2, nl_n3, nl_n4, nl_add, nl_ladd, nl_aa, nl_mul, nl_rmul, nl_mm, pu_wi_1, pu_wi_2, bX12_undo_186, bX12_undo_230, bX12_undo_225, a_ai, a_ald, a_gr, a_iadd, a_icge, a_icne, a_ild, a_imul, a_inc, a_push, a_wi, sh_71, sh_72, pu_rv, pu_as, Value.category, pu_bk, pu_kl, pu_qe0, pu_qe1, f, py_mr_2, py_mr_7, e6]
  | m + 1, i, r2, h, g => by
    have f := fx_71_0 hx
    have inj : ∀ k l : Nat, 7552 + 5 * k + 4 = 7552 + 5 * l + 4 → k = l := fun k l q => by omega
    have e6 : r2 7 = nI u := by rw [g.2 7 (fun k hk _ => show 7 ≠ 7552 + 5 * k + 4 by omega)]; exact h6
    have hc : ¬ nI u ≤ nI i := nI_ge (by omega) (by omega)
    have q := py_rz_r (a := fun k => 7552 + 5 * k + 4) inj g
    by_cases c : r (7552 + 5 * i + 4) = p
    · obtain ⟨r3, a1, a2⟩ := r_undoD hx u hu r h6 m (i + 1) _ (by omega) (py_rz_y (a := fun k => 7552 + 5 * k + 4) inj g c)
      refine ⟨r3, a1, ?_⟩
      have q2 : r2 (7552 + 5 * i + 4) = p := q.trans c
      rw [qX12_undo_186]
      simp [bX12_undo_186, bX12_undo_230, bX12_undo_225, a_ai, a_ald, a_gr, a_iadd, a_icge, a_icne, a_ild, a_imul, a_inc, a_push, a_wi, sh_71, sh_72, pu_rv, pu_as, Value.category, pu_bk, pu_kl, List.replicate, pu_wi_1, pu_wi_2, nl_add, nl_ladd, nl_aa, nl_mul, nl_rmul, nl_mm, pu_qe0, pu_qe1, f, py_mr_2, py_mr_7, e6, hc, q2, py_mr_w, a2]
      all_goals try simp (maxSteps := 400000) (disch := omega) [nl_tle, nl_fle, nl_tlt, nl_flt, nl_teq, nl_feq, nl_sub, nl_ss, nl_lt, nl_llt, nl_ltt, nl_le, nl_lle, nl_lee, nl_eq, nl_leq, nl_ee, nl_div, nl_rem, nl_cl, nl_n1, nl_n2, nl_n3, nl_n4, nl_add, nl_ladd, nl_aa, nl_mul, nl_rmul, nl_mm, pu_wi_1, pu_wi_2, bX12_undo_186, bX12_undo_230, bX12_undo_225, a_ai, a_ald, a_gr, a_iadd, a_icge, a_icne, a_ild, a_imul, a_inc, a_push, a_wi, sh_71, sh_72, pu_rv, pu_as, Value.category, pu_bk, pu_kl, pu_qe0, pu_qe1, f, py_mr_2, py_mr_7, e6, hc, q2, py_mr_w, a2]
      all_goals try simp [bX12_undo_186, bX12_undo_230, bX12_undo_225, a_ai, a_ald, a_gr, a_iadd, a_icge, a_icne, a_ild, a_imul, a_inc, a_push, a_wi, sh_71, sh_72, pu_rv, pu_as, Value.category, pu_bk, pu_kl, List.replicate, pu_wi_1, pu_wi_2, nl_add, nl_ladd, nl_aa, nl_mul, nl_rmul, nl_mm, pu_qe0, pu_qe1, f, py_mr_2, py_mr_7, e6, hc, q2, py_mr_w, a2]
      all_goals try simp (maxSteps := 400000) (disch := omega) [nl_tle, nl_fle, nl_tlt, nl_flt, nl_teq, nl_feq, nl_sub, nl_ss, nl_lt, nl_llt, nl_ltt, nl_le, nl_lle, nl_lee, nl_eq, nl_leq, nl_ee, nl_div, nl_rem, nl_cl, nl_n1, nl_n2, nl_n3, nl_n4, nl_add, nl_ladd, nl_aa, nl_mul, nl_rmul, nl_mm, pu_wi_1, pu_wi_2, bX12_undo_186, bX12_undo_230, bX12_undo_225, a_ai, a_ald, a_gr, a_iadd, a_icge, a_icne, a_ild, a_imul, a_inc, a_push, a_wi, sh_71, sh_72, pu_rv, pu_as, Value.category, pu_bk, pu_kl, pu_qe0, pu_qe1, f, py_mr_2, py_mr_7, e6, hc, q2, py_mr_w, a2]
    · obtain ⟨r3, a1, a2⟩ := r_undoD hx u hu r h6 m (i + 1) _ (by omega) (py_rz_n (a := fun k => 7552 + 5 * k + 4) g c)
      refine ⟨r3, a1, ?_⟩
      have q2 : ¬ r2 (7552 + 5 * i + 4) = p := fun z => c (q.symm.trans z)
      rw [qX12_undo_186]
      simp [bX12_undo_186, bX12_undo_230, bX12_undo_225, a_ai, a_ald, a_gr, a_iadd, a_icge, a_icne, a_ild, a_imul, a_inc, a_push, a_wi, sh_71, sh_72, pu_rv, pu_as, Value.category, pu_bk, pu_kl, List.replicate, pu_wi_1, pu_wi_2, nl_add, nl_ladd, nl_aa, nl_mul, nl_rmul, nl_mm, pu_qe0, pu_qe1, f, py_mr_2, py_mr_7, e6, hc, q2, a2]
      all_goals try simp (maxSteps := 400000) (disch := omega) [nl_tle, nl_fle, nl_tlt, nl_flt, nl_teq, nl_feq, nl_sub, nl_ss, nl_lt, nl_llt, nl_ltt, nl_le, nl_lle, nl_lee, nl_eq, nl_leq, nl_ee, nl_div, nl_rem, nl_cl, nl_n1, nl_n2, nl_n3, nl_n4, nl_add, nl_ladd, nl_aa, nl_mul, nl_rmul, nl_mm, pu_wi_1, pu_wi_2, bX12_undo_186, bX12_undo_230, bX12_undo_225, a_ai, a_ald, a_gr, a_iadd, a_icge, a_icne, a_ild, a_imul, a_inc, a_push, a_wi, sh_71, sh_72, pu_rv, pu_as, Value.category, pu_bk, pu_kl, pu_qe0, pu_qe1, f, py_mr_2, py_mr_7, e6, hc, q2, a2]
      all_goals try simp [bX12_undo_186, bX12_undo_230, bX12_undo_225, a_ai, a_ald, a_gr, a_iadd, a_icge, a_icne, a_ild, a_imul, a_inc, a_push, a_wi, sh_71, sh_72, pu_rv, pu_as, Value.category, pu_bk, pu_kl, List.replicate, pu_wi_1, pu_wi_2, nl_add, nl_ladd, nl_aa, nl_mul, nl_rmul, nl_mm, pu_qe0, pu_qe1, f, py_mr_2, py_mr_7, e6, hc, q2, a2]
      all_goals try simp (maxSteps := 400000) (disch := omega) [nl_tle, nl_fle, nl_tlt, nl_flt, nl_teq, nl_feq, nl_sub, nl_ss, nl_lt, nl_llt, nl_ltt, nl_le, nl_lle, nl_lee, nl_eq, nl_leq, nl_ee, nl_div, nl_rem, nl_cl, nl_n1, nl_n2, nl_n3, nl_n4, nl_add, nl_ladd, nl_aa, nl_mul, nl_rmul, nl_mm, pu_wi_1, pu_wi_2, bX12_undo_186, bX12_undo_230, bX12_undo_225, a_ai, a_ald, a_gr, a_iadd, a_icge, a_icne, a_ild, a_imul, a_inc, a_push, a_wi, sh_71, sh_72, pu_rv, pu_as, Value.category, pu_bk, pu_kl, pu_qe0, pu_qe1, f, py_mr_2, py_mr_7, e6, hc, q2, a2]
theorem r_undoE (hx : pu_fx M) (u : Nat) : ∀ m n (r : Nat → Int32) (t : Option Value), n = u + m → n ≤ 100 → r 4 = nI n → (∀ k, k < n → (k < u ↔ r (9552 + 12 * k + 9) ≠ p)) → pu_r 484 [some (.ref 71), some (.int p), some (.int at0), t] [] (py_mr M r) = pu_r 485 [some (.ref 71), some (.int p), some (.int at0), some (.int 0)] [] (py_mr M (pu_us r 4 (nI u)))
  | 0, n, r, t, h, hn, h6, hk => by
    have f := fx_71_0 hx
    have e : n = u := by omega
    subst e
    rw [py_us_i h6]
    by_cases z : n = 0
    · subst z
      rw [nI_0] at h6
      rw [qX12_undo_236]
      simp [bX12_undo_236, bX12_undo_276, bX12_undo_273, a_ai, a_ald, a_cv, a_dup2, a_gr, a_icne, a_ifle, a_ild, a_ist, a_isub, a_push, a_wi, sh_71, sh_72, pu_rv, pu_as, Value.category, pu_bk, pu_kl, List.replicate, pu_wi_1, pu_wi_2, nl_add, nl_ladd, nl_aa, nl_mul, nl_rmul, nl_mm, pu_qe0, pu_qe1, f, py_mr_2, py_mr_7, h6]
      all_goals try simp (maxSteps := 400000) (disch := omega) [nl_tle, nl_fle, nl_tlt, nl_flt, nl_teq, nl_feq, nl_sub, nl_ss, nl_lt, nl_llt, nl_ltt, nl_le, nl_lle, nl_lee, nl_eq, nl_leq, nl_ee, nl_div, nl_rem, nl_cl, nl_n1, nl_n2, nl_n3, nl_n4, nl_add, nl_ladd, nl_aa, nl_mul, nl_rmul, nl_mm, pu_wi_1, pu_wi_2, bX12_undo_236, bX12_undo_276, bX12_undo_273, a_ai, a_ald, a_cv, a_dup2, a_gr, a_icne, a_ifle, a_ild, a_ist, a_isub, a_push, a_wi, sh_71, sh_72, pu_rv, pu_as, Value.category, pu_bk, pu_kl, pu_qe0, pu_qe1, f, py_mr_2, py_mr_7, h6]
      all_goals try simp [bX12_undo_236, bX12_undo_276, bX12_undo_273, a_ai, a_ald, a_cv, a_dup2, a_gr, a_icne, a_ifle, a_ild, a_ist, a_isub, a_push, a_wi, sh_71, sh_72, pu_rv, pu_as, Value.category, pu_bk, pu_kl, List.replicate, pu_wi_1, pu_wi_2, nl_add, nl_ladd, nl_aa, nl_mul, nl_rmul, nl_mm, pu_qe0, pu_qe1, f, py_mr_2, py_mr_7, h6]
      all_goals try simp (maxSteps := 400000) (disch := omega) [nl_tle, nl_fle, nl_tlt, nl_flt, nl_teq, nl_feq, nl_sub, nl_ss, nl_lt, nl_llt, nl_ltt, nl_le, nl_lle, nl_lee, nl_eq, nl_leq, nl_ee, nl_div, nl_rem, nl_cl, nl_n1, nl_n2, nl_n3, nl_n4, nl_add, nl_ladd, nl_aa, nl_mul, nl_rmul, nl_mm, pu_wi_1, pu_wi_2, bX12_undo_236, bX12_undo_276, bX12_undo_273, a_ai, a_ald, a_cv, a_dup2, a_gr, a_icne, a_ifle, a_ild, a_ist, a_isub, a_push, a_wi, sh_71, sh_72, pu_rv, pu_as, Value.category, pu_bk, pu_kl, pu_qe0, pu_qe1, f, py_mr_2, py_mr_7, h6]
    · obtain ⟨l, rfl⟩ : ∃ l, n = l + 1 := ⟨n - 1, by omega⟩
      have c := (hk l (by omega)).mp (by omega)
      have np := py_np (n := l) (by omega)
      have o := r_of (M := py_mr M r) (pz_fx_of hx rfl) l 9 (by omega) (by omega)
      rw [show nI 9 = (9 : Int32) from rfl, py_mr_7] at o
      rw [qX12_undo_236]
      simp [bX12_undo_236, bX12_undo_276, bX12_undo_273, a_ai, a_ald, a_cv, a_dup2, a_gr, a_icne, a_ifle, a_ild, a_ist, a_isub, a_push, a_wi, sh_71, sh_72, pu_rv, pu_as, Value.category, pu_bk, pu_kl, List.replicate, pu_wi_1, pu_wi_2, nl_add, nl_ladd, nl_aa, nl_mul, nl_rmul, nl_mm, pu_qe0, pu_qe1, f, py_mr_2, py_mr_7, h6, np, py_pr, c, o]
      all_goals try simp (maxSteps := 400000) (disch := omega) [nl_tle, nl_fle, nl_tlt, nl_flt, nl_teq, nl_feq, nl_sub, nl_ss, nl_lt, nl_llt, nl_ltt, nl_le, nl_lle, nl_lee, nl_eq, nl_leq, nl_ee, nl_div, nl_rem, nl_cl, nl_n1, nl_n2, nl_n3, nl_n4, nl_add, nl_ladd, nl_aa, nl_mul, nl_rmul, nl_mm, pu_wi_1, pu_wi_2, bX12_undo_236, bX12_undo_276, bX12_undo_273, a_ai, a_ald, a_cv, a_dup2, a_gr, a_icne, a_ifle, a_ild, a_ist, a_isub, a_push, a_wi, sh_71, sh_72, pu_rv, pu_as, Value.category, pu_bk, pu_kl, pu_qe0, pu_qe1, f, py_mr_2, py_mr_7, h6, np, py_pr, c, o]
      all_goals try simp [bX12_undo_236, bX12_undo_276, bX12_undo_273, a_ai, a_ald, a_cv, a_dup2, a_gr, a_icne, a_ifle, a_ild, a_ist, a_isub, a_push, a_wi, sh_71, sh_72, pu_rv, pu_as, Value.category, pu_bk, pu_kl, List.replicate, pu_wi_1, pu_wi_2, nl_add, nl_ladd, nl_aa, nl_mul, nl_rmul, nl_mm, pu_qe0, pu_qe1, f, py_mr_2, py_mr_7, h6, np, py_pr, c, o]
      all_goals try simp (maxSteps := 400000) (disch := omega) [nl_tle, nl_fle, nl_tlt, nl_flt, nl_teq, nl_feq, nl_sub, nl_ss, nl_lt, nl_llt, nl_ltt, nl_le, nl_lle, nl_lee, nl_eq, nl_leq, nl_ee, nl_div, nl_rem, nl_cl, nl_n1, nl_n2, nl_n3, nl_n4, nl_add, nl_ladd, nl_aa, nl_mul, nl_rmul, nl_mm, pu_wi_1, pu_wi_2, bX12_undo_236, bX12_undo_276, bX12_undo_273, a_ai, a_ald, a_cv, a_dup2, a_gr, a_icne, a_ifle, a_ild, a_ist, a_isub, a_push, a_wi, sh_71, sh_72, pu_rv, pu_as, Value.category, pu_bk, pu_kl, pu_qe0, pu_qe1, f, py_mr_2, py_mr_7, h6, np, py_pr, c, o]
  | m + 1, n, r, t, h, hn, h6, hk => by
    have f := fx_71_0 hx
    obtain ⟨l, rfl⟩ : ∃ l, n = l + 1 := ⟨n - 1, by omega⟩
    have c : r (9552 + 12 * l + 9) = p := Classical.byContradiction (fun q => by
      have := (hk l (by omega)).mpr q
      omega)
    have np := py_np (n := l) (by omega)
    have o := r_of (M := py_mr M r) (pz_fx_of hx rfl) l 9 (by omega) (by omega)
    rw [show nI 9 = (9 : Int32) from rfl, py_mr_7] at o
    have ih := fun t => r_undoE hx u m l (pu_us r 4 (nI l)) t (by omega) (by omega) py_us_v (fun k hk2 => by rw [py_us_o (by omega)]; exact hk k (by omega))
    rw [py_us_s] at ih
    rw [qX12_undo_236]
    simp [bX12_undo_236, bX12_undo_276, bX12_undo_273, a_ai, a_ald, a_cv, a_dup2, a_gr, a_icne, a_ifle, a_ild, a_ist, a_isub, a_push, a_wi, sh_71, sh_72, pu_rv, pu_as, Value.category, pu_bk, pu_kl, List.replicate, pu_wi_1, pu_wi_2, nl_add, nl_ladd, nl_aa, nl_mul, nl_rmul, nl_mm, pu_qe0, pu_qe1, f, py_mr_2, py_mr_7, h6, np, py_pr, c, o, py_mr_w, ih]
    all_goals try simp (maxSteps := 400000) (disch := omega) [nl_tle, nl_fle, nl_tlt, nl_flt, nl_teq, nl_feq, nl_sub, nl_ss, nl_lt, nl_llt, nl_ltt, nl_le, nl_lle, nl_lee, nl_eq, nl_leq, nl_ee, nl_div, nl_rem, nl_cl, nl_n1, nl_n2, nl_n3, nl_n4, nl_add, nl_ladd, nl_aa, nl_mul, nl_rmul, nl_mm, pu_wi_1, pu_wi_2, bX12_undo_236, bX12_undo_276, bX12_undo_273, a_ai, a_ald, a_cv, a_dup2, a_gr, a_icne, a_ifle, a_ild, a_ist, a_isub, a_push, a_wi, sh_71, sh_72, pu_rv, pu_as, Value.category, pu_bk, pu_kl, pu_qe0, pu_qe1, f, py_mr_2, py_mr_7, h6, np, py_pr, c, o, py_mr_w, ih]
    all_goals try simp [bX12_undo_236, bX12_undo_276, bX12_undo_273, a_ai, a_ald, a_cv, a_dup2, a_gr, a_icne, a_ifle, a_ild, a_ist, a_isub, a_push, a_wi, sh_71, sh_72, pu_rv, pu_as, Value.category, pu_bk, pu_kl, List.replicate, pu_wi_1, pu_wi_2, nl_add, nl_ladd, nl_aa, nl_mul, nl_rmul, nl_mm, pu_qe0, pu_qe1, f, py_mr_2, py_mr_7, h6, np, py_pr, c, o, py_mr_w, ih]
    all_goals try simp (maxSteps := 400000) (disch := omega) [nl_tle, nl_fle, nl_tlt, nl_flt, nl_teq, nl_feq, nl_sub, nl_ss, nl_lt, nl_llt, nl_ltt, nl_le, nl_lle, nl_lee, nl_eq, nl_leq, nl_ee, nl_div, nl_rem, nl_cl, nl_n1, nl_n2, nl_n3, nl_n4, nl_add, nl_ladd, nl_aa, nl_mul, nl_rmul, nl_mm, pu_wi_1, pu_wi_2, bX12_undo_236, bX12_undo_276, bX12_undo_273, a_ai, a_ald, a_cv, a_dup2, a_gr, a_icne, a_ifle, a_ild, a_ist, a_isub, a_push, a_wi, sh_71, sh_72, pu_rv, pu_as, Value.category, pu_bk, pu_kl, pu_qe0, pu_qe1, f, py_mr_2, py_mr_7, h6, np, py_pr, c, o, py_mr_w, ih]
/-- what unmade leaves of door d -/
def py_um (r r2 : Nat → Int32) (p : Int32) (d : Nat) : Prop := (∀ j, ¬ (9552 + 12 * d ≤ j ∧ j < 9552 + 12 * d + 12) → r2 j = r j) ∧ (∀ i, i = 1 ∨ i = 2 ∨ i = 3 ∨ i = 7 ∨ i = 8 ∨ i = 9 → r2 (9552 + 12 * d + i) = r (9552 + 12 * d + i)) ∧ ((r (9552 + 12 * d + 10) = p ∧ r2 (9552 + 12 * d + 10) = -1) ∨ (r (9552 + 12 * d + 10) ≠ p ∧ r2 (9552 + 12 * d + 10) = r (9552 + 12 * d + 10))) ∧ ((r (9552 + 12 * d + 11) = p ∧ r2 (9552 + 12 * d) = 0 ∧ r2 (9552 + 12 * d + 11) = -1 ∧ r2 (9552 + 12 * d + 4) = -1 ∧ r2 (9552 + 12 * d + 5) = -1 ∧ r2 (9552 + 12 * d + 6) = -1) ∨ (r (9552 + 12 * d + 11) ≠ p ∧ r2 (9552 + 12 * d) = r (9552 + 12 * d) ∧ ∀ i, i = 4 ∨ i = 5 ∨ i = 6 ∨ i = 11 → r2 (9552 + 12 * d + i) = r (9552 + 12 * d + i)))
theorem r_unmade (hx : pu_fx M) (r : Nat → Int32) (d : Nat) (hd : d < 100) : ∃ r2, py_um r r2 p d ∧ pu_r 300 [some (.ref 71), some (.int (nI d)), some (.int p)] [] (py_mr M r) = some (none, py_mr M r2) := by
  have f := fx_71_0 hx
  -- the second half, over a row q
  have H : ∀ q : Nat → Int32, (∀ j, j ≠ 9552 + 12 * d + 10 → q j = r j) → ((r (9552 + 12 * d + 10) = p ∧ q (9552 + 12 * d + 10) = -1) ∨ (r (9552 + 12 * d + 10) ≠ p ∧ q (9552 + 12 * d + 10) = r (9552 + 12 * d + 10))) → ∃ r2, py_um r r2 p d ∧ kX12_unmade_32 pu_r [some (.ref 71), some (.int (nI d)), some (.int p), some (.int (nI (9552 + 12 * d))), none] [] (py_mr M q) = some (none, py_mr M r2) := fun q h1 h2 => by
    have e11 : q (9552 + 12 * d + 11) = r (9552 + 12 * d + 11) := h1 _ (by omega)
    by_cases c : r (9552 + 12 * d + 11) = p
    · refine ⟨pu_us (pu_us (pu_us (pu_us (pu_us q (9552 + 12 * d) 0) (9552 + 12 * d + 11) (-1)) (9552 + 12 * d + 4) (-1)) (9552 + 12 * d + 5) (-1)) (9552 + 12 * d + 6) (-1), ⟨fun j hj => ?_, fun i hi => ?_, ?_, Or.inl ⟨c, ?_, ?_, ?_, ?_, ?_⟩⟩, ?_⟩
      · rw [py_us_o (by omega), py_us_o (by omega), py_us_o (by omega), py_us_o (by omega), py_us_o (by omega)]
        exact h1 j (by omega)
      · rw [py_us_o (by omega), py_us_o (by omega), py_us_o (by omega), py_us_o (by omega), py_us_o (by omega)]
        exact h1 _ (by omega)
      · rw [py_us_o (by omega), py_us_o (by omega), py_us_o (by omega), py_us_o (by omega), py_us_o (by omega)]
        exact h2
      · rw [py_us_o (by omega), py_us_o (by omega), py_us_o (by omega), py_us_o (by omega), py_us_v]
      · rw [py_us_o (by omega), py_us_o (by omega), py_us_o (by omega), py_us_v]
      · rw [py_us_o (by omega), py_us_o (by omega), py_us_v]
      · rw [py_us_o (by omega), py_us_v]
      · rw [py_us_v]
      · have L7 : ∀ (q : Nat → Int32), pu_r 479 [some (.ref 71), some (.int (nI d)), some (.int p), some (.int (nI (9552 + 12 * d))), some (.int 7)] [] (py_mr M q) = some (none, py_mr M q) := fun q => by
          rw [qX12_unmade_66]
          simp [bX12_unmade_66, bX12_unmade_89, a_ald, a_gr, a_iadd, a_icge, a_ild, a_inc, a_push, a_vret, a_wi, sh_71, sh_72, pu_rv, pu_as, Value.category, pu_bk, pu_kl, List.replicate, pu_wi_1, pu_wi_2, nl_add, nl_ladd, nl_aa, nl_mul, nl_rmul, nl_mm, pu_qe0, pu_qe1]
          all_goals try simp (maxSteps := 400000) (disch := omega) [nl_tle, nl_fle, nl_tlt, nl_flt, nl_teq, nl_feq, nl_sub, nl_ss, nl_lt, nl_llt, nl_ltt, nl_le, nl_lle, nl_lee, nl_eq, nl_leq, nl_ee, nl_div, nl_rem, nl_cl, nl_n1, nl_n2, nl_n3, nl_n4, nl_add, nl_ladd, nl_aa, nl_mul, nl_rmul, nl_mm, pu_wi_1, pu_wi_2, bX12_unmade_66, bX12_unmade_89, a_ald, a_gr, a_iadd, a_icge, a_ild, a_inc, a_push, a_vret, a_wi, sh_71, sh_72, pu_rv, pu_as, Value.category, pu_bk, pu_kl, pu_qe0, pu_qe1]
          all_goals try simp [bX12_unmade_66, bX12_unmade_89, a_ald, a_gr, a_iadd, a_icge, a_ild, a_inc, a_push, a_vret, a_wi, sh_71, sh_72, pu_rv, pu_as, Value.category, pu_bk, pu_kl, List.replicate, pu_wi_1, pu_wi_2, nl_add, nl_ladd, nl_aa, nl_mul, nl_rmul, nl_mm, pu_qe0, pu_qe1]
          all_goals try simp (maxSteps := 400000) (disch := omega) [nl_tle, nl_fle, nl_tlt, nl_flt, nl_teq, nl_feq, nl_sub, nl_ss, nl_lt, nl_llt, nl_ltt, nl_le, nl_lle, nl_lee, nl_eq, nl_leq, nl_ee, nl_div, nl_rem, nl_cl, nl_n1, nl_n2, nl_n3, nl_n4, nl_add, nl_ladd, nl_aa, nl_mul, nl_rmul, nl_mm, pu_wi_1, pu_wi_2, bX12_unmade_66, bX12_unmade_89, a_ald, a_gr, a_iadd, a_icge, a_ild, a_inc, a_push, a_vret, a_wi, sh_71, sh_72, pu_rv, pu_as, Value.category, pu_bk, pu_kl, pu_qe0, pu_qe1]
        have L6 : ∀ (q : Nat → Int32), pu_r 479 [some (.ref 71), some (.int (nI d)), some (.int p), some (.int (nI (9552 + 12 * d))), some (.int 6)] [] (py_mr M q) = some (none, py_mr M (pu_us q (9552 + 12 * d + 6) (-1))) := fun q => by
          rw [qX12_unmade_66]
          simp [bX12_unmade_66, bX12_unmade_89, a_ald, a_gr, a_iadd, a_icge, a_ild, a_inc, a_push, a_vret, a_wi, sh_71, sh_72, pu_rv, pu_as, Value.category, pu_bk, pu_kl, List.replicate, pu_wi_1, pu_wi_2, nl_add, nl_ladd, nl_aa, nl_mul, nl_rmul, nl_mm, pu_qe0, pu_qe1, f, py_mr_2, py_mr_w, L7]
          all_goals try simp (maxSteps := 400000) (disch := omega) [nl_tle, nl_fle, nl_tlt, nl_flt, nl_teq, nl_feq, nl_sub, nl_ss, nl_lt, nl_llt, nl_ltt, nl_le, nl_lle, nl_lee, nl_eq, nl_leq, nl_ee, nl_div, nl_rem, nl_cl, nl_n1, nl_n2, nl_n3, nl_n4, nl_add, nl_ladd, nl_aa, nl_mul, nl_rmul, nl_mm, pu_wi_1, pu_wi_2, bX12_unmade_66, bX12_unmade_89, a_ald, a_gr, a_iadd, a_icge, a_ild, a_inc, a_push, a_vret, a_wi, sh_71, sh_72, pu_rv, pu_as, Value.category, pu_bk, pu_kl, pu_qe0, pu_qe1, f, py_mr_2, py_mr_w, L7]
          all_goals try simp [bX12_unmade_66, bX12_unmade_89, a_ald, a_gr, a_iadd, a_icge, a_ild, a_inc, a_push, a_vret, a_wi, sh_71, sh_72, pu_rv, pu_as, Value.category, pu_bk, pu_kl, List.replicate, pu_wi_1, pu_wi_2, nl_add, nl_ladd, nl_aa, nl_mul, nl_rmul, nl_mm, pu_qe0, pu_qe1, f, py_mr_2, py_mr_w, L7]
          all_goals try simp (maxSteps := 400000) (disch := omega) [nl_tle, nl_fle, nl_tlt, nl_flt, nl_teq, nl_feq, nl_sub, nl_ss, nl_lt, nl_llt, nl_ltt, nl_le, nl_lle, nl_lee, nl_eq, nl_leq, nl_ee, nl_div, nl_rem, nl_cl, nl_n1, nl_n2, nl_n3, nl_n4, nl_add, nl_ladd, nl_aa, nl_mul, nl_rmul, nl_mm, pu_wi_1, pu_wi_2, bX12_unmade_66, bX12_unmade_89, a_ald, a_gr, a_iadd, a_icge, a_ild, a_inc, a_push, a_vret, a_wi, sh_71, sh_72, pu_rv, pu_as, Value.category, pu_bk, pu_kl, pu_qe0, pu_qe1, f, py_mr_2, py_mr_w, L7]
        have L5 : ∀ (q : Nat → Int32), pu_r 479 [some (.ref 71), some (.int (nI d)), some (.int p), some (.int (nI (9552 + 12 * d))), some (.int 5)] [] (py_mr M q) = some (none, py_mr M (pu_us (pu_us q (9552 + 12 * d + 5) (-1)) (9552 + 12 * d + 6) (-1))) := fun q => by
          rw [qX12_unmade_66]
          simp [bX12_unmade_66, bX12_unmade_89, a_ald, a_gr, a_iadd, a_icge, a_ild, a_inc, a_push, a_vret, a_wi, sh_71, sh_72, pu_rv, pu_as, Value.category, pu_bk, pu_kl, List.replicate, pu_wi_1, pu_wi_2, nl_add, nl_ladd, nl_aa, nl_mul, nl_rmul, nl_mm, pu_qe0, pu_qe1, f, py_mr_2, py_mr_w, L6]
          all_goals try simp (maxSteps := 400000) (disch := omega) [nl_tle, nl_fle, nl_tlt, nl_flt, nl_teq, nl_feq, nl_sub, nl_ss, nl_lt, nl_llt, nl_ltt, nl_le, nl_lle, nl_lee, nl_eq, nl_leq, nl_ee, nl_div, nl_rem, nl_cl, nl_n1, nl_n2, nl_n3, nl_n4, nl_add, nl_ladd, nl_aa, nl_mul, nl_rmul, nl_mm, pu_wi_1, pu_wi_2, bX12_unmade_66, bX12_unmade_89, a_ald, a_gr, a_iadd, a_icge, a_ild, a_inc, a_push, a_vret, a_wi, sh_71, sh_72, pu_rv, pu_as, Value.category, pu_bk, pu_kl, pu_qe0, pu_qe1, f, py_mr_2, py_mr_w, L6]
          all_goals try simp [bX12_unmade_66, bX12_unmade_89, a_ald, a_gr, a_iadd, a_icge, a_ild, a_inc, a_push, a_vret, a_wi, sh_71, sh_72, pu_rv, pu_as, Value.category, pu_bk, pu_kl, List.replicate, pu_wi_1, pu_wi_2, nl_add, nl_ladd, nl_aa, nl_mul, nl_rmul, nl_mm, pu_qe0, pu_qe1, f, py_mr_2, py_mr_w, L6]
          all_goals try simp (maxSteps := 400000) (disch := omega) [nl_tle, nl_fle, nl_tlt, nl_flt, nl_teq, nl_feq, nl_sub, nl_ss, nl_lt, nl_llt, nl_ltt, nl_le, nl_lle, nl_lee, nl_eq, nl_leq, nl_ee, nl_div, nl_rem, nl_cl, nl_n1, nl_n2, nl_n3, nl_n4, nl_add, nl_ladd, nl_aa, nl_mul, nl_rmul, nl_mm, pu_wi_1, pu_wi_2, bX12_unmade_66, bX12_unmade_89, a_ald, a_gr, a_iadd, a_icge, a_ild, a_inc, a_push, a_vret, a_wi, sh_71, sh_72, pu_rv, pu_as, Value.category, pu_bk, pu_kl, pu_qe0, pu_qe1, f, py_mr_2, py_mr_w, L6]
        have L4 : ∀ (q : Nat → Int32), pu_r 479 [some (.ref 71), some (.int (nI d)), some (.int p), some (.int (nI (9552 + 12 * d))), some (.int 4)] [] (py_mr M q) = some (none, py_mr M (pu_us (pu_us (pu_us q (9552 + 12 * d + 4) (-1)) (9552 + 12 * d + 5) (-1)) (9552 + 12 * d + 6) (-1))) := fun q => by
          rw [qX12_unmade_66]
          simp [bX12_unmade_66, bX12_unmade_89, a_ald, a_gr, a_iadd, a_icge, a_ild, a_inc, a_push, a_vret, a_wi, sh_71, sh_72, pu_rv, pu_as, Value.category, pu_bk, pu_kl, List.replicate, pu_wi_1, pu_wi_2, nl_add, nl_ladd, nl_aa, nl_mul, nl_rmul, nl_mm, pu_qe0, pu_qe1, f, py_mr_2, py_mr_w, L5]
          all_goals try simp (maxSteps := 400000) (disch := omega) [nl_tle, nl_fle, nl_tlt, nl_flt, nl_teq, nl_feq, nl_sub, nl_ss, nl_lt, nl_llt, nl_ltt, nl_le, nl_lle, nl_lee, nl_eq, nl_leq, nl_ee, nl_div, nl_rem, nl_cl, nl_n1, nl_n2, nl_n3, nl_n4, nl_add, nl_ladd, nl_aa, nl_mul, nl_rmul, nl_mm, pu_wi_1, pu_wi_2, bX12_unmade_66, bX12_unmade_89, a_ald, a_gr, a_iadd, a_icge, a_ild, a_inc, a_push, a_vret, a_wi, sh_71, sh_72, pu_rv, pu_as, Value.category, pu_bk, pu_kl, pu_qe0, pu_qe1, f, py_mr_2, py_mr_w, L5]
          all_goals try simp [bX12_unmade_66, bX12_unmade_89, a_ald, a_gr, a_iadd, a_icge, a_ild, a_inc, a_push, a_vret, a_wi, sh_71, sh_72, pu_rv, pu_as, Value.category, pu_bk, pu_kl, List.replicate, pu_wi_1, pu_wi_2, nl_add, nl_ladd, nl_aa, nl_mul, nl_rmul, nl_mm, pu_qe0, pu_qe1, f, py_mr_2, py_mr_w, L5]
          all_goals try simp (maxSteps := 400000) (disch := omega) [nl_tle, nl_fle, nl_tlt, nl_flt, nl_teq, nl_feq, nl_sub, nl_ss, nl_lt, nl_llt, nl_ltt, nl_le, nl_lle, nl_lee, nl_eq, nl_leq, nl_ee, nl_div, nl_rem, nl_cl, nl_n1, nl_n2, nl_n3, nl_n4, nl_add, nl_ladd, nl_aa, nl_mul, nl_rmul, nl_mm, pu_wi_1, pu_wi_2, bX12_unmade_66, bX12_unmade_89, a_ald, a_gr, a_iadd, a_icge, a_ild, a_inc, a_push, a_vret, a_wi, sh_71, sh_72, pu_rv, pu_as, Value.category, pu_bk, pu_kl, pu_qe0, pu_qe1, f, py_mr_2, py_mr_w, L5]
        have e : q (9552 + 12 * d + 11) = p := e11.trans c
        simp [bX12_unmade_32, bX12_unmade_46, a_ai, a_ald, a_gr, a_iadd, a_iceq, a_ild, a_ist, a_push, a_vret, a_wi, sh_71, sh_72, pu_rv, pu_as, Value.category, pu_bk, pu_kl, List.replicate, pu_wi_1, pu_wi_2, nl_add, nl_ladd, nl_aa, nl_mul, nl_rmul, nl_mm, pu_qe0, pu_qe1, f, py_mr_2, py_mr_7, py_mr_w, e, L4]
        all_goals try simp (maxSteps := 400000) (disch := omega) [nl_tle, nl_fle, nl_tlt, nl_flt, nl_teq, nl_feq, nl_sub, nl_ss, nl_lt, nl_llt, nl_ltt, nl_le, nl_lle, nl_lee, nl_eq, nl_leq, nl_ee, nl_div, nl_rem, nl_cl, nl_n1, nl_n2, nl_n3, nl_n4, nl_add, nl_ladd, nl_aa, nl_mul, nl_rmul, nl_mm, pu_wi_1, pu_wi_2, bX12_unmade_32, bX12_unmade_46, a_ai, a_ald, a_gr, a_iadd, a_iceq, a_ild, a_ist, a_push, a_vret, a_wi, sh_71, sh_72, pu_rv, pu_as, Value.category, pu_bk, pu_kl, pu_qe0, pu_qe1, f, py_mr_2, py_mr_7, py_mr_w, e, L4]
        all_goals try simp [bX12_unmade_32, bX12_unmade_46, a_ai, a_ald, a_gr, a_iadd, a_iceq, a_ild, a_ist, a_push, a_vret, a_wi, sh_71, sh_72, pu_rv, pu_as, Value.category, pu_bk, pu_kl, List.replicate, pu_wi_1, pu_wi_2, nl_add, nl_ladd, nl_aa, nl_mul, nl_rmul, nl_mm, pu_qe0, pu_qe1, f, py_mr_2, py_mr_7, py_mr_w, e, L4]
        all_goals try simp (maxSteps := 400000) (disch := omega) [nl_tle, nl_fle, nl_tlt, nl_flt, nl_teq, nl_feq, nl_sub, nl_ss, nl_lt, nl_llt, nl_ltt, nl_le, nl_lle, nl_lee, nl_eq, nl_leq, nl_ee, nl_div, nl_rem, nl_cl, nl_n1, nl_n2, nl_n3, nl_n4, nl_add, nl_ladd, nl_aa, nl_mul, nl_rmul, nl_mm, pu_wi_1, pu_wi_2, bX12_unmade_32, bX12_unmade_46, a_ai, a_ald, a_gr, a_iadd, a_iceq, a_ild, a_ist, a_push, a_vret, a_wi, sh_71, sh_72, pu_rv, pu_as, Value.category, pu_bk, pu_kl, pu_qe0, pu_qe1, f, py_mr_2, py_mr_7, py_mr_w, e, L4]
    · refine ⟨q, ⟨fun j hj => h1 j (by omega), fun i hi => h1 _ (by omega), h2, Or.inr ⟨c, h1 _ (by omega), fun i hi => h1 _ (by omega)⟩⟩, ?_⟩
      have e : ¬ q (9552 + 12 * d + 11) = p := fun z => c (e11.symm.trans z)
      simp [bX12_unmade_32, bX12_unmade_46, a_ai, a_ald, a_gr, a_iadd, a_iceq, a_ild, a_ist, a_push, a_vret, a_wi, sh_71, sh_72, pu_rv, pu_as, Value.category, pu_bk, pu_kl, List.replicate, pu_wi_1, pu_wi_2, nl_add, nl_ladd, nl_aa, nl_mul, nl_rmul, nl_mm, pu_qe0, pu_qe1, f, py_mr_2, py_mr_7, e]
      all_goals try simp (maxSteps := 400000) (disch := omega) [nl_tle, nl_fle, nl_tlt, nl_flt, nl_teq, nl_feq, nl_sub, nl_ss, nl_lt, nl_llt, nl_ltt, nl_le, nl_lle, nl_lee, nl_eq, nl_leq, nl_ee, nl_div, nl_rem, nl_cl, nl_n1, nl_n2, nl_n3, nl_n4, nl_add, nl_ladd, nl_aa, nl_mul, nl_rmul, nl_mm, pu_wi_1, pu_wi_2, bX12_unmade_32, bX12_unmade_46, a_ai, a_ald, a_gr, a_iadd, a_iceq, a_ild, a_ist, a_push, a_vret, a_wi, sh_71, sh_72, pu_rv, pu_as, Value.category, pu_bk, pu_kl, pu_qe0, pu_qe1, f, py_mr_2, py_mr_7, e]
      all_goals try simp [bX12_unmade_32, bX12_unmade_46, a_ai, a_ald, a_gr, a_iadd, a_iceq, a_ild, a_ist, a_push, a_vret, a_wi, sh_71, sh_72, pu_rv, pu_as, Value.category, pu_bk, pu_kl, List.replicate, pu_wi_1, pu_wi_2, nl_add, nl_ladd, nl_aa, nl_mul, nl_rmul, nl_mm, pu_qe0, pu_qe1, f, py_mr_2, py_mr_7, e]
      all_goals try simp (maxSteps := 400000) (disch := omega) [nl_tle, nl_fle, nl_tlt, nl_flt, nl_teq, nl_feq, nl_sub, nl_ss, nl_lt, nl_llt, nl_ltt, nl_le, nl_lle, nl_lee, nl_eq, nl_leq, nl_ee, nl_div, nl_rem, nl_cl, nl_n1, nl_n2, nl_n3, nl_n4, nl_add, nl_ladd, nl_aa, nl_mul, nl_rmul, nl_mm, pu_wi_1, pu_wi_2, bX12_unmade_32, bX12_unmade_46, a_ai, a_ald, a_gr, a_iadd, a_iceq, a_ild, a_ist, a_push, a_vret, a_wi, sh_71, sh_72, pu_rv, pu_as, Value.category, pu_bk, pu_kl, pu_qe0, pu_qe1, f, py_mr_2, py_mr_7, e]
  by_cases c : r (9552 + 12 * d + 10) = p
  · obtain ⟨r2, a1, a2⟩ := H (pu_us r (9552 + 12 * d + 10) (-1)) (fun j hj => py_us_o hj) (Or.inl ⟨c, py_us_v⟩)
    refine ⟨r2, a1, ?_⟩
    rw [← a2, qX12_unmade]
    simp [a_ent, bX12_unmade_0, a_push, a_ild, a_imul, a_iadd, a_ist, a_ald, a_gr, a_ai, a_icne, a_wi, sh_71, sh_72, f, py_mr_2, py_mr_7, py_mr_w, nl_mul, nl_ladd, nl_add, nl_aa, c, pu_rv, pu_as, Value.category, pu_bk, pu_kl]
    simp (disch := omega) [nl_cl, nl_n3, nl_tlt, nl_lt, nl_llt, nl_le, nl_lle, sh_72, py_mr_7, py_mr_w, c]
  · obtain ⟨r2, a1, a2⟩ := H r (fun j hj => rfl) (Or.inr ⟨c, rfl⟩)
    refine ⟨r2, a1, ?_⟩
    rw [← a2, qX12_unmade]
    simp [a_ent, bX12_unmade_0, a_push, a_ild, a_imul, a_iadd, a_ist, a_ald, a_gr, a_ai, a_icne, a_wi, sh_71, sh_72, f, py_mr_2, py_mr_7, py_mr_w, nl_mul, nl_ladd, nl_add, nl_aa, c, pu_rv, pu_as, Value.category, pu_bk, pu_kl]
    simp (disch := omega) [nl_cl, nl_n3, nl_tlt, nl_lt, nl_llt, nl_le, nl_lle, sh_72, py_mr_7, py_mr_w, c]
end
