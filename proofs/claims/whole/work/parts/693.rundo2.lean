/-! undo: the reference's doors, towns, rule, streets -/
section
variable {M : pu_M} (p at0 : Int32)
def py_ua (r r2 : Nat → Int32) (p : Int32) (i : Nat) : Prop := (∀ j, ¬ (9552 ≤ j ∧ j < 9552 + 12 * i) → r2 j = r j) ∧ ∀ d, d < i → ∃ q, (∀ j, 9552 + 12 * d ≤ j → j < 9552 + 12 * d + 12 → q j = r2 j) ∧ (∀ j, ¬ (9552 + 12 * d ≤ j ∧ j < 9552 + 12 * d + 12) → q j = r j) ∧ py_um r q p d
theorem r_undoF (hx : pu_fx M) (u : Nat) (hu : u ≤ 100) (r : Nat → Int32) (h4 : r 4 = nI u) : ∀ m i (r2 : Nat → Int32), i + m = u → py_ua r r2 p i → ∃ r3, py_ua r r3 p u ∧ pu_r 485 [some (.ref 71), some (.int p), some (.int at0), some (.int (nI i))] [] (py_mr M r2) = pu_r 486 [some (.ref 71), some (.int p), some (.int at0), some (.int 0)] [] (py_mr M r3)
  | 0, i, r2, h, g => by
    have f := fx_71_0 hx
    have e4 : r2 4 = nI u := by rw [g.1 4 (by omega)]; exact h4
    have e : i = u := by omega
    subst e
    refine ⟨r2, g, ?_⟩
    rw [qX12_undo_278]
    simp [bX12_undo_278, bX12_undo_300, a_ai, a_ald, a_cv, a_gr, a_icge, a_ild, a_inc, a_ist, a_push, sh_71, sh_72, pu_rv, pu_as, Value.category, pu_bk, pu_kl, List.replicate, pu_wi_1, pu_wi_2, nl_add, nl_ladd, nl_aa, nl_mul, nl_rmul, nl_mm, pu_qe0, pu_qe1, f, py_mr_2, py_mr_7, e4]
    all_goals try simp (maxSteps := 400000) (disch := omega) [nl_tle, nl_fle, nl_tlt, nl_flt, nl_teq, nl_feq, nl_sub, nl_ss, nl_lt, nl_llt, nl_ltt, nl_le, nl_lle, nl_lee, nl_eq, nl_leq, nl_ee, nl_div, nl_rem, nl_cl, nl_n1, nl_n2, nl_n3, nl_n4, nl_add, nl_ladd, nl_aa, nl_mul, nl_rmul, nl_mm, pu_wi_1, pu_wi_2, bX12_undo_278, bX12_undo_300, a_ai, a_ald, a_cv, a_gr, a_icge, a_ild, a_inc, a_ist, a_push, sh_71, sh_72, pu_rv, pu_as, Value.category, pu_bk, pu_kl, pu_qe0, pu_qe1, f, py_mr_2, py_mr_7, e4]
    all_goals try simp [bX12_undo_278, bX12_undo_300, a_ai, a_ald, a_cv, a_gr, a_icge, a_ild, a_inc, a_ist, a_push, sh_71, sh_72, pu_rv, pu_as, Value.category, pu_bk, pu_kl, List.replicate, pu_wi_1, pu_wi_2, nl_add, nl_ladd, nl_aa, nl_mul, nl_rmul, nl_mm, pu_qe0, pu_qe1, f, py_mr_2, py_mr_7, e4]
    all_goals try simp (maxSteps := 400000) (disch := omega) [nl_tle, nl_fle, nl_tlt, nl_flt, nl_teq, nl_feq, nl_sub, nl_ss, nl_lt, nl_llt, nl_ltt, nl_le, nl_lle, nl_lee, nl_eq, nl_leq, nl_ee, nl_div, nl_rem, nl_cl, nl_n1, nl_n2, nl_n3, nl_n4, nl_add, nl_ladd, nl_aa, nl_mul, nl_rmul, nl_mm, pu_wi_1, pu_wi_2, bX12_undo_278, bX12_undo_300, a_ai, a_ald, a_cv, a_gr, a_icge, a_ild, a_inc, a_ist, a_push, sh_71, sh_72, pu_rv, pu_as, Value.category, pu_bk, pu_kl, pu_qe0, pu_qe1, f, py_mr_2, py_mr_7, e4]
  | m + 1, i, r2, h, g => by
    have f := fx_71_0 hx
    have e4 : r2 4 = nI u := by rw [g.1 4 (by omega)]; exact h4
    have hc : ¬ nI u ≤ nI i := nI_ge (by omega) (by omega)
    obtain ⟨q, q1, q2⟩ := r_unmade p hx r2 i (by omega)
    have g2 : py_ua r q p (i + 1) := by
      obtain ⟨u1, u2, u3, u4⟩ := q1
      have s : ∀ j, j < 12 → r2 (9552 + 12 * i + j) = r (9552 + 12 * i + j) := fun j hj => g.1 _ (by omega)
      have s0 : r2 (9552 + 12 * i) = r (9552 + 12 * i) := g.1 _ (by omega)
      refine ⟨fun j hj => ?_, fun d hd => ?_⟩
      · rw [u1 j (by omega)]
        exact g.1 j (by omega)
      · by_cases z : d = i
        · subst z
          obtain ⟨t, t1, t2⟩ : ∃ t : Nat → Int32, (∀ j, 9552 + 12 * d ≤ j → j < 9552 + 12 * d + 12 → t j = q j) ∧ (∀ j, ¬ (9552 + 12 * d ≤ j ∧ j < 9552 + 12 * d + 12) → t j = r j) := ⟨fun j => if 9552 + 12 * d ≤ j ∧ j < 9552 + 12 * d + 12 then q j else r j, fun j a b => if_pos ⟨a, b⟩, fun j a => if_neg a⟩
          refine ⟨t, t1, t2, t2, fun i hi => ?_, ?_, ?_⟩
          · rw [t1 _ (by omega) (by omega), u2 i hi]
            exact s i (by omega)
          · rw [t1 _ (by omega) (by omega), ← s 10 (by omega)]
            exact u3
          · rw [t1 _ (by omega) (by omega), t1 (9552 + 12 * d + 11) (by omega) (by omega), t1 (9552 + 12 * d + 4) (by omega) (by omega), t1 (9552 + 12 * d + 5) (by omega) (by omega), t1 (9552 + 12 * d + 6) (by omega) (by omega), ← s 11 (by omega), ← s0]
            rcases u4 with v | v
            · exact Or.inl v
            · refine Or.inr ⟨v.1, v.2.1, fun j hj => ?_⟩
              rw [t1 _ (by omega) (by omega), ← s j (by omega)]
              exact v.2.2 j hj
        · obtain ⟨t, t1, t2, t3⟩ := g.2 d (by omega)
          exact ⟨t, fun j a b => by rw [u1 j (by omega)]; exact t1 j a b, t2, t3⟩
    obtain ⟨r3, a1, a2⟩ := r_undoF hx u hu r h4 m (i + 1) q (by omega) g2
    refine ⟨r3, a1, ?_⟩
    rw [qX12_undo_278]
    simp [bX12_undo_278, bX12_undo_300, a_ai, a_ald, a_cv, a_gr, a_icge, a_ild, a_inc, a_ist, a_push, sh_71, sh_72, pu_rv, pu_as, Value.category, pu_bk, pu_kl, List.replicate, pu_wi_1, pu_wi_2, nl_add, nl_ladd, nl_aa, nl_mul, nl_rmul, nl_mm, pu_qe0, pu_qe1, f, py_mr_2, py_mr_7, e4, hc, q2, a2]
    all_goals try simp (maxSteps := 400000) (disch := omega) [nl_tle, nl_fle, nl_tlt, nl_flt, nl_teq, nl_feq, nl_sub, nl_ss, nl_lt, nl_llt, nl_ltt, nl_le, nl_lle, nl_lee, nl_eq, nl_leq, nl_ee, nl_div, nl_rem, nl_cl, nl_n1, nl_n2, nl_n3, nl_n4, nl_add, nl_ladd, nl_aa, nl_mul, nl_rmul, nl_mm, pu_wi_1, pu_wi_2, bX12_undo_278, bX12_undo_300, a_ai, a_ald, a_cv, a_gr, a_icge, a_ild, a_inc, a_ist, a_push, sh_71, sh_72, pu_rv, pu_as, Value.category, pu_bk, pu_kl, pu_qe0, pu_qe1, f, py_mr_2, py_mr_7, e4, hc, q2, a2]
    all_goals try simp [bX12_undo_278, bX12_undo_300, a_ai, a_ald, a_cv, a_gr, a_icge, a_ild, a_inc, a_ist, a_push, sh_71, sh_72, pu_rv, pu_as, Value.category, pu_bk, pu_kl, List.replicate, pu_wi_1, pu_wi_2, nl_add, nl_ladd, nl_aa, nl_mul, nl_rmul, nl_mm, pu_qe0, pu_qe1, f, py_mr_2, py_mr_7, e4, hc, q2, a2]
    all_goals try simp (maxSteps := 400000) (disch := omega) [nl_tle, nl_fle, nl_tlt, nl_flt, nl_teq, nl_feq, nl_sub, nl_ss, nl_lt, nl_llt, nl_ltt, nl_le, nl_lle, nl_lee, nl_eq, nl_leq, nl_ee, nl_div, nl_rem, nl_cl, nl_n1, nl_n2, nl_n3, nl_n4, nl_add, nl_ladd, nl_aa, nl_mul, nl_rmul, nl_mm, pu_wi_1, pu_wi_2, bX12_undo_278, bX12_undo_300, a_ai, a_ald, a_cv, a_gr, a_icge, a_ild, a_inc, a_ist, a_push, sh_71, sh_72, pu_rv, pu_as, Value.category, pu_bk, pu_kl, pu_qe0, pu_qe1, f, py_mr_2, py_mr_7, e4, hc, q2, a2]
theorem r_undoG (hx : pu_fx M) (u : Nat) (hu : u ≤ 8) (r : Nat → Int32) (h2 : r 2 = nI u) : ∀ m i (r2 : Nat → Int32), i + m = u → py_rz (fun k => 7520 + k) r r2 p i → ∃ r3, py_rz (fun k => 7520 + k) r r3 p u ∧ pu_r 486 [some (.ref 71), some (.int p), some (.int at0), some (.int (nI i))] [] (py_mr M r2) = kX12_undo_343 pu_r [some (.ref 71), some (.int p), some (.int at0), some (.int (nI u))] [] (py_mr M r3)
  | 0, i, r2, h, g => by
    have f := fx_71_0 hx
    have e6 : r2 2 = nI u := by rw [g.2 2 (fun k hk _ => show 2 ≠ 7520 + k by omega)]; exact h2
    have e : i = u := by omega
    subst e
    refine ⟨r2, g, ?_⟩
    rw [qX12_undo_302]
    simp [bX12_undo_302, a_ild, a_ald, a_gr, a_push, a_ai, a_icge, sh_71, sh_72, f, py_mr_2, py_mr_7, e6, pu_rv, pu_as, Value.category, pu_bk, pu_kl]
  | m + 1, i, r2, h, g => by
    have f := fx_71_0 hx
    have inj : ∀ k l : Nat, 7520 + k = 7520 + l → k = l := fun k l q => by omega
    have e6 : r2 2 = nI u := by rw [g.2 2 (fun k hk _ => show 2 ≠ 7520 + k by omega)]; exact h2
    have hc : ¬ nI u ≤ nI i := nI_ge (by omega) (by omega)
    have q := py_rz_r (a := fun k => 7520 + k) inj g
    by_cases c : r (7520 + i) = p
    · obtain ⟨r3, a1, a2⟩ := r_undoG hx u hu r h2 m (i + 1) _ (by omega) (py_rz_y (a := fun k => 7520 + k) inj g c)
      refine ⟨r3, a1, ?_⟩
      rw [← a2]
      have q2 : r2 (7520 + i) = p := q.trans c
      rw [qX12_undo_302]
      simp [bX12_undo_302, bX12_undo_343, bX12_undo_381, bX12_undo_337, a_ai, a_ald, a_gr, a_iadd, a_iceq, a_icge, a_icne, a_ild, a_inc, a_push, a_wi, sh_71, sh_72, pu_rv, pu_as, Value.category, pu_bk, pu_kl, List.replicate, pu_wi_1, pu_wi_2, nl_add, nl_ladd, nl_aa, nl_mul, nl_rmul, nl_mm, pu_qe0, pu_qe1, f, py_mr_2, py_mr_7, e6, hc, q2, py_mr_w]
      all_goals try simp (maxSteps := 400000) (disch := omega) [nl_tle, nl_fle, nl_tlt, nl_flt, nl_teq, nl_feq, nl_sub, nl_ss, nl_lt, nl_llt, nl_ltt, nl_le, nl_lle, nl_lee, nl_eq, nl_leq, nl_ee, nl_div, nl_rem, nl_cl, nl_n1, nl_n2, nl_n3, nl_n4, nl_add, nl_ladd, nl_aa, nl_mul, nl_rmul, nl_mm, pu_wi_1, pu_wi_2, bX12_undo_302, bX12_undo_343, bX12_undo_381, bX12_undo_337, a_ai, a_ald, a_gr, a_iadd, a_iceq, a_icge, a_icne, a_ild, a_inc, a_push, a_wi, sh_71, sh_72, pu_rv, pu_as, Value.category, pu_bk, pu_kl, pu_qe0, pu_qe1, f, py_mr_2, py_mr_7, e6, hc, q2, py_mr_w]
      all_goals try simp [bX12_undo_302, bX12_undo_343, bX12_undo_381, bX12_undo_337, a_ai, a_ald, a_gr, a_iadd, a_iceq, a_icge, a_icne, a_ild, a_inc, a_push, a_wi, sh_71, sh_72, pu_rv, pu_as, Value.category, pu_bk, pu_kl, List.replicate, pu_wi_1, pu_wi_2, nl_add, nl_ladd, nl_aa, nl_mul, nl_rmul, nl_mm, pu_qe0, pu_qe1, f, py_mr_2, py_mr_7, e6, hc, q2, py_mr_w]
      all_goals try simp (maxSteps := 400000) (disch := omega) [nl_tle, nl_fle, nl_tlt, nl_flt, nl_teq, nl_feq, nl_sub, nl_ss, nl_lt, nl_llt, nl_ltt, nl_le, nl_lle, nl_lee, nl_eq, nl_leq, nl_ee, nl_div, nl_rem, nl_cl, nl_n1, nl_n2, nl_n3, nl_n4, nl_add, nl_ladd, nl_aa, nl_mul, nl_rmul, nl_mm, pu_wi_1, pu_wi_2, bX12_undo_302, bX12_undo_343, bX12_undo_381, bX12_undo_337, a_ai, a_ald, a_gr, a_iadd, a_iceq, a_icge, a_icne, a_ild, a_inc, a_push, a_wi, sh_71, sh_72, pu_rv, pu_as, Value.category, pu_bk, pu_kl, pu_qe0, pu_qe1, f, py_mr_2, py_mr_7, e6, hc, q2, py_mr_w]
    · obtain ⟨r3, a1, a2⟩ := r_undoG hx u hu r h2 m (i + 1) _ (by omega) (py_rz_n (a := fun k => 7520 + k) g c)
      refine ⟨r3, a1, ?_⟩
      rw [← a2]
      have q2 : ¬ r2 (7520 + i) = p := fun z => c (q.symm.trans z)
      rw [qX12_undo_302]
      simp [bX12_undo_302, bX12_undo_343, bX12_undo_381, bX12_undo_337, a_ai, a_ald, a_gr, a_iadd, a_iceq, a_icge, a_icne, a_ild, a_inc, a_push, a_wi, sh_71, sh_72, pu_rv, pu_as, Value.category, pu_bk, pu_kl, List.replicate, pu_wi_1, pu_wi_2, nl_add, nl_ladd, nl_aa, nl_mul, nl_rmul, nl_mm, pu_qe0, pu_qe1, f, py_mr_2, py_mr_7, e6, hc, q2]
      all_goals try simp (maxSteps := 400000) (disch := omega) [nl_tle, nl_fle, nl_tlt, nl_flt, nl_teq, nl_feq, nl_sub, nl_ss, nl_lt, nl_llt, nl_ltt, nl_le, nl_lle, nl_lee, nl_eq, nl_leq, nl_ee, nl_div, nl_rem, nl_cl, nl_n1, nl_n2, nl_n3, nl_n4, nl_add, nl_ladd, nl_aa, nl_mul, nl_rmul, nl_mm, pu_wi_1, pu_wi_2, bX12_undo_302, bX12_undo_343, bX12_undo_381, bX12_undo_337, a_ai, a_ald, a_gr, a_iadd, a_iceq, a_icge, a_icne, a_ild, a_inc, a_push, a_wi, sh_71, sh_72, pu_rv, pu_as, Value.category, pu_bk, pu_kl, pu_qe0, pu_qe1, f, py_mr_2, py_mr_7, e6, hc, q2]
      all_goals try simp [bX12_undo_302, bX12_undo_343, bX12_undo_381, bX12_undo_337, a_ai, a_ald, a_gr, a_iadd, a_iceq, a_icge, a_icne, a_ild, a_inc, a_push, a_wi, sh_71, sh_72, pu_rv, pu_as, Value.category, pu_bk, pu_kl, List.replicate, pu_wi_1, pu_wi_2, nl_add, nl_ladd, nl_aa, nl_mul, nl_rmul, nl_mm, pu_qe0, pu_qe1, f, py_mr_2, py_mr_7, e6, hc, q2]
      all_goals try simp (maxSteps := 400000) (disch := omega) [nl_tle, nl_fle, nl_tlt, nl_flt, nl_teq, nl_feq, nl_sub, nl_ss, nl_lt, nl_llt, nl_ltt, nl_le, nl_lle, nl_lee, nl_eq, nl_leq, nl_ee, nl_div, nl_rem, nl_cl, nl_n1, nl_n2, nl_n3, nl_n4, nl_add, nl_ladd, nl_aa, nl_mul, nl_rmul, nl_mm, pu_wi_1, pu_wi_2, bX12_undo_302, bX12_undo_343, bX12_undo_381, bX12_undo_337, a_ai, a_ald, a_gr, a_iadd, a_iceq, a_icge, a_icne, a_ild, a_inc, a_push, a_wi, sh_71, sh_72, pu_rv, pu_as, Value.category, pu_bk, pu_kl, pu_qe0, pu_qe1, f, py_mr_2, py_mr_7, e6, hc, q2]
/-- the rule as it was -/
theorem r_undoR (hx : pu_fx M) (P : Nat) (hP : P < 200) (r : Nat → Int32) (t : Option Value) (hs : r (28752 + 7 * P + 6) = -1 ∨ ∃ k, k < 24 ∧ r (28752 + 7 * P + 2) = nI k ∧ r (28752 + 7 * P + 6) ≠ -1) : ∃ r2, ((r (28752 + 7 * P + 6) = -1 ∧ r2 = r) ∨ ∃ k, k < 24 ∧ r (28752 + 7 * P + 2) = nI k ∧ r (28752 + 7 * P + 6) ≠ -1 ∧ r2 = pu_us r (7528 + k) (r (28752 + 7 * P + 6))) ∧ kX12_undo_343 pu_r [some (.ref 71), some (.int p), some (.int (nI (28752 + 7 * P))), t] [] (py_mr M r) = pu_r 487 [some (.ref 71), some (.int p), some (.int (nI (28752 + 7 * P))), t] [] (py_mr M r2) := by
  have f := fx_71_0 hx
  rcases hs with c | ⟨k, k1, k2, c⟩
  · refine ⟨r, Or.inl ⟨c, rfl⟩, ?_⟩
    simp [bX12_undo_343, bX12_undo_381, a_ai, a_ald, a_gr, a_iadd, a_iceq, a_ild, a_push, a_wi, sh_71, sh_72, pu_rv, pu_as, Value.category, pu_bk, pu_kl, List.replicate, pu_wi_1, pu_wi_2, nl_add, nl_ladd, nl_aa, nl_mul, nl_rmul, nl_mm, pu_qe0, pu_qe1, f, py_mr_2, py_mr_7, c]
    all_goals try simp (maxSteps := 400000) (disch := omega) [nl_tle, nl_fle, nl_tlt, nl_flt, nl_teq, nl_feq, nl_sub, nl_ss, nl_lt, nl_llt, nl_ltt, nl_le, nl_lle, nl_lee, nl_eq, nl_leq, nl_ee, nl_div, nl_rem, nl_cl, nl_n1, nl_n2, nl_n3, nl_n4, nl_add, nl_ladd, nl_aa, nl_mul, nl_rmul, nl_mm, pu_wi_1, pu_wi_2, bX12_undo_343, bX12_undo_381, a_ai, a_ald, a_gr, a_iadd, a_iceq, a_ild, a_push, a_wi, sh_71, sh_72, pu_rv, pu_as, Value.category, pu_bk, pu_kl, pu_qe0, pu_qe1, f, py_mr_2, py_mr_7, c]
    all_goals try simp [bX12_undo_343, bX12_undo_381, a_ai, a_ald, a_gr, a_iadd, a_iceq, a_ild, a_push, a_wi, sh_71, sh_72, pu_rv, pu_as, Value.category, pu_bk, pu_kl, List.replicate, pu_wi_1, pu_wi_2, nl_add, nl_ladd, nl_aa, nl_mul, nl_rmul, nl_mm, pu_qe0, pu_qe1, f, py_mr_2, py_mr_7, c]
    all_goals try simp (maxSteps := 400000) (disch := omega) [nl_tle, nl_fle, nl_tlt, nl_flt, nl_teq, nl_feq, nl_sub, nl_ss, nl_lt, nl_llt, nl_ltt, nl_le, nl_lle, nl_lee, nl_eq, nl_leq, nl_ee, nl_div, nl_rem, nl_cl, nl_n1, nl_n2, nl_n3, nl_n4, nl_add, nl_ladd, nl_aa, nl_mul, nl_rmul, nl_mm, pu_wi_1, pu_wi_2, bX12_undo_343, bX12_undo_381, a_ai, a_ald, a_gr, a_iadd, a_iceq, a_ild, a_push, a_wi, sh_71, sh_72, pu_rv, pu_as, Value.category, pu_bk, pu_kl, pu_qe0, pu_qe1, f, py_mr_2, py_mr_7, c]
  · refine ⟨_, Or.inr ⟨k, k1, k2, c, rfl⟩, ?_⟩
    simp [bX12_undo_343, bX12_undo_381, a_ai, a_ald, a_gr, a_iadd, a_iceq, a_ild, a_push, a_wi, sh_71, sh_72, pu_rv, pu_as, Value.category, pu_bk, pu_kl, List.replicate, pu_wi_1, pu_wi_2, nl_add, nl_ladd, nl_aa, nl_mul, nl_rmul, nl_mm, pu_qe0, pu_qe1, f, py_mr_2, py_mr_7, py_mr_w, c, k2]
    all_goals try simp (maxSteps := 400000) (disch := omega) [nl_tle, nl_fle, nl_tlt, nl_flt, nl_teq, nl_feq, nl_sub, nl_ss, nl_lt, nl_llt, nl_ltt, nl_le, nl_lle, nl_lee, nl_eq, nl_leq, nl_ee, nl_div, nl_rem, nl_cl, nl_n1, nl_n2, nl_n3, nl_n4, nl_add, nl_ladd, nl_aa, nl_mul, nl_rmul, nl_mm, pu_wi_1, pu_wi_2, bX12_undo_343, bX12_undo_381, a_ai, a_ald, a_gr, a_iadd, a_iceq, a_ild, a_push, a_wi, sh_71, sh_72, pu_rv, pu_as, Value.category, pu_bk, pu_kl, pu_qe0, pu_qe1, f, py_mr_2, py_mr_7, py_mr_w, c, k2]
    all_goals try simp [bX12_undo_343, bX12_undo_381, a_ai, a_ald, a_gr, a_iadd, a_iceq, a_ild, a_push, a_wi, sh_71, sh_72, pu_rv, pu_as, Value.category, pu_bk, pu_kl, List.replicate, pu_wi_1, pu_wi_2, nl_add, nl_ladd, nl_aa, nl_mul, nl_rmul, nl_mm, pu_qe0, pu_qe1, f, py_mr_2, py_mr_7, py_mr_w, c, k2]
    all_goals try simp (maxSteps := 400000) (disch := omega) [nl_tle, nl_fle, nl_tlt, nl_flt, nl_teq, nl_feq, nl_sub, nl_ss, nl_lt, nl_llt, nl_ltt, nl_le, nl_lle, nl_lee, nl_eq, nl_leq, nl_ee, nl_div, nl_rem, nl_cl, nl_n1, nl_n2, nl_n3, nl_n4, nl_add, nl_ladd, nl_aa, nl_mul, nl_rmul, nl_mm, pu_wi_1, pu_wi_2, bX12_undo_343, bX12_undo_381, a_ai, a_ald, a_gr, a_iadd, a_iceq, a_ild, a_push, a_wi, sh_71, sh_72, pu_rv, pu_as, Value.category, pu_bk, pu_kl, pu_qe0, pu_qe1, f, py_mr_2, py_mr_7, py_mr_w, c, k2]
theorem r_openNameG_l (hx : pu_fx M) (r : Nat → Int32) (n : Nat) (hn : n ≤ 400) (h7 : r 7 = nI n) (st : Int32) : ∀ m i (v : Int32), i + m = n → ((v = -1) ↔ ¬ ∃ j, j < i ∧ r (7552 + 5 * j) = st ∧ r (7552 + 5 * j + 4) = -1) → ∃ w, ((w = -1) ↔ ¬ ∃ j, j < n ∧ r (7552 + 5 * j) = st ∧ r (7552 + 5 * j + 4) = -1) ∧ pu_r 450 [some (.ref 71), some (.int st), some (.int v), some (.int (nI i))] [] (py_mr M r) = some (some (.int w), py_mr M r)
  | 0, i, v, h, g => by
    have f := fx_71_0 hx
    have e : i = n := by omega
    subst e
    refine ⟨v, g, ?_⟩
    rw [qX12_openName_4]
    simp [bX12_openName_4, bX12_openName_57, bX12_openName_51, bX12_openName_43, a_ai, a_ald, a_gr, a_iadd, a_icge, a_icne, a_ild, a_imul, a_inc, a_iret, a_ist, a_push, sh_71, sh_72, pu_rv, pu_as, Value.category, pu_bk, pu_kl, List.replicate, pu_wi_1, pu_wi_2, nl_add, nl_ladd, nl_aa, nl_mul, nl_rmul, nl_mm, pu_qe0, pu_qe1, f, py_mr_2, py_mr_7, h7]
    all_goals try simp (maxSteps := 400000) (disch := omega) [nl_tle, nl_fle, nl_tlt, nl_flt, nl_teq, nl_feq, nl_sub, nl_ss, nl_lt, nl_llt, nl_ltt, nl_le, nl_lle, nl_lee, nl_eq, nl_leq, nl_ee, nl_div, nl_rem, nl_cl, nl_n1, nl_n2, nl_n3, nl_n4, nl_add, nl_ladd, nl_aa, nl_mul, nl_rmul, nl_mm, pu_wi_1, pu_wi_2, bX12_openName_4, bX12_openName_57, bX12_openName_51, bX12_openName_43, a_ai, a_ald, a_gr, a_iadd, a_icge, a_icne, a_ild, a_imul, a_inc, a_iret, a_ist, a_push, sh_71, sh_72, pu_rv, pu_as, Value.category, pu_bk, pu_kl, pu_qe0, pu_qe1, f, py_mr_2, py_mr_7, h7]
    all_goals try simp [bX12_openName_4, bX12_openName_57, bX12_openName_51, bX12_openName_43, a_ai, a_ald, a_gr, a_iadd, a_icge, a_icne, a_ild, a_imul, a_inc, a_iret, a_ist, a_push, sh_71, sh_72, pu_rv, pu_as, Value.category, pu_bk, pu_kl, List.replicate, pu_wi_1, pu_wi_2, nl_add, nl_ladd, nl_aa, nl_mul, nl_rmul, nl_mm, pu_qe0, pu_qe1, f, py_mr_2, py_mr_7, h7]
    all_goals try simp (maxSteps := 400000) (disch := omega) [nl_tle, nl_fle, nl_tlt, nl_flt, nl_teq, nl_feq, nl_sub, nl_ss, nl_lt, nl_llt, nl_ltt, nl_le, nl_lle, nl_lee, nl_eq, nl_leq, nl_ee, nl_div, nl_rem, nl_cl, nl_n1, nl_n2, nl_n3, nl_n4, nl_add, nl_ladd, nl_aa, nl_mul, nl_rmul, nl_mm, pu_wi_1, pu_wi_2, bX12_openName_4, bX12_openName_57, bX12_openName_51, bX12_openName_43, a_ai, a_ald, a_gr, a_iadd, a_icge, a_icne, a_ild, a_imul, a_inc, a_iret, a_ist, a_push, sh_71, sh_72, pu_rv, pu_as, Value.category, pu_bk, pu_kl, pu_qe0, pu_qe1, f, py_mr_2, py_mr_7, h7]
  | m + 1, i, v, h, g => by
    have f := fx_71_0 hx
    have hc : ¬ nI n ≤ nI i := nI_ge (by omega) (by omega)
    by_cases c1 : r (7552 + 5 * i) = st
    · by_cases c2 : r (7552 + 5 * i + 4) = -1
      · obtain ⟨w, w1, w2⟩ := r_openNameG_l hx r n hn h7 st m (i + 1) (nI i) (by omega) ⟨fun z => by
          rw [nl_n1 i (by omega)] at z
          exact z.elim, fun z => absurd ⟨i, by omega, c1, c2⟩ z⟩
        refine ⟨w, w1, ?_⟩
        rw [qX12_openName_4]
        simp [bX12_openName_4, bX12_openName_57, bX12_openName_51, bX12_openName_43, a_ai, a_ald, a_gr, a_iadd, a_icge, a_icne, a_ild, a_imul, a_inc, a_iret, a_ist, a_push, sh_71, sh_72, pu_rv, pu_as, Value.category, pu_bk, pu_kl, List.replicate, pu_wi_1, pu_wi_2, nl_add, nl_ladd, nl_aa, nl_mul, nl_rmul, nl_mm, pu_qe0, pu_qe1, f, py_mr_2, py_mr_7, h7, hc, c1, c2, w2]
        all_goals try simp (maxSteps := 400000) (disch := omega) [nl_tle, nl_fle, nl_tlt, nl_flt, nl_teq, nl_feq, nl_sub, nl_ss, nl_lt, nl_llt, nl_ltt, nl_le, nl_lle, nl_lee, nl_eq, nl_leq, nl_ee, nl_div, nl_rem, nl_cl, nl_n1, nl_n2, nl_n3, nl_n4, nl_add, nl_ladd, nl_aa, nl_mul, nl_rmul, nl_mm, pu_wi_1, pu_wi_2, bX12_openName_4, bX12_openName_57, bX12_openName_51, bX12_openName_43, a_ai, a_ald, a_gr, a_iadd, a_icge, a_icne, a_ild, a_imul, a_inc, a_iret, a_ist, a_push, sh_71, sh_72, pu_rv, pu_as, Value.category, pu_bk, pu_kl, pu_qe0, pu_qe1, f, py_mr_2, py_mr_7, h7, hc, c1, c2, w2]
        all_goals try simp [bX12_openName_4, bX12_openName_57, bX12_openName_51, bX12_openName_43, a_ai, a_ald, a_gr, a_iadd, a_icge, a_icne, a_ild, a_imul, a_inc, a_iret, a_ist, a_push, sh_71, sh_72, pu_rv, pu_as, Value.category, pu_bk, pu_kl, List.replicate, pu_wi_1, pu_wi_2, nl_add, nl_ladd, nl_aa, nl_mul, nl_rmul, nl_mm, pu_qe0, pu_qe1, f, py_mr_2, py_mr_7, h7, hc, c1, c2, w2]
        all_goals try simp (maxSteps := 400000) (disch := omega) [nl_tle, nl_fle, nl_tlt, nl_flt, nl_teq, nl_feq, nl_sub, nl_ss, nl_lt, nl_llt, nl_ltt, nl_le, nl_lle, nl_lee, nl_eq, nl_leq, nl_ee, nl_div, nl_rem, nl_cl, nl_n1, nl_n2, nl_n3, nl_n4, nl_add, nl_ladd, nl_aa, nl_mul, nl_rmul, nl_mm, pu_wi_1, pu_wi_2, bX12_openName_4, bX12_openName_57, bX12_openName_51, bX12_openName_43, a_ai, a_ald, a_gr, a_iadd, a_icge, a_icne, a_ild, a_imul, a_inc, a_iret, a_ist, a_push, sh_71, sh_72, pu_rv, pu_as, Value.category, pu_bk, pu_kl, pu_qe0, pu_qe1, f, py_mr_2, py_mr_7, h7, hc, c1, c2, w2]
      · obtain ⟨w, w1, w2⟩ := r_openNameG_l hx r n hn h7 st m (i + 1) v (by omega) (g.trans ⟨fun z ⟨j, j1, j2, j3⟩ => z ⟨j, by
          have : j ≠ i := fun q => by
            subst q
            exact c2 j3
          omega, j2, j3⟩, fun z ⟨j, j1, j2⟩ => z ⟨j, by omega, j2⟩⟩)
        refine ⟨w, w1, ?_⟩
        rw [qX12_openName_4]
        simp [bX12_openName_4, bX12_openName_57, bX12_openName_51, bX12_openName_43, a_ai, a_ald, a_gr, a_iadd, a_icge, a_icne, a_ild, a_imul, a_inc, a_iret, a_ist, a_push, sh_71, sh_72, pu_rv, pu_as, Value.category, pu_bk, pu_kl, List.replicate, pu_wi_1, pu_wi_2, nl_add, nl_ladd, nl_aa, nl_mul, nl_rmul, nl_mm, pu_qe0, pu_qe1, f, py_mr_2, py_mr_7, h7, hc, c1, c2, w2]
        all_goals try simp (maxSteps := 400000) (disch := omega) [nl_tle, nl_fle, nl_tlt, nl_flt, nl_teq, nl_feq, nl_sub, nl_ss, nl_lt, nl_llt, nl_ltt, nl_le, nl_lle, nl_lee, nl_eq, nl_leq, nl_ee, nl_div, nl_rem, nl_cl, nl_n1, nl_n2, nl_n3, nl_n4, nl_add, nl_ladd, nl_aa, nl_mul, nl_rmul, nl_mm, pu_wi_1, pu_wi_2, bX12_openName_4, bX12_openName_57, bX12_openName_51, bX12_openName_43, a_ai, a_ald, a_gr, a_iadd, a_icge, a_icne, a_ild, a_imul, a_inc, a_iret, a_ist, a_push, sh_71, sh_72, pu_rv, pu_as, Value.category, pu_bk, pu_kl, pu_qe0, pu_qe1, f, py_mr_2, py_mr_7, h7, hc, c1, c2, w2]
        all_goals try simp [bX12_openName_4, bX12_openName_57, bX12_openName_51, bX12_openName_43, a_ai, a_ald, a_gr, a_iadd, a_icge, a_icne, a_ild, a_imul, a_inc, a_iret, a_ist, a_push, sh_71, sh_72, pu_rv, pu_as, Value.category, pu_bk, pu_kl, List.replicate, pu_wi_1, pu_wi_2, nl_add, nl_ladd, nl_aa, nl_mul, nl_rmul, nl_mm, pu_qe0, pu_qe1, f, py_mr_2, py_mr_7, h7, hc, c1, c2, w2]
        all_goals try simp (maxSteps := 400000) (disch := omega) [nl_tle, nl_fle, nl_tlt, nl_flt, nl_teq, nl_feq, nl_sub, nl_ss, nl_lt, nl_llt, nl_ltt, nl_le, nl_lle, nl_lee, nl_eq, nl_leq, nl_ee, nl_div, nl_rem, nl_cl, nl_n1, nl_n2, nl_n3, nl_n4, nl_add, nl_ladd, nl_aa, nl_mul, nl_rmul, nl_mm, pu_wi_1, pu_wi_2, bX12_openName_4, bX12_openName_57, bX12_openName_51, bX12_openName_43, a_ai, a_ald, a_gr, a_iadd, a_icge, a_icne, a_ild, a_imul, a_inc, a_iret, a_ist, a_push, sh_71, sh_72, pu_rv, pu_as, Value.category, pu_bk, pu_kl, pu_qe0, pu_qe1, f, py_mr_2, py_mr_7, h7, hc, c1, c2, w2]
    · obtain ⟨w, w1, w2⟩ := r_openNameG_l hx r n hn h7 st m (i + 1) v (by omega) (g.trans ⟨fun z ⟨j, j1, j2, j3⟩ => z ⟨j, by
        have : j ≠ i := fun q => by
          subst q
          exact c1 j2
        omega, j2, j3⟩, fun z ⟨j, j1, j2⟩ => z ⟨j, by omega, j2⟩⟩)
      refine ⟨w, w1, ?_⟩
      rw [qX12_openName_4]
      simp [bX12_openName_4, bX12_openName_57, bX12_openName_51, bX12_openName_43, a_ai, a_ald, a_gr, a_iadd, a_icge, a_icne, a_ild, a_imul, a_inc, a_iret, a_ist, a_push, sh_71, sh_72, pu_rv, pu_as, Value.category, pu_bk, pu_kl, List.replicate, pu_wi_1, pu_wi_2, nl_add, nl_ladd, nl_aa, nl_mul, nl_rmul, nl_mm, pu_qe0, pu_qe1, f, py_mr_2, py_mr_7, h7, hc, c1, w2]
      all_goals try simp (maxSteps := 400000) (disch := omega) [nl_tle, nl_fle, nl_tlt, nl_flt, nl_teq, nl_feq, nl_sub, nl_ss, nl_lt, nl_llt, nl_ltt, nl_le, nl_lle, nl_lee, nl_eq, nl_leq, nl_ee, nl_div, nl_rem, nl_cl, nl_n1, nl_n2, nl_n3, nl_n4, nl_add, nl_ladd, nl_aa, nl_mul, nl_rmul, nl_mm, pu_wi_1, pu_wi_2, bX12_openName_4, bX12_openName_57, bX12_openName_51, bX12_openName_43, a_ai, a_ald, a_gr, a_iadd, a_icge, a_icne, a_ild, a_imul, a_inc, a_iret, a_ist, a_push, sh_71, sh_72, pu_rv, pu_as, Value.category, pu_bk, pu_kl, pu_qe0, pu_qe1, f, py_mr_2, py_mr_7, h7, hc, c1, w2]
      all_goals try simp [bX12_openName_4, bX12_openName_57, bX12_openName_51, bX12_openName_43, a_ai, a_ald, a_gr, a_iadd, a_icge, a_icne, a_ild, a_imul, a_inc, a_iret, a_ist, a_push, sh_71, sh_72, pu_rv, pu_as, Value.category, pu_bk, pu_kl, List.replicate, pu_wi_1, pu_wi_2, nl_add, nl_ladd, nl_aa, nl_mul, nl_rmul, nl_mm, pu_qe0, pu_qe1, f, py_mr_2, py_mr_7, h7, hc, c1, w2]
      all_goals try simp (maxSteps := 400000) (disch := omega) [nl_tle, nl_fle, nl_tlt, nl_flt, nl_teq, nl_feq, nl_sub, nl_ss, nl_lt, nl_llt, nl_ltt, nl_le, nl_lle, nl_lee, nl_eq, nl_leq, nl_ee, nl_div, nl_rem, nl_cl, nl_n1, nl_n2, nl_n3, nl_n4, nl_add, nl_ladd, nl_aa, nl_mul, nl_rmul, nl_mm, pu_wi_1, pu_wi_2, bX12_openName_4, bX12_openName_57, bX12_openName_51, bX12_openName_43, a_ai, a_ald, a_gr, a_iadd, a_icge, a_icne, a_ild, a_imul, a_inc, a_iret, a_ist, a_push, sh_71, sh_72, pu_rv, pu_as, Value.category, pu_bk, pu_kl, pu_qe0, pu_qe1, f, py_mr_2, py_mr_7, h7, hc, c1, w2]
theorem r_openNameG (hx : pu_fx M) (r : Nat → Int32) (n : Nat) (hn : n ≤ 400) (h7 : r 7 = nI n) (st : Int32) : ∃ w, ((w = -1) ↔ ¬ ∃ j, j < n ∧ r (7552 + 5 * j) = st ∧ r (7552 + 5 * j + 4) = -1) ∧ pu_r 253 [some (.ref 71), some (.int st)] [] (py_mr M r) = some (some (.int w), py_mr M r) := by
  obtain ⟨w, w1, w2⟩ := r_openNameG_l hx r n hn h7 st n 0 (-1) (by omega) ⟨fun _ ⟨j, j1, _⟩ => by omega, fun _ => rfl⟩
  refine ⟨w, w1, ?_⟩
  rw [nI_0] at w2
  rw [qX12_openName]
  simp [a_ent, bX12_openName_0, a_ist, a_push, pu_rv, pu_as, Value.category, pu_bk, pu_kl, List.replicate, pu_wi_1, pu_wi_2, nl_add, nl_ladd, nl_aa, nl_mul, nl_rmul, nl_mm, pu_qe0, pu_qe1, w2]
  all_goals try simp (maxSteps := 400000) (disch := omega) [nl_tle, nl_fle, nl_tlt, nl_flt, nl_teq, nl_feq, nl_sub, nl_ss, nl_lt, nl_llt, nl_ltt, nl_le, nl_lle, nl_lee, nl_eq, nl_leq, nl_ee, nl_div, nl_rem, nl_cl, nl_n1, nl_n2, nl_n3, nl_n4, nl_add, nl_ladd, nl_aa, nl_mul, nl_rmul, nl_mm, pu_wi_1, pu_wi_2, bX12_openName_0, a_ist, a_push, pu_rv, pu_as, Value.category, pu_bk, pu_kl, pu_qe0, pu_qe1, w2]
  all_goals try simp [bX12_openName_0, a_ist, a_push, pu_rv, pu_as, Value.category, pu_bk, pu_kl, List.replicate, pu_wi_1, pu_wi_2, nl_add, nl_ladd, nl_aa, nl_mul, nl_rmul, nl_mm, pu_qe0, pu_qe1, w2]
  all_goals try simp (maxSteps := 400000) (disch := omega) [nl_tle, nl_fle, nl_tlt, nl_flt, nl_teq, nl_feq, nl_sub, nl_ss, nl_lt, nl_llt, nl_ltt, nl_le, nl_lle, nl_lee, nl_eq, nl_leq, nl_ee, nl_div, nl_rem, nl_cl, nl_n1, nl_n2, nl_n3, nl_n4, nl_add, nl_ladd, nl_aa, nl_mul, nl_rmul, nl_mm, pu_wi_1, pu_wi_2, bX12_openName_0, a_ist, a_push, pu_rv, pu_as, Value.category, pu_bk, pu_kl, pu_qe0, pu_qe1, w2]
/-- streets that have no name any more -/
theorem r_undoH (hx : pu_fx M) (r : Nat → Int32) (n : Nat) (hn : n ≤ 400) (h7 : r 7 = nI n) (P : Nat) (hP : P < 200) (h5 : r 5 = nI (P + 1)) (u c : Nat) (hc : c ≤ 24) (hu : u = c ∨ u + 1 = c) (h3 : r 3 = nI c) (t : Option Value) (ho : ∀ k, k < c → (k < u ↔ ∃ j, j < n ∧ r (7552 + 5 * j) = nI k ∧ r (7552 + 5 * j + 4) = -1)) : pu_r 487 [some (.ref 71), some (.int p), some (.int at0), t] [] (py_mr M r) = some (some (.int (nI P)), py_mr M (pu_us (pu_us r 3 (nI u)) 5 (nI P))) := by
  have f := fx_71_0 hx
  have pp : nI (P + 1) - 1 = nI P := nI_pred P
  have E : ∀ (q : Nat → Int32), q 7 = nI n → q 5 = nI (P + 1) → (∀ j, 7552 ≤ j → q j = r j) → q 3 = nI u → pu_r 487 [some (.ref 71), some (.int p), some (.int at0), t] [] (py_mr M q) = some (some (.int (nI P)), py_mr M (pu_us q 5 (nI P))) := fun q q7 q5 q0 q3 => by
    by_cases z : u = 0
    · subst z
      rw [nI_0] at q3
      rw [qX12_undo_382]
      simp [bX12_undo_382, bX12_undo_420, a_ai, a_ald, a_cv, a_dup2, a_gr, a_icne, a_ifle, a_iret, a_isub, a_push, a_wi, sh_71, sh_72, pu_rv, pu_as, Value.category, pu_bk, pu_kl, List.replicate, pu_wi_1, pu_wi_2, nl_add, nl_ladd, nl_aa, nl_mul, nl_rmul, nl_mm, pu_qe0, pu_qe1, f, py_mr_2, py_mr_7, py_mr_w, q3, q5, pp, py_us_v]
      all_goals try simp (maxSteps := 400000) (disch := omega) [nl_tle, nl_fle, nl_tlt, nl_flt, nl_teq, nl_feq, nl_sub, nl_ss, nl_lt, nl_llt, nl_ltt, nl_le, nl_lle, nl_lee, nl_eq, nl_leq, nl_ee, nl_div, nl_rem, nl_cl, nl_n1, nl_n2, nl_n3, nl_n4, nl_add, nl_ladd, nl_aa, nl_mul, nl_rmul, nl_mm, pu_wi_1, pu_wi_2, bX12_undo_382, bX12_undo_420, a_ai, a_ald, a_cv, a_dup2, a_gr, a_icne, a_ifle, a_iret, a_isub, a_push, a_wi, sh_71, sh_72, pu_rv, pu_as, Value.category, pu_bk, pu_kl, pu_qe0, pu_qe1, f, py_mr_2, py_mr_7, py_mr_w, q3, q5, pp, py_us_v]
      all_goals try simp [bX12_undo_382, bX12_undo_420, a_ai, a_ald, a_cv, a_dup2, a_gr, a_icne, a_ifle, a_iret, a_isub, a_push, a_wi, sh_71, sh_72, pu_rv, pu_as, Value.category, pu_bk, pu_kl, List.replicate, pu_wi_1, pu_wi_2, nl_add, nl_ladd, nl_aa, nl_mul, nl_rmul, nl_mm, pu_qe0, pu_qe1, f, py_mr_2, py_mr_7, py_mr_w, q3, q5, pp, py_us_v]
      all_goals try simp (maxSteps := 400000) (disch := omega) [nl_tle, nl_fle, nl_tlt, nl_flt, nl_teq, nl_feq, nl_sub, nl_ss, nl_lt, nl_llt, nl_ltt, nl_le, nl_lle, nl_lee, nl_eq, nl_leq, nl_ee, nl_div, nl_rem, nl_cl, nl_n1, nl_n2, nl_n3, nl_n4, nl_add, nl_ladd, nl_aa, nl_mul, nl_rmul, nl_mm, pu_wi_1, pu_wi_2, bX12_undo_382, bX12_undo_420, a_ai, a_ald, a_cv, a_dup2, a_gr, a_icne, a_ifle, a_iret, a_isub, a_push, a_wi, sh_71, sh_72, pu_rv, pu_as, Value.category, pu_bk, pu_kl, pu_qe0, pu_qe1, f, py_mr_2, py_mr_7, py_mr_w, q3, q5, pp, py_us_v]
    · obtain ⟨l, rfl⟩ : ∃ l, u = l + 1 := ⟨u - 1, by omega⟩
      obtain ⟨w, w1, w2⟩ := r_openNameG hx q n hn q7 (nI l)
      have np := py_np (n := l) (by omega)
      have w3 : ¬ w = -1 := fun y => by
        obtain ⟨j, j1, j2, j3⟩ := (ho l (by omega)).mp (by omega)
        exact w1.mp y ⟨j, j1, by rw [q0 _ (by omega)]; exact j2, by rw [q0 _ (by omega)]; exact j3⟩
      rw [qX12_undo_382]
      simp [bX12_undo_382, bX12_undo_420, a_ai, a_ald, a_cv, a_dup2, a_gr, a_icne, a_ifle, a_iret, a_isub, a_push, a_wi, sh_71, sh_72, pu_rv, pu_as, Value.category, pu_bk, pu_kl, List.replicate, pu_wi_1, pu_wi_2, nl_add, nl_ladd, nl_aa, nl_mul, nl_rmul, nl_mm, pu_qe0, pu_qe1, f, py_mr_2, py_mr_7, py_mr_w, q3, q5, pp, np, py_pr, w2, w3, py_us_v]
      all_goals try simp (maxSteps := 400000) (disch := omega) [nl_tle, nl_fle, nl_tlt, nl_flt, nl_teq, nl_feq, nl_sub, nl_ss, nl_lt, nl_llt, nl_ltt, nl_le, nl_lle, nl_lee, nl_eq, nl_leq, nl_ee, nl_div, nl_rem, nl_cl, nl_n1, nl_n2, nl_n3, nl_n4, nl_add, nl_ladd, nl_aa, nl_mul, nl_rmul, nl_mm, pu_wi_1, pu_wi_2, bX12_undo_382, bX12_undo_420, a_ai, a_ald, a_cv, a_dup2, a_gr, a_icne, a_ifle, a_iret, a_isub, a_push, a_wi, sh_71, sh_72, pu_rv, pu_as, Value.category, pu_bk, pu_kl, pu_qe0, pu_qe1, f, py_mr_2, py_mr_7, py_mr_w, q3, q5, pp, np, py_pr, w2, w3, py_us_v]
      all_goals try simp [bX12_undo_382, bX12_undo_420, a_ai, a_ald, a_cv, a_dup2, a_gr, a_icne, a_ifle, a_iret, a_isub, a_push, a_wi, sh_71, sh_72, pu_rv, pu_as, Value.category, pu_bk, pu_kl, List.replicate, pu_wi_1, pu_wi_2, nl_add, nl_ladd, nl_aa, nl_mul, nl_rmul, nl_mm, pu_qe0, pu_qe1, f, py_mr_2, py_mr_7, py_mr_w, q3, q5, pp, np, py_pr, w2, w3, py_us_v]
      all_goals try simp (maxSteps := 400000) (disch := omega) [nl_tle, nl_fle, nl_tlt, nl_flt, nl_teq, nl_feq, nl_sub, nl_ss, nl_lt, nl_llt, nl_ltt, nl_le, nl_lle, nl_lee, nl_eq, nl_leq, nl_ee, nl_div, nl_rem, nl_cl, nl_n1, nl_n2, nl_n3, nl_n4, nl_add, nl_ladd, nl_aa, nl_mul, nl_rmul, nl_mm, pu_wi_1, pu_wi_2, bX12_undo_382, bX12_undo_420, a_ai, a_ald, a_cv, a_dup2, a_gr, a_icne, a_ifle, a_iret, a_isub, a_push, a_wi, sh_71, sh_72, pu_rv, pu_as, Value.category, pu_bk, pu_kl, pu_qe0, pu_qe1, f, py_mr_2, py_mr_7, py_mr_w, q3, q5, pp, np, py_pr, w2, w3, py_us_v]
  rcases hu with hu | hu
  · subst hu
    rw [py_us_i h3]
    exact E r h7 h5 (fun _ _ => rfl) h3
  · subst hu
    obtain ⟨w, w1, w2⟩ := r_openNameG hx r n hn h7 (nI u)
    have np := py_np (n := u) (by omega)
    have w3 : w = -1 := w1.mpr (fun y => by
      have := (ho u (by omega)).mpr y
      omega)
    have e := E (pu_us r 3 (nI u)) (by rw [py_us_o (by omega)]; exact h7) (by rw [py_us_o (by omega)]; exact h5) (fun j hj => py_us_o (by omega)) py_us_v
    rw [qX12_undo_382]
    simp [bX12_undo_382, bX12_undo_420, a_ai, a_ald, a_cv, a_dup2, a_gr, a_icne, a_ifle, a_iret, a_isub, a_push, a_wi, sh_71, sh_72, pu_rv, pu_as, Value.category, pu_bk, pu_kl, List.replicate, pu_wi_1, pu_wi_2, nl_add, nl_ladd, nl_aa, nl_mul, nl_rmul, nl_mm, pu_qe0, pu_qe1, f, py_mr_2, py_mr_7, py_mr_w, h3, np, py_pr, w2, w3, e]
    all_goals try simp (maxSteps := 400000) (disch := omega) [nl_tle, nl_fle, nl_tlt, nl_flt, nl_teq, nl_feq, nl_sub, nl_ss, nl_lt, nl_llt, nl_ltt, nl_le, nl_lle, nl_lee, nl_eq, nl_leq, nl_ee, nl_div, nl_rem, nl_cl, nl_n1, nl_n2, nl_n3, nl_n4, nl_add, nl_ladd, nl_aa, nl_mul, nl_rmul, nl_mm, pu_wi_1, pu_wi_2, bX12_undo_382, bX12_undo_420, a_ai, a_ald, a_cv, a_dup2, a_gr, a_icne, a_ifle, a_iret, a_isub, a_push, a_wi, sh_71, sh_72, pu_rv, pu_as, Value.category, pu_bk, pu_kl, pu_qe0, pu_qe1, f, py_mr_2, py_mr_7, py_mr_w, h3, np, py_pr, w2, w3, e]
    all_goals try simp [bX12_undo_382, bX12_undo_420, a_ai, a_ald, a_cv, a_dup2, a_gr, a_icne, a_ifle, a_iret, a_isub, a_push, a_wi, sh_71, sh_72, pu_rv, pu_as, Value.category, pu_bk, pu_kl, List.replicate, pu_wi_1, pu_wi_2, nl_add, nl_ladd, nl_aa, nl_mul, nl_rmul, nl_mm, pu_qe0, pu_qe1, f, py_mr_2, py_mr_7, py_mr_w, h3, np, py_pr, w2, w3, e]
    all_goals try simp (maxSteps := 400000) (disch := omega) [nl_tle, nl_fle, nl_tlt, nl_flt, nl_teq, nl_feq, nl_sub, nl_ss, nl_lt, nl_llt, nl_ltt, nl_le, nl_lle, nl_lee, nl_eq, nl_leq, nl_ee, nl_div, nl_rem, nl_cl, nl_n1, nl_n2, nl_n3, nl_n4, nl_add, nl_ladd, nl_aa, nl_mul, nl_rmul, nl_mm, pu_wi_1, pu_wi_2, bX12_undo_382, bX12_undo_420, a_ai, a_ald, a_cv, a_dup2, a_gr, a_icne, a_ifle, a_iret, a_isub, a_push, a_wi, sh_71, sh_72, pu_rv, pu_as, Value.category, pu_bk, pu_kl, pu_qe0, pu_qe1, f, py_mr_2, py_mr_7, py_mr_w, h3, np, py_pr, w2, w3, e]
end
