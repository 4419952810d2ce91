/-! OUT: words, names, numbers -/
theorem py_wv_g : ∀ (ds : List Nat) (v : Nat), ds.foldl (fun v d => v * 27 + (d + 1)) v = v * 27 ^ ds.length + pu_wv ds
  | [], v => by simp [pu_wv]
  | d :: ds, v => by
    have a := py_wv_g ds (v * 27 + (d + 1))
    have b := py_wv_g ds (0 * 27 + (d + 1))
    have e : pu_wv (d :: ds) = ds.foldl (fun v d => v * 27 + (d + 1)) (0 * 27 + (d + 1)) := rfl
    rw [List.foldl_cons, a, e, b, List.length_cons, Nat.pow_succ]
    generalize 27 ^ ds.length = X
    generalize pu_wv ds = Y
    rw [Nat.zero_mul, Nat.zero_add, Nat.add_mul (v * 27) (d + 1) X, Nat.mul_assoc v 27 X, Nat.mul_comm 27 X, Nat.add_assoc]
theorem py_wv_c (d : Nat) (ds : List Nat) : pu_wv (d :: ds) = (d + 1) * 27 ^ ds.length + pu_wv ds := by
  have e : pu_wv (d :: ds) = ds.foldl (fun v d => v * 27 + (d + 1)) (0 * 27 + (d + 1)) := rfl
  rw [e, py_wv_g, Nat.zero_mul, Nat.zero_add]
theorem py_wv_l {ds : List Nat} (h : ∀ d ∈ ds, d < 26) : pu_wv ds < 27 ^ ds.length := by
  have := py_wr_b ds.reverse (fun d hd => h d (List.mem_reverse.mp hd))
  rw [← py_wv_r, List.length_reverse] at this
  omega
def py_sp : Nat → Nat
  | 0 => 0
  | m + 1 => 27 ^ m
theorem py_cmp1 {a : Nat} (h : 0 < a) (h2 : a < 2 ^ 63) : lg_cmp (lN a) 0 = 1 := by
  unfold lg_cmp
  have : lN a > 0 := (pk_lLT (a := 0) (b := a) (by omega) h2).mpr h
  rw [if_pos this]
theorem py_27 {m : Nat} (h : m ≤ 12) : 0 < 27 ^ m ∧ 27 ^ m < 2 ^ 63 := by
  have : 27 ^ m ≤ 27 ^ 12 := Nat.pow_le_pow_right (by omega) h
  have e : (27 : Nat) ^ 12 < 2 ^ 63 := by decide
  exact ⟨Nat.pow_pos (by omega), by omega⟩
/-- the bytes of a word -/
def py_wb (ds : List Nat) : List Int32 := ds.map (fun d => nI (97 + d))
theorem c_pw_l (W : Int64) : ∀ (m : Nat) (ds : List Nat) (n : Nat) (N : pu_M) (t : Option Value), ds.length ≤ m → m ≤ 12 → (∀ d ∈ ds, d < 26) → pu_fx N → N.1 3 0 = nI n → n + ds.length ≤ 1200 → pu_r 395 [some (.ref 3), some (.long W), none, some (.long (lN (pu_wv ds))), none, some (.long (lN (py_sp m))), none, t, none] [] N = some (none, pz_cw N n (py_wb ds))
  | 0, ds, n, N, t, hl, hm, hd, hx, hn, hc => by
    have e : ds = [] := List.eq_nil_of_length_eq_zero (by omega)
    subst e
    have c0 : lg_cmp (lN (py_sp 0)) 0 ≤ 0 := by decide
    show _ = some (none, N)
    rw [qX0_putWord_7]
    simp [bX0_putWord_7, bX0_putWord_58, bX0_putWord_47, bX0_putWord_43, a_ald, a_cv, a_iadd, a_ifle, a_isub, a_l2i, a_lcmp, a_ldiv, a_lld, a_lmul, a_lst, a_lsub, a_push, a_vret, sh_1, sh_3, pu_rv, pu_as, Value.category, pu_bk, pu_kl, List.replicate, pu_wi_1, pu_wi_2, nl_add, nl_ladd, nl_aa, nl_mul, nl_rmul, nl_mm, pu_qe0, pu_qe1, c0]
    all_goals try simp (maxSteps := 400000) (disch := omega) [nl_tle, nl_fle, nl_tlt, nl_flt, nl_teq, nl_feq, nl_sub, nl_ss, nl_lt, nl_llt, nl_ltt, nl_le, nl_lle, nl_lee, nl_eq, nl_leq, nl_ee, nl_div, nl_rem, nl_cl, nl_n1, nl_n2, nl_n3, nl_n4, nl_add, nl_ladd, nl_aa, nl_mul, nl_rmul, nl_mm, pu_wi_1, pu_wi_2, bX0_putWord_7, bX0_putWord_58, bX0_putWord_47, bX0_putWord_43, a_ald, a_cv, a_iadd, a_ifle, a_isub, a_l2i, a_lcmp, a_ldiv, a_lld, a_lmul, a_lst, a_lsub, a_push, a_vret, sh_1, sh_3, pu_rv, pu_as, Value.category, pu_bk, pu_kl, pu_qe0, pu_qe1, c0]
    all_goals try simp [bX0_putWord_7, bX0_putWord_58, bX0_putWord_47, bX0_putWord_43, a_ald, a_cv, a_iadd, a_ifle, a_isub, a_l2i, a_lcmp, a_ldiv, a_lld, a_lmul, a_lst, a_lsub, a_push, a_vret, sh_1, sh_3, pu_rv, pu_as, Value.category, pu_bk, pu_kl, List.replicate, pu_wi_1, pu_wi_2, nl_add, nl_ladd, nl_aa, nl_mul, nl_rmul, nl_mm, pu_qe0, pu_qe1, c0]
    all_goals try simp (maxSteps := 400000) (disch := omega) [nl_tle, nl_fle, nl_tlt, nl_flt, nl_teq, nl_feq, nl_sub, nl_ss, nl_lt, nl_llt, nl_ltt, nl_le, nl_lle, nl_lee, nl_eq, nl_leq, nl_ee, nl_div, nl_rem, nl_cl, nl_n1, nl_n2, nl_n3, nl_n4, nl_add, nl_ladd, nl_aa, nl_mul, nl_rmul, nl_mm, pu_wi_1, pu_wi_2, bX0_putWord_7, bX0_putWord_58, bX0_putWord_47, bX0_putWord_43, a_ald, a_cv, a_iadd, a_ifle, a_isub, a_l2i, a_lcmp, a_ldiv, a_lld, a_lmul, a_lst, a_lsub, a_push, a_vret, sh_1, sh_3, pu_rv, pu_as, Value.category, pu_bk, pu_kl, pu_qe0, pu_qe1, c0]
    all_goals try simp [bX0_putWord_7, bX0_putWord_58, bX0_putWord_47, bX0_putWord_43, a_ald, a_cv, a_iadd, a_ifle, a_isub, a_l2i, a_lcmp, a_ldiv, a_lld, a_lmul, a_lst, a_lsub, a_push, a_vret, sh_1, sh_3, pu_rv, pu_as, Value.category, pu_bk, pu_kl, List.replicate, pu_wi_1, pu_wi_2, nl_add, nl_ladd, nl_aa, nl_mul, nl_rmul, nl_mm, pu_qe0, pu_qe1, c0]
    all_goals try simp (maxSteps := 400000) (disch := omega) [nl_tle, nl_fle, nl_tlt, nl_flt, nl_teq, nl_feq, nl_sub, nl_ss, nl_lt, nl_llt, nl_ltt, nl_le, nl_lle, nl_lee, nl_eq, nl_leq, nl_ee, nl_div, nl_rem, nl_cl, nl_n1, nl_n2, nl_n3, nl_n4, nl_add, nl_ladd, nl_aa, nl_mul, nl_rmul, nl_mm, pu_wi_1, pu_wi_2, bX0_putWord_7, bX0_putWord_58, bX0_putWord_47, bX0_putWord_43, a_ald, a_cv, a_iadd, a_ifle, a_isub, a_l2i, a_lcmp, a_ldiv, a_lld, a_lmul, a_lst, a_lsub, a_push, a_vret, sh_1, sh_3, pu_rv, pu_as, Value.category, pu_bk, pu_kl, pu_qe0, pu_qe1, c0]
    all_goals try simp [bX0_putWord_7, bX0_putWord_58, bX0_putWord_47, bX0_putWord_43, a_ald, a_cv, a_iadd, a_ifle, a_isub, a_l2i, a_lcmp, a_ldiv, a_lld, a_lmul, a_lst, a_lsub, a_push, a_vret, sh_1, sh_3, pu_rv, pu_as, Value.category, pu_bk, pu_kl, List.replicate, pu_wi_1, pu_wi_2, nl_add, nl_ladd, nl_aa, nl_mul, nl_rmul, nl_mm, pu_qe0, pu_qe1, c0]
  | m + 1, ds, n, N, t, hl, hm, hd, hx, hn, hc => by
    obtain ⟨p1, p2⟩ := py_27 (m := m) (by omega)
    have c0 : lg_cmp (lN (py_sp (m + 1))) 0 = 1 := py_cmp1 p1 p2
    have ne : ¬ lN (py_sp (m + 1)) = 0 := fun q => by
      have : lN (27 ^ m) = lN 0 := q
      rw [pk_lEQ p2 (by decide)] at this
      have : 27 ^ m = 0 := this
      omega
    have st : lN (py_sp (m + 1)) / 27 = lN (py_sp m) := by
      have e : lN (py_sp (m + 1)) / lN 27 = lN (27 ^ m / 27) := pk_lDiv p2 (by decide) (by decide)
      have e2 : 27 ^ m / 27 = py_sp m := by
        cases m with
        | zero => rfl
        | succ k =>
          show 27 ^ (k + 1) / 27 = 27 ^ k
          rw [Nat.pow_succ]
          exact Nat.mul_div_cancel _ (by omega)
      rw [← e2]
      exact e
    have wl := py_wv_l hd
    have w63 : pu_wv ds < 2 ^ 63 := py_wv_b (by omega) hd
    by_cases z : ds.length = m + 1
    · cases ds with
      | nil => exact absurd z (by simp)
      | cons d rs =>
        have lr : rs.length = m := by
          rw [List.length_cons] at z
          omega
        have hr : ∀ x ∈ rs, x < 26 := fun x hx => hd x (List.mem_cons_of_mem _ hx)
        have d1 := hd d List.mem_cons_self
        have wr := py_wv_l hr
        rw [lr] at wr
        have wc := py_wv_c d rs
        rw [lr] at wc
        have q1 : pu_wv (d :: rs) / 27 ^ m = d + 1 := by
          rw [wc, Nat.add_comm, Nat.add_mul_div_right _ _ p1, Nat.div_eq_of_lt wr, Nat.zero_add]
        have q : lN (pu_wv (d :: rs)) / lN (py_sp (m + 1)) = lN (d + 1) := by
          rw [show py_sp (m + 1) = 27 ^ m from rfl, pk_lDiv w63 p1 p2, q1]
        have s1 : lN (pu_wv (d :: rs)) - lN (d + 1) * lN (py_sp (m + 1)) = lN (pu_wv rs) := by
          rw [show py_sp (m + 1) = 27 ^ m from rfl, lN_mul, lN_sub (by omega), wc, Nat.add_sub_cancel_left]
        have c1 : lg_cmp (lN (d + 1)) 0 = 1 := py_cmp1 (by omega) (by omega)
        have i1 := lN_i (d + 1)
        rw [List.length_cons] at hc
        have pt := c_put hx n (nI (97 + d)) hn (by omega)
        have ih := c_pw_l W m rs (n + 1) (pz_cp N n (nI (97 + d))) (some (.long (lN (d + 1)))) (by omega) (by omega) hr (pz_fx_of hx rfl) (pz_cp_3 _ _ _) (by omega)
        show _ = some (none, pz_cw (pz_cp N n (nI (97 + d))) (n + 1) (py_wb rs))
        rw [← ih]
        rw [qX0_putWord_7]
        simp [bX0_putWord_7, bX0_putWord_58, bX0_putWord_47, bX0_putWord_43, a_ald, a_cv, a_iadd, a_ifle, a_isub, a_l2i, a_lcmp, a_ldiv, a_lld, a_lmul, a_lst, a_lsub, a_push, a_vret, sh_1, sh_3, pu_rv, pu_as, Value.category, pu_bk, pu_kl, List.replicate, pu_wi_1, pu_wi_2, nl_add, nl_ladd, nl_aa, nl_mul, nl_rmul, nl_mm, pu_qe0, pu_qe1, c0, ne, q, s1, c1, i1, pt, st]
        all_goals try simp (maxSteps := 400000) (disch := omega) [nl_tle, nl_fle, nl_tlt, nl_flt, nl_teq, nl_feq, nl_sub, nl_ss, nl_lt, nl_llt, nl_ltt, nl_le, nl_lle, nl_lee, nl_eq, nl_leq, nl_ee, nl_div, nl_rem, nl_cl, nl_n1, nl_n2, nl_n3, nl_n4, nl_add, nl_ladd, nl_aa, nl_mul, nl_rmul, nl_mm, pu_wi_1, pu_wi_2, bX0_putWord_7, bX0_putWord_58, bX0_putWord_47, bX0_putWord_43, a_ald, a_cv, a_iadd, a_ifle, a_isub, a_l2i, a_lcmp, a_ldiv, a_lld, a_lmul, a_lst, a_lsub, a_push, a_vret, sh_1, sh_3, pu_rv, pu_as, Value.category, pu_bk, pu_kl, pu_qe0, pu_qe1, c0, ne, q, s1, c1, i1, pt, st]
        all_goals try simp [bX0_putWord_7, bX0_putWord_58, bX0_putWord_47, bX0_putWord_43, a_ald, a_cv, a_iadd, a_ifle, a_isub, a_l2i, a_lcmp, a_ldiv, a_lld, a_lmul, a_lst, a_lsub, a_push, a_vret, sh_1, sh_3, pu_rv, pu_as, Value.category, pu_bk, pu_kl, List.replicate, pu_wi_1, pu_wi_2, nl_add, nl_ladd, nl_aa, nl_mul, nl_rmul, nl_mm, pu_qe0, pu_qe1, c0, ne, q, s1, c1, i1, pt, st]
        all_goals try simp (maxSteps := 400000) (disch := omega) [nl_tle, nl_fle, nl_tlt, nl_flt, nl_teq, nl_feq, nl_sub, nl_ss, nl_lt, nl_llt, nl_ltt, nl_le, nl_lle, nl_lee, nl_eq, nl_leq, nl_ee, nl_div, nl_rem, nl_cl, nl_n1, nl_n2, nl_n3, nl_n4, nl_add, nl_ladd, nl_aa, nl_mul, nl_rmul, nl_mm, pu_wi_1, pu_wi_2, bX0_putWord_7, bX0_putWord_58, bX0_putWord_47, bX0_putWord_43, a_ald, a_cv, a_iadd, a_ifle, a_isub, a_l2i, a_lcmp, a_ldiv, a_lld, a_lmul, a_lst, a_lsub, a_push, a_vret, sh_1, sh_3, pu_rv, pu_as, Value.category, pu_bk, pu_kl, pu_qe0, pu_qe1, c0, ne, q, s1, c1, i1, pt, st]
        all_goals try simp [bX0_putWord_7, bX0_putWord_58, bX0_putWord_47, bX0_putWord_43, a_ald, a_cv, a_iadd, a_ifle, a_isub, a_l2i, a_lcmp, a_ldiv, a_lld, a_lmul, a_lst, a_lsub, a_push, a_vret, sh_1, sh_3, pu_rv, pu_as, Value.category, pu_bk, pu_kl, List.replicate, pu_wi_1, pu_wi_2, nl_add, nl_ladd, nl_aa, nl_mul, nl_rmul, nl_mm, pu_qe0, pu_qe1, c0, ne, q, s1, c1, i1, pt, st]
        all_goals try simp (maxSteps := 400000) (disch := omega) [nl_tle, nl_fle, nl_tlt, nl_flt, nl_teq, nl_feq, nl_sub, nl_ss, nl_lt, nl_llt, nl_ltt, nl_le, nl_lle, nl_lee, nl_eq, nl_leq, nl_ee, nl_div, nl_rem, nl_cl, nl_n1, nl_n2, nl_n3, nl_n4, nl_add, nl_ladd, nl_aa, nl_mul, nl_rmul, nl_mm, pu_wi_1, pu_wi_2, bX0_putWord_7, bX0_putWord_58, bX0_putWord_47, bX0_putWord_43, a_ald, a_cv, a_iadd, a_ifle, a_isub, a_l2i, a_lcmp, a_ldiv, a_lld, a_lmul, a_lst, a_lsub, a_push, a_vret, sh_1, sh_3, pu_rv, pu_as, Value.category, pu_bk, pu_kl, pu_qe0, pu_qe1, c0, ne, q, s1, c1, i1, pt, st]
        all_goals try simp [bX0_putWord_7, bX0_putWord_58, bX0_putWord_47, bX0_putWord_43, a_ald, a_cv, a_iadd, a_ifle, a_isub, a_l2i, a_lcmp, a_ldiv, a_lld, a_lmul, a_lst, a_lsub, a_push, a_vret, sh_1, sh_3, pu_rv, pu_as, Value.category, pu_bk, pu_kl, List.replicate, pu_wi_1, pu_wi_2, nl_add, nl_ladd, nl_aa, nl_mul, nl_rmul, nl_mm, pu_qe0, pu_qe1, c0, ne, q, s1, c1, i1, pt, st]
    · have lm : ds.length ≤ m := by omega
      have pm : 27 ^ ds.length ≤ 27 ^ m := Nat.pow_le_pow_right (by omega) lm
      have q : lN (pu_wv ds) / lN (py_sp (m + 1)) = lN 0 := by
        rw [show py_sp (m + 1) = 27 ^ m from rfl, pk_lDiv w63 p1 p2, Nat.div_eq_of_lt (by omega)]
      have s1 : lN (pu_wv ds) - lN 0 * lN (py_sp (m + 1)) = lN (pu_wv ds) := by
        rw [lN_mul, Nat.zero_mul, lN_sub (by omega), Nat.sub_zero]
      have c1 : lg_cmp (lN 0) 0 = 0 := by decide
      have ih := c_pw_l W m ds n N (some (.long (lN 0))) lm (by omega) hd hx hn hc
      rw [← ih]
      rw [qX0_putWord_7]
      simp [bX0_putWord_7, bX0_putWord_58, bX0_putWord_47, bX0_putWord_43, a_ald, a_cv, a_iadd, a_ifle, a_isub, a_l2i, a_lcmp, a_ldiv, a_lld, a_lmul, a_lst, a_lsub, a_push, a_vret, sh_1, sh_3, pu_rv, pu_as, Value.category, pu_bk, pu_kl, List.replicate, pu_wi_1, pu_wi_2, nl_add, nl_ladd, nl_aa, nl_mul, nl_rmul, nl_mm, pu_qe0, pu_qe1, c0, ne, q, s1, c1, st]
      all_goals try simp (maxSteps := 400000) (disch := omega) [nl_tle, nl_fle, nl_tlt, nl_flt, nl_teq, nl_feq, nl_sub, nl_ss, nl_lt, nl_llt, nl_ltt, nl_le, nl_lle, nl_lee, nl_eq, nl_leq, nl_ee, nl_div, nl_rem, nl_cl, nl_n1, nl_n2, nl_n3, nl_n4, nl_add, nl_ladd, nl_aa, nl_mul, nl_rmul, nl_mm, pu_wi_1, pu_wi_2, bX0_putWord_7, bX0_putWord_58, bX0_putWord_47, bX0_putWord_43, a_ald, a_cv, a_iadd, a_ifle, a_isub, a_l2i, a_lcmp, a_ldiv, a_lld, a_lmul, a_lst, a_lsub, a_push, a_vret, sh_1, sh_3, pu_rv, pu_as, Value.category, pu_bk, pu_kl, pu_qe0, pu_qe1, c0, ne, q, s1, c1, st]
      all_goals try simp [bX0_putWord_7, bX0_putWord_58, bX0_putWord_47, bX0_putWord_43, a_ald, a_cv, a_iadd, a_ifle, a_isub, a_l2i, a_lcmp, a_ldiv, a_lld, a_lmul, a_lst, a_lsub, a_push, a_vret, sh_1, sh_3, pu_rv, pu_as, Value.category, pu_bk, pu_kl, List.replicate, pu_wi_1, pu_wi_2, nl_add, nl_ladd, nl_aa, nl_mul, nl_rmul, nl_mm, pu_qe0, pu_qe1, c0, ne, q, s1, c1, st]
      all_goals try simp (maxSteps := 400000) (disch := omega) [nl_tle, nl_fle, nl_tlt, nl_flt, nl_teq, nl_feq, nl_sub, nl_ss, nl_lt, nl_llt, nl_ltt, nl_le, nl_lle, nl_lee, nl_eq, nl_leq, nl_ee, nl_div, nl_rem, nl_cl, nl_n1, nl_n2, nl_n3, nl_n4, nl_add, nl_ladd, nl_aa, nl_mul, nl_rmul, nl_mm, pu_wi_1, pu_wi_2, bX0_putWord_7, bX0_putWord_58, bX0_putWord_47, bX0_putWord_43, a_ald, a_cv, a_iadd, a_ifle, a_isub, a_l2i, a_lcmp, a_ldiv, a_lld, a_lmul, a_lst, a_lsub, a_push, a_vret, sh_1, sh_3, pu_rv, pu_as, Value.category, pu_bk, pu_kl, pu_qe0, pu_qe1, c0, ne, q, s1, c1, st]
      all_goals try simp [bX0_putWord_7, bX0_putWord_58, bX0_putWord_47, bX0_putWord_43, a_ald, a_cv, a_iadd, a_ifle, a_isub, a_l2i, a_lcmp, a_ldiv, a_lld, a_lmul, a_lst, a_lsub, a_push, a_vret, sh_1, sh_3, pu_rv, pu_as, Value.category, pu_bk, pu_kl, List.replicate, pu_wi_1, pu_wi_2, nl_add, nl_ladd, nl_aa, nl_mul, nl_rmul, nl_mm, pu_qe0, pu_qe1, c0, ne, q, s1, c1, st]
      all_goals try simp (maxSteps := 400000) (disch := omega) [nl_tle, nl_fle, nl_tlt, nl_flt, nl_teq, nl_feq, nl_sub, nl_ss, nl_lt, nl_llt, nl_ltt, nl_le, nl_lle, nl_lee, nl_eq, nl_leq, nl_ee, nl_div, nl_rem, nl_cl, nl_n1, nl_n2, nl_n3, nl_n4, nl_add, nl_ladd, nl_aa, nl_mul, nl_rmul, nl_mm, pu_wi_1, pu_wi_2, bX0_putWord_7, bX0_putWord_58, bX0_putWord_47, bX0_putWord_43, a_ald, a_cv, a_iadd, a_ifle, a_isub, a_l2i, a_lcmp, a_ldiv, a_lld, a_lmul, a_lst, a_lsub, a_push, a_vret, sh_1, sh_3, pu_rv, pu_as, Value.category, pu_bk, pu_kl, pu_qe0, pu_qe1, c0, ne, q, s1, c1, st]
      all_goals try simp [bX0_putWord_7, bX0_putWord_58, bX0_putWord_47, bX0_putWord_43, a_ald, a_cv, a_iadd, a_ifle, a_isub, a_l2i, a_lcmp, a_ldiv, a_lld, a_lmul, a_lst, a_lsub, a_push, a_vret, sh_1, sh_3, pu_rv, pu_as, Value.category, pu_bk, pu_kl, List.replicate, pu_wi_1, pu_wi_2, nl_add, nl_ladd, nl_aa, nl_mul, nl_rmul, nl_mm, pu_qe0, pu_qe1, c0, ne, q, s1, c1, st]
theorem c_putWord {N : pu_M} (hx : pu_fx N) (n : Nat) (hn : N.1 3 0 = nI n) {ds : List Nat} (hl : ds.length ≤ 12) (hd : ∀ d ∈ ds, d < 26) (hc : n + ds.length ≤ 1200) : pu_r 151 [some (.ref 3), some (.long (lN (pu_wv ds))), none] [] N = some (none, pz_cw N n (py_wb ds)) := by
  have e := c_pw_l (lN (pu_wv ds)) 12 ds n N none hl (by omega) hd hx hn hc
  rw [show lN (py_sp 12) = (5559060566555523 : Int64) from by decide] at e
  rw [qX0_putWord]
  simp [a_ent, bX0_putWord_0, a_lld, a_lst, a_push, pu_rv, pu_as, Value.category, pu_bk, pu_kl, List.replicate, pu_wi_1, pu_wi_2, nl_add, nl_ladd, nl_aa, nl_mul, nl_rmul, nl_mm, pu_qe0, pu_qe1, e]
  all_goals try simp (maxSteps := 400000) (disch := omega) [nl_tle, nl_fle, nl_tlt, nl_flt, nl_teq, nl_feq, nl_sub, nl_ss, nl_lt, nl_llt, nl_ltt, nl_le, nl_lle, nl_lee, nl_eq, nl_leq, nl_ee, nl_div, nl_rem, nl_cl, nl_n1, nl_n2, nl_n3, nl_n4, nl_add, nl_ladd, nl_aa, nl_mul, nl_rmul, nl_mm, pu_wi_1, pu_wi_2, bX0_putWord_0, a_lld, a_lst, a_push, pu_rv, pu_as, Value.category, pu_bk, pu_kl, pu_qe0, pu_qe1, e]
  all_goals try simp [bX0_putWord_0, a_lld, a_lst, a_push, pu_rv, pu_as, Value.category, pu_bk, pu_kl, List.replicate, pu_wi_1, pu_wi_2, nl_add, nl_ladd, nl_aa, nl_mul, nl_rmul, nl_mm, pu_qe0, pu_qe1, e]
  all_goals try simp (maxSteps := 400000) (disch := omega) [nl_tle, nl_fle, nl_tlt, nl_flt, nl_teq, nl_feq, nl_sub, nl_ss, nl_lt, nl_llt, nl_ltt, nl_le, nl_lle, nl_lee, nl_eq, nl_leq, nl_ee, nl_div, nl_rem, nl_cl, nl_n1, nl_n2, nl_n3, nl_n4, nl_add, nl_ladd, nl_aa, nl_mul, nl_rmul, nl_mm, pu_wi_1, pu_wi_2, bX0_putWord_0, a_lld, a_lst, a_push, pu_rv, pu_as, Value.category, pu_bk, pu_kl, pu_qe0, pu_qe1, e]
  all_goals try simp [bX0_putWord_0, a_lld, a_lst, a_push, pu_rv, pu_as, Value.category, pu_bk, pu_kl, List.replicate, pu_wi_1, pu_wi_2, nl_add, nl_ladd, nl_aa, nl_mul, nl_rmul, nl_mm, pu_qe0, pu_qe1, e]
  all_goals try simp (maxSteps := 400000) (disch := omega) [nl_tle, nl_fle, nl_tlt, nl_flt, nl_teq, nl_feq, nl_sub, nl_ss, nl_lt, nl_llt, nl_ltt, nl_le, nl_lle, nl_lee, nl_eq, nl_leq, nl_ee, nl_div, nl_rem, nl_cl, nl_n1, nl_n2, nl_n3, nl_n4, nl_add, nl_ladd, nl_aa, nl_mul, nl_rmul, nl_mm, pu_wi_1, pu_wi_2, bX0_putWord_0, a_lld, a_lst, a_push, pu_rv, pu_as, Value.category, pu_bk, pu_kl, pu_qe0, pu_qe1, e]
  all_goals try simp [bX0_putWord_0, a_lld, a_lst, a_push, pu_rv, pu_as, Value.category, pu_bk, pu_kl, List.replicate, pu_wi_1, pu_wi_2, nl_add, nl_ladd, nl_aa, nl_mul, nl_rmul, nl_mm, pu_qe0, pu_qe1, e]
/-- the bytes of a name's word w, with the blank ahead of it -/
def py_wl (w : Nat) (ds : List Nat) : List Int32 := (if ds = [] ∨ w = 0 then [] else [32]) ++ py_wb ds
def py_nm (ds : Nat → List Nat) : List Int32 := py_wl 0 (ds 0) ++ (py_wl 1 (ds 1) ++ py_wl 2 (ds 2))
theorem py_wl_l (w : Nat) {ds : List Nat} (h : ds.length ≤ 12) : (py_wl w ds).length ≤ 13 := by
  unfold py_wl py_wb
  rw [List.length_append, List.length_map]
  by_cases c : ds = [] ∨ w = 0
  · rw [if_pos c]
    simp
    omega
  · rw [if_neg c]
    simp
    omega
theorem c_pn_s (a la f j : Nat) (sa : pu_sh a = (3, la)) (hf : f + 3 ≤ la) (hla : la < 5000) (hj : j < 3) {ds : List Nat} (hl : ds.length ≤ 12) (hd : ∀ d ∈ ds, d < 26) {N : pu_M} (hx : pu_fx N) (n : Nat) (hn : N.1 3 0 = nI n) (hc : n + 13 ≤ 1200) (hv : N.2.1 a (f + j) = lN (pu_wv ds)) : pu_r 396 [some (.ref 3), some (.ref a), some (.int (nI f)), some (.int (nI (f + j)))] [] N = pu_r 396 [some (.ref 3), some (.ref a), some (.int (nI f)), some (.int (nI (f + j + 1)))] [] (pz_cw N n (py_wl j ds)) := by
  have n0 : ¬ nI (f + j) < 0 := nI_pos (by omega)
  have l0 : f + j < la := by omega
  have c3 : ¬ nI (f + 3) ≤ nI (f + j) := nI_ge (by omega) (by omega)
  have cl : ¬ nI la ≤ nI (f + j) := nI_ge (by omega) (by omega)
  have nl : Int32.ofNat la = nI la := rfl
  by_cases z : ds = []
  · subst z
    have w0 : N.2.1 a (f + j) = 0 := hv
    have c1 : lg_cmp 0 0 = 0 := by decide
    have pw := c_putWord hx n hn (ds := []) (by simp) (by simp) (by simp; omega)
    have pw0 : pu_r 151 [some (.ref 3), some (.long 0), none] [] N = some (none, N) := pw
    rw [show py_wl j [] = [] by simp [py_wl, py_wb], show pz_cw N n [] = N from rfl]
    rw [qX0_putName_2]
    simp [bX0_putName_2, bX0_putName_51, bX0_putName_38, a_al, a_ald, a_cv, a_iadd, a_icge, a_icle, a_ifeq, a_iflt, a_ild, a_inc, a_lcmp, a_len, a_push, a_vret, sh_1, sh_3, pu_rv, pu_as, Value.category, pu_bk, pu_kl, List.replicate, pu_wi_1, pu_wi_2, nl_add, nl_ladd, nl_aa, nl_mul, nl_rmul, nl_mm, pu_qe0, pu_qe1, sa, n0, l0, c3, cl, nl, w0, c1, pw0]
    all_goals try simp (maxSteps := 400000) (disch := omega) [nl_tle, nl_fle, nl_tlt, nl_flt, nl_teq, nl_feq, nl_sub, nl_ss, nl_lt, nl_llt, nl_ltt, nl_le, nl_lle, nl_lee, nl_eq, nl_leq, nl_ee, nl_div, nl_rem, nl_cl, nl_n1, nl_n2, nl_n3, nl_n4, nl_add, nl_ladd, nl_aa, nl_mul, nl_rmul, nl_mm, pu_wi_1, pu_wi_2, bX0_putName_2, bX0_putName_51, bX0_putName_38, a_al, a_ald, a_cv, a_iadd, a_icge, a_icle, a_ifeq, a_iflt, a_ild, a_inc, a_lcmp, a_len, a_push, a_vret, sh_1, sh_3, pu_rv, pu_as, Value.category, pu_bk, pu_kl, pu_qe0, pu_qe1, sa, n0, l0, c3, cl, nl, w0, c1, pw0]
    all_goals try simp [bX0_putName_2, bX0_putName_51, bX0_putName_38, a_al, a_ald, a_cv, a_iadd, a_icge, a_icle, a_ifeq, a_iflt, a_ild, a_inc, a_lcmp, a_len, a_push, a_vret, sh_1, sh_3, pu_rv, pu_as, Value.category, pu_bk, pu_kl, List.replicate, pu_wi_1, pu_wi_2, nl_add, nl_ladd, nl_aa, nl_mul, nl_rmul, nl_mm, pu_qe0, pu_qe1, sa, n0, l0, c3, cl, nl, w0, c1, pw0]
    all_goals try simp (maxSteps := 400000) (disch := omega) [nl_tle, nl_fle, nl_tlt, nl_flt, nl_teq, nl_feq, nl_sub, nl_ss, nl_lt, nl_llt, nl_ltt, nl_le, nl_lle, nl_lee, nl_eq, nl_leq, nl_ee, nl_div, nl_rem, nl_cl, nl_n1, nl_n2, nl_n3, nl_n4, nl_add, nl_ladd, nl_aa, nl_mul, nl_rmul, nl_mm, pu_wi_1, pu_wi_2, bX0_putName_2, bX0_putName_51, bX0_putName_38, a_al, a_ald, a_cv, a_iadd, a_icge, a_icle, a_ifeq, a_iflt, a_ild, a_inc, a_lcmp, a_len, a_push, a_vret, sh_1, sh_3, pu_rv, pu_as, Value.category, pu_bk, pu_kl, pu_qe0, pu_qe1, sa, n0, l0, c3, cl, nl, w0, c1, pw0]
    all_goals try simp [bX0_putName_2, bX0_putName_51, bX0_putName_38, a_al, a_ald, a_cv, a_iadd, a_icge, a_icle, a_ifeq, a_iflt, a_ild, a_inc, a_lcmp, a_len, a_push, a_vret, sh_1, sh_3, pu_rv, pu_as, Value.category, pu_bk, pu_kl, List.replicate, pu_wi_1, pu_wi_2, nl_add, nl_ladd, nl_aa, nl_mul, nl_rmul, nl_mm, pu_qe0, pu_qe1, sa, n0, l0, c3, cl, nl, w0, c1, pw0]
    all_goals try simp (maxSteps := 400000) (disch := omega) [nl_tle, nl_fle, nl_tlt, nl_flt, nl_teq, nl_feq, nl_sub, nl_ss, nl_lt, nl_llt, nl_ltt, nl_le, nl_lle, nl_lee, nl_eq, nl_leq, nl_ee, nl_div, nl_rem, nl_cl, nl_n1, nl_n2, nl_n3, nl_n4, nl_add, nl_ladd, nl_aa, nl_mul, nl_rmul, nl_mm, pu_wi_1, pu_wi_2, bX0_putName_2, bX0_putName_51, bX0_putName_38, a_al, a_ald, a_cv, a_iadd, a_icge, a_icle, a_ifeq, a_iflt, a_ild, a_inc, a_lcmp, a_len, a_push, a_vret, sh_1, sh_3, pu_rv, pu_as, Value.category, pu_bk, pu_kl, pu_qe0, pu_qe1, sa, n0, l0, c3, cl, nl, w0, c1, pw0]
    all_goals try simp [bX0_putName_2, bX0_putName_51, bX0_putName_38, a_al, a_ald, a_cv, a_iadd, a_icge, a_icle, a_ifeq, a_iflt, a_ild, a_inc, a_lcmp, a_len, a_push, a_vret, sh_1, sh_3, pu_rv, pu_as, Value.category, pu_bk, pu_kl, List.replicate, pu_wi_1, pu_wi_2, nl_add, nl_ladd, nl_aa, nl_mul, nl_rmul, nl_mm, pu_qe0, pu_qe1, sa, n0, l0, c3, cl, nl, w0, c1, pw0]
  · have p0 : 0 < pu_wv ds := by
      cases ds with
      | nil => exact absurd rfl z
      | cons d rs =>
        rw [py_wv_c]
        have := Nat.pow_pos (n := rs.length) (show 0 < 27 by omega)
        have : 0 < (d + 1) * 27 ^ rs.length := Nat.mul_pos (by omega) this
        omega
    have c1 : lg_cmp (lN (pu_wv ds)) 0 = 1 := py_cmp1 p0 (py_wv_b hl hd)
    by_cases j0 : j = 0
    · subst j0
      have pw := c_putWord hx n hn hl hd (by omega)
      rw [show py_wl 0 ds = py_wb ds by simp [py_wl]]
      have cf : nI (f + 0) ≤ nI f := nI_le (by omega) (by omega)
      simp only [Nat.add_zero] at *
      rw [qX0_putName_2]
      simp [bX0_putName_2, bX0_putName_51, bX0_putName_38, a_al, a_ald, a_cv, a_iadd, a_icge, a_icle, a_ifeq, a_iflt, a_ild, a_inc, a_lcmp, a_len, a_push, a_vret, sh_1, sh_3, pu_rv, pu_as, Value.category, pu_bk, pu_kl, List.replicate, pu_wi_1, pu_wi_2, nl_add, nl_ladd, nl_aa, nl_mul, nl_rmul, nl_mm, pu_qe0, pu_qe1, sa, n0, l0, c3, cl, nl, hv, c1, pw, cf]
      all_goals try simp (maxSteps := 400000) (disch := omega) [nl_tle, nl_fle, nl_tlt, nl_flt, nl_teq, nl_feq, nl_sub, nl_ss, nl_lt, nl_llt, nl_ltt, nl_le, nl_lle, nl_lee, nl_eq, nl_leq, nl_ee, nl_div, nl_rem, nl_cl, nl_n1, nl_n2, nl_n3, nl_n4, nl_add, nl_ladd, nl_aa, nl_mul, nl_rmul, nl_mm, pu_wi_1, pu_wi_2, bX0_putName_2, bX0_putName_51, bX0_putName_38, a_al, a_ald, a_cv, a_iadd, a_icge, a_icle, a_ifeq, a_iflt, a_ild, a_inc, a_lcmp, a_len, a_push, a_vret, sh_1, sh_3, pu_rv, pu_as, Value.category, pu_bk, pu_kl, pu_qe0, pu_qe1, sa, n0, l0, c3, cl, nl, hv, c1, pw, cf]
      all_goals try simp [bX0_putName_2, bX0_putName_51, bX0_putName_38, a_al, a_ald, a_cv, a_iadd, a_icge, a_icle, a_ifeq, a_iflt, a_ild, a_inc, a_lcmp, a_len, a_push, a_vret, sh_1, sh_3, pu_rv, pu_as, Value.category, pu_bk, pu_kl, List.replicate, pu_wi_1, pu_wi_2, nl_add, nl_ladd, nl_aa, nl_mul, nl_rmul, nl_mm, pu_qe0, pu_qe1, sa, n0, l0, c3, cl, nl, hv, c1, pw, cf]
      all_goals try simp (maxSteps := 400000) (disch := omega) [nl_tle, nl_fle, nl_tlt, nl_flt, nl_teq, nl_feq, nl_sub, nl_ss, nl_lt, nl_llt, nl_ltt, nl_le, nl_lle, nl_lee, nl_eq, nl_leq, nl_ee, nl_div, nl_rem, nl_cl, nl_n1, nl_n2, nl_n3, nl_n4, nl_add, nl_ladd, nl_aa, nl_mul, nl_rmul, nl_mm, pu_wi_1, pu_wi_2, bX0_putName_2, bX0_putName_51, bX0_putName_38, a_al, a_ald, a_cv, a_iadd, a_icge, a_icle, a_ifeq, a_iflt, a_ild, a_inc, a_lcmp, a_len, a_push, a_vret, sh_1, sh_3, pu_rv, pu_as, Value.category, pu_bk, pu_kl, pu_qe0, pu_qe1, sa, n0, l0, c3, cl, nl, hv, c1, pw, cf]
      all_goals try simp [bX0_putName_2, bX0_putName_51, bX0_putName_38, a_al, a_ald, a_cv, a_iadd, a_icge, a_icle, a_ifeq, a_iflt, a_ild, a_inc, a_lcmp, a_len, a_push, a_vret, sh_1, sh_3, pu_rv, pu_as, Value.category, pu_bk, pu_kl, List.replicate, pu_wi_1, pu_wi_2, nl_add, nl_ladd, nl_aa, nl_mul, nl_rmul, nl_mm, pu_qe0, pu_qe1, sa, n0, l0, c3, cl, nl, hv, c1, pw, cf]
      all_goals try simp (maxSteps := 400000) (disch := omega) [nl_tle, nl_fle, nl_tlt, nl_flt, nl_teq, nl_feq, nl_sub, nl_ss, nl_lt, nl_llt, nl_ltt, nl_le, nl_lle, nl_lee, nl_eq, nl_leq, nl_ee, nl_div, nl_rem, nl_cl, nl_n1, nl_n2, nl_n3, nl_n4, nl_add, nl_ladd, nl_aa, nl_mul, nl_rmul, nl_mm, pu_wi_1, pu_wi_2, bX0_putName_2, bX0_putName_51, bX0_putName_38, a_al, a_ald, a_cv, a_iadd, a_icge, a_icle, a_ifeq, a_iflt, a_ild, a_inc, a_lcmp, a_len, a_push, a_vret, sh_1, sh_3, pu_rv, pu_as, Value.category, pu_bk, pu_kl, pu_qe0, pu_qe1, sa, n0, l0, c3, cl, nl, hv, c1, pw, cf]
      all_goals try simp [bX0_putName_2, bX0_putName_51, bX0_putName_38, a_al, a_ald, a_cv, a_iadd, a_icge, a_icle, a_ifeq, a_iflt, a_ild, a_inc, a_lcmp, a_len, a_push, a_vret, sh_1, sh_3, pu_rv, pu_as, Value.category, pu_bk, pu_kl, List.replicate, pu_wi_1, pu_wi_2, nl_add, nl_ladd, nl_aa, nl_mul, nl_rmul, nl_mm, pu_qe0, pu_qe1, sa, n0, l0, c3, cl, nl, hv, c1, pw, cf]
    · have pt := c_put hx n 32 hn (by omega)
      have pw := c_putWord (N := pz_cp N n 32) (pz_fx_of hx rfl) (n + 1) (pz_cp_3 _ _ _) hl hd (by omega)
      have hv2 : (pz_cp N n 32).2.1 a (f + j) = lN (pu_wv ds) := hv
      rw [show py_wl j ds = 32 :: py_wb ds by simp [py_wl, z, j0], show pz_cw N n (32 :: py_wb ds) = pz_cw (pz_cp N n 32) (n + 1) (py_wb ds) from rfl]
      have cf : ¬ nI (f + j) ≤ nI f := nI_ge (by omega) (by omega)
      rw [qX0_putName_2]
      simp [bX0_putName_2, bX0_putName_51, bX0_putName_38, a_al, a_ald, a_cv, a_iadd, a_icge, a_icle, a_ifeq, a_iflt, a_ild, a_inc, a_lcmp, a_len, a_push, a_vret, sh_1, sh_3, pu_rv, pu_as, Value.category, pu_bk, pu_kl, List.replicate, pu_wi_1, pu_wi_2, nl_add, nl_ladd, nl_aa, nl_mul, nl_rmul, nl_mm, pu_qe0, pu_qe1, sa, n0, l0, c3, cl, nl, hv, c1, pt, hv2, pw, cf]
      all_goals try simp (maxSteps := 400000) (disch := omega) [nl_tle, nl_fle, nl_tlt, nl_flt, nl_teq, nl_feq, nl_sub, nl_ss, nl_lt, nl_llt, nl_ltt, nl_le, nl_lle, nl_lee, nl_eq, nl_leq, nl_ee, nl_div, nl_rem, nl_cl, nl_n1, nl_n2, nl_n3, nl_n4, nl_add, nl_ladd, nl_aa, nl_mul, nl_rmul, nl_mm, pu_wi_1, pu_wi_2, bX0_putName_2, bX0_putName_51, bX0_putName_38, a_al, a_ald, a_cv, a_iadd, a_icge, a_icle, a_ifeq, a_iflt, a_ild, a_inc, a_lcmp, a_len, a_push, a_vret, sh_1, sh_3, pu_rv, pu_as, Value.category, pu_bk, pu_kl, pu_qe0, pu_qe1, sa, n0, l0, c3, cl, nl, hv, c1, pt, hv2, pw, cf]
      all_goals try simp [bX0_putName_2, bX0_putName_51, bX0_putName_38, a_al, a_ald, a_cv, a_iadd, a_icge, a_icle, a_ifeq, a_iflt, a_ild, a_inc, a_lcmp, a_len, a_push, a_vret, sh_1, sh_3, pu_rv, pu_as, Value.category, pu_bk, pu_kl, List.replicate, pu_wi_1, pu_wi_2, nl_add, nl_ladd, nl_aa, nl_mul, nl_rmul, nl_mm, pu_qe0, pu_qe1, sa, n0, l0, c3, cl, nl, hv, c1, pt, hv2, pw, cf]
      all_goals try simp (maxSteps := 400000) (disch := omega) [nl_tle, nl_fle, nl_tlt, nl_flt, nl_teq, nl_feq, nl_sub, nl_ss, nl_lt, nl_llt, nl_ltt, nl_le, nl_lle, nl_lee, nl_eq, nl_leq, nl_ee, nl_div, nl_rem, nl_cl, nl_n1, nl_n2, nl_n3, nl_n4, nl_add, nl_ladd, nl_aa, nl_mul, nl_rmul, nl_mm, pu_wi_1, pu_wi_2, bX0_putName_2, bX0_putName_51, bX0_putName_38, a_al, a_ald, a_cv, a_iadd, a_icge, a_icle, a_ifeq, a_iflt, a_ild, a_inc, a_lcmp, a_len, a_push, a_vret, sh_1, sh_3, pu_rv, pu_as, Value.category, pu_bk, pu_kl, pu_qe0, pu_qe1, sa, n0, l0, c3, cl, nl, hv, c1, pt, hv2, pw, cf]
      all_goals try simp [bX0_putName_2, bX0_putName_51, bX0_putName_38, a_al, a_ald, a_cv, a_iadd, a_icge, a_icle, a_ifeq, a_iflt, a_ild, a_inc, a_lcmp, a_len, a_push, a_vret, sh_1, sh_3, pu_rv, pu_as, Value.category, pu_bk, pu_kl, List.replicate, pu_wi_1, pu_wi_2, nl_add, nl_ladd, nl_aa, nl_mul, nl_rmul, nl_mm, pu_qe0, pu_qe1, sa, n0, l0, c3, cl, nl, hv, c1, pt, hv2, pw, cf]
      all_goals try simp (maxSteps := 400000) (disch := omega) [nl_tle, nl_fle, nl_tlt, nl_flt, nl_teq, nl_feq, nl_sub, nl_ss, nl_lt, nl_llt, nl_ltt, nl_le, nl_lle, nl_lee, nl_eq, nl_leq, nl_ee, nl_div, nl_rem, nl_cl, nl_n1, nl_n2, nl_n3, nl_n4, nl_add, nl_ladd, nl_aa, nl_mul, nl_rmul, nl_mm, pu_wi_1, pu_wi_2, bX0_putName_2, bX0_putName_51, bX0_putName_38, a_al, a_ald, a_cv, a_iadd, a_icge, a_icle, a_ifeq, a_iflt, a_ild, a_inc, a_lcmp, a_len, a_push, a_vret, sh_1, sh_3, pu_rv, pu_as, Value.category, pu_bk, pu_kl, pu_qe0, pu_qe1, sa, n0, l0, c3, cl, nl, hv, c1, pt, hv2, pw, cf]
      all_goals try simp [bX0_putName_2, bX0_putName_51, bX0_putName_38, a_al, a_ald, a_cv, a_iadd, a_icge, a_icle, a_ifeq, a_iflt, a_ild, a_inc, a_lcmp, a_len, a_push, a_vret, sh_1, sh_3, pu_rv, pu_as, Value.category, pu_bk, pu_kl, List.replicate, pu_wi_1, pu_wi_2, nl_add, nl_ladd, nl_aa, nl_mul, nl_rmul, nl_mm, pu_qe0, pu_qe1, sa, n0, l0, c3, cl, nl, hv, c1, pt, hv2, pw, cf]
theorem py_cw_n {N : pu_M} {n : Nat} (hn : N.1 3 0 = nI n) : ∀ (vs : List Int32) (N : pu_M) (n : Nat), N.1 3 0 = nI n → (pz_cw N n vs).1 3 0 = nI (n + vs.length)
  | [], N, n, h => h
  | v :: vs, N, n, h => by
    show (pz_cw (pz_cp N n v) (n + 1) vs).1 3 0 = _
    rw [py_cw_n hn vs _ _ (pz_cp_3 _ _ _), List.length_cons, show n + 1 + vs.length = n + (vs.length + 1) by omega]
theorem py_cw_3 {N : pu_M} {n : Nat} (hn : N.1 3 0 = nI n) (vs : List Int32) : (pz_cw N n vs).1 3 0 = nI (n + vs.length) := py_cw_n hn vs N n hn
theorem c_putName (a la f : Nat) (sa : pu_sh a = (3, la)) (hf : f + 3 ≤ la) (hla : la < 5000) {ds : Nat → List Nat} (hl : ∀ w, w < 3 → (ds w).length ≤ 12) (hd : ∀ w, w < 3 → ∀ d ∈ ds w, d < 26) {N : pu_M} (hx : pu_fx N) (n : Nat) (hn : N.1 3 0 = nI n) (hc : n + 39 ≤ 1200) (hv : ∀ w, w < 3 → N.2.1 a (f + w) = lN (pu_wv (ds w))) : pu_r 152 [some (.ref 3), some (.ref a), some (.int (nI f))] [] N = some (none, pz_cw N n (py_nm ds)) := by
  have l0 := py_wl_l 0 (hl 0 (by omega))
  have l1 := py_wl_l 1 (hl 1 (by omega))
  have s0 := c_pn_s a la f 0 sa hf hla (by omega) (hl 0 (by omega)) (hd 0 (by omega)) hx n hn (by omega) (hv 0 (by omega))
  have hx1 : pu_fx (pz_cw N n (py_wl 0 (ds 0))) := pz_fx_of hx (pz_cw_2 _ _ _)
  have n1 := py_cw_3 hn (py_wl 0 (ds 0))
  have s1 := c_pn_s a la f 1 sa hf hla (by omega) (hl 1 (by omega)) (hd 1 (by omega)) hx1 _ n1 (by omega) (by rw [pz_cw_2]; exact hv 1 (by omega))
  have hx2 : pu_fx (pz_cw (pz_cw N n (py_wl 0 (ds 0))) (n + (py_wl 0 (ds 0)).length) (py_wl 1 (ds 1))) := pz_fx_of hx1 (pz_cw_2 _ _ _)
  have n2 := py_cw_3 n1 (py_wl 1 (ds 1))
  have s2 := c_pn_s a la f 2 sa hf hla (by omega) (hl 2 (by omega)) (hd 2 (by omega)) hx2 _ n2 (by omega) (by rw [pz_cw_2, pz_cw_2]; exact hv 2 (by omega))
  have E : pu_r 396 [some (.ref 3), some (.ref a), some (.int (nI f)), some (.int (nI (f + 2 + 1)))] [] (pz_cw N n (py_nm ds)) = some (none, pz_cw N n (py_nm ds)) := by
    generalize pz_cw N n (py_nm ds) = Q
    have n0 : ¬ nI (f + 3) < 0 := nI_pos (by omega)
    have c3 : nI (f + 3) ≤ nI (f + 3) := nI_le (by omega) (by omega)
    rw [show f + 2 + 1 = f + 3 by omega]
    rw [qX0_putName_2]
    simp [bX0_putName_2, bX0_putName_51, bX0_putName_38, a_al, a_ald, a_cv, a_iadd, a_icge, a_icle, a_ifeq, a_iflt, a_ild, a_inc, a_lcmp, a_len, a_push, a_vret, sh_1, sh_3, pu_rv, pu_as, Value.category, pu_bk, pu_kl, List.replicate, pu_wi_1, pu_wi_2, nl_add, nl_ladd, nl_aa, nl_mul, nl_rmul, nl_mm, pu_qe0, pu_qe1, n0, c3]
    all_goals try simp (maxSteps := 400000) (disch := omega) [nl_tle, nl_fle, nl_tlt, nl_flt, nl_teq, nl_feq, nl_sub, nl_ss, nl_lt, nl_llt, nl_ltt, nl_le, nl_lle, nl_lee, nl_eq, nl_leq, nl_ee, nl_div, nl_rem, nl_cl, nl_n1, nl_n2, nl_n3, nl_n4, nl_add, nl_ladd, nl_aa, nl_mul, nl_rmul, nl_mm, pu_wi_1, pu_wi_2, bX0_putName_2, bX0_putName_51, bX0_putName_38, a_al, a_ald, a_cv, a_iadd, a_icge, a_icle, a_ifeq, a_iflt, a_ild, a_inc, a_lcmp, a_len, a_push, a_vret, sh_1, sh_3, pu_rv, pu_as, Value.category, pu_bk, pu_kl, pu_qe0, pu_qe1, n0, c3]
    all_goals try simp [bX0_putName_2, bX0_putName_51, bX0_putName_38, a_al, a_ald, a_cv, a_iadd, a_icge, a_icle, a_ifeq, a_iflt, a_ild, a_inc, a_lcmp, a_len, a_push, a_vret, sh_1, sh_3, pu_rv, pu_as, Value.category, pu_bk, pu_kl, List.replicate, pu_wi_1, pu_wi_2, nl_add, nl_ladd, nl_aa, nl_mul, nl_rmul, nl_mm, pu_qe0, pu_qe1, n0, c3]
    all_goals try simp (maxSteps := 400000) (disch := omega) [nl_tle, nl_fle, nl_tlt, nl_flt, nl_teq, nl_feq, nl_sub, nl_ss, nl_lt, nl_llt, nl_ltt, nl_le, nl_lle, nl_lee, nl_eq, nl_leq, nl_ee, nl_div, nl_rem, nl_cl, nl_n1, nl_n2, nl_n3, nl_n4, nl_add, nl_ladd, nl_aa, nl_mul, nl_rmul, nl_mm, pu_wi_1, pu_wi_2, bX0_putName_2, bX0_putName_51, bX0_putName_38, a_al, a_ald, a_cv, a_iadd, a_icge, a_icle, a_ifeq, a_iflt, a_ild, a_inc, a_lcmp, a_len, a_push, a_vret, sh_1, sh_3, pu_rv, pu_as, Value.category, pu_bk, pu_kl, pu_qe0, pu_qe1, n0, c3]
    all_goals try simp [bX0_putName_2, bX0_putName_51, bX0_putName_38, a_al, a_ald, a_cv, a_iadd, a_icge, a_icle, a_ifeq, a_iflt, a_ild, a_inc, a_lcmp, a_len, a_push, a_vret, sh_1, sh_3, pu_rv, pu_as, Value.category, pu_bk, pu_kl, List.replicate, pu_wi_1, pu_wi_2, nl_add, nl_ladd, nl_aa, nl_mul, nl_rmul, nl_mm, pu_qe0, pu_qe1, n0, c3]
    all_goals try simp (maxSteps := 400000) (disch := omega) [nl_tle, nl_fle, nl_tlt, nl_flt, nl_teq, nl_feq, nl_sub, nl_ss, nl_lt, nl_llt, nl_ltt, nl_le, nl_lle, nl_lee, nl_eq, nl_leq, nl_ee, nl_div, nl_rem, nl_cl, nl_n1, nl_n2, nl_n3, nl_n4, nl_add, nl_ladd, nl_aa, nl_mul, nl_rmul, nl_mm, pu_wi_1, pu_wi_2, bX0_putName_2, bX0_putName_51, bX0_putName_38, a_al, a_ald, a_cv, a_iadd, a_icge, a_icle, a_ifeq, a_iflt, a_ild, a_inc, a_lcmp, a_len, a_push, a_vret, sh_1, sh_3, pu_rv, pu_as, Value.category, pu_bk, pu_kl, pu_qe0, pu_qe1, n0, c3]
    all_goals try simp [bX0_putName_2, bX0_putName_51, bX0_putName_38, a_al, a_ald, a_cv, a_iadd, a_icge, a_icle, a_ifeq, a_iflt, a_ild, a_inc, a_lcmp, a_len, a_push, a_vret, sh_1, sh_3, pu_rv, pu_as, Value.category, pu_bk, pu_kl, List.replicate, pu_wi_1, pu_wi_2, nl_add, nl_ladd, nl_aa, nl_mul, nl_rmul, nl_mm, pu_qe0, pu_qe1, n0, c3]
  have A : pz_cw N n (py_nm ds) = pz_cw (pz_cw (pz_cw N n (py_wl 0 (ds 0))) (n + (py_wl 0 (ds 0)).length) (py_wl 1 (ds 1))) (n + (py_wl 0 (ds 0)).length + (py_wl 1 (ds 1)).length) (py_wl 2 (ds 2)) := by
    unfold py_nm
    rw [pz_cw_app, pz_cw_app]
  rw [← A, E] at s2
  rw [show f + 1 = f + 0 + 1 by omega, show f + 0 + 1 + 1 = f + 2 by omega, s2] at s1
  rw [s1, Nat.add_zero] at s0
  rw [qX0_putName]
  simp [a_ent, bX0_putName_0, a_ild, a_ist, pu_rv, pu_as, Value.category, pu_bk, pu_kl, List.replicate, pu_wi_1, pu_wi_2, nl_add, nl_ladd, nl_aa, nl_mul, nl_rmul, nl_mm, pu_qe0, pu_qe1, s0]
  all_goals try simp (maxSteps := 400000) (disch := omega) [nl_tle, nl_fle, nl_tlt, nl_flt, nl_teq, nl_feq, nl_sub, nl_ss, nl_lt, nl_llt, nl_ltt, nl_le, nl_lle, nl_lee, nl_eq, nl_leq, nl_ee, nl_div, nl_rem, nl_cl, nl_n1, nl_n2, nl_n3, nl_n4, nl_add, nl_ladd, nl_aa, nl_mul, nl_rmul, nl_mm, pu_wi_1, pu_wi_2, bX0_putName_0, a_ild, a_ist, pu_rv, pu_as, Value.category, pu_bk, pu_kl, pu_qe0, pu_qe1, s0]
  all_goals try simp [bX0_putName_0, a_ild, a_ist, pu_rv, pu_as, Value.category, pu_bk, pu_kl, List.replicate, pu_wi_1, pu_wi_2, nl_add, nl_ladd, nl_aa, nl_mul, nl_rmul, nl_mm, pu_qe0, pu_qe1, s0]
  all_goals try simp (maxSteps := 400000) (disch := omega) [nl_tle, nl_fle, nl_tlt, nl_flt, nl_teq, nl_feq, nl_sub, nl_ss, nl_lt, nl_llt, nl_ltt, nl_le, nl_lle, nl_lee, nl_eq, nl_leq, nl_ee, nl_div, nl_rem, nl_cl, nl_n1, nl_n2, nl_n3, nl_n4, nl_add, nl_ladd, nl_aa, nl_mul, nl_rmul, nl_mm, pu_wi_1, pu_wi_2, bX0_putName_0, a_ild, a_ist, pu_rv, pu_as, Value.category, pu_bk, pu_kl, pu_qe0, pu_qe1, s0]
  all_goals try simp [bX0_putName_0, a_ild, a_ist, pu_rv, pu_as, Value.category, pu_bk, pu_kl, List.replicate, pu_wi_1, pu_wi_2, nl_add, nl_ladd, nl_aa, nl_mul, nl_rmul, nl_mm, pu_qe0, pu_qe1, s0]
  all_goals try simp (maxSteps := 400000) (disch := omega) [nl_tle, nl_fle, nl_tlt, nl_flt, nl_teq, nl_feq, nl_sub, nl_ss, nl_lt, nl_llt, nl_ltt, nl_le, nl_lle, nl_lee, nl_eq, nl_leq, nl_ee, nl_div, nl_rem, nl_cl, nl_n1, nl_n2, nl_n3, nl_n4, nl_add, nl_ladd, nl_aa, nl_mul, nl_rmul, nl_mm, pu_wi_1, pu_wi_2, bX0_putName_0, a_ild, a_ist, pu_rv, pu_as, Value.category, pu_bk, pu_kl, pu_qe0, pu_qe1, s0]
  all_goals try simp [bX0_putName_0, a_ild, a_ist, pu_rv, pu_as, Value.category, pu_bk, pu_kl, List.replicate, pu_wi_1, pu_wi_2, nl_add, nl_ladd, nl_aa, nl_mul, nl_rmul, nl_mm, pu_qe0, pu_qe1, s0]
/-! decimals: up to four digits, no 0 ahead -/
def py_dg (v : Nat) : List Int32 := if 1000 ≤ v then [nI (48 + v / 1000 % 10), nI (48 + v / 100 % 10), nI (48 + v / 10 % 10), nI (48 + v % 10)] else if 100 ≤ v then [nI (48 + v / 100 % 10), nI (48 + v / 10 % 10), nI (48 + v % 10)] else if 10 ≤ v then [nI (48 + v / 10 % 10), nI (48 + v % 10)] else [nI (48 + v % 10)]
theorem py_dg_l (v : Nat) : (py_dg v).length ≤ 4 := by
  unfold py_dg
  split
  · simp
  · split
    · simp
    · split
      · simp
      · simp
theorem c_pd0 {N : pu_M} (v : Int32) : pu_r 397 [some (.ref 3), some (.int v), some (.int 0)] [] N = some (none, N) := by
  rw [qX0_putDecimal_4]
  simp [bX0_putDecimal_4, bX0_putDecimal_34, bX0_putDecimal_26, a_ald, a_cv, a_iadd, a_iclt, a_idiv, a_ifle, a_ild, a_irem, a_ist, a_push, a_vret, sh_1, sh_3, pu_rv, pu_as, Value.category, pu_bk, pu_kl, List.replicate, pu_wi_1, pu_wi_2, nl_add, nl_ladd, nl_aa, nl_mul, nl_rmul, nl_mm, pu_qe0, pu_qe1]
  all_goals try simp (maxSteps := 400000) (disch := omega) [nl_tle, nl_fle, nl_tlt, nl_flt, nl_teq, nl_feq, nl_sub, nl_ss, nl_lt, nl_llt, nl_ltt, nl_le, nl_lle, nl_lee, nl_eq, nl_leq, nl_ee, nl_div, nl_rem, nl_cl, nl_n1, nl_n2, nl_n3, nl_n4, nl_add, nl_ladd, nl_aa, nl_mul, nl_rmul, nl_mm, pu_wi_1, pu_wi_2, bX0_putDecimal_4, bX0_putDecimal_34, bX0_putDecimal_26, a_ald, a_cv, a_iadd, a_iclt, a_idiv, a_ifle, a_ild, a_irem, a_ist, a_push, a_vret, sh_1, sh_3, pu_rv, pu_as, Value.category, pu_bk, pu_kl, pu_qe0, pu_qe1]
  all_goals try simp [bX0_putDecimal_4, bX0_putDecimal_34, bX0_putDecimal_26, a_ald, a_cv, a_iadd, a_iclt, a_idiv, a_ifle, a_ild, a_irem, a_ist, a_push, a_vret, sh_1, sh_3, pu_rv, pu_as, Value.category, pu_bk, pu_kl, List.replicate, pu_wi_1, pu_wi_2, nl_add, nl_ladd, nl_aa, nl_mul, nl_rmul, nl_mm, pu_qe0, pu_qe1]
  all_goals try simp (maxSteps := 400000) (disch := omega) [nl_tle, nl_fle, nl_tlt, nl_flt, nl_teq, nl_feq, nl_sub, nl_ss, nl_lt, nl_llt, nl_ltt, nl_le, nl_lle, nl_lee, nl_eq, nl_leq, nl_ee, nl_div, nl_rem, nl_cl, nl_n1, nl_n2, nl_n3, nl_n4, nl_add, nl_ladd, nl_aa, nl_mul, nl_rmul, nl_mm, pu_wi_1, pu_wi_2, bX0_putDecimal_4, bX0_putDecimal_34, bX0_putDecimal_26, a_ald, a_cv, a_iadd, a_iclt, a_idiv, a_ifle, a_ild, a_irem, a_ist, a_push, a_vret, sh_1, sh_3, pu_rv, pu_as, Value.category, pu_bk, pu_kl, pu_qe0, pu_qe1]
  all_goals try simp [bX0_putDecimal_4, bX0_putDecimal_34, bX0_putDecimal_26, a_ald, a_cv, a_iadd, a_iclt, a_idiv, a_ifle, a_ild, a_irem, a_ist, a_push, a_vret, sh_1, sh_3, pu_rv, pu_as, Value.category, pu_bk, pu_kl, List.replicate, pu_wi_1, pu_wi_2, nl_add, nl_ladd, nl_aa, nl_mul, nl_rmul, nl_mm, pu_qe0, pu_qe1]
  all_goals try simp (maxSteps := 400000) (disch := omega) [nl_tle, nl_fle, nl_tlt, nl_flt, nl_teq, nl_feq, nl_sub, nl_ss, nl_lt, nl_llt, nl_ltt, nl_le, nl_lle, nl_lee, nl_eq, nl_leq, nl_ee, nl_div, nl_rem, nl_cl, nl_n1, nl_n2, nl_n3, nl_n4, nl_add, nl_ladd, nl_aa, nl_mul, nl_rmul, nl_mm, pu_wi_1, pu_wi_2, bX0_putDecimal_4, bX0_putDecimal_34, bX0_putDecimal_26, a_ald, a_cv, a_iadd, a_iclt, a_idiv, a_ifle, a_ild, a_irem, a_ist, a_push, a_vret, sh_1, sh_3, pu_rv, pu_as, Value.category, pu_bk, pu_kl, pu_qe0, pu_qe1]
  all_goals try simp [bX0_putDecimal_4, bX0_putDecimal_34, bX0_putDecimal_26, a_ald, a_cv, a_iadd, a_iclt, a_idiv, a_ifle, a_ild, a_irem, a_ist, a_push, a_vret, sh_1, sh_3, pu_rv, pu_as, Value.category, pu_bk, pu_kl, List.replicate, pu_wi_1, pu_wi_2, nl_add, nl_ladd, nl_aa, nl_mul, nl_rmul, nl_mm, pu_qe0, pu_qe1]
theorem c_pd_t {N : pu_M} (hx : pu_fx N) (n : Nat) (hn : N.1 3 0 = nI n) (hc : n < 1200) (v s s' : Nat) (hv : v < 10000) (hs : s' = s / 10) (h0 : 0 < s) (h1 : s ≤ 1000) (h : s ≤ v) : pu_r 397 [some (.ref 3), some (.int (nI v)), some (.int (nI s))] [] N = pu_r 397 [some (.ref 3), some (.int (nI v)), some (.int (nI s'))] [] (pz_cp N n (nI (48 + v / s % 10))) := by
  subst hs
  have c0 : ¬ nI s ≤ 0 := fun q => by
    rw [show (0 : Int32) = nI 0 from rfl, nI_leI (by omega) (by omega)] at q
    omega
  have c1 : ¬ nI v < nI s := fun q => by
    rw [nI_ltI (by omega) (by omega)] at q
    omega
  have ne : ¬ nI s = 0 := fun q => by
    rw [show (0 : Int32) = nI 0 from rfl, nI_eq (by omega) (by omega)] at q
    omega
  have d1 : nI v / nI s = nI (v / s) := pk_div (by omega) h0 (by omega)
  have b1 : v / s ≤ v := Nat.div_le_self _ _
  have pt := c_put hx n (nI (48 + v / s % 10)) hn hc
  rw [qX0_putDecimal_4]
  simp [bX0_putDecimal_4, bX0_putDecimal_34, bX0_putDecimal_26, a_ald, a_cv, a_iadd, a_iclt, a_idiv, a_ifle, a_ild, a_irem, a_ist, a_push, a_vret, sh_1, sh_3, pu_rv, pu_as, Value.category, pu_bk, pu_kl, List.replicate, pu_wi_1, pu_wi_2, nl_add, nl_ladd, nl_aa, nl_mul, nl_rmul, nl_mm, pu_qe0, pu_qe1, c0, c1, ne, d1, b1, pt]
  all_goals try simp (maxSteps := 400000) (disch := omega) [nl_tle, nl_fle, nl_tlt, nl_flt, nl_teq, nl_feq, nl_sub, nl_ss, nl_lt, nl_llt, nl_ltt, nl_le, nl_lle, nl_lee, nl_eq, nl_leq, nl_ee, nl_div, nl_rem, nl_cl, nl_n1, nl_n2, nl_n3, nl_n4, nl_add, nl_ladd, nl_aa, nl_mul, nl_rmul, nl_mm, pu_wi_1, pu_wi_2, bX0_putDecimal_4, bX0_putDecimal_34, bX0_putDecimal_26, a_ald, a_cv, a_iadd, a_iclt, a_idiv, a_ifle, a_ild, a_irem, a_ist, a_push, a_vret, sh_1, sh_3, pu_rv, pu_as, Value.category, pu_bk, pu_kl, pu_qe0, pu_qe1, c0, c1, ne, d1, b1, pt]
  all_goals try simp [bX0_putDecimal_4, bX0_putDecimal_34, bX0_putDecimal_26, a_ald, a_cv, a_iadd, a_iclt, a_idiv, a_ifle, a_ild, a_irem, a_ist, a_push, a_vret, sh_1, sh_3, pu_rv, pu_as, Value.category, pu_bk, pu_kl, List.replicate, pu_wi_1, pu_wi_2, nl_add, nl_ladd, nl_aa, nl_mul, nl_rmul, nl_mm, pu_qe0, pu_qe1, c0, c1, ne, d1, b1, pt]
  all_goals try simp (maxSteps := 400000) (disch := omega) [nl_tle, nl_fle, nl_tlt, nl_flt, nl_teq, nl_feq, nl_sub, nl_ss, nl_lt, nl_llt, nl_ltt, nl_le, nl_lle, nl_lee, nl_eq, nl_leq, nl_ee, nl_div, nl_rem, nl_cl, nl_n1, nl_n2, nl_n3, nl_n4, nl_add, nl_ladd, nl_aa, nl_mul, nl_rmul, nl_mm, pu_wi_1, pu_wi_2, bX0_putDecimal_4, bX0_putDecimal_34, bX0_putDecimal_26, a_ald, a_cv, a_iadd, a_iclt, a_idiv, a_ifle, a_ild, a_irem, a_ist, a_push, a_vret, sh_1, sh_3, pu_rv, pu_as, Value.category, pu_bk, pu_kl, pu_qe0, pu_qe1, c0, c1, ne, d1, b1, pt]
  all_goals try simp [bX0_putDecimal_4, bX0_putDecimal_34, bX0_putDecimal_26, a_ald, a_cv, a_iadd, a_iclt, a_idiv, a_ifle, a_ild, a_irem, a_ist, a_push, a_vret, sh_1, sh_3, pu_rv, pu_as, Value.category, pu_bk, pu_kl, List.replicate, pu_wi_1, pu_wi_2, nl_add, nl_ladd, nl_aa, nl_mul, nl_rmul, nl_mm, pu_qe0, pu_qe1, c0, c1, ne, d1, b1, pt]
  all_goals try simp (maxSteps := 400000) (disch := omega) [nl_tle, nl_fle, nl_tlt, nl_flt, nl_teq, nl_feq, nl_sub, nl_ss, nl_lt, nl_llt, nl_ltt, nl_le, nl_lle, nl_lee, nl_eq, nl_leq, nl_ee, nl_div, nl_rem, nl_cl, nl_n1, nl_n2, nl_n3, nl_n4, nl_add, nl_ladd, nl_aa, nl_mul, nl_rmul, nl_mm, pu_wi_1, pu_wi_2, bX0_putDecimal_4, bX0_putDecimal_34, bX0_putDecimal_26, a_ald, a_cv, a_iadd, a_iclt, a_idiv, a_ifle, a_ild, a_irem, a_ist, a_push, a_vret, sh_1, sh_3, pu_rv, pu_as, Value.category, pu_bk, pu_kl, pu_qe0, pu_qe1, c0, c1, ne, d1, b1, pt]
  all_goals try simp [bX0_putDecimal_4, bX0_putDecimal_34, bX0_putDecimal_26, a_ald, a_cv, a_iadd, a_iclt, a_idiv, a_ifle, a_ild, a_irem, a_ist, a_push, a_vret, sh_1, sh_3, pu_rv, pu_as, Value.category, pu_bk, pu_kl, List.replicate, pu_wi_1, pu_wi_2, nl_add, nl_ladd, nl_aa, nl_mul, nl_rmul, nl_mm, pu_qe0, pu_qe1, c0, c1, ne, d1, b1, pt]
theorem c_pd_f {N : pu_M} (v s s' : Nat) (hv : v < 10000) (hs : s' = s / 10) (h0 : 0 < s) (h1 : s ≤ 1000) (h : v < s) : pu_r 397 [some (.ref 3), some (.int (nI v)), some (.int (nI s))] [] N = pu_r 397 [some (.ref 3), some (.int (nI v)), some (.int (nI s'))] [] N := by
  subst hs
  have c0 : ¬ nI s ≤ 0 := fun q => by
    rw [show (0 : Int32) = nI 0 from rfl, nI_leI (by omega) (by omega)] at q
    omega
  have c1 : nI v < nI s := nI_lt h (by omega)
  rw [qX0_putDecimal_4]
  simp [bX0_putDecimal_4, bX0_putDecimal_34, bX0_putDecimal_26, a_ald, a_cv, a_iadd, a_iclt, a_idiv, a_ifle, a_ild, a_irem, a_ist, a_push, a_vret, sh_1, sh_3, pu_rv, pu_as, Value.category, pu_bk, pu_kl, List.replicate, pu_wi_1, pu_wi_2, nl_add, nl_ladd, nl_aa, nl_mul, nl_rmul, nl_mm, pu_qe0, pu_qe1, c0, c1]
  all_goals try simp (maxSteps := 400000) (disch := omega) [nl_tle, nl_fle, nl_tlt, nl_flt, nl_teq, nl_feq, nl_sub, nl_ss, nl_lt, nl_llt, nl_ltt, nl_le, nl_lle, nl_lee, nl_eq, nl_leq, nl_ee, nl_div, nl_rem, nl_cl, nl_n1, nl_n2, nl_n3, nl_n4, nl_add, nl_ladd, nl_aa, nl_mul, nl_rmul, nl_mm, pu_wi_1, pu_wi_2, bX0_putDecimal_4, bX0_putDecimal_34, bX0_putDecimal_26, a_ald, a_cv, a_iadd, a_iclt, a_idiv, a_ifle, a_ild, a_irem, a_ist, a_push, a_vret, sh_1, sh_3, pu_rv, pu_as, Value.category, pu_bk, pu_kl, pu_qe0, pu_qe1, c0, c1]
  all_goals try simp [bX0_putDecimal_4, bX0_putDecimal_34, bX0_putDecimal_26, a_ald, a_cv, a_iadd, a_iclt, a_idiv, a_ifle, a_ild, a_irem, a_ist, a_push, a_vret, sh_1, sh_3, pu_rv, pu_as, Value.category, pu_bk, pu_kl, List.replicate, pu_wi_1, pu_wi_2, nl_add, nl_ladd, nl_aa, nl_mul, nl_rmul, nl_mm, pu_qe0, pu_qe1, c0, c1]
  all_goals try simp (maxSteps := 400000) (disch := omega) [nl_tle, nl_fle, nl_tlt, nl_flt, nl_teq, nl_feq, nl_sub, nl_ss, nl_lt, nl_llt, nl_ltt, nl_le, nl_lle, nl_lee, nl_eq, nl_leq, nl_ee, nl_div, nl_rem, nl_cl, nl_n1, nl_n2, nl_n3, nl_n4, nl_add, nl_ladd, nl_aa, nl_mul, nl_rmul, nl_mm, pu_wi_1, pu_wi_2, bX0_putDecimal_4, bX0_putDecimal_34, bX0_putDecimal_26, a_ald, a_cv, a_iadd, a_iclt, a_idiv, a_ifle, a_ild, a_irem, a_ist, a_push, a_vret, sh_1, sh_3, pu_rv, pu_as, Value.category, pu_bk, pu_kl, pu_qe0, pu_qe1, c0, c1]
  all_goals try simp [bX0_putDecimal_4, bX0_putDecimal_34, bX0_putDecimal_26, a_ald, a_cv, a_iadd, a_iclt, a_idiv, a_ifle, a_ild, a_irem, a_ist, a_push, a_vret, sh_1, sh_3, pu_rv, pu_as, Value.category, pu_bk, pu_kl, List.replicate, pu_wi_1, pu_wi_2, nl_add, nl_ladd, nl_aa, nl_mul, nl_rmul, nl_mm, pu_qe0, pu_qe1, c0, c1]
  all_goals try simp (maxSteps := 400000) (disch := omega) [nl_tle, nl_fle, nl_tlt, nl_flt, nl_teq, nl_feq, nl_sub, nl_ss, nl_lt, nl_llt, nl_ltt, nl_le, nl_lle, nl_lee, nl_eq, nl_leq, nl_ee, nl_div, nl_rem, nl_cl, nl_n1, nl_n2, nl_n3, nl_n4, nl_add, nl_ladd, nl_aa, nl_mul, nl_rmul, nl_mm, pu_wi_1, pu_wi_2, bX0_putDecimal_4, bX0_putDecimal_34, bX0_putDecimal_26, a_ald, a_cv, a_iadd, a_iclt, a_idiv, a_ifle, a_ild, a_irem, a_ist, a_push, a_vret, sh_1, sh_3, pu_rv, pu_as, Value.category, pu_bk, pu_kl, pu_qe0, pu_qe1, c0, c1]
  all_goals try simp [bX0_putDecimal_4, bX0_putDecimal_34, bX0_putDecimal_26, a_ald, a_cv, a_iadd, a_iclt, a_idiv, a_ifle, a_ild, a_irem, a_ist, a_push, a_vret, sh_1, sh_3, pu_rv, pu_as, Value.category, pu_bk, pu_kl, List.replicate, pu_wi_1, pu_wi_2, nl_add, nl_ladd, nl_aa, nl_mul, nl_rmul, nl_mm, pu_qe0, pu_qe1, c0, c1]
theorem c_putDecimal {N : pu_M} (hx : pu_fx N) (n : Nat) (hn : N.1 3 0 = nI n) (hc : n + 4 ≤ 1200) (v : Nat) (h0 : 0 < v) (hv : v < 10000) : pu_r 153 [some (.ref 3), some (.int (nI v))] [] N = some (none, pz_cw N n (py_dg v)) := by
  have Z : ∀ (Q : pu_M), pu_r 397 [some (.ref 3), some (.int (nI v)), some (.int (nI 0))] [] Q = some (none, Q) := fun Q => c_pd0 (nI v)
  have T1 : ∀ (Q : pu_M) (k : Nat), pu_fx Q → Q.1 3 0 = nI k → k < 1200 → pu_r 397 [some (.ref 3), some (.int (nI v)), some (.int (nI 1))] [] Q = some (none, pz_cw Q k [nI (48 + v % 10)]) := fun Q k q1 q2 q3 => by
    rw [c_pd_t q1 k q2 q3 v 1 0 hv (by omega) (by omega) (by omega) (by omega), Z, Nat.div_one]
    rfl
  have T10 : ∀ (Q : pu_M) (k : Nat), pu_fx Q → Q.1 3 0 = nI k → k + 1 < 1200 → 10 ≤ v → pu_r 397 [some (.ref 3), some (.int (nI v)), some (.int (nI 10))] [] Q = some (none, pz_cw Q k [nI (48 + v / 10 % 10), nI (48 + v % 10)]) := fun Q k q1 q2 q3 q4 => by
    rw [c_pd_t q1 k q2 (by omega) v 10 1 hv (by omega) (by omega) (by omega) q4, T1 (pz_cp Q k _) (k + 1) (pz_fx_of q1 rfl) (pz_cp_3 _ _ _) q3]
    rfl
  have T100 : ∀ (Q : pu_M) (k : Nat), pu_fx Q → Q.1 3 0 = nI k → k + 2 < 1200 → 100 ≤ v → pu_r 397 [some (.ref 3), some (.int (nI v)), some (.int (nI 100))] [] Q = some (none, pz_cw Q k [nI (48 + v / 100 % 10), nI (48 + v / 10 % 10), nI (48 + v % 10)]) := fun Q k q1 q2 q3 q4 => by
    rw [c_pd_t q1 k q2 (by omega) v 100 10 hv (by omega) (by omega) (by omega) q4, T10 (pz_cp Q k _) (k + 1) (pz_fx_of q1 rfl) (pz_cp_3 _ _ _) (by omega) (by omega)]
    rfl
  have E : pu_r 397 [some (.ref 3), some (.int (nI v)), some (.int (nI 1000))] [] N = some (none, pz_cw N n (py_dg v)) := by
    unfold py_dg
    by_cases k3 : 1000 ≤ v
    · rw [if_pos k3, c_pd_t hx n hn (by omega) v 1000 100 hv (by omega) (by omega) (by omega) k3, T100 (pz_cp N n _) (n + 1) (pz_fx_of hx rfl) (pz_cp_3 _ _ _) (by omega) (by omega)]
      rfl
    · rw [if_neg k3, c_pd_f v 1000 100 hv (by omega) (by omega) (by omega) (by omega)]
      by_cases k2 : 100 ≤ v
      · rw [if_pos k2, T100 N n hx hn (by omega) k2]
      · rw [if_neg k2, c_pd_f v 100 10 hv (by omega) (by omega) (by omega) (by omega)]
        by_cases k1 : 10 ≤ v
        · rw [if_pos k1, T10 N n hx hn (by omega) k1]
        · rw [if_neg k1, c_pd_f v 10 1 hv (by omega) (by omega) (by omega) (by omega), T1 N n hx hn (by omega)]
  rw [show nI 1000 = (1000 : Int32) from rfl] at E
  rw [qX0_putDecimal]
  simp [a_ent, bX0_putDecimal_0, a_ist, a_push, pu_rv, pu_as, Value.category, pu_bk, pu_kl, List.replicate, pu_wi_1, pu_wi_2, nl_add, nl_ladd, nl_aa, nl_mul, nl_rmul, nl_mm, pu_qe0, pu_qe1, E]
  all_goals try simp (maxSteps := 400000) (disch := omega) [nl_tle, nl_fle, nl_tlt, nl_flt, nl_teq, nl_feq, nl_sub, nl_ss, nl_lt, nl_llt, nl_ltt, nl_le, nl_lle, nl_lee, nl_eq, nl_leq, nl_ee, nl_div, nl_rem, nl_cl, nl_n1, nl_n2, nl_n3, nl_n4, nl_add, nl_ladd, nl_aa, nl_mul, nl_rmul, nl_mm, pu_wi_1, pu_wi_2, bX0_putDecimal_0, a_ist, a_push, pu_rv, pu_as, Value.category, pu_bk, pu_kl, pu_qe0, pu_qe1, E]
  all_goals try simp [bX0_putDecimal_0, a_ist, a_push, pu_rv, pu_as, Value.category, pu_bk, pu_kl, List.replicate, pu_wi_1, pu_wi_2, nl_add, nl_ladd, nl_aa, nl_mul, nl_rmul, nl_mm, pu_qe0, pu_qe1, E]
  all_goals try simp (maxSteps := 400000) (disch := omega) [nl_tle, nl_fle, nl_tlt, nl_flt, nl_teq, nl_feq, nl_sub, nl_ss, nl_lt, nl_llt, nl_ltt, nl_le, nl_lle, nl_lee, nl_eq, nl_leq, nl_ee, nl_div, nl_rem, nl_cl, nl_n1, nl_n2, nl_n3, nl_n4, nl_add, nl_ladd, nl_aa, nl_mul, nl_rmul, nl_mm, pu_wi_1, pu_wi_2, bX0_putDecimal_0, a_ist, a_push, pu_rv, pu_as, Value.category, pu_bk, pu_kl, pu_qe0, pu_qe1, E]
  all_goals try simp [bX0_putDecimal_0, a_ist, a_push, pu_rv, pu_as, Value.category, pu_bk, pu_kl, List.replicate, pu_wi_1, pu_wi_2, nl_add, nl_ladd, nl_aa, nl_mul, nl_rmul, nl_mm, pu_qe0, pu_qe1, E]
  all_goals try simp (maxSteps := 400000) (disch := omega) [nl_tle, nl_fle, nl_tlt, nl_flt, nl_teq, nl_feq, nl_sub, nl_ss, nl_lt, nl_llt, nl_ltt, nl_le, nl_lle, nl_lee, nl_eq, nl_leq, nl_ee, nl_div, nl_rem, nl_cl, nl_n1, nl_n2, nl_n3, nl_n4, nl_add, nl_ladd, nl_aa, nl_mul, nl_rmul, nl_mm, pu_wi_1, pu_wi_2, bX0_putDecimal_0, a_ist, a_push, pu_rv, pu_as, Value.category, pu_bk, pu_kl, pu_qe0, pu_qe1, E]
  all_goals try simp [bX0_putDecimal_0, a_ist, a_push, pu_rv, pu_as, Value.category, pu_bk, pu_kl, List.replicate, pu_wi_1, pu_wi_2, nl_add, nl_ladd, nl_aa, nl_mul, nl_rmul, nl_mm, pu_qe0, pu_qe1, E]
/-- a whole's bytes -/
def py_wh (w : Nat) : List Int32 := py_dg (w / 16) ++ (if w % 16 = 9 then [43] else if 0 < w % 16 then [nI (96 + w % 16)] else [])
theorem py_wh_l (w : Nat) : (py_wh w).length ≤ 5 := by
  unfold py_wh
  rw [List.length_append]
  have := py_dg_l (w / 16)
  split
  · simp; omega
  · split
    · simp; omega
    · simp; omega
theorem c_putWhole {N : pu_M} (hx : pu_fx N) (n : Nat) (hn : N.1 3 0 = nI n) (hc : n + 5 ≤ 1200) (w : Nat) (h0 : 16 ≤ w) (hw : w < 160000) : pu_r 154 [some (.ref 3), some (.int (nI w))] [] N = some (none, pz_cw N n (py_wh w)) := by
  have e := c_putDecimal hx n hn (by omega) (w / 16) (by omega) (by omega)
  have l := py_dg_l (w / 16)
  have n1 := py_cw_3 hn (py_dg (w / 16))
  have hx1 : pu_fx (pz_cw N n (py_dg (w / 16))) := pz_fx_of hx (pz_cw_2 _ _ _)
  unfold py_wh
  rw [pz_cw_app]
  generalize pz_cw N n (py_dg (w / 16)) = Q at *
  have m16 : w % 16 < 16 := Nat.mod_lt _ (by omega)
  by_cases c9 : w % 16 = 9
  · rw [if_pos c9]
    have pt := c_put hx1 _ 43 n1 (by omega)
    show _ = some (none, pz_cp Q (n + (py_dg (w / 16)).length) 43)
    rw [qX0_putWhole]
    simp [a_ent, bX0_putWhole_0, bX0_putWhole_28, bX0_putWhole_42, a_ald, a_cv, a_iadd, a_icne, a_idiv, a_ifle, a_ild, a_irem, a_ist, a_isub, a_push, a_vret, sh_1, sh_3, pu_rv, pu_as, Value.category, pu_bk, pu_kl, List.replicate, pu_wi_1, pu_wi_2, nl_add, nl_ladd, nl_aa, nl_mul, nl_rmul, nl_mm, pu_qe0, pu_qe1, e, c9, pt]
    all_goals try simp (maxSteps := 400000) (disch := omega) [nl_tle, nl_fle, nl_tlt, nl_flt, nl_teq, nl_feq, nl_sub, nl_ss, nl_lt, nl_llt, nl_ltt, nl_le, nl_lle, nl_lee, nl_eq, nl_leq, nl_ee, nl_div, nl_rem, nl_cl, nl_n1, nl_n2, nl_n3, nl_n4, nl_add, nl_ladd, nl_aa, nl_mul, nl_rmul, nl_mm, pu_wi_1, pu_wi_2, bX0_putWhole_0, bX0_putWhole_28, bX0_putWhole_42, a_ald, a_cv, a_iadd, a_icne, a_idiv, a_ifle, a_ild, a_irem, a_ist, a_isub, a_push, a_vret, sh_1, sh_3, pu_rv, pu_as, Value.category, pu_bk, pu_kl, pu_qe0, pu_qe1, e, c9, pt]
    all_goals try simp [bX0_putWhole_0, bX0_putWhole_28, bX0_putWhole_42, a_ald, a_cv, a_iadd, a_icne, a_idiv, a_ifle, a_ild, a_irem, a_ist, a_isub, a_push, a_vret, sh_1, sh_3, pu_rv, pu_as, Value.category, pu_bk, pu_kl, List.replicate, pu_wi_1, pu_wi_2, nl_add, nl_ladd, nl_aa, nl_mul, nl_rmul, nl_mm, pu_qe0, pu_qe1, e, c9, pt]
    all_goals try simp (maxSteps := 400000) (disch := omega) [nl_tle, nl_fle, nl_tlt, nl_flt, nl_teq, nl_feq, nl_sub, nl_ss, nl_lt, nl_llt, nl_ltt, nl_le, nl_lle, nl_lee, nl_eq, nl_leq, nl_ee, nl_div, nl_rem, nl_cl, nl_n1, nl_n2, nl_n3, nl_n4, nl_add, nl_ladd, nl_aa, nl_mul, nl_rmul, nl_mm, pu_wi_1, pu_wi_2, bX0_putWhole_0, bX0_putWhole_28, bX0_putWhole_42, a_ald, a_cv, a_iadd, a_icne, a_idiv, a_ifle, a_ild, a_irem, a_ist, a_isub, a_push, a_vret, sh_1, sh_3, pu_rv, pu_as, Value.category, pu_bk, pu_kl, pu_qe0, pu_qe1, e, c9, pt]
    all_goals try simp [bX0_putWhole_0, bX0_putWhole_28, bX0_putWhole_42, a_ald, a_cv, a_iadd, a_icne, a_idiv, a_ifle, a_ild, a_irem, a_ist, a_isub, a_push, a_vret, sh_1, sh_3, pu_rv, pu_as, Value.category, pu_bk, pu_kl, List.replicate, pu_wi_1, pu_wi_2, nl_add, nl_ladd, nl_aa, nl_mul, nl_rmul, nl_mm, pu_qe0, pu_qe1, e, c9, pt]
    all_goals try simp (maxSteps := 400000) (disch := omega) [nl_tle, nl_fle, nl_tlt, nl_flt, nl_teq, nl_feq, nl_sub, nl_ss, nl_lt, nl_llt, nl_ltt, nl_le, nl_lle, nl_lee, nl_eq, nl_leq, nl_ee, nl_div, nl_rem, nl_cl, nl_n1, nl_n2, nl_n3, nl_n4, nl_add, nl_ladd, nl_aa, nl_mul, nl_rmul, nl_mm, pu_wi_1, pu_wi_2, bX0_putWhole_0, bX0_putWhole_28, bX0_putWhole_42, a_ald, a_cv, a_iadd, a_icne, a_idiv, a_ifle, a_ild, a_irem, a_ist, a_isub, a_push, a_vret, sh_1, sh_3, pu_rv, pu_as, Value.category, pu_bk, pu_kl, pu_qe0, pu_qe1, e, c9, pt]
    all_goals try simp [bX0_putWhole_0, bX0_putWhole_28, bX0_putWhole_42, a_ald, a_cv, a_iadd, a_icne, a_idiv, a_ifle, a_ild, a_irem, a_ist, a_isub, a_push, a_vret, sh_1, sh_3, pu_rv, pu_as, Value.category, pu_bk, pu_kl, List.replicate, pu_wi_1, pu_wi_2, nl_add, nl_ladd, nl_aa, nl_mul, nl_rmul, nl_mm, pu_qe0, pu_qe1, e, c9, pt]
  · rw [if_neg c9]
    by_cases c0 : 0 < w % 16
    · rw [if_pos c0]
      have pt := c_put hx1 _ (nI (96 + w % 16)) n1 (by omega)
      have ee : nI (97 + w % 16 - 1) = nI (96 + w % 16) := by rw [show 97 + w % 16 - 1 = 96 + w % 16 by omega]
      have z0 : ¬ w % 16 ≤ 0 := by omega
      have z1 : ¬ w % 16 = 0 := by omega
      show _ = some (none, pz_cp Q (n + (py_dg (w / 16)).length) (nI (96 + w % 16)))
      rw [qX0_putWhole]
      simp [a_ent, bX0_putWhole_0, bX0_putWhole_28, bX0_putWhole_42, a_ald, a_cv, a_iadd, a_icne, a_idiv, a_ifle, a_ild, a_irem, a_ist, a_isub, a_push, a_vret, sh_1, sh_3, pu_rv, pu_as, Value.category, pu_bk, pu_kl, List.replicate, pu_wi_1, pu_wi_2, nl_add, nl_ladd, nl_aa, nl_mul, nl_rmul, nl_mm, pu_qe0, pu_qe1, e, c9, c0, z0, z1, ee, pt]
      all_goals try simp (maxSteps := 400000) (disch := omega) [nl_tle, nl_fle, nl_tlt, nl_flt, nl_teq, nl_feq, nl_sub, nl_ss, nl_lt, nl_llt, nl_ltt, nl_le, nl_lle, nl_lee, nl_eq, nl_leq, nl_ee, nl_div, nl_rem, nl_cl, nl_n1, nl_n2, nl_n3, nl_n4, nl_add, nl_ladd, nl_aa, nl_mul, nl_rmul, nl_mm, pu_wi_1, pu_wi_2, bX0_putWhole_0, bX0_putWhole_28, bX0_putWhole_42, a_ald, a_cv, a_iadd, a_icne, a_idiv, a_ifle, a_ild, a_irem, a_ist, a_isub, a_push, a_vret, sh_1, sh_3, pu_rv, pu_as, Value.category, pu_bk, pu_kl, pu_qe0, pu_qe1, e, c9, c0, z0, z1, ee, pt]
      all_goals try simp [bX0_putWhole_0, bX0_putWhole_28, bX0_putWhole_42, a_ald, a_cv, a_iadd, a_icne, a_idiv, a_ifle, a_ild, a_irem, a_ist, a_isub, a_push, a_vret, sh_1, sh_3, pu_rv, pu_as, Value.category, pu_bk, pu_kl, List.replicate, pu_wi_1, pu_wi_2, nl_add, nl_ladd, nl_aa, nl_mul, nl_rmul, nl_mm, pu_qe0, pu_qe1, e, c9, c0, z0, z1, ee, pt]
      all_goals try simp (maxSteps := 400000) (disch := omega) [nl_tle, nl_fle, nl_tlt, nl_flt, nl_teq, nl_feq, nl_sub, nl_ss, nl_lt, nl_llt, nl_ltt, nl_le, nl_lle, nl_lee, nl_eq, nl_leq, nl_ee, nl_div, nl_rem, nl_cl, nl_n1, nl_n2, nl_n3, nl_n4, nl_add, nl_ladd, nl_aa, nl_mul, nl_rmul, nl_mm, pu_wi_1, pu_wi_2, bX0_putWhole_0, bX0_putWhole_28, bX0_putWhole_42, a_ald, a_cv, a_iadd, a_icne, a_idiv, a_ifle, a_ild, a_irem, a_ist, a_isub, a_push, a_vret, sh_1, sh_3, pu_rv, pu_as, Value.category, pu_bk, pu_kl, pu_qe0, pu_qe1, e, c9, c0, z0, z1, ee, pt]
      all_goals try simp [bX0_putWhole_0, bX0_putWhole_28, bX0_putWhole_42, a_ald, a_cv, a_iadd, a_icne, a_idiv, a_ifle, a_ild, a_irem, a_ist, a_isub, a_push, a_vret, sh_1, sh_3, pu_rv, pu_as, Value.category, pu_bk, pu_kl, List.replicate, pu_wi_1, pu_wi_2, nl_add, nl_ladd, nl_aa, nl_mul, nl_rmul, nl_mm, pu_qe0, pu_qe1, e, c9, c0, z0, z1, ee, pt]
      all_goals try simp (maxSteps := 400000) (disch := omega) [nl_tle, nl_fle, nl_tlt, nl_flt, nl_teq, nl_feq, nl_sub, nl_ss, nl_lt, nl_llt, nl_ltt, nl_le, nl_lle, nl_lee, nl_eq, nl_leq, nl_ee, nl_div, nl_rem, nl_cl, nl_n1, nl_n2, nl_n3, nl_n4, nl_add, nl_ladd, nl_aa, nl_mul, nl_rmul, nl_mm, pu_wi_1, pu_wi_2, bX0_putWhole_0, bX0_putWhole_28, bX0_putWhole_42, a_ald, a_cv, a_iadd, a_icne, a_idiv, a_ifle, a_ild, a_irem, a_ist, a_isub, a_push, a_vret, sh_1, sh_3, pu_rv, pu_as, Value.category, pu_bk, pu_kl, pu_qe0, pu_qe1, e, c9, c0, z0, z1, ee, pt]
      all_goals try simp [bX0_putWhole_0, bX0_putWhole_28, bX0_putWhole_42, a_ald, a_cv, a_iadd, a_icne, a_idiv, a_ifle, a_ild, a_irem, a_ist, a_isub, a_push, a_vret, sh_1, sh_3, pu_rv, pu_as, Value.category, pu_bk, pu_kl, List.replicate, pu_wi_1, pu_wi_2, nl_add, nl_ladd, nl_aa, nl_mul, nl_rmul, nl_mm, pu_qe0, pu_qe1, e, c9, c0, z0, z1, ee, pt]
    · rw [if_neg c0]
      have z0 : w % 16 = 0 := by omega
      show _ = some (none, Q)
      rw [qX0_putWhole]
      simp [a_ent, bX0_putWhole_0, bX0_putWhole_28, bX0_putWhole_42, a_ald, a_cv, a_iadd, a_icne, a_idiv, a_ifle, a_ild, a_irem, a_ist, a_isub, a_push, a_vret, sh_1, sh_3, pu_rv, pu_as, Value.category, pu_bk, pu_kl, List.replicate, pu_wi_1, pu_wi_2, nl_add, nl_ladd, nl_aa, nl_mul, nl_rmul, nl_mm, pu_qe0, pu_qe1, e, c9, z0]
      all_goals try simp (maxSteps := 400000) (disch := omega) [nl_tle, nl_fle, nl_tlt, nl_flt, nl_teq, nl_feq, nl_sub, nl_ss, nl_lt, nl_llt, nl_ltt, nl_le, nl_lle, nl_lee, nl_eq, nl_leq, nl_ee, nl_div, nl_rem, nl_cl, nl_n1, nl_n2, nl_n3, nl_n4, nl_add, nl_ladd, nl_aa, nl_mul, nl_rmul, nl_mm, pu_wi_1, pu_wi_2, bX0_putWhole_0, bX0_putWhole_28, bX0_putWhole_42, a_ald, a_cv, a_iadd, a_icne, a_idiv, a_ifle, a_ild, a_irem, a_ist, a_isub, a_push, a_vret, sh_1, sh_3, pu_rv, pu_as, Value.category, pu_bk, pu_kl, pu_qe0, pu_qe1, e, c9, z0]
      all_goals try simp [bX0_putWhole_0, bX0_putWhole_28, bX0_putWhole_42, a_ald, a_cv, a_iadd, a_icne, a_idiv, a_ifle, a_ild, a_irem, a_ist, a_isub, a_push, a_vret, sh_1, sh_3, pu_rv, pu_as, Value.category, pu_bk, pu_kl, List.replicate, pu_wi_1, pu_wi_2, nl_add, nl_ladd, nl_aa, nl_mul, nl_rmul, nl_mm, pu_qe0, pu_qe1, e, c9, z0]
      all_goals try simp (maxSteps := 400000) (disch := omega) [nl_tle, nl_fle, nl_tlt, nl_flt, nl_teq, nl_feq, nl_sub, nl_ss, nl_lt, nl_llt, nl_ltt, nl_le, nl_lle, nl_lee, nl_eq, nl_leq, nl_ee, nl_div, nl_rem, nl_cl, nl_n1, nl_n2, nl_n3, nl_n4, nl_add, nl_ladd, nl_aa, nl_mul, nl_rmul, nl_mm, pu_wi_1, pu_wi_2, bX0_putWhole_0, bX0_putWhole_28, bX0_putWhole_42, a_ald, a_cv, a_iadd, a_icne, a_idiv, a_ifle, a_ild, a_irem, a_ist, a_isub, a_push, a_vret, sh_1, sh_3, pu_rv, pu_as, Value.category, pu_bk, pu_kl, pu_qe0, pu_qe1, e, c9, z0]
      all_goals try simp [bX0_putWhole_0, bX0_putWhole_28, bX0_putWhole_42, a_ald, a_cv, a_iadd, a_icne, a_idiv, a_ifle, a_ild, a_irem, a_ist, a_isub, a_push, a_vret, sh_1, sh_3, pu_rv, pu_as, Value.category, pu_bk, pu_kl, List.replicate, pu_wi_1, pu_wi_2, nl_add, nl_ladd, nl_aa, nl_mul, nl_rmul, nl_mm, pu_qe0, pu_qe1, e, c9, z0]
      all_goals try simp (maxSteps := 400000) (disch := omega) [nl_tle, nl_fle, nl_tlt, nl_flt, nl_teq, nl_feq, nl_sub, nl_ss, nl_lt, nl_llt, nl_ltt, nl_le, nl_lle, nl_lee, nl_eq, nl_leq, nl_ee, nl_div, nl_rem, nl_cl, nl_n1, nl_n2, nl_n3, nl_n4, nl_add, nl_ladd, nl_aa, nl_mul, nl_rmul, nl_mm, pu_wi_1, pu_wi_2, bX0_putWhole_0, bX0_putWhole_28, bX0_putWhole_42, a_ald, a_cv, a_iadd, a_icne, a_idiv, a_ifle, a_ild, a_irem, a_ist, a_isub, a_push, a_vret, sh_1, sh_3, pu_rv, pu_as, Value.category, pu_bk, pu_kl, pu_qe0, pu_qe1, e, c9, z0]
      all_goals try simp [bX0_putWhole_0, bX0_putWhole_28, bX0_putWhole_42, a_ald, a_cv, a_iadd, a_icne, a_idiv, a_ifle, a_ild, a_irem, a_ist, a_isub, a_push, a_vret, sh_1, sh_3, pu_rv, pu_as, Value.category, pu_bk, pu_kl, List.replicate, pu_wi_1, pu_wi_2, nl_add, nl_ladd, nl_aa, nl_mul, nl_rmul, nl_mm, pu_qe0, pu_qe1, e, c9, z0]
