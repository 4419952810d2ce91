/-! the street's view: spans in a row, by rank -/
theorem pu_pig : ∀ (m n : Nat) (f : Nat → Nat), (∀ a, a < n → f a < m) → (∀ a b, a < b → b < n → f a ≠ f b) → n ≤ m
  | 0, n, f, h, _ => by
    cases n with
    | zero => omega
    | succ n => exact absurd (h 0 (by omega)) (by omega)
  | m + 1, n, f, h, hi => by
    by_cases q : ∃ a, a < n ∧ f a = m
    · obtain ⟨a0, q1, q2⟩ := q
      have := pu_pig m (n - 1) (fun a => f (if a < a0 then a else a + 1)) (fun a ha => by
        have h1 := h (if a < a0 then a else a + 1) (by split <;> omega)
        have h2 : f (if a < a0 then a else a + 1) ≠ m := by
          rw [← q2]
          by_cases z : a < a0
          · rw [if_pos z]
            exact hi a a0 z q1
          · rw [if_neg z]
            exact fun e => hi a0 (a + 1) (by omega) (by omega) e.symm
        show f (if a < a0 then a else a + 1) < m
        omega) (fun a b hab hb => hi _ _ (by split <;> split <;> omega) (by split <;> omega))
      omega
    · have := pu_pig m n f (fun a ha => by
        have h1 := h a ha
        have h2 : f a ≠ m := fun e => q ⟨a, ha, e⟩
        omega) hi
      omega
/-- a place's rank in an order -/
def pu_rkx (o : Nat) (s p : Int32) : Int32 := if o = 0 then (if s = 0 then p else 20000 - p) else if o = 1 then 2 * p + s else if o = 2 then -2 * p - s else s * 20000 + p
def pu_rk (I : Nat → Nat → Int32) (o k : Nat) : Int32 := pu_rkx o (I 40 (pu_sl0 I k)) (I 41 (pu_sl0 I k))
/-- what the view tells of span k -/
def pu_vc (I : Nat → Nat → Int32) (o c k : Nat) : Int32 := if c = 63 then nI k else if c = 64 then I 15 k else if c = 65 then I 16 k else if c = 66 then I 40 (pu_sl0 I k) else if c = 67 then I 41 (pu_sl0 I k) else pu_rk I o k
def pu_vp (M : pu_M) (I : Nat → Nat → Int32) (o : Nat) (V : Nat → Nat) (n : Nat) : Prop := M.1 62 0 = nI n ∧ ∀ c j, 63 ≤ c → c ≤ 68 → j < n → M.1 c j = pu_vc I o c (V j)
/-- only the view's rows and its count have changed -/
def pu_vf (M N : pu_M) : Prop := N.2 = M.2 ∧ ∀ c j, ¬ (63 ≤ c ∧ c ≤ 68) → ¬ (c = 62 ∧ j = 0) → N.1 c j = M.1 c j
theorem pu_vf_r (M : pu_M) : pu_vf M M := ⟨rfl, fun _ _ _ _ => rfl⟩
theorem pu_vf_t {M N O : pu_M} (h1 : pu_vf M N) (h2 : pu_vf N O) : pu_vf M O := ⟨h2.1.trans h1.1, fun c j a b => (h2.2 c j a b).trans (h1.2 c j a b)⟩
theorem pu_vf_x {M N : pu_M} (h : pu_vf M N) (hx : pu_fx M) : pu_fx N := fun a k r q => by
  rw [h.1]
  exact hx a k r q
theorem pu_vf_g {M N : pu_M} {I : Nat → Nat → Int32} (h : pu_vf M N) (hI : pu_ag M I) : pu_ag N I := fun a j h1 h2 => by
  rw [h.2 a j (by omega) (by omega)]
  exact hI a j h1 h2
def pu_mu (M : pu_M) (a : Nat) : pu_M := (fun c j => if (63 ≤ c ∧ c ≤ 68) ∧ j = a + 1 then M.1 c a else M.1 c j, M.2)
section
variable {M : pu_M} {I : Nat → Nat → Int32} {L : Nat → Nat → Int64}
theorem c_rankOf (o : Nat) (ho : o < 4) (h : M.1 62 2 = nI o) (s p : Int32) : pu_r 70 [some (.ref 62), some (.int s), some (.int p)] [] M = some (some (.int (pu_rkx o s p)), M) := by
  match o, ho with
  | 0, _ =>
    rw [qX9_rankOf]
    simp [a_ent, bX9_rankOf_0, bX9_rankOf_32, bX9_rankOf_40, bX9_rankOf_45, bX9_rankOf_46, bX9_rankOf_52, bX9_rankOf_59, a_ald, a_gi, a_iadd, a_ifne, a_ild, a_imul, a_iret, a_isub, a_push, a_sw, sh_62, pu_rv, pu_as, Value.category, pu_bk, pu_kl, List.replicate, pu_wi_1, pu_wi_2, nl_add, nl_ladd, nl_aa, nl_mul, nl_rmul, nl_mm, pu_qe0, pu_qe1, h, nl_n0, nl_cl]
    all_goals try simp (maxSteps := 400000) (disch := omega) [nl_tle, nl_fle, nl_tlt, nl_flt, nl_teq, nl_feq, nl_sub, nl_ss, nl_lt, nl_llt, nl_ltt, nl_le, nl_lle, nl_lee, nl_eq, nl_leq, nl_ee, nl_div, nl_rem, nl_cl, nl_n1, nl_n2, nl_n3, nl_n4, nl_add, nl_ladd, nl_aa, nl_mul, nl_rmul, nl_mm, pu_wi_1, pu_wi_2, bX9_rankOf_0, bX9_rankOf_32, bX9_rankOf_40, bX9_rankOf_45, bX9_rankOf_46, bX9_rankOf_52, bX9_rankOf_59, a_ald, a_gi, a_iadd, a_ifne, a_ild, a_imul, a_iret, a_isub, a_push, a_sw, sh_62, pu_rv, pu_as, Value.category, pu_bk, pu_kl, pu_qe0, pu_qe1, h, nl_n0, nl_cl]
    all_goals try simp [bX9_rankOf_0, bX9_rankOf_32, bX9_rankOf_40, bX9_rankOf_45, bX9_rankOf_46, bX9_rankOf_52, bX9_rankOf_59, a_ald, a_gi, a_iadd, a_ifne, a_ild, a_imul, a_iret, a_isub, a_push, a_sw, sh_62, pu_rv, pu_as, Value.category, pu_bk, pu_kl, List.replicate, pu_wi_1, pu_wi_2, nl_add, nl_ladd, nl_aa, nl_mul, nl_rmul, nl_mm, pu_qe0, pu_qe1, h, nl_n0, nl_cl]
    all_goals try simp (maxSteps := 400000) (disch := omega) [nl_tle, nl_fle, nl_tlt, nl_flt, nl_teq, nl_feq, nl_sub, nl_ss, nl_lt, nl_llt, nl_ltt, nl_le, nl_lle, nl_lee, nl_eq, nl_leq, nl_ee, nl_div, nl_rem, nl_cl, nl_n1, nl_n2, nl_n3, nl_n4, nl_add, nl_ladd, nl_aa, nl_mul, nl_rmul, nl_mm, pu_wi_1, pu_wi_2, bX9_rankOf_0, bX9_rankOf_32, bX9_rankOf_40, bX9_rankOf_45, bX9_rankOf_46, bX9_rankOf_52, bX9_rankOf_59, a_ald, a_gi, a_iadd, a_ifne, a_ild, a_imul, a_iret, a_isub, a_push, a_sw, sh_62, pu_rv, pu_as, Value.category, pu_bk, pu_kl, pu_qe0, pu_qe1, h, nl_n0, nl_cl]
    grind [pu_rkx]
  | 1, _ =>
    rw [qX9_rankOf]
    simp [a_ent, bX9_rankOf_0, bX9_rankOf_32, bX9_rankOf_40, bX9_rankOf_45, bX9_rankOf_46, bX9_rankOf_52, bX9_rankOf_59, a_ald, a_gi, a_iadd, a_ifne, a_ild, a_imul, a_iret, a_isub, a_push, a_sw, sh_62, pu_rv, pu_as, Value.category, pu_bk, pu_kl, List.replicate, pu_wi_1, pu_wi_2, nl_add, nl_ladd, nl_aa, nl_mul, nl_rmul, nl_mm, pu_qe0, pu_qe1, h, nl_n0, nl_cl]
    all_goals try simp (maxSteps := 400000) (disch := omega) [nl_tle, nl_fle, nl_tlt, nl_flt, nl_teq, nl_feq, nl_sub, nl_ss, nl_lt, nl_llt, nl_ltt, nl_le, nl_lle, nl_lee, nl_eq, nl_leq, nl_ee, nl_div, nl_rem, nl_cl, nl_n1, nl_n2, nl_n3, nl_n4, nl_add, nl_ladd, nl_aa, nl_mul, nl_rmul, nl_mm, pu_wi_1, pu_wi_2, bX9_rankOf_0, bX9_rankOf_32, bX9_rankOf_40, bX9_rankOf_45, bX9_rankOf_46, bX9_rankOf_52, bX9_rankOf_59, a_ald, a_gi, a_iadd, a_ifne, a_ild, a_imul, a_iret, a_isub, a_push, a_sw, sh_62, pu_rv, pu_as, Value.category, pu_bk, pu_kl, pu_qe0, pu_qe1, h, nl_n0, nl_cl]
    all_goals try simp [bX9_rankOf_0, bX9_rankOf_32, bX9_rankOf_40, bX9_rankOf_45, bX9_rankOf_46, bX9_rankOf_52, bX9_rankOf_59, a_ald, a_gi, a_iadd, a_ifne, a_ild, a_imul, a_iret, a_isub, a_push, a_sw, sh_62, pu_rv, pu_as, Value.category, pu_bk, pu_kl, List.replicate, pu_wi_1, pu_wi_2, nl_add, nl_ladd, nl_aa, nl_mul, nl_rmul, nl_mm, pu_qe0, pu_qe1, h, nl_n0, nl_cl]
    all_goals try simp (maxSteps := 400000) (disch := omega) [nl_tle, nl_fle, nl_tlt, nl_flt, nl_teq, nl_feq, nl_sub, nl_ss, nl_lt, nl_llt, nl_ltt, nl_le, nl_lle, nl_lee, nl_eq, nl_leq, nl_ee, nl_div, nl_rem, nl_cl, nl_n1, nl_n2, nl_n3, nl_n4, nl_add, nl_ladd, nl_aa, nl_mul, nl_rmul, nl_mm, pu_wi_1, pu_wi_2, bX9_rankOf_0, bX9_rankOf_32, bX9_rankOf_40, bX9_rankOf_45, bX9_rankOf_46, bX9_rankOf_52, bX9_rankOf_59, a_ald, a_gi, a_iadd, a_ifne, a_ild, a_imul, a_iret, a_isub, a_push, a_sw, sh_62, pu_rv, pu_as, Value.category, pu_bk, pu_kl, pu_qe0, pu_qe1, h, nl_n0, nl_cl]
    simp [pu_rkx]
  | 2, _ =>
    rw [qX9_rankOf]
    simp [a_ent, bX9_rankOf_0, bX9_rankOf_32, bX9_rankOf_40, bX9_rankOf_45, bX9_rankOf_46, bX9_rankOf_52, bX9_rankOf_59, a_ald, a_gi, a_iadd, a_ifne, a_ild, a_imul, a_iret, a_isub, a_push, a_sw, sh_62, pu_rv, pu_as, Value.category, pu_bk, pu_kl, List.replicate, pu_wi_1, pu_wi_2, nl_add, nl_ladd, nl_aa, nl_mul, nl_rmul, nl_mm, pu_qe0, pu_qe1, h, nl_n0, nl_cl]
    all_goals try simp (maxSteps := 400000) (disch := omega) [nl_tle, nl_fle, nl_tlt, nl_flt, nl_teq, nl_feq, nl_sub, nl_ss, nl_lt, nl_llt, nl_ltt, nl_le, nl_lle, nl_lee, nl_eq, nl_leq, nl_ee, nl_div, nl_rem, nl_cl, nl_n1, nl_n2, nl_n3, nl_n4, nl_add, nl_ladd, nl_aa, nl_mul, nl_rmul, nl_mm, pu_wi_1, pu_wi_2, bX9_rankOf_0, bX9_rankOf_32, bX9_rankOf_40, bX9_rankOf_45, bX9_rankOf_46, bX9_rankOf_52, bX9_rankOf_59, a_ald, a_gi, a_iadd, a_ifne, a_ild, a_imul, a_iret, a_isub, a_push, a_sw, sh_62, pu_rv, pu_as, Value.category, pu_bk, pu_kl, pu_qe0, pu_qe1, h, nl_n0, nl_cl]
    all_goals try simp [bX9_rankOf_0, bX9_rankOf_32, bX9_rankOf_40, bX9_rankOf_45, bX9_rankOf_46, bX9_rankOf_52, bX9_rankOf_59, a_ald, a_gi, a_iadd, a_ifne, a_ild, a_imul, a_iret, a_isub, a_push, a_sw, sh_62, pu_rv, pu_as, Value.category, pu_bk, pu_kl, List.replicate, pu_wi_1, pu_wi_2, nl_add, nl_ladd, nl_aa, nl_mul, nl_rmul, nl_mm, pu_qe0, pu_qe1, h, nl_n0, nl_cl]
    all_goals try simp (maxSteps := 400000) (disch := omega) [nl_tle, nl_fle, nl_tlt, nl_flt, nl_teq, nl_feq, nl_sub, nl_ss, nl_lt, nl_llt, nl_ltt, nl_le, nl_lle, nl_lee, nl_eq, nl_leq, nl_ee, nl_div, nl_rem, nl_cl, nl_n1, nl_n2, nl_n3, nl_n4, nl_add, nl_ladd, nl_aa, nl_mul, nl_rmul, nl_mm, pu_wi_1, pu_wi_2, bX9_rankOf_0, bX9_rankOf_32, bX9_rankOf_40, bX9_rankOf_45, bX9_rankOf_46, bX9_rankOf_52, bX9_rankOf_59, a_ald, a_gi, a_iadd, a_ifne, a_ild, a_imul, a_iret, a_isub, a_push, a_sw, sh_62, pu_rv, pu_as, Value.category, pu_bk, pu_kl, pu_qe0, pu_qe1, h, nl_n0, nl_cl]
    simp [pu_rkx]
  | 3, _ =>
    rw [qX9_rankOf]
    simp [a_ent, bX9_rankOf_0, bX9_rankOf_32, bX9_rankOf_40, bX9_rankOf_45, bX9_rankOf_46, bX9_rankOf_52, bX9_rankOf_59, a_ald, a_gi, a_iadd, a_ifne, a_ild, a_imul, a_iret, a_isub, a_push, a_sw, sh_62, pu_rv, pu_as, Value.category, pu_bk, pu_kl, List.replicate, pu_wi_1, pu_wi_2, nl_add, nl_ladd, nl_aa, nl_mul, nl_rmul, nl_mm, pu_qe0, pu_qe1, h, nl_n0, nl_cl]
    all_goals try simp (maxSteps := 400000) (disch := omega) [nl_tle, nl_fle, nl_tlt, nl_flt, nl_teq, nl_feq, nl_sub, nl_ss, nl_lt, nl_llt, nl_ltt, nl_le, nl_lle, nl_lee, nl_eq, nl_leq, nl_ee, nl_div, nl_rem, nl_cl, nl_n1, nl_n2, nl_n3, nl_n4, nl_add, nl_ladd, nl_aa, nl_mul, nl_rmul, nl_mm, pu_wi_1, pu_wi_2, bX9_rankOf_0, bX9_rankOf_32, bX9_rankOf_40, bX9_rankOf_45, bX9_rankOf_46, bX9_rankOf_52, bX9_rankOf_59, a_ald, a_gi, a_iadd, a_ifne, a_ild, a_imul, a_iret, a_isub, a_push, a_sw, sh_62, pu_rv, pu_as, Value.category, pu_bk, pu_kl, pu_qe0, pu_qe1, h, nl_n0, nl_cl]
    all_goals try simp [bX9_rankOf_0, bX9_rankOf_32, bX9_rankOf_40, bX9_rankOf_45, bX9_rankOf_46, bX9_rankOf_52, bX9_rankOf_59, a_ald, a_gi, a_iadd, a_ifne, a_ild, a_imul, a_iret, a_isub, a_push, a_sw, sh_62, pu_rv, pu_as, Value.category, pu_bk, pu_kl, List.replicate, pu_wi_1, pu_wi_2, nl_add, nl_ladd, nl_aa, nl_mul, nl_rmul, nl_mm, pu_qe0, pu_qe1, h, nl_n0, nl_cl]
    all_goals try simp (maxSteps := 400000) (disch := omega) [nl_tle, nl_fle, nl_tlt, nl_flt, nl_teq, nl_feq, nl_sub, nl_ss, nl_lt, nl_llt, nl_ltt, nl_le, nl_lle, nl_lee, nl_eq, nl_leq, nl_ee, nl_div, nl_rem, nl_cl, nl_n1, nl_n2, nl_n3, nl_n4, nl_add, nl_ladd, nl_aa, nl_mul, nl_rmul, nl_mm, pu_wi_1, pu_wi_2, bX9_rankOf_0, bX9_rankOf_32, bX9_rankOf_40, bX9_rankOf_45, bX9_rankOf_46, bX9_rankOf_52, bX9_rankOf_59, a_ald, a_gi, a_iadd, a_ifne, a_ild, a_imul, a_iret, a_isub, a_push, a_sw, sh_62, pu_rv, pu_as, Value.category, pu_bk, pu_kl, pu_qe0, pu_qe1, h, nl_n0, nl_cl]
    simp [pu_rkx]
  | o + 4, h => omega
theorem c_moveUp (hx : pu_fx M) (a : Nat) (ha : a < 99) : pu_r 71 [some (.ref 62), some (.int (nI (a + 1)))] [] M = some (none, pu_mu M a) := by
  have e : nI (a + 1) - 1 = nI a := nI_pred a
  rw [qX9_moveUp]
  simp [a_ent, bX9_moveUp_0, bX9_moveUp_34, bX9_moveUp_68, a_ai, a_ald, a_gr, a_ild, a_isub, a_push, a_vret, a_wi, fx_62_3 hx, fx_62_4 hx, fx_62_5 hx, fx_62_6 hx, fx_62_7 hx, fx_62_8 hx, sh_62, sh_63, sh_64, sh_65, sh_66, sh_67, sh_68, pu_rv, pu_as, Value.category, pu_bk, pu_kl, List.replicate, pu_wi_1, pu_wi_2, nl_add, nl_ladd, nl_aa, nl_mul, nl_rmul, nl_mm, pu_qe0, pu_qe1, e]
  all_goals try simp (maxSteps := 400000) (disch := omega) [nl_tle, nl_fle, nl_tlt, nl_flt, nl_teq, nl_feq, nl_sub, nl_ss, nl_lt, nl_llt, nl_ltt, nl_le, nl_lle, nl_lee, nl_eq, nl_leq, nl_ee, nl_div, nl_rem, nl_cl, nl_n1, nl_n2, nl_n3, nl_n4, nl_add, nl_ladd, nl_aa, nl_mul, nl_rmul, nl_mm, pu_wi_1, pu_wi_2, bX9_moveUp_0, bX9_moveUp_34, bX9_moveUp_68, a_ai, a_ald, a_gr, a_ild, a_isub, a_push, a_vret, a_wi, fx_62_3 hx, fx_62_4 hx, fx_62_5 hx, fx_62_6 hx, fx_62_7 hx, fx_62_8 hx, sh_62, sh_63, sh_64, sh_65, sh_66, sh_67, sh_68, pu_rv, pu_as, Value.category, pu_bk, pu_kl, pu_qe0, pu_qe1, e]
  all_goals try simp [bX9_moveUp_0, bX9_moveUp_34, bX9_moveUp_68, a_ai, a_ald, a_gr, a_ild, a_isub, a_push, a_vret, a_wi, fx_62_3 hx, fx_62_4 hx, fx_62_5 hx, fx_62_6 hx, fx_62_7 hx, fx_62_8 hx, sh_62, sh_63, sh_64, sh_65, sh_66, sh_67, sh_68, pu_rv, pu_as, Value.category, pu_bk, pu_kl, List.replicate, pu_wi_1, pu_wi_2, nl_add, nl_ladd, nl_aa, nl_mul, nl_rmul, nl_mm, pu_qe0, pu_qe1, e]
  all_goals try simp (maxSteps := 400000) (disch := omega) [nl_tle, nl_fle, nl_tlt, nl_flt, nl_teq, nl_feq, nl_sub, nl_ss, nl_lt, nl_llt, nl_ltt, nl_le, nl_lle, nl_lee, nl_eq, nl_leq, nl_ee, nl_div, nl_rem, nl_cl, nl_n1, nl_n2, nl_n3, nl_n4, nl_add, nl_ladd, nl_aa, nl_mul, nl_rmul, nl_mm, pu_wi_1, pu_wi_2, bX9_moveUp_0, bX9_moveUp_34, bX9_moveUp_68, a_ai, a_ald, a_gr, a_ild, a_isub, a_push, a_vret, a_wi, fx_62_3 hx, fx_62_4 hx, fx_62_5 hx, fx_62_6 hx, fx_62_7 hx, fx_62_8 hx, sh_62, sh_63, sh_64, sh_65, sh_66, sh_67, sh_68, pu_rv, pu_as, Value.category, pu_bk, pu_kl, pu_qe0, pu_qe1, e]
  unfold pu_mu pu_wi
  congr 1
  funext c j
  grind
/-- seeking the place of span k in a view of n, from place a down -/
theorem c_add_l (o n k : Nat) (V : Nat → Nat) (hn : n < 100) (sl wh : Int32) : ∀ (a : Nat) (N : pu_M), a ≤ n → pu_fx N → pu_ag N I → (∀ c j, 63 ≤ c → c ≤ 68 → j < a → N.1 c j = pu_vc I o c (V j)) → (∀ c j, 63 ≤ c → c ≤ 68 → a < j → j ≤ n → N.1 c j = pu_vc I o c (V (j - 1))) →
    ∃ b N1, b ≤ a ∧ pu_vf N N1 ∧ N1.1 62 0 = N.1 62 0 ∧ (∀ c j, 63 ≤ c → c ≤ 68 → j < b → N1.1 c j = pu_vc I o c (V j)) ∧ (∀ c j, 63 ≤ c → c ≤ 68 → b < j → j ≤ n → N1.1 c j = pu_vc I o c (V (j - 1))) ∧ (∀ j, b ≤ j → j < a → pu_rk I o k < pu_rk I o (V j)) ∧ (b = 0 ∨ ¬ pu_rk I o k < pu_rk I o (V (b - 1))) ∧
      pu_r 370 [some (.ref 62), some (.ref 31), some (.int sl), some (.int wh), some (.int (nI k)), some (.int (pu_rk I o k)), some (.int (nI a))] [] N = kX9_add_65 pu_r [some (.ref 62), some (.ref 31), some (.int sl), some (.int wh), some (.int (nI k)), some (.int (pu_rk I o k)), some (.int (nI b))] [] N1
  | 0, N, _, hx, hI, h1, h2 => by
    refine ⟨0, N, by omega, pu_vf_r N, rfl, h1, h2, fun j a b => by omega, Or.inl rfl, ?_⟩
    rw [qX9_add_34]
    simp [bX9_add_34, a_ild, a_ifle, nI_0]
  | a + 1, N, hle, hx, hI, h1, h2 => by
    have e : nI (a + 1) - 1 = nI a := nI_pred a
    have e2 : nI (a + 1) + (-1) = nI a := pk_m1 a
    have p0 : ¬ nI (a + 1) ≤ 0 := nI_nle (by omega) (by omega)
    have r1 : N.1 68 a = pu_rk I o (V a) := by
      rw [h1 68 a (by omega) (by omega) (by omega)]
      simp [pu_vc]
    by_cases c : pu_rk I o k < pu_rk I o (V a)
    · have c2 : ¬ pu_rk I o (V a) ≤ pu_rk I o k := Int32.not_le.mpr c
      have m1 := c_moveUp hx a (by omega)
      have v1 : pu_vf N (pu_mu N a) := ⟨rfl, fun c j a1 a2 => by
        show (if _ then _ else _) = _
        rw [if_neg (fun q => a1 q.1)]⟩
      obtain ⟨b, N1, b1, b2, b3, b4, b5, b6, b7, b8⟩ := c_add_l o n k V hn sl wh a (pu_mu N a) (by omega) (pu_vf_x v1 hx) (pu_vf_g v1 hI) (fun c j q1 q2 q3 => by
        show (if _ then _ else _) = _
        rw [if_neg (by omega)]
        exact h1 c j q1 q2 (by omega)) (fun c j q1 q2 q3 q4 => by
        show (if _ then _ else _) = _
        by_cases z : j = a + 1
        · rw [if_pos ⟨⟨q1, q2⟩, z⟩, h1 c a q1 q2 (by omega), z]
          rfl
        · rw [if_neg (by omega)]
          exact h2 c j q1 q2 (by omega) q4)
      refine ⟨b, N1, by omega, pu_vf_t v1 b2, ?_, b4, b5, fun j q1 q2 => ?_, b7, ?_⟩
      · rw [b3]
        simp [pu_mu]
      · by_cases z : j = a
        · rw [z]; exact c
        · exact b6 j q1 (by omega)
      · rw [← b8, qX9_add_34]
        simp [bX9_add_34, bX9_add_65, bX9_add_104, a_ai, a_ald, a_cv, a_dup, a_gi, a_gr, a_iadd, a_icle, a_ifle, a_ild, a_inc, a_isub, a_pi, a_push, a_vret, a_wi, fx_31_10 hx, fx_31_9 hx, fx_62_3 hx, fx_62_4 hx, fx_62_5 hx, fx_62_6 hx, fx_62_7 hx, fx_62_8 hx, sh_31, sh_40, sh_41, sh_62, sh_63, sh_64, sh_65, sh_66, sh_67, sh_68, pu_rv, pu_as, Value.category, pu_bk, pu_kl, List.replicate, pu_wi_1, pu_wi_2, nl_add, nl_ladd, nl_aa, nl_mul, nl_rmul, nl_mm, pu_qe0, pu_qe1, p0, e, e2, r1, c2, m1, nI_clamp (show a < 2 ^ 31 by omega), nI_pos (show a < 2 ^ 31 by omega)]
        all_goals try simp (maxSteps := 400000) (disch := omega) [nl_tle, nl_fle, nl_tlt, nl_flt, nl_teq, nl_feq, nl_sub, nl_ss, nl_lt, nl_llt, nl_ltt, nl_le, nl_lle, nl_lee, nl_eq, nl_leq, nl_ee, nl_div, nl_rem, nl_cl, nl_n1, nl_n2, nl_n3, nl_n4, nl_add, nl_ladd, nl_aa, nl_mul, nl_rmul, nl_mm, pu_wi_1, pu_wi_2, bX9_add_34, bX9_add_65, bX9_add_104, a_ai, a_ald, a_cv, a_dup, a_gi, a_gr, a_iadd, a_icle, a_ifle, a_ild, a_inc, a_isub, a_pi, a_push, a_vret, a_wi, fx_31_10 hx, fx_31_9 hx, fx_62_3 hx, fx_62_4 hx, fx_62_5 hx, fx_62_6 hx, fx_62_7 hx, fx_62_8 hx, sh_31, sh_40, sh_41, sh_62, sh_63, sh_64, sh_65, sh_66, sh_67, sh_68, pu_rv, pu_as, Value.category, pu_bk, pu_kl, pu_qe0, pu_qe1, p0, e, e2, r1, c2, m1, nI_clamp (show a < 2 ^ 31 by omega), nI_pos (show a < 2 ^ 31 by omega)]
        all_goals try simp [bX9_add_34, bX9_add_65, bX9_add_104, a_ai, a_ald, a_cv, a_dup, a_gi, a_gr, a_iadd, a_icle, a_ifle, a_ild, a_inc, a_isub, a_pi, a_push, a_vret, a_wi, fx_31_10 hx, fx_31_9 hx, fx_62_3 hx, fx_62_4 hx, fx_62_5 hx, fx_62_6 hx, fx_62_7 hx, fx_62_8 hx, sh_31, sh_40, sh_41, sh_62, sh_63, sh_64, sh_65, sh_66, sh_67, sh_68, pu_rv, pu_as, Value.category, pu_bk, pu_kl, List.replicate, pu_wi_1, pu_wi_2, nl_add, nl_ladd, nl_aa, nl_mul, nl_rmul, nl_mm, pu_qe0, pu_qe1, p0, e, e2, r1, c2, m1, nI_clamp (show a < 2 ^ 31 by omega), nI_pos (show a < 2 ^ 31 by omega)]
        all_goals try simp (maxSteps := 400000) (disch := omega) [nl_tle, nl_fle, nl_tlt, nl_flt, nl_teq, nl_feq, nl_sub, nl_ss, nl_lt, nl_llt, nl_ltt, nl_le, nl_lle, nl_lee, nl_eq, nl_leq, nl_ee, nl_div, nl_rem, nl_cl, nl_n1, nl_n2, nl_n3, nl_n4, nl_add, nl_ladd, nl_aa, nl_mul, nl_rmul, nl_mm, pu_wi_1, pu_wi_2, bX9_add_34, bX9_add_65, bX9_add_104, a_ai, a_ald, a_cv, a_dup, a_gi, a_gr, a_iadd, a_icle, a_ifle, a_ild, a_inc, a_isub, a_pi, a_push, a_vret, a_wi, fx_31_10 hx, fx_31_9 hx, fx_62_3 hx, fx_62_4 hx, fx_62_5 hx, fx_62_6 hx, fx_62_7 hx, fx_62_8 hx, sh_31, sh_40, sh_41, sh_62, sh_63, sh_64, sh_65, sh_66, sh_67, sh_68, pu_rv, pu_as, Value.category, pu_bk, pu_kl, pu_qe0, pu_qe1, p0, e, e2, r1, c2, m1, nI_clamp (show a < 2 ^ 31 by omega), nI_pos (show a < 2 ^ 31 by omega)]
    · have c2 : pu_rk I o (V a) ≤ pu_rk I o k := Int32.not_lt.mp c
      refine ⟨a + 1, N, by omega, pu_vf_r N, rfl, h1, h2, fun j q1 q2 => by omega, Or.inr c, ?_⟩
      have i1 := nI_clamp (show a < 2 ^ 31 by omega)
      have i2 := nI_pos (show a < 2 ^ 31 by omega)
      have i3 : ¬ 100 ≤ a := by omega
      rw [qX9_add_34]
      simp [bX9_add_34, a_ild, a_ifle, a_ald, a_gr, a_push, a_isub, a_ai, a_icle, sh_62, sh_68, fx_62_8 hx, pu_rv, p0, e, i1, i2, i3, r1, c2]
end
