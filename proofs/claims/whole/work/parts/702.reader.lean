/-! the class's reader -/
/-- letters from pos on, m at most, as digits -/
def py_lw (b : Nat → Nat) (t : Nat) : Nat → Nat → List Nat
  | 0, _ => []
  | m + 1, pos => if pos < t ∧ 97 ≤ b pos ∧ b pos ≤ 122 then (b pos - 97) :: py_lw b t m (pos + 1) else []
theorem py_lw_l (b : Nat → Nat) (t : Nat) : ∀ m pos, pos ≤ t → (py_lw b t m pos).length ≤ m ∧ pos + (py_lw b t m pos).length ≤ t ∧ ∀ d ∈ py_lw b t m pos, d < 26
  | 0, pos, h => ⟨Nat.le_refl _, h, fun d hd => by cases hd⟩
  | m + 1, pos, h => by
    unfold py_lw
    by_cases c : pos < t ∧ 97 ≤ b pos ∧ b pos ≤ 122
    · rw [if_pos c]
      have ih := py_lw_l b t m (pos + 1) (by omega)
      refine ⟨by rw [List.length_cons]; omega, by rw [List.length_cons]; omega, fun d hd => ?_⟩
      rcases List.mem_cons.mp hd with z | z
      · omega
      · exact ih.2.2 d z
    · rw [if_neg c]
      exact ⟨Nat.zero_le _, h, fun d hd => by cases hd⟩
/-- behind the letters: the end, no letter, or as many as asked for -/
theorem py_lw_e (b : Nat → Nat) (t : Nat) : ∀ m pos, (py_lw b t m pos).length = m ∨ ¬ (pos + (py_lw b t m pos).length < t ∧ 97 ≤ b (pos + (py_lw b t m pos).length) ∧ b (pos + (py_lw b t m pos).length) ≤ 122)
  | 0, pos => Or.inl rfl
  | m + 1, pos => by
    unfold py_lw
    by_cases c : pos < t ∧ 97 ≤ b pos ∧ b pos ≤ 122
    · rw [if_pos c, List.length_cons]
      rcases py_lw_e b t m (pos + 1) with z | z
      · left
        omega
      · right
        rw [show pos + ((py_lw b t m (pos + 1)).length + 1) = pos + 1 + (py_lw b t m (pos + 1)).length by omega]
        exact z
    · rw [if_neg c]
      exact Or.inr c
def py_tv (M : pu_M) (b : Nat → Nat) (t : Nat) : Prop := M.1 1 0 = nI t ∧ t ≤ 1200 ∧ M.2.2.1 59 6 = some 1 ∧ ∀ j, j < t → M.1 2 j = nI (b j) ∧ b j < 256
theorem py_wi_id (M : pu_M) (a i : Nat) : pu_wi M a i (M.1 a i) = M := by
  unfold pu_wi
  have : (fun b j => if b = a then (if j = i then M.1 a i else M.1 b j) else M.1 b j) = M.1 := by
    funext x j
    by_cases c : x = a
    · by_cases d : j = i
      · simp [c, d]
      · simp [c, d]
    · simp [c]
  rw [this]
theorem py_wi_s {M : pu_M} {a i : Nat} {v w : Int32} : pu_wi (pu_wi M a i v) a i w = pu_wi M a i w := by
  unfold pu_wi
  congr 1
  funext x j
  by_cases c : x = a
  · by_cases d : j = i
    · simp [c, d]
    · simp [c, d]
  · simp [c]
theorem py_tv_p {M : pu_M} {b : Nat → Nat} {t : Nat} (h : py_tv M b t) (v : Int32) : py_tv (pu_wi M 59 7 v) b t := ⟨by rw [py_wi_o (by omega)]; exact h.1, h.2.1, h.2.2.1, fun j hj => by rw [py_wi_o (by omega)]; exact h.2.2.2 j hj⟩
section
variable {M : pu_M} {b : Nat → Nat} {t : Nat}
theorem c_isNext (hx : pu_fx M) (h : py_tv M b t) {pos : Nat} (hp : pos ≤ t) (h7 : M.1 59 7 = nI pos) (lo hi : Nat) (hlo : lo < 256) (hhi : hi < 256) : pu_r 23 [some (.ref 59), some (.int (nI lo)), some (.int (nI hi))] [] M = some (some (.int (pu_q (pos < t ∧ lo ≤ b pos ∧ b pos ≤ hi))), M) := by
  obtain ⟨t1, t2, t3, t4⟩ := h
  have f := fx_1_1 hx
  by_cases c : pos < t
  · obtain ⟨u1, u2⟩ := t4 pos c
    by_cases c1 : lo ≤ b pos
    · by_cases c2 : b pos ≤ hi
      · rw [pu_q1 ⟨c, c1, c2⟩]
        rw [qX7_isNext]
        simp [a_ent, bX7_isNext_0, bX7_isNext_50, bX7_isNext_51, a_ai, a_ald, a_gi, a_gr, a_icge, a_icgt, a_iclt, a_ild, a_push, a_zret, fx_1_1 hx, fx_3_1 hx, sh_1, sh_2, sh_3, sh_4, sh_59, pu_rv, pu_as, Value.category, pu_bk, pu_kl, List.replicate, pu_wi_1, pu_wi_2, nl_add, nl_ladd, nl_aa, nl_mul, nl_rmul, nl_mm, pu_qe0, pu_qe1, h7, t1, t3, f, u1, c, c1, c2]
        all_goals try simp (maxSteps := 400000) (disch := omega) [nl_tle, nl_fle, nl_tlt, nl_flt, nl_teq, nl_feq, nl_sub, nl_ss, nl_lt, nl_llt, nl_ltt, nl_le, nl_lle, nl_lee, nl_eq, nl_leq, nl_ee, nl_div, nl_rem, nl_cl, nl_n1, nl_n2, nl_n3, nl_n4, nl_add, nl_ladd, nl_aa, nl_mul, nl_rmul, nl_mm, pu_wi_1, pu_wi_2, bX7_isNext_0, bX7_isNext_50, bX7_isNext_51, a_ai, a_ald, a_gi, a_gr, a_icge, a_icgt, a_iclt, a_ild, a_push, a_zret, fx_1_1 hx, fx_3_1 hx, sh_1, sh_2, sh_3, sh_4, sh_59, pu_rv, pu_as, Value.category, pu_bk, pu_kl, pu_qe0, pu_qe1, h7, t1, t3, f, u1, c, c1, c2]
        all_goals try simp [bX7_isNext_0, bX7_isNext_50, bX7_isNext_51, a_ai, a_ald, a_gi, a_gr, a_icge, a_icgt, a_iclt, a_ild, a_push, a_zret, fx_1_1 hx, fx_3_1 hx, sh_1, sh_2, sh_3, sh_4, sh_59, pu_rv, pu_as, Value.category, pu_bk, pu_kl, List.replicate, pu_wi_1, pu_wi_2, nl_add, nl_ladd, nl_aa, nl_mul, nl_rmul, nl_mm, pu_qe0, pu_qe1, h7, t1, t3, f, u1, c, c1, c2]
        all_goals try simp (maxSteps := 400000) (disch := omega) [nl_tle, nl_fle, nl_tlt, nl_flt, nl_teq, nl_feq, nl_sub, nl_ss, nl_lt, nl_llt, nl_ltt, nl_le, nl_lle, nl_lee, nl_eq, nl_leq, nl_ee, nl_div, nl_rem, nl_cl, nl_n1, nl_n2, nl_n3, nl_n4, nl_add, nl_ladd, nl_aa, nl_mul, nl_rmul, nl_mm, pu_wi_1, pu_wi_2, bX7_isNext_0, bX7_isNext_50, bX7_isNext_51, a_ai, a_ald, a_gi, a_gr, a_icge, a_icgt, a_iclt, a_ild, a_push, a_zret, fx_1_1 hx, fx_3_1 hx, sh_1, sh_2, sh_3, sh_4, sh_59, pu_rv, pu_as, Value.category, pu_bk, pu_kl, pu_qe0, pu_qe1, h7, t1, t3, f, u1, c, c1, c2]
      · rw [pu_q0 (fun z => c2 z.2.2)]
        rw [qX7_isNext]
        simp [a_ent, bX7_isNext_0, bX7_isNext_50, bX7_isNext_51, a_ai, a_ald, a_gi, a_gr, a_icge, a_icgt, a_iclt, a_ild, a_push, a_zret, fx_1_1 hx, fx_3_1 hx, sh_1, sh_2, sh_3, sh_4, sh_59, pu_rv, pu_as, Value.category, pu_bk, pu_kl, List.replicate, pu_wi_1, pu_wi_2, nl_add, nl_ladd, nl_aa, nl_mul, nl_rmul, nl_mm, pu_qe0, pu_qe1, h7, t1, t3, f, u1, c, c1, c2]
        all_goals try simp (maxSteps := 400000) (disch := omega) [nl_tle, nl_fle, nl_tlt, nl_flt, nl_teq, nl_feq, nl_sub, nl_ss, nl_lt, nl_llt, nl_ltt, nl_le, nl_lle, nl_lee, nl_eq, nl_leq, nl_ee, nl_div, nl_rem, nl_cl, nl_n1, nl_n2, nl_n3, nl_n4, nl_add, nl_ladd, nl_aa, nl_mul, nl_rmul, nl_mm, pu_wi_1, pu_wi_2, bX7_isNext_0, bX7_isNext_50, bX7_isNext_51, a_ai, a_ald, a_gi, a_gr, a_icge, a_icgt, a_iclt, a_ild, a_push, a_zret, fx_1_1 hx, fx_3_1 hx, sh_1, sh_2, sh_3, sh_4, sh_59, pu_rv, pu_as, Value.category, pu_bk, pu_kl, pu_qe0, pu_qe1, h7, t1, t3, f, u1, c, c1, c2]
        all_goals try simp [bX7_isNext_0, bX7_isNext_50, bX7_isNext_51, a_ai, a_ald, a_gi, a_gr, a_icge, a_icgt, a_iclt, a_ild, a_push, a_zret, fx_1_1 hx, fx_3_1 hx, sh_1, sh_2, sh_3, sh_4, sh_59, pu_rv, pu_as, Value.category, pu_bk, pu_kl, List.replicate, pu_wi_1, pu_wi_2, nl_add, nl_ladd, nl_aa, nl_mul, nl_rmul, nl_mm, pu_qe0, pu_qe1, h7, t1, t3, f, u1, c, c1, c2]
        all_goals try simp (maxSteps := 400000) (disch := omega) [nl_tle, nl_fle, nl_tlt, nl_flt, nl_teq, nl_feq, nl_sub, nl_ss, nl_lt, nl_llt, nl_ltt, nl_le, nl_lle, nl_lee, nl_eq, nl_leq, nl_ee, nl_div, nl_rem, nl_cl, nl_n1, nl_n2, nl_n3, nl_n4, nl_add, nl_ladd, nl_aa, nl_mul, nl_rmul, nl_mm, pu_wi_1, pu_wi_2, bX7_isNext_0, bX7_isNext_50, bX7_isNext_51, a_ai, a_ald, a_gi, a_gr, a_icge, a_icgt, a_iclt, a_ild, a_push, a_zret, fx_1_1 hx, fx_3_1 hx, sh_1, sh_2, sh_3, sh_4, sh_59, pu_rv, pu_as, Value.category, pu_bk, pu_kl, pu_qe0, pu_qe1, h7, t1, t3, f, u1, c, c1, c2]
    · rw [pu_q0 (fun z => c1 z.2.1)]
      rw [qX7_isNext]
      simp [a_ent, bX7_isNext_0, bX7_isNext_50, bX7_isNext_51, a_ai, a_ald, a_gi, a_gr, a_icge, a_icgt, a_iclt, a_ild, a_push, a_zret, fx_1_1 hx, fx_3_1 hx, sh_1, sh_2, sh_3, sh_4, sh_59, pu_rv, pu_as, Value.category, pu_bk, pu_kl, List.replicate, pu_wi_1, pu_wi_2, nl_add, nl_ladd, nl_aa, nl_mul, nl_rmul, nl_mm, pu_qe0, pu_qe1, h7, t1, t3, f, u1, c, c1]
      all_goals try simp (maxSteps := 400000) (disch := omega) [nl_tle, nl_fle, nl_tlt, nl_flt, nl_teq, nl_feq, nl_sub, nl_ss, nl_lt, nl_llt, nl_ltt, nl_le, nl_lle, nl_lee, nl_eq, nl_leq, nl_ee, nl_div, nl_rem, nl_cl, nl_n1, nl_n2, nl_n3, nl_n4, nl_add, nl_ladd, nl_aa, nl_mul, nl_rmul, nl_mm, pu_wi_1, pu_wi_2, bX7_isNext_0, bX7_isNext_50, bX7_isNext_51, a_ai, a_ald, a_gi, a_gr, a_icge, a_icgt, a_iclt, a_ild, a_push, a_zret, fx_1_1 hx, fx_3_1 hx, sh_1, sh_2, sh_3, sh_4, sh_59, pu_rv, pu_as, Value.category, pu_bk, pu_kl, pu_qe0, pu_qe1, h7, t1, t3, f, u1, c, c1]
      all_goals try simp [bX7_isNext_0, bX7_isNext_50, bX7_isNext_51, a_ai, a_ald, a_gi, a_gr, a_icge, a_icgt, a_iclt, a_ild, a_push, a_zret, fx_1_1 hx, fx_3_1 hx, sh_1, sh_2, sh_3, sh_4, sh_59, pu_rv, pu_as, Value.category, pu_bk, pu_kl, List.replicate, pu_wi_1, pu_wi_2, nl_add, nl_ladd, nl_aa, nl_mul, nl_rmul, nl_mm, pu_qe0, pu_qe1, h7, t1, t3, f, u1, c, c1]
      all_goals try simp (maxSteps := 400000) (disch := omega) [nl_tle, nl_fle, nl_tlt, nl_flt, nl_teq, nl_feq, nl_sub, nl_ss, nl_lt, nl_llt, nl_ltt, nl_le, nl_lle, nl_lee, nl_eq, nl_leq, nl_ee, nl_div, nl_rem, nl_cl, nl_n1, nl_n2, nl_n3, nl_n4, nl_add, nl_ladd, nl_aa, nl_mul, nl_rmul, nl_mm, pu_wi_1, pu_wi_2, bX7_isNext_0, bX7_isNext_50, bX7_isNext_51, a_ai, a_ald, a_gi, a_gr, a_icge, a_icgt, a_iclt, a_ild, a_push, a_zret, fx_1_1 hx, fx_3_1 hx, sh_1, sh_2, sh_3, sh_4, sh_59, pu_rv, pu_as, Value.category, pu_bk, pu_kl, pu_qe0, pu_qe1, h7, t1, t3, f, u1, c, c1]
  · rw [pu_q0 (fun z => c z.1)]
    rw [qX7_isNext]
    simp [a_ent, bX7_isNext_0, bX7_isNext_50, bX7_isNext_51, a_ai, a_ald, a_gi, a_gr, a_icge, a_icgt, a_iclt, a_ild, a_push, a_zret, fx_1_1 hx, fx_3_1 hx, sh_1, sh_2, sh_3, sh_4, sh_59, pu_rv, pu_as, Value.category, pu_bk, pu_kl, List.replicate, pu_wi_1, pu_wi_2, nl_add, nl_ladd, nl_aa, nl_mul, nl_rmul, nl_mm, pu_qe0, pu_qe1, h7, t1, t3, f, c]
    all_goals try simp (maxSteps := 400000) (disch := omega) [nl_tle, nl_fle, nl_tlt, nl_flt, nl_teq, nl_feq, nl_sub, nl_ss, nl_lt, nl_llt, nl_ltt, nl_le, nl_lle, nl_lee, nl_eq, nl_leq, nl_ee, nl_div, nl_rem, nl_cl, nl_n1, nl_n2, nl_n3, nl_n4, nl_add, nl_ladd, nl_aa, nl_mul, nl_rmul, nl_mm, pu_wi_1, pu_wi_2, bX7_isNext_0, bX7_isNext_50, bX7_isNext_51, a_ai, a_ald, a_gi, a_gr, a_icge, a_icgt, a_iclt, a_ild, a_push, a_zret, fx_1_1 hx, fx_3_1 hx, sh_1, sh_2, sh_3, sh_4, sh_59, pu_rv, pu_as, Value.category, pu_bk, pu_kl, pu_qe0, pu_qe1, h7, t1, t3, f, c]
    all_goals try simp [bX7_isNext_0, bX7_isNext_50, bX7_isNext_51, a_ai, a_ald, a_gi, a_gr, a_icge, a_icgt, a_iclt, a_ild, a_push, a_zret, fx_1_1 hx, fx_3_1 hx, sh_1, sh_2, sh_3, sh_4, sh_59, pu_rv, pu_as, Value.category, pu_bk, pu_kl, List.replicate, pu_wi_1, pu_wi_2, nl_add, nl_ladd, nl_aa, nl_mul, nl_rmul, nl_mm, pu_qe0, pu_qe1, h7, t1, t3, f, c]
    all_goals try simp (maxSteps := 400000) (disch := omega) [nl_tle, nl_fle, nl_tlt, nl_flt, nl_teq, nl_feq, nl_sub, nl_ss, nl_lt, nl_llt, nl_ltt, nl_le, nl_lle, nl_lee, nl_eq, nl_leq, nl_ee, nl_div, nl_rem, nl_cl, nl_n1, nl_n2, nl_n3, nl_n4, nl_add, nl_ladd, nl_aa, nl_mul, nl_rmul, nl_mm, pu_wi_1, pu_wi_2, bX7_isNext_0, bX7_isNext_50, bX7_isNext_51, a_ai, a_ald, a_gi, a_gr, a_icge, a_icgt, a_iclt, a_ild, a_push, a_zret, fx_1_1 hx, fx_3_1 hx, sh_1, sh_2, sh_3, sh_4, sh_59, pu_rv, pu_as, Value.category, pu_bk, pu_kl, pu_qe0, pu_qe1, h7, t1, t3, f, c]
theorem c_readByte (hx : pu_fx M) (h : py_tv M b t) {pos : Nat} (hp : pos ≤ t) (h7 : M.1 59 7 = nI pos) (c0 : Nat) (hc0 : c0 < 256) : (pos < t ∧ b pos = c0 ∧ pu_r 25 [some (.ref 59), some (.int (nI c0))] [] M = some (some (.int 1), pu_wi M 59 7 (nI (pos + 1)))) ∨ (¬ (pos < t ∧ b pos = c0) ∧ pu_r 25 [some (.ref 59), some (.int (nI c0))] [] M = some (some (.int 0), M)) := by
  have e := c_isNext hx h hp h7 c0 c0 hc0 hc0
  by_cases c : pos < t ∧ b pos = c0
  · rw [pu_q1 ⟨c.1, by omega, by omega⟩] at e
    refine Or.inl ⟨c.1, c.2, ?_⟩
    rw [qX7_readByte]
    simp [a_ent, bX7_readByte_0, bX7_readByte_11, a_ald, a_cv, a_dup, a_gi, a_iadd, a_ifne, a_ild, a_pi, a_push, a_zret, sh_59, pu_rv, pu_as, Value.category, pu_bk, pu_kl, List.replicate, pu_wi_1, pu_wi_2, nl_add, nl_ladd, nl_aa, nl_mul, nl_rmul, nl_mm, pu_qe0, pu_qe1, e, h7]
    all_goals try simp (maxSteps := 400000) (disch := omega) [nl_tle, nl_fle, nl_tlt, nl_flt, nl_teq, nl_feq, nl_sub, nl_ss, nl_lt, nl_llt, nl_ltt, nl_le, nl_lle, nl_lee, nl_eq, nl_leq, nl_ee, nl_div, nl_rem, nl_cl, nl_n1, nl_n2, nl_n3, nl_n4, nl_add, nl_ladd, nl_aa, nl_mul, nl_rmul, nl_mm, pu_wi_1, pu_wi_2, bX7_readByte_0, bX7_readByte_11, a_ald, a_cv, a_dup, a_gi, a_iadd, a_ifne, a_ild, a_pi, a_push, a_zret, sh_59, pu_rv, pu_as, Value.category, pu_bk, pu_kl, pu_qe0, pu_qe1, e, h7]
    all_goals try simp [bX7_readByte_0, bX7_readByte_11, a_ald, a_cv, a_dup, a_gi, a_iadd, a_ifne, a_ild, a_pi, a_push, a_zret, sh_59, pu_rv, pu_as, Value.category, pu_bk, pu_kl, List.replicate, pu_wi_1, pu_wi_2, nl_add, nl_ladd, nl_aa, nl_mul, nl_rmul, nl_mm, pu_qe0, pu_qe1, e, h7]
    all_goals try simp (maxSteps := 400000) (disch := omega) [nl_tle, nl_fle, nl_tlt, nl_flt, nl_teq, nl_feq, nl_sub, nl_ss, nl_lt, nl_llt, nl_ltt, nl_le, nl_lle, nl_lee, nl_eq, nl_leq, nl_ee, nl_div, nl_rem, nl_cl, nl_n1, nl_n2, nl_n3, nl_n4, nl_add, nl_ladd, nl_aa, nl_mul, nl_rmul, nl_mm, pu_wi_1, pu_wi_2, bX7_readByte_0, bX7_readByte_11, a_ald, a_cv, a_dup, a_gi, a_iadd, a_ifne, a_ild, a_pi, a_push, a_zret, sh_59, pu_rv, pu_as, Value.category, pu_bk, pu_kl, pu_qe0, pu_qe1, e, h7]
  · rw [pu_q0 (fun z => c ⟨z.1, by omega⟩)] at e
    refine Or.inr ⟨c, ?_⟩
    rw [qX7_readByte]
    simp [a_ent, bX7_readByte_0, bX7_readByte_11, a_ald, a_cv, a_dup, a_gi, a_iadd, a_ifne, a_ild, a_pi, a_push, a_zret, sh_59, pu_rv, pu_as, Value.category, pu_bk, pu_kl, List.replicate, pu_wi_1, pu_wi_2, nl_add, nl_ladd, nl_aa, nl_mul, nl_rmul, nl_mm, pu_qe0, pu_qe1, e]
    all_goals try simp (maxSteps := 400000) (disch := omega) [nl_tle, nl_fle, nl_tlt, nl_flt, nl_teq, nl_feq, nl_sub, nl_ss, nl_lt, nl_llt, nl_ltt, nl_le, nl_lle, nl_lee, nl_eq, nl_leq, nl_ee, nl_div, nl_rem, nl_cl, nl_n1, nl_n2, nl_n3, nl_n4, nl_add, nl_ladd, nl_aa, nl_mul, nl_rmul, nl_mm, pu_wi_1, pu_wi_2, bX7_readByte_0, bX7_readByte_11, a_ald, a_cv, a_dup, a_gi, a_iadd, a_ifne, a_ild, a_pi, a_push, a_zret, sh_59, pu_rv, pu_as, Value.category, pu_bk, pu_kl, pu_qe0, pu_qe1, e]
    all_goals try simp [bX7_readByte_0, bX7_readByte_11, a_ald, a_cv, a_dup, a_gi, a_iadd, a_ifne, a_ild, a_pi, a_push, a_zret, sh_59, pu_rv, pu_as, Value.category, pu_bk, pu_kl, List.replicate, pu_wi_1, pu_wi_2, nl_add, nl_ladd, nl_aa, nl_mul, nl_rmul, nl_mm, pu_qe0, pu_qe1, e]
    all_goals try simp (maxSteps := 400000) (disch := omega) [nl_tle, nl_fle, nl_tlt, nl_flt, nl_teq, nl_feq, nl_sub, nl_ss, nl_lt, nl_llt, nl_ltt, nl_le, nl_lle, nl_lee, nl_eq, nl_leq, nl_ee, nl_div, nl_rem, nl_cl, nl_n1, nl_n2, nl_n3, nl_n4, nl_add, nl_ladd, nl_aa, nl_mul, nl_rmul, nl_mm, pu_wi_1, pu_wi_2, bX7_readByte_0, bX7_readByte_11, a_ald, a_cv, a_dup, a_gi, a_iadd, a_ifne, a_ild, a_pi, a_push, a_zret, sh_59, pu_rv, pu_as, Value.category, pu_bk, pu_kl, pu_qe0, pu_qe1, e]
theorem c_readWord_l (b : Nat → Nat) (t : Nat) : ∀ (m i pos v : Nat) (M : pu_M), pu_fx M → py_tv M b t → i + m = 12 → pos ≤ t → M.1 59 7 = nI pos → pu_r 358 [some (.ref 59), some (.long (lN v)), none, some (.int (nI i))] [] M = some (some (.long (lN ((py_lw b t m pos).foldl (fun v d => v * 27 + (d + 1)) v))), pu_wi M 59 7 (nI (pos + (py_lw b t m pos).length)))
  | 0, i, pos, v, M, hx, h, hm, hp, h7 => by
    have e : i = 12 := by omega
    subst e
    have w : pu_wi M 59 7 (nI pos) = M := by
      rw [← h7]
      exact py_wi_id M 59 7
    show _ = some (some (Value.long (lN v)), pu_wi M 59 7 (nI pos))
    rw [w]
    have hc : 12 ≤ nI 12 := by decide
    rw [qX7_readWord_4]
    simp [bX7_readWord_4, bX7_readWord_62, bX7_readWord_46, a_ai, a_ald, a_cv, a_dup, a_gi, a_gr, a_i2l, a_iadd, a_icge, a_ifeq, a_ild, a_inc, a_isub, a_ladd, a_lld, a_lmul, a_lret, a_lst, a_pi, a_push, fx_1_1 hx, fx_3_1 hx, sh_1, sh_2, sh_3, sh_4, sh_59, pu_rv, pu_as, Value.category, pu_bk, pu_kl, List.replicate, pu_wi_1, pu_wi_2, nl_add, nl_ladd, nl_aa, nl_mul, nl_rmul, nl_mm, pu_qe0, pu_qe1, hc]
    all_goals try simp (maxSteps := 400000) (disch := omega) [nl_tle, nl_fle, nl_tlt, nl_flt, nl_teq, nl_feq, nl_sub, nl_ss, nl_lt, nl_llt, nl_ltt, nl_le, nl_lle, nl_lee, nl_eq, nl_leq, nl_ee, nl_div, nl_rem, nl_cl, nl_n1, nl_n2, nl_n3, nl_n4, nl_add, nl_ladd, nl_aa, nl_mul, nl_rmul, nl_mm, pu_wi_1, pu_wi_2, bX7_readWord_4, bX7_readWord_62, bX7_readWord_46, a_ai, a_ald, a_cv, a_dup, a_gi, a_gr, a_i2l, a_iadd, a_icge, a_ifeq, a_ild, a_inc, a_isub, a_ladd, a_lld, a_lmul, a_lret, a_lst, a_pi, a_push, fx_1_1 hx, fx_3_1 hx, sh_1, sh_2, sh_3, sh_4, sh_59, pu_rv, pu_as, Value.category, pu_bk, pu_kl, pu_qe0, pu_qe1, hc]
    all_goals try simp [bX7_readWord_4, bX7_readWord_62, bX7_readWord_46, a_ai, a_ald, a_cv, a_dup, a_gi, a_gr, a_i2l, a_iadd, a_icge, a_ifeq, a_ild, a_inc, a_isub, a_ladd, a_lld, a_lmul, a_lret, a_lst, a_pi, a_push, fx_1_1 hx, fx_3_1 hx, sh_1, sh_2, sh_3, sh_4, sh_59, pu_rv, pu_as, Value.category, pu_bk, pu_kl, List.replicate, pu_wi_1, pu_wi_2, nl_add, nl_ladd, nl_aa, nl_mul, nl_rmul, nl_mm, pu_qe0, pu_qe1, hc]
    all_goals try simp (maxSteps := 400000) (disch := omega) [nl_tle, nl_fle, nl_tlt, nl_flt, nl_teq, nl_feq, nl_sub, nl_ss, nl_lt, nl_llt, nl_ltt, nl_le, nl_lle, nl_lee, nl_eq, nl_leq, nl_ee, nl_div, nl_rem, nl_cl, nl_n1, nl_n2, nl_n3, nl_n4, nl_add, nl_ladd, nl_aa, nl_mul, nl_rmul, nl_mm, pu_wi_1, pu_wi_2, bX7_readWord_4, bX7_readWord_62, bX7_readWord_46, a_ai, a_ald, a_cv, a_dup, a_gi, a_gr, a_i2l, a_iadd, a_icge, a_ifeq, a_ild, a_inc, a_isub, a_ladd, a_lld, a_lmul, a_lret, a_lst, a_pi, a_push, fx_1_1 hx, fx_3_1 hx, sh_1, sh_2, sh_3, sh_4, sh_59, pu_rv, pu_as, Value.category, pu_bk, pu_kl, pu_qe0, pu_qe1, hc]
  | m + 1, i, pos, v, M, hx, h, hm, hp, h7 => by
    have hc : ¬ 12 ≤ nI i := nI_ge (b := 12) (by omega) (by omega)
    have e := c_isNext hx h hp h7 97 122 (by omega) (by omega)
    rw [show nI 97 = (97 : Int32) from rfl, show nI 122 = (122 : Int32) from rfl] at e
    unfold py_lw
    by_cases c : pos < t ∧ 97 ≤ b pos ∧ b pos ≤ 122
    · rw [if_pos c]
      rw [pu_q1 c] at e
      obtain ⟨u1, u2⟩ := h.2.2.2 pos c.1
      have t3 := h.2.2.1
      have t2 := h.2.1
      have f := fx_1_1 hx
      have ih := c_readWord_l b t m (i + 1) (pos + 1) (v * 27 + (b pos - 97 + 1)) (pu_wi M 59 7 (nI (pos + 1))) hx (py_tv_p h _) (by omega) (by omega) (by simp [pu_wi_1])
      rw [py_wi_s] at ih
      have a1 : nI (b pos) - 97 = nI (b pos - 97) := pk_sub (b := 97) c.2.1
      have a2 : (nI (b pos - 97 + 1)).toInt64 = lN (b pos - 97 + 1) := nI_l (by omega)
      have a3 : lN v * 27 = lN (v * 27) := lN_mul v 27
      have a4 : lN (v * 27) + lN (b pos - 97 + 1) = lN (v * 27 + (b pos - 97 + 1)) := lN_add _ _
      rw [List.foldl_cons, List.length_cons, show pos + ((py_lw b t m (pos + 1)).length + 1) = pos + 1 + (py_lw b t m (pos + 1)).length by omega]
      rw [qX7_readWord_4]
      simp [bX7_readWord_4, bX7_readWord_62, bX7_readWord_46, a_ai, a_ald, a_cv, a_dup, a_gi, a_gr, a_i2l, a_iadd, a_icge, a_ifeq, a_ild, a_inc, a_isub, a_ladd, a_lld, a_lmul, a_lret, a_lst, a_pi, a_push, fx_1_1 hx, fx_3_1 hx, sh_1, sh_2, sh_3, sh_4, sh_59, pu_rv, pu_as, Value.category, pu_bk, pu_kl, List.replicate, pu_wi_1, pu_wi_2, nl_add, nl_ladd, nl_aa, nl_mul, nl_rmul, nl_mm, pu_qe0, pu_qe1, hc, e, h7, t3, f, u1, a1, a2, a3, a4, ih]
      all_goals try simp (maxSteps := 400000) (disch := omega) [nl_tle, nl_fle, nl_tlt, nl_flt, nl_teq, nl_feq, nl_sub, nl_ss, nl_lt, nl_llt, nl_ltt, nl_le, nl_lle, nl_lee, nl_eq, nl_leq, nl_ee, nl_div, nl_rem, nl_cl, nl_n1, nl_n2, nl_n3, nl_n4, nl_add, nl_ladd, nl_aa, nl_mul, nl_rmul, nl_mm, pu_wi_1, pu_wi_2, bX7_readWord_4, bX7_readWord_62, bX7_readWord_46, a_ai, a_ald, a_cv, a_dup, a_gi, a_gr, a_i2l, a_iadd, a_icge, a_ifeq, a_ild, a_inc, a_isub, a_ladd, a_lld, a_lmul, a_lret, a_lst, a_pi, a_push, fx_1_1 hx, fx_3_1 hx, sh_1, sh_2, sh_3, sh_4, sh_59, pu_rv, pu_as, Value.category, pu_bk, pu_kl, pu_qe0, pu_qe1, hc, e, h7, t3, f, u1, a1, a2, a3, a4, ih]
      all_goals try simp [bX7_readWord_4, bX7_readWord_62, bX7_readWord_46, a_ai, a_ald, a_cv, a_dup, a_gi, a_gr, a_i2l, a_iadd, a_icge, a_ifeq, a_ild, a_inc, a_isub, a_ladd, a_lld, a_lmul, a_lret, a_lst, a_pi, a_push, fx_1_1 hx, fx_3_1 hx, sh_1, sh_2, sh_3, sh_4, sh_59, pu_rv, pu_as, Value.category, pu_bk, pu_kl, List.replicate, pu_wi_1, pu_wi_2, nl_add, nl_ladd, nl_aa, nl_mul, nl_rmul, nl_mm, pu_qe0, pu_qe1, hc, e, h7, t3, f, u1, a1, a2, a3, a4, ih]
      all_goals try simp (maxSteps := 400000) (disch := omega) [nl_tle, nl_fle, nl_tlt, nl_flt, nl_teq, nl_feq, nl_sub, nl_ss, nl_lt, nl_llt, nl_ltt, nl_le, nl_lle, nl_lee, nl_eq, nl_leq, nl_ee, nl_div, nl_rem, nl_cl, nl_n1, nl_n2, nl_n3, nl_n4, nl_add, nl_ladd, nl_aa, nl_mul, nl_rmul, nl_mm, pu_wi_1, pu_wi_2, bX7_readWord_4, bX7_readWord_62, bX7_readWord_46, a_ai, a_ald, a_cv, a_dup, a_gi, a_gr, a_i2l, a_iadd, a_icge, a_ifeq, a_ild, a_inc, a_isub, a_ladd, a_lld, a_lmul, a_lret, a_lst, a_pi, a_push, fx_1_1 hx, fx_3_1 hx, sh_1, sh_2, sh_3, sh_4, sh_59, pu_rv, pu_as, Value.category, pu_bk, pu_kl, pu_qe0, pu_qe1, hc, e, h7, t3, f, u1, a1, a2, a3, a4, ih]
    · rw [if_neg c]
      rw [pu_q0 c] at e
      have w : pu_wi M 59 7 (nI pos) = M := by
        rw [← h7]
        exact py_wi_id M 59 7
      show _ = some (some (Value.long (lN v)), pu_wi M 59 7 (nI pos))
      rw [w]
      rw [qX7_readWord_4]
      simp [bX7_readWord_4, bX7_readWord_62, bX7_readWord_46, a_ai, a_ald, a_cv, a_dup, a_gi, a_gr, a_i2l, a_iadd, a_icge, a_ifeq, a_ild, a_inc, a_isub, a_ladd, a_lld, a_lmul, a_lret, a_lst, a_pi, a_push, fx_1_1 hx, fx_3_1 hx, sh_1, sh_2, sh_3, sh_4, sh_59, pu_rv, pu_as, Value.category, pu_bk, pu_kl, List.replicate, pu_wi_1, pu_wi_2, nl_add, nl_ladd, nl_aa, nl_mul, nl_rmul, nl_mm, pu_qe0, pu_qe1, hc, e]
      all_goals try simp (maxSteps := 400000) (disch := omega) [nl_tle, nl_fle, nl_tlt, nl_flt, nl_teq, nl_feq, nl_sub, nl_ss, nl_lt, nl_llt, nl_ltt, nl_le, nl_lle, nl_lee, nl_eq, nl_leq, nl_ee, nl_div, nl_rem, nl_cl, nl_n1, nl_n2, nl_n3, nl_n4, nl_add, nl_ladd, nl_aa, nl_mul, nl_rmul, nl_mm, pu_wi_1, pu_wi_2, bX7_readWord_4, bX7_readWord_62, bX7_readWord_46, a_ai, a_ald, a_cv, a_dup, a_gi, a_gr, a_i2l, a_iadd, a_icge, a_ifeq, a_ild, a_inc, a_isub, a_ladd, a_lld, a_lmul, a_lret, a_lst, a_pi, a_push, fx_1_1 hx, fx_3_1 hx, sh_1, sh_2, sh_3, sh_4, sh_59, pu_rv, pu_as, Value.category, pu_bk, pu_kl, pu_qe0, pu_qe1, hc, e]
      all_goals try simp [bX7_readWord_4, bX7_readWord_62, bX7_readWord_46, a_ai, a_ald, a_cv, a_dup, a_gi, a_gr, a_i2l, a_iadd, a_icge, a_ifeq, a_ild, a_inc, a_isub, a_ladd, a_lld, a_lmul, a_lret, a_lst, a_pi, a_push, fx_1_1 hx, fx_3_1 hx, sh_1, sh_2, sh_3, sh_4, sh_59, pu_rv, pu_as, Value.category, pu_bk, pu_kl, List.replicate, pu_wi_1, pu_wi_2, nl_add, nl_ladd, nl_aa, nl_mul, nl_rmul, nl_mm, pu_qe0, pu_qe1, hc, e]
      all_goals try simp (maxSteps := 400000) (disch := omega) [nl_tle, nl_fle, nl_tlt, nl_flt, nl_teq, nl_feq, nl_sub, nl_ss, nl_lt, nl_llt, nl_ltt, nl_le, nl_lle, nl_lee, nl_eq, nl_leq, nl_ee, nl_div, nl_rem, nl_cl, nl_n1, nl_n2, nl_n3, nl_n4, nl_add, nl_ladd, nl_aa, nl_mul, nl_rmul, nl_mm, pu_wi_1, pu_wi_2, bX7_readWord_4, bX7_readWord_62, bX7_readWord_46, a_ai, a_ald, a_cv, a_dup, a_gi, a_gr, a_i2l, a_iadd, a_icge, a_ifeq, a_ild, a_inc, a_isub, a_ladd, a_lld, a_lmul, a_lret, a_lst, a_pi, a_push, fx_1_1 hx, fx_3_1 hx, sh_1, sh_2, sh_3, sh_4, sh_59, pu_rv, pu_as, Value.category, pu_bk, pu_kl, pu_qe0, pu_qe1, hc, e]
theorem c_readWord (hx : pu_fx M) (h : py_tv M b t) {pos : Nat} (hp : pos ≤ t) (h7 : M.1 59 7 = nI pos) : pu_r 24 [some (.ref 59)] [] M = some (some (.long (lN (pu_wv (py_lw b t 12 pos)))), pu_wi M 59 7 (nI (pos + (py_lw b t 12 pos).length))) := by
  have e := c_readWord_l b t 12 0 pos 0 M hx h (by omega) hp h7
  rw [nI_0, show lN 0 = (0 : Int64) from rfl] at e
  rw [qX7_readWord]
  simp [a_ent, bX7_readWord_0, a_ist, a_lst, a_push, pu_rv, pu_as, Value.category, pu_bk, pu_kl, List.replicate, pu_wi_1, pu_wi_2, nl_add, nl_ladd, nl_aa, nl_mul, nl_rmul, nl_mm, pu_qe0, pu_qe1, e, pu_wv]
  all_goals try simp (maxSteps := 400000) (disch := omega) [nl_tle, nl_fle, nl_tlt, nl_flt, nl_teq, nl_feq, nl_sub, nl_ss, nl_lt, nl_llt, nl_ltt, nl_le, nl_lle, nl_lee, nl_eq, nl_leq, nl_ee, nl_div, nl_rem, nl_cl, nl_n1, nl_n2, nl_n3, nl_n4, nl_add, nl_ladd, nl_aa, nl_mul, nl_rmul, nl_mm, pu_wi_1, pu_wi_2, bX7_readWord_0, a_ist, a_lst, a_push, pu_rv, pu_as, Value.category, pu_bk, pu_kl, pu_qe0, pu_qe1, e, pu_wv]
  all_goals try simp [bX7_readWord_0, a_ist, a_lst, a_push, pu_rv, pu_as, Value.category, pu_bk, pu_kl, List.replicate, pu_wi_1, pu_wi_2, nl_add, nl_ladd, nl_aa, nl_mul, nl_rmul, nl_mm, pu_qe0, pu_qe1, e, pu_wv]
  all_goals try simp (maxSteps := 400000) (disch := omega) [nl_tle, nl_fle, nl_tlt, nl_flt, nl_teq, nl_feq, nl_sub, nl_ss, nl_lt, nl_llt, nl_ltt, nl_le, nl_lle, nl_lee, nl_eq, nl_leq, nl_ee, nl_div, nl_rem, nl_cl, nl_n1, nl_n2, nl_n3, nl_n4, nl_add, nl_ladd, nl_aa, nl_mul, nl_rmul, nl_mm, pu_wi_1, pu_wi_2, bX7_readWord_0, a_ist, a_lst, a_push, pu_rv, pu_as, Value.category, pu_bk, pu_kl, pu_qe0, pu_qe1, e, pu_wv]
end
