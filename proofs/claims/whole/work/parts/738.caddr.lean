/-! addresses: the class reads number, EXTRA, street, town -/
section
variable {b : Nat → Nat} {t : Nat}
/-- of ints, only the reader's own have changed -/
def py_r9 (M N : pu_M) : Prop := N.2 = M.2 ∧ ∀ x j, ¬ (x = 59 ∧ (j = 2 ∨ j = 3 ∨ j = 4 ∨ j = 5 ∨ j = 7)) → N.1 x j = M.1 x j
theorem py_tv_9 {M N : pu_M} (h : py_tv M b t) (e : py_r9 M N) : py_tv N b t := py_tv_m h (e.2 1 0 (by omega)) (fun j => e.2 2 j (by omega)) (by rw [e.1])
theorem c_readNumber {M : pu_M} (hx : pu_fx M) (h : py_tv M b t) {pos : Nat} (hp : pos ≤ t) (h7 : M.1 59 7 = nI pos) (hd : pos < t ∧ 49 ≤ b pos ∧ b pos ≤ 57) : ∃ N, py_r9 M N ∧ N.1 59 7 = nI (py_nl2 b t (py_d1 b t 3 pos).2).2 ∧ N.1 59 2 = nI (16 * (py_d1 b t 3 pos).1 + (py_nl2 b t (py_d1 b t 3 pos).2).1) ∧ pu_r 167 [some (.ref 59)] [] M = some (some (.int 1), N) := by
  have e := c_readDigits 3 (by omega) hx h hp h7
  rw [show nI (3 + 1) = (4 : Int32) from rfl] at e
  have db := py_d1_b b t 3 pos hp
  have d0 := db.2.2.2.mpr hd
  generalize (py_d1 b t 3 pos).1 = v at *
  generalize (py_d1 b t 3 pos).2 = p at *
  have v0 : ¬ nI v = 0 := fun q => by
    rw [show (0 : Int32) = nI 0 from rfl, nI_eq (by omega) (by omega)] at q
    omega
  have v1 : ¬ v = 0 := by omega
  -- behind the digits
  have hx1 : pu_fx (pu_wi (pu_wi M 59 7 (nI p)) 59 2 (nI (16 * v))) := hx
  have t1 : py_tv (pu_wi (pu_wi M 59 7 (nI p)) 59 2 (nI (16 * v))) b t := py_tv_m h (by rw [py_wi_o (by omega), py_wi_o (by omega)]) (fun j => by rw [py_wi_o (by omega), py_wi_o (by omega)]) rfl
  have p1 : (pu_wi (pu_wi M 59 7 (nI p)) 59 2 (nI (16 * v))).1 59 7 = nI p := by
    rw [py_wi_o (by omega)]
    simp [pu_wi_1]
  have w1 : (pu_wi (pu_wi M 59 7 (nI p)) 59 2 (nI (16 * v))).1 59 2 = nI (16 * v) := by simp [pu_wi_1]
  have f1 : py_r9 M (pu_wi (pu_wi M 59 7 (nI p)) 59 2 (nI (16 * v))) := ⟨rfl, fun x j hj => by rw [py_wi_o (by omega), py_wi_o (by omega)]⟩
  generalize hQ : pu_wi (pu_wi M 59 7 (nI p)) 59 2 (nI (16 * v)) = Q at *
  have e2 := c_isNext hx1 t1 (by omega) p1 97 104 (by omega) (by omega)
  rw [show nI 97 = (97 : Int32) from rfl, show nI 104 = (104 : Int32) from rfl] at e2
  unfold py_nl2
  by_cases c1 : p < t ∧ 97 ≤ b p ∧ b p ≤ 104
  · rw [if_pos c1]
    rw [pu_q1 c1] at e2
    obtain ⟨u1, u2⟩ := t1.2.2.2 p c1.1
    have t3 := t1.2.2.1
    have f := fx_1_1 hx1
    have pl : p < 1200 := by have := h.2.1; omega
    have a1 : nI (b p) - 97 = nI (b p - 97) := pk_sub (b := 97) c1.2.1
    have a2 : nI (16 * v + (b p - 97 + 1)) = nI (16 * v + (b p - 96)) := by rw [show b p - 97 + 1 = b p - 96 by omega]
    refine ⟨pu_wi (pu_wi Q 59 2 (nI (16 * v + (b p - 96)))) 59 7 (nI (p + 1)), ⟨f1.1, fun x j hj => by rw [py_wi_o (by omega), py_wi_o (by omega)]; exact f1.2 x j hj⟩, by simp [pu_wi_1], ?_, ?_⟩
    · rw [py_wi_o (by omega)]
      simp [pu_wi_1]
    · have p2 : (pu_wi Q 59 2 (nI (16 * v + (b p - 96)))).1 59 7 = nI p := by rw [py_wi_o (by omega)]; exact p1
      rw [qX7_readNumber]
      simp [a_ent, bX7_readNumber_0, bX7_readNumber_12, bX7_readNumber_70, bX7_readNumber_90, bX7_readNumber_54, a_ai, a_ald, a_cv, a_dup, a_gi, a_gr, a_iadd, a_ifeq, a_ifne, a_ild, a_imul, a_ist, a_isub, a_pi, a_push, a_zret, sh_1, sh_2, sh_3, sh_4, sh_59, pu_rv, pu_as, Value.category, pu_bk, pu_kl, List.replicate, pu_wi_1, pu_wi_2, nl_add, nl_ladd, nl_aa, nl_mul, nl_rmul, nl_mm, pu_qe0, pu_qe1, e, v0, v1, hQ, e2, w1, t3, f, p1, u1, pl, a1, a2, p2]
      all_goals try simp (maxSteps := 400000) (disch := omega) [nl_tle, nl_fle, nl_tlt, nl_flt, nl_teq, nl_feq, nl_sub, nl_ss, nl_lt, nl_llt, nl_ltt, nl_le, nl_lle, nl_lee, nl_eq, nl_leq, nl_ee, nl_div, nl_rem, nl_cl, nl_n1, nl_n2, nl_n3, nl_n4, nl_add, nl_ladd, nl_aa, nl_mul, nl_rmul, nl_mm, pu_wi_1, pu_wi_2, bX7_readNumber_0, bX7_readNumber_12, bX7_readNumber_70, bX7_readNumber_90, bX7_readNumber_54, a_ai, a_ald, a_cv, a_dup, a_gi, a_gr, a_iadd, a_ifeq, a_ifne, a_ild, a_imul, a_ist, a_isub, a_pi, a_push, a_zret, sh_1, sh_2, sh_3, sh_4, sh_59, pu_rv, pu_as, Value.category, pu_bk, pu_kl, pu_qe0, pu_qe1, e, v0, v1, hQ, e2, w1, t3, f, p1, u1, pl, a1, a2, p2]
      all_goals try simp [bX7_readNumber_0, bX7_readNumber_12, bX7_readNumber_70, bX7_readNumber_90, bX7_readNumber_54, a_ai, a_ald, a_cv, a_dup, a_gi, a_gr, a_iadd, a_ifeq, a_ifne, a_ild, a_imul, a_ist, a_isub, a_pi, a_push, a_zret, sh_1, sh_2, sh_3, sh_4, sh_59, pu_rv, pu_as, Value.category, pu_bk, pu_kl, List.replicate, pu_wi_1, pu_wi_2, nl_add, nl_ladd, nl_aa, nl_mul, nl_rmul, nl_mm, pu_qe0, pu_qe1, e, v0, v1, hQ, e2, w1, t3, f, p1, u1, pl, a1, a2, p2]
      all_goals try simp (maxSteps := 400000) (disch := omega) [nl_tle, nl_fle, nl_tlt, nl_flt, nl_teq, nl_feq, nl_sub, nl_ss, nl_lt, nl_llt, nl_ltt, nl_le, nl_lle, nl_lee, nl_eq, nl_leq, nl_ee, nl_div, nl_rem, nl_cl, nl_n1, nl_n2, nl_n3, nl_n4, nl_add, nl_ladd, nl_aa, nl_mul, nl_rmul, nl_mm, pu_wi_1, pu_wi_2, bX7_readNumber_0, bX7_readNumber_12, bX7_readNumber_70, bX7_readNumber_90, bX7_readNumber_54, a_ai, a_ald, a_cv, a_dup, a_gi, a_gr, a_iadd, a_ifeq, a_ifne, a_ild, a_imul, a_ist, a_isub, a_pi, a_push, a_zret, sh_1, sh_2, sh_3, sh_4, sh_59, pu_rv, pu_as, Value.category, pu_bk, pu_kl, pu_qe0, pu_qe1, e, v0, v1, hQ, e2, w1, t3, f, p1, u1, pl, a1, a2, p2]
      all_goals try simp [bX7_readNumber_0, bX7_readNumber_12, bX7_readNumber_70, bX7_readNumber_90, bX7_readNumber_54, a_ai, a_ald, a_cv, a_dup, a_gi, a_gr, a_iadd, a_ifeq, a_ifne, a_ild, a_imul, a_ist, a_isub, a_pi, a_push, a_zret, sh_1, sh_2, sh_3, sh_4, sh_59, pu_rv, pu_as, Value.category, pu_bk, pu_kl, List.replicate, pu_wi_1, pu_wi_2, nl_add, nl_ladd, nl_aa, nl_mul, nl_rmul, nl_mm, pu_qe0, pu_qe1, e, v0, v1, hQ, e2, w1, t3, f, p1, u1, pl, a1, a2, p2]
      all_goals try simp (maxSteps := 400000) (disch := omega) [nl_tle, nl_fle, nl_tlt, nl_flt, nl_teq, nl_feq, nl_sub, nl_ss, nl_lt, nl_llt, nl_ltt, nl_le, nl_lle, nl_lee, nl_eq, nl_leq, nl_ee, nl_div, nl_rem, nl_cl, nl_n1, nl_n2, nl_n3, nl_n4, nl_add, nl_ladd, nl_aa, nl_mul, nl_rmul, nl_mm, pu_wi_1, pu_wi_2, bX7_readNumber_0, bX7_readNumber_12, bX7_readNumber_70, bX7_readNumber_90, bX7_readNumber_54, a_ai, a_ald, a_cv, a_dup, a_gi, a_gr, a_iadd, a_ifeq, a_ifne, a_ild, a_imul, a_ist, a_isub, a_pi, a_push, a_zret, sh_1, sh_2, sh_3, sh_4, sh_59, pu_rv, pu_as, Value.category, pu_bk, pu_kl, pu_qe0, pu_qe1, e, v0, v1, hQ, e2, w1, t3, f, p1, u1, pl, a1, a2, p2]
      all_goals try simp [bX7_readNumber_0, bX7_readNumber_12, bX7_readNumber_70, bX7_readNumber_90, bX7_readNumber_54, a_ai, a_ald, a_cv, a_dup, a_gi, a_gr, a_iadd, a_ifeq, a_ifne, a_ild, a_imul, a_ist, a_isub, a_pi, a_push, a_zret, sh_1, sh_2, sh_3, sh_4, sh_59, pu_rv, pu_as, Value.category, pu_bk, pu_kl, List.replicate, pu_wi_1, pu_wi_2, nl_add, nl_ladd, nl_aa, nl_mul, nl_rmul, nl_mm, pu_qe0, pu_qe1, e, v0, v1, hQ, e2, w1, t3, f, p1, u1, pl, a1, a2, p2]
  · rw [if_neg c1]
    rw [pu_q0 c1] at e2
    rcases c_readByte hx1 t1 (by omega) p1 43 (by omega) with ⟨r1, r2, r3⟩ | ⟨r1, r2⟩
    · rw [if_pos ⟨r1, r2⟩]
      rw [show nI 43 = (43 : Int32) from rfl] at r3
      refine ⟨pu_wi (pu_wi Q 59 7 (nI (p + 1))) 59 2 (nI (16 * v + 9)), ⟨f1.1, fun x j hj => by rw [py_wi_o (by omega), py_wi_o (by omega)]; exact f1.2 x j hj⟩, ?_, by simp [pu_wi_1], ?_⟩
      · rw [py_wi_o (by omega)]
        simp [pu_wi_1]
      · have w2 : (pu_wi Q 59 7 (nI (p + 1))).1 59 2 = nI (16 * v) := by rw [py_wi_o (by omega)]; exact w1
        rw [qX7_readNumber]
        simp [a_ent, bX7_readNumber_0, bX7_readNumber_12, bX7_readNumber_70, bX7_readNumber_90, bX7_readNumber_54, a_ai, a_ald, a_cv, a_dup, a_gi, a_gr, a_iadd, a_ifeq, a_ifne, a_ild, a_imul, a_ist, a_isub, a_pi, a_push, a_zret, sh_1, sh_2, sh_3, sh_4, sh_59, pu_rv, pu_as, Value.category, pu_bk, pu_kl, List.replicate, pu_wi_1, pu_wi_2, nl_add, nl_ladd, nl_aa, nl_mul, nl_rmul, nl_mm, pu_qe0, pu_qe1, e, v0, v1, hQ, e2, r3, w2, w1]
        all_goals try simp (maxSteps := 400000) (disch := omega) [nl_tle, nl_fle, nl_tlt, nl_flt, nl_teq, nl_feq, nl_sub, nl_ss, nl_lt, nl_llt, nl_ltt, nl_le, nl_lle, nl_lee, nl_eq, nl_leq, nl_ee, nl_div, nl_rem, nl_cl, nl_n1, nl_n2, nl_n3, nl_n4, nl_add, nl_ladd, nl_aa, nl_mul, nl_rmul, nl_mm, pu_wi_1, pu_wi_2, bX7_readNumber_0, bX7_readNumber_12, bX7_readNumber_70, bX7_readNumber_90, bX7_readNumber_54, a_ai, a_ald, a_cv, a_dup, a_gi, a_gr, a_iadd, a_ifeq, a_ifne, a_ild, a_imul, a_ist, a_isub, a_pi, a_push, a_zret, sh_1, sh_2, sh_3, sh_4, sh_59, pu_rv, pu_as, Value.category, pu_bk, pu_kl, pu_qe0, pu_qe1, e, v0, v1, hQ, e2, r3, w2, w1]
        all_goals try simp [bX7_readNumber_0, bX7_readNumber_12, bX7_readNumber_70, bX7_readNumber_90, bX7_readNumber_54, a_ai, a_ald, a_cv, a_dup, a_gi, a_gr, a_iadd, a_ifeq, a_ifne, a_ild, a_imul, a_ist, a_isub, a_pi, a_push, a_zret, sh_1, sh_2, sh_3, sh_4, sh_59, pu_rv, pu_as, Value.category, pu_bk, pu_kl, List.replicate, pu_wi_1, pu_wi_2, nl_add, nl_ladd, nl_aa, nl_mul, nl_rmul, nl_mm, pu_qe0, pu_qe1, e, v0, v1, hQ, e2, r3, w2, w1]
        all_goals try simp (maxSteps := 400000) (disch := omega) [nl_tle, nl_fle, nl_tlt, nl_flt, nl_teq, nl_feq, nl_sub, nl_ss, nl_lt, nl_llt, nl_ltt, nl_le, nl_lle, nl_lee, nl_eq, nl_leq, nl_ee, nl_div, nl_rem, nl_cl, nl_n1, nl_n2, nl_n3, nl_n4, nl_add, nl_ladd, nl_aa, nl_mul, nl_rmul, nl_mm, pu_wi_1, pu_wi_2, bX7_readNumber_0, bX7_readNumber_12, bX7_readNumber_70, bX7_readNumber_90, bX7_readNumber_54, a_ai, a_ald, a_cv, a_dup, a_gi, a_gr, a_iadd, a_ifeq, a_ifne, a_ild, a_imul, a_ist, a_isub, a_pi, a_push, a_zret, sh_1, sh_2, sh_3, sh_4, sh_59, pu_rv, pu_as, Value.category, pu_bk, pu_kl, pu_qe0, pu_qe1, e, v0, v1, hQ, e2, r3, w2, w1]
        all_goals try simp [bX7_readNumber_0, bX7_readNumber_12, bX7_readNumber_70, bX7_readNumber_90, bX7_readNumber_54, a_ai, a_ald, a_cv, a_dup, a_gi, a_gr, a_iadd, a_ifeq, a_ifne, a_ild, a_imul, a_ist, a_isub, a_pi, a_push, a_zret, sh_1, sh_2, sh_3, sh_4, sh_59, pu_rv, pu_as, Value.category, pu_bk, pu_kl, List.replicate, pu_wi_1, pu_wi_2, nl_add, nl_ladd, nl_aa, nl_mul, nl_rmul, nl_mm, pu_qe0, pu_qe1, e, v0, v1, hQ, e2, r3, w2, w1]
        all_goals try simp (maxSteps := 400000) (disch := omega) [nl_tle, nl_fle, nl_tlt, nl_flt, nl_teq, nl_feq, nl_sub, nl_ss, nl_lt, nl_llt, nl_ltt, nl_le, nl_lle, nl_lee, nl_eq, nl_leq, nl_ee, nl_div, nl_rem, nl_cl, nl_n1, nl_n2, nl_n3, nl_n4, nl_add, nl_ladd, nl_aa, nl_mul, nl_rmul, nl_mm, pu_wi_1, pu_wi_2, bX7_readNumber_0, bX7_readNumber_12, bX7_readNumber_70, bX7_readNumber_90, bX7_readNumber_54, a_ai, a_ald, a_cv, a_dup, a_gi, a_gr, a_iadd, a_ifeq, a_ifne, a_ild, a_imul, a_ist, a_isub, a_pi, a_push, a_zret, sh_1, sh_2, sh_3, sh_4, sh_59, pu_rv, pu_as, Value.category, pu_bk, pu_kl, pu_qe0, pu_qe1, e, v0, v1, hQ, e2, r3, w2, w1]
        all_goals try simp [bX7_readNumber_0, bX7_readNumber_12, bX7_readNumber_70, bX7_readNumber_90, bX7_readNumber_54, a_ai, a_ald, a_cv, a_dup, a_gi, a_gr, a_iadd, a_ifeq, a_ifne, a_ild, a_imul, a_ist, a_isub, a_pi, a_push, a_zret, sh_1, sh_2, sh_3, sh_4, sh_59, pu_rv, pu_as, Value.category, pu_bk, pu_kl, List.replicate, pu_wi_1, pu_wi_2, nl_add, nl_ladd, nl_aa, nl_mul, nl_rmul, nl_mm, pu_qe0, pu_qe1, e, v0, v1, hQ, e2, r3, w2, w1]
    · rw [if_neg r1]
      rw [show nI 43 = (43 : Int32) from rfl] at r2
      refine ⟨Q, f1, p1, w1, ?_⟩
      rw [qX7_readNumber]
      simp [a_ent, bX7_readNumber_0, bX7_readNumber_12, bX7_readNumber_70, bX7_readNumber_90, bX7_readNumber_54, a_ai, a_ald, a_cv, a_dup, a_gi, a_gr, a_iadd, a_ifeq, a_ifne, a_ild, a_imul, a_ist, a_isub, a_pi, a_push, a_zret, sh_1, sh_2, sh_3, sh_4, sh_59, pu_rv, pu_as, Value.category, pu_bk, pu_kl, List.replicate, pu_wi_1, pu_wi_2, nl_add, nl_ladd, nl_aa, nl_mul, nl_rmul, nl_mm, pu_qe0, pu_qe1, e, v0, v1, hQ, e2, r2]
      all_goals try simp (maxSteps := 400000) (disch := omega) [nl_tle, nl_fle, nl_tlt, nl_flt, nl_teq, nl_feq, nl_sub, nl_ss, nl_lt, nl_llt, nl_ltt, nl_le, nl_lle, nl_lee, nl_eq, nl_leq, nl_ee, nl_div, nl_rem, nl_cl, nl_n1, nl_n2, nl_n3, nl_n4, nl_add, nl_ladd, nl_aa, nl_mul, nl_rmul, nl_mm, pu_wi_1, pu_wi_2, bX7_readNumber_0, bX7_readNumber_12, bX7_readNumber_70, bX7_readNumber_90, bX7_readNumber_54, a_ai, a_ald, a_cv, a_dup, a_gi, a_gr, a_iadd, a_ifeq, a_ifne, a_ild, a_imul, a_ist, a_isub, a_pi, a_push, a_zret, sh_1, sh_2, sh_3, sh_4, sh_59, pu_rv, pu_as, Value.category, pu_bk, pu_kl, pu_qe0, pu_qe1, e, v0, v1, hQ, e2, r2]
      all_goals try simp [bX7_readNumber_0, bX7_readNumber_12, bX7_readNumber_70, bX7_readNumber_90, bX7_readNumber_54, a_ai, a_ald, a_cv, a_dup, a_gi, a_gr, a_iadd, a_ifeq, a_ifne, a_ild, a_imul, a_ist, a_isub, a_pi, a_push, a_zret, sh_1, sh_2, sh_3, sh_4, sh_59, pu_rv, pu_as, Value.category, pu_bk, pu_kl, List.replicate, pu_wi_1, pu_wi_2, nl_add, nl_ladd, nl_aa, nl_mul, nl_rmul, nl_mm, pu_qe0, pu_qe1, e, v0, v1, hQ, e2, r2]
      all_goals try simp (maxSteps := 400000) (disch := omega) [nl_tle, nl_fle, nl_tlt, nl_flt, nl_teq, nl_feq, nl_sub, nl_ss, nl_lt, nl_llt, nl_ltt, nl_le, nl_lle, nl_lee, nl_eq, nl_leq, nl_ee, nl_div, nl_rem, nl_cl, nl_n1, nl_n2, nl_n3, nl_n4, nl_add, nl_ladd, nl_aa, nl_mul, nl_rmul, nl_mm, pu_wi_1, pu_wi_2, bX7_readNumber_0, bX7_readNumber_12, bX7_readNumber_70, bX7_readNumber_90, bX7_readNumber_54, a_ai, a_ald, a_cv, a_dup, a_gi, a_gr, a_iadd, a_ifeq, a_ifne, a_ild, a_imul, a_ist, a_isub, a_pi, a_push, a_zret, sh_1, sh_2, sh_3, sh_4, sh_59, pu_rv, pu_as, Value.category, pu_bk, pu_kl, pu_qe0, pu_qe1, e, v0, v1, hQ, e2, r2]
      all_goals try simp [bX7_readNumber_0, bX7_readNumber_12, bX7_readNumber_70, bX7_readNumber_90, bX7_readNumber_54, a_ai, a_ald, a_cv, a_dup, a_gi, a_gr, a_iadd, a_ifeq, a_ifne, a_ild, a_imul, a_ist, a_isub, a_pi, a_push, a_zret, sh_1, sh_2, sh_3, sh_4, sh_59, pu_rv, pu_as, Value.category, pu_bk, pu_kl, List.replicate, pu_wi_1, pu_wi_2, nl_add, nl_ladd, nl_aa, nl_mul, nl_rmul, nl_mm, pu_qe0, pu_qe1, e, v0, v1, hQ, e2, r2]
      all_goals try simp (maxSteps := 400000) (disch := omega) [nl_tle, nl_fle, nl_tlt, nl_flt, nl_teq, nl_feq, nl_sub, nl_ss, nl_lt, nl_llt, nl_ltt, nl_le, nl_lle, nl_lee, nl_eq, nl_leq, nl_ee, nl_div, nl_rem, nl_cl, nl_n1, nl_n2, nl_n3, nl_n4, nl_add, nl_ladd, nl_aa, nl_mul, nl_rmul, nl_mm, pu_wi_1, pu_wi_2, bX7_readNumber_0, bX7_readNumber_12, bX7_readNumber_70, bX7_readNumber_90, bX7_readNumber_54, a_ai, a_ald, a_cv, a_dup, a_gi, a_gr, a_iadd, a_ifeq, a_ifne, a_ild, a_imul, a_ist, a_isub, a_pi, a_push, a_zret, sh_1, sh_2, sh_3, sh_4, sh_59, pu_rv, pu_as, Value.category, pu_bk, pu_kl, pu_qe0, pu_qe1, e, v0, v1, hQ, e2, r2]
      all_goals try simp [bX7_readNumber_0, bX7_readNumber_12, bX7_readNumber_70, bX7_readNumber_90, bX7_readNumber_54, a_ai, a_ald, a_cv, a_dup, a_gi, a_gr, a_iadd, a_ifeq, a_ifne, a_ild, a_imul, a_ist, a_isub, a_pi, a_push, a_zret, sh_1, sh_2, sh_3, sh_4, sh_59, pu_rv, pu_as, Value.category, pu_bk, pu_kl, List.replicate, pu_wi_1, pu_wi_2, nl_add, nl_ladd, nl_aa, nl_mul, nl_rmul, nl_mm, pu_qe0, pu_qe1, e, v0, v1, hQ, e2, r2]
theorem c_readExtra {M : pu_M} (hx : pu_fx M) (h : py_tv M b t) {pos : Nat} (hp : pos ≤ t) (h7 : M.1 59 7 = nI pos) : ∃ N, py_r9 M N ∧ N.1 59 2 = M.1 59 2 ∧ N.1 59 7 = nI (py_x b t pos).2.1 ∧ N.1 59 3 = (if (py_x b t pos).2.2.1 = 0 then -1 else nI (py_x b t pos).2.2.1) ∧ N.1 59 4 = nI (py_x b t pos).2.2.2 ∧ pu_r 169 [some (.ref 59)] [] M = some (some (.int (pu_q ((py_x b t pos).1 = true))), N) := by
  have hx1 : pu_fx (pu_wi (pu_wi M 59 3 (-1)) 59 4 0) := hx
  have t1 : py_tv (pu_wi (pu_wi M 59 3 (-1)) 59 4 0) b t := py_tv_m h (by rw [py_wi_o (by omega), py_wi_o (by omega)]) (fun j => by rw [py_wi_o (by omega), py_wi_o (by omega)]) rfl
  have p1 : (pu_wi (pu_wi M 59 3 (-1)) 59 4 0).1 59 7 = nI pos := by
    rw [py_wi_o (by omega), py_wi_o (by omega)]
    exact h7
  have g3 : (pu_wi (pu_wi M 59 3 (-1)) 59 4 0).1 59 3 = -1 := by
    rw [py_wi_o (by omega)]
    simp [pu_wi_1]
  have g4 : (pu_wi (pu_wi M 59 3 (-1)) 59 4 0).1 59 4 = 0 := by simp [pu_wi_1]
  have g2 : (pu_wi (pu_wi M 59 3 (-1)) 59 4 0).1 59 2 = M.1 59 2 := by
    rw [py_wi_o (by omega), py_wi_o (by omega)]
  have f1 : py_r9 M (pu_wi (pu_wi M 59 3 (-1)) 59 4 0) := ⟨rfl, fun x j hj => by rw [py_wi_o (by omega), py_wi_o (by omega)]⟩
  generalize hQ : pu_wi (pu_wi M 59 3 (-1)) 59 4 0 = Q at *
  unfold py_x
  rcases c_readByte hx1 t1 hp p1 32 (by omega) with ⟨r1, r2, r3⟩ | ⟨r1, r2⟩
  rotate_left
  · rw [if_neg r1]
    rw [show nI 32 = (32 : Int32) from rfl] at r2
    refine ⟨Q, f1, g2, p1, by simp only; exact g3, g4, ?_⟩
    rw [pu_q1 rfl]
    rw [qX7_readExtra]
    simp [a_ent, bX7_readExtra_0, bX7_readExtra_21, bX7_readExtra_44, bX7_readExtra_62, bX7_readExtra_63, bX7_readExtra_76, bX7_readExtra_78, bX7_readExtra_86, bX7_readExtra_106, bX7_readExtra_107, a_ald, a_cv, a_gi, a_ifeq, a_ifle, a_ifne, a_ild, a_ist, a_pi, a_push, a_zret, sh_59, pu_rv, pu_as, Value.category, pu_bk, pu_kl, List.replicate, pu_wi_1, pu_wi_2, nl_add, nl_ladd, nl_aa, nl_mul, nl_rmul, nl_mm, pu_qe0, pu_qe1, hQ, r2]
    all_goals try simp (maxSteps := 400000) (disch := omega) [nl_tle, nl_fle, nl_tlt, nl_flt, nl_teq, nl_feq, nl_sub, nl_ss, nl_lt, nl_llt, nl_ltt, nl_le, nl_lle, nl_lee, nl_eq, nl_leq, nl_ee, nl_div, nl_rem, nl_cl, nl_n1, nl_n2, nl_n3, nl_n4, nl_add, nl_ladd, nl_aa, nl_mul, nl_rmul, nl_mm, pu_wi_1, pu_wi_2, bX7_readExtra_0, bX7_readExtra_21, bX7_readExtra_44, bX7_readExtra_62, bX7_readExtra_63, bX7_readExtra_76, bX7_readExtra_78, bX7_readExtra_86, bX7_readExtra_106, bX7_readExtra_107, a_ald, a_cv, a_gi, a_ifeq, a_ifle, a_ifne, a_ild, a_ist, a_pi, a_push, a_zret, sh_59, pu_rv, pu_as, Value.category, pu_bk, pu_kl, pu_qe0, pu_qe1, hQ, r2]
    all_goals try simp [bX7_readExtra_0, bX7_readExtra_21, bX7_readExtra_44, bX7_readExtra_62, bX7_readExtra_63, bX7_readExtra_76, bX7_readExtra_78, bX7_readExtra_86, bX7_readExtra_106, bX7_readExtra_107, a_ald, a_cv, a_gi, a_ifeq, a_ifle, a_ifne, a_ild, a_ist, a_pi, a_push, a_zret, sh_59, pu_rv, pu_as, Value.category, pu_bk, pu_kl, List.replicate, pu_wi_1, pu_wi_2, nl_add, nl_ladd, nl_aa, nl_mul, nl_rmul, nl_mm, pu_qe0, pu_qe1, hQ, r2]
    all_goals try simp (maxSteps := 400000) (disch := omega) [nl_tle, nl_fle, nl_tlt, nl_flt, nl_teq, nl_feq, nl_sub, nl_ss, nl_lt, nl_llt, nl_ltt, nl_le, nl_lle, nl_lee, nl_eq, nl_leq, nl_ee, nl_div, nl_rem, nl_cl, nl_n1, nl_n2, nl_n3, nl_n4, nl_add, nl_ladd, nl_aa, nl_mul, nl_rmul, nl_mm, pu_wi_1, pu_wi_2, bX7_readExtra_0, bX7_readExtra_21, bX7_readExtra_44, bX7_readExtra_62, bX7_readExtra_63, bX7_readExtra_76, bX7_readExtra_78, bX7_readExtra_86, bX7_readExtra_106, bX7_readExtra_107, a_ald, a_cv, a_gi, a_ifeq, a_ifle, a_ifne, a_ild, a_ist, a_pi, a_push, a_zret, sh_59, pu_rv, pu_as, Value.category, pu_bk, pu_kl, pu_qe0, pu_qe1, hQ, r2]
    all_goals try simp [bX7_readExtra_0, bX7_readExtra_21, bX7_readExtra_44, bX7_readExtra_62, bX7_readExtra_63, bX7_readExtra_76, bX7_readExtra_78, bX7_readExtra_86, bX7_readExtra_106, bX7_readExtra_107, a_ald, a_cv, a_gi, a_ifeq, a_ifle, a_ifne, a_ild, a_ist, a_pi, a_push, a_zret, sh_59, pu_rv, pu_as, Value.category, pu_bk, pu_kl, List.replicate, pu_wi_1, pu_wi_2, nl_add, nl_ladd, nl_aa, nl_mul, nl_rmul, nl_mm, pu_qe0, pu_qe1, hQ, r2]
    all_goals try simp (maxSteps := 400000) (disch := omega) [nl_tle, nl_fle, nl_tlt, nl_flt, nl_teq, nl_feq, nl_sub, nl_ss, nl_lt, nl_llt, nl_ltt, nl_le, nl_lle, nl_lee, nl_eq, nl_leq, nl_ee, nl_div, nl_rem, nl_cl, nl_n1, nl_n2, nl_n3, nl_n4, nl_add, nl_ladd, nl_aa, nl_mul, nl_rmul, nl_mm, pu_wi_1, pu_wi_2, bX7_readExtra_0, bX7_readExtra_21, bX7_readExtra_44, bX7_readExtra_62, bX7_readExtra_63, bX7_readExtra_76, bX7_readExtra_78, bX7_readExtra_86, bX7_readExtra_106, bX7_readExtra_107, a_ald, a_cv, a_gi, a_ifeq, a_ifle, a_ifne, a_ild, a_ist, a_pi, a_push, a_zret, sh_59, pu_rv, pu_as, Value.category, pu_bk, pu_kl, pu_qe0, pu_qe1, hQ, r2]
    all_goals try simp [bX7_readExtra_0, bX7_readExtra_21, bX7_readExtra_44, bX7_readExtra_62, bX7_readExtra_63, bX7_readExtra_76, bX7_readExtra_78, bX7_readExtra_86, bX7_readExtra_106, bX7_readExtra_107, a_ald, a_cv, a_gi, a_ifeq, a_ifle, a_ifne, a_ild, a_ist, a_pi, a_push, a_zret, sh_59, pu_rv, pu_as, Value.category, pu_bk, pu_kl, List.replicate, pu_wi_1, pu_wi_2, nl_add, nl_ladd, nl_aa, nl_mul, nl_rmul, nl_mm, pu_qe0, pu_qe1, hQ, r2]
  rw [if_pos ⟨r1, r2⟩]
  rw [show nI 32 = (32 : Int32) from rfl] at r3
  have hx2 : pu_fx (pu_wi Q 59 7 (nI (pos + 1))) := hx1
  have t2 : py_tv (pu_wi Q 59 7 (nI (pos + 1))) b t := py_tv_p t1 _
  have p2 : (pu_wi Q 59 7 (nI (pos + 1))).1 59 7 = nI (pos + 1) := by simp [pu_wi_1]
  have g23 : (pu_wi Q 59 7 (nI (pos + 1))).1 59 4 = 0 := by rw [py_wi_o (by omega)]; exact g4
  have g22 : (pu_wi Q 59 7 (nI (pos + 1))).1 59 2 = M.1 59 2 := by rw [py_wi_o (by omega)]; exact g2
  have f2 : py_r9 M (pu_wi Q 59 7 (nI (pos + 1))) := ⟨f1.1, fun x j hj => by rw [py_wi_o (by omega)]; exact f1.2 x j hj⟩
  generalize hQ2 : pu_wi Q 59 7 (nI (pos + 1)) = Q2 at *
  have e1 := c_isNext hx2 t2 (by omega) p2 98 98 (by omega) (by omega)
  rw [show nI 98 = (98 : Int32) from rfl] at e1
  have e2 := c_isNext hx2 t2 (by omega) p2 99 99 (by omega) (by omega)
  rw [show nI 99 = (99 : Int32) from rfl] at e2
  have W : ∀ s : Int32, pu_fx (pu_wi Q2 59 3 s) ∧ py_tv (pu_wi Q2 59 3 s) b t ∧ (pu_wi Q2 59 3 s).1 59 7 = nI (pos + 1) := fun s => ⟨hx2, py_tv_m t2 (by rw [py_wi_o (by omega)]) (fun j => by rw [py_wi_o (by omega)]) rfl, by rw [py_wi_o (by omega)]; exact p2⟩
  by_cases c1 : pos + 1 < t ∧ b (pos + 1) = 98
  · rw [if_pos c1]
    rw [pu_q1 ⟨c1.1, by omega, by omega⟩] at e1
    obtain ⟨w1, w2, w3⟩ := W 2
    have rt := c_rt4 w1 w2 (by omega) w3
    refine ⟨pu_wi (pu_wi Q2 59 3 2) 59 7 (nI (py_mq b t [98, 97, 99, 107] (pos + 1))), ⟨f2.1, fun x j hj => by rw [py_wi_o (by omega), py_wi_o (by omega)]; exact f2.2 x j hj⟩, by rw [py_wi_o (by omega), py_wi_o (by omega)]; exact g22, by simp [pu_wi_1], ?_, ?_, ?_⟩
    · rw [py_wi_o (by omega)]
      simp [pu_wi_1]
      rfl
    · rw [py_wi_o (by omega), py_wi_o (by omega)]
      exact g23
    · by_cases m : py_mo b t [98, 97, 99, 107] (pos + 1) = true
      · rw [pu_q1 m] at rt ⊢
        generalize pu_wi (pu_wi Q2 59 3 2) 59 7 (nI (py_mq b t [98, 97, 99, 107] (pos + 1))) = Q9 at *
        rw [qX7_readExtra]
        simp [a_ent, bX7_readExtra_0, bX7_readExtra_21, bX7_readExtra_44, bX7_readExtra_62, bX7_readExtra_63, bX7_readExtra_76, bX7_readExtra_78, bX7_readExtra_86, bX7_readExtra_106, bX7_readExtra_107, a_ald, a_cv, a_gi, a_ifeq, a_ifle, a_ifne, a_ild, a_ist, a_pi, a_push, a_zret, sh_59, pu_rv, pu_as, Value.category, pu_bk, pu_kl, List.replicate, pu_wi_1, pu_wi_2, nl_add, nl_ladd, nl_aa, nl_mul, nl_rmul, nl_mm, pu_qe0, pu_qe1, hQ, r3, hQ2, e1, rt]
        all_goals try simp (maxSteps := 400000) (disch := omega) [nl_tle, nl_fle, nl_tlt, nl_flt, nl_teq, nl_feq, nl_sub, nl_ss, nl_lt, nl_llt, nl_ltt, nl_le, nl_lle, nl_lee, nl_eq, nl_leq, nl_ee, nl_div, nl_rem, nl_cl, nl_n1, nl_n2, nl_n3, nl_n4, nl_add, nl_ladd, nl_aa, nl_mul, nl_rmul, nl_mm, pu_wi_1, pu_wi_2, bX7_readExtra_0, bX7_readExtra_21, bX7_readExtra_44, bX7_readExtra_62, bX7_readExtra_63, bX7_readExtra_76, bX7_readExtra_78, bX7_readExtra_86, bX7_readExtra_106, bX7_readExtra_107, a_ald, a_cv, a_gi, a_ifeq, a_ifle, a_ifne, a_ild, a_ist, a_pi, a_push, a_zret, sh_59, pu_rv, pu_as, Value.category, pu_bk, pu_kl, pu_qe0, pu_qe1, hQ, r3, hQ2, e1, rt]
        all_goals try simp [bX7_readExtra_0, bX7_readExtra_21, bX7_readExtra_44, bX7_readExtra_62, bX7_readExtra_63, bX7_readExtra_76, bX7_readExtra_78, bX7_readExtra_86, bX7_readExtra_106, bX7_readExtra_107, a_ald, a_cv, a_gi, a_ifeq, a_ifle, a_ifne, a_ild, a_ist, a_pi, a_push, a_zret, sh_59, pu_rv, pu_as, Value.category, pu_bk, pu_kl, List.replicate, pu_wi_1, pu_wi_2, nl_add, nl_ladd, nl_aa, nl_mul, nl_rmul, nl_mm, pu_qe0, pu_qe1, hQ, r3, hQ2, e1, rt]
        all_goals try simp (maxSteps := 400000) (disch := omega) [nl_tle, nl_fle, nl_tlt, nl_flt, nl_teq, nl_feq, nl_sub, nl_ss, nl_lt, nl_llt, nl_ltt, nl_le, nl_lle, nl_lee, nl_eq, nl_leq, nl_ee, nl_div, nl_rem, nl_cl, nl_n1, nl_n2, nl_n3, nl_n4, nl_add, nl_ladd, nl_aa, nl_mul, nl_rmul, nl_mm, pu_wi_1, pu_wi_2, bX7_readExtra_0, bX7_readExtra_21, bX7_readExtra_44, bX7_readExtra_62, bX7_readExtra_63, bX7_readExtra_76, bX7_readExtra_78, bX7_readExtra_86, bX7_readExtra_106, bX7_readExtra_107, a_ald, a_cv, a_gi, a_ifeq, a_ifle, a_ifne, a_ild, a_ist, a_pi, a_push, a_zret, sh_59, pu_rv, pu_as, Value.category, pu_bk, pu_kl, pu_qe0, pu_qe1, hQ, r3, hQ2, e1, rt]
        all_goals try simp [bX7_readExtra_0, bX7_readExtra_21, bX7_readExtra_44, bX7_readExtra_62, bX7_readExtra_63, bX7_readExtra_76, bX7_readExtra_78, bX7_readExtra_86, bX7_readExtra_106, bX7_readExtra_107, a_ald, a_cv, a_gi, a_ifeq, a_ifle, a_ifne, a_ild, a_ist, a_pi, a_push, a_zret, sh_59, pu_rv, pu_as, Value.category, pu_bk, pu_kl, List.replicate, pu_wi_1, pu_wi_2, nl_add, nl_ladd, nl_aa, nl_mul, nl_rmul, nl_mm, pu_qe0, pu_qe1, hQ, r3, hQ2, e1, rt]
        all_goals try simp (maxSteps := 400000) (disch := omega) [nl_tle, nl_fle, nl_tlt, nl_flt, nl_teq, nl_feq, nl_sub, nl_ss, nl_lt, nl_llt, nl_ltt, nl_le, nl_lle, nl_lee, nl_eq, nl_leq, nl_ee, nl_div, nl_rem, nl_cl, nl_n1, nl_n2, nl_n3, nl_n4, nl_add, nl_ladd, nl_aa, nl_mul, nl_rmul, nl_mm, pu_wi_1, pu_wi_2, bX7_readExtra_0, bX7_readExtra_21, bX7_readExtra_44, bX7_readExtra_62, bX7_readExtra_63, bX7_readExtra_76, bX7_readExtra_78, bX7_readExtra_86, bX7_readExtra_106, bX7_readExtra_107, a_ald, a_cv, a_gi, a_ifeq, a_ifle, a_ifne, a_ild, a_ist, a_pi, a_push, a_zret, sh_59, pu_rv, pu_as, Value.category, pu_bk, pu_kl, pu_qe0, pu_qe1, hQ, r3, hQ2, e1, rt]
        all_goals try simp [bX7_readExtra_0, bX7_readExtra_21, bX7_readExtra_44, bX7_readExtra_62, bX7_readExtra_63, bX7_readExtra_76, bX7_readExtra_78, bX7_readExtra_86, bX7_readExtra_106, bX7_readExtra_107, a_ald, a_cv, a_gi, a_ifeq, a_ifle, a_ifne, a_ild, a_ist, a_pi, a_push, a_zret, sh_59, pu_rv, pu_as, Value.category, pu_bk, pu_kl, List.replicate, pu_wi_1, pu_wi_2, nl_add, nl_ladd, nl_aa, nl_mul, nl_rmul, nl_mm, pu_qe0, pu_qe1, hQ, r3, hQ2, e1, rt]
      · rw [pu_q0 m] at rt ⊢
        generalize pu_wi (pu_wi Q2 59 3 2) 59 7 (nI (py_mq b t [98, 97, 99, 107] (pos + 1))) = Q9 at *
        rw [qX7_readExtra]
        simp [a_ent, bX7_readExtra_0, bX7_readExtra_21, bX7_readExtra_44, bX7_readExtra_62, bX7_readExtra_63, bX7_readExtra_76, bX7_readExtra_78, bX7_readExtra_86, bX7_readExtra_106, bX7_readExtra_107, a_ald, a_cv, a_gi, a_ifeq, a_ifle, a_ifne, a_ild, a_ist, a_pi, a_push, a_zret, sh_59, pu_rv, pu_as, Value.category, pu_bk, pu_kl, List.replicate, pu_wi_1, pu_wi_2, nl_add, nl_ladd, nl_aa, nl_mul, nl_rmul, nl_mm, pu_qe0, pu_qe1, hQ, r3, hQ2, e1, rt]
        all_goals try simp (maxSteps := 400000) (disch := omega) [nl_tle, nl_fle, nl_tlt, nl_flt, nl_teq, nl_feq, nl_sub, nl_ss, nl_lt, nl_llt, nl_ltt, nl_le, nl_lle, nl_lee, nl_eq, nl_leq, nl_ee, nl_div, nl_rem, nl_cl, nl_n1, nl_n2, nl_n3, nl_n4, nl_add, nl_ladd, nl_aa, nl_mul, nl_rmul, nl_mm, pu_wi_1, pu_wi_2, bX7_readExtra_0, bX7_readExtra_21, bX7_readExtra_44, bX7_readExtra_62, bX7_readExtra_63, bX7_readExtra_76, bX7_readExtra_78, bX7_readExtra_86, bX7_readExtra_106, bX7_readExtra_107, a_ald, a_cv, a_gi, a_ifeq, a_ifle, a_ifne, a_ild, a_ist, a_pi, a_push, a_zret, sh_59, pu_rv, pu_as, Value.category, pu_bk, pu_kl, pu_qe0, pu_qe1, hQ, r3, hQ2, e1, rt]
        all_goals try simp [bX7_readExtra_0, bX7_readExtra_21, bX7_readExtra_44, bX7_readExtra_62, bX7_readExtra_63, bX7_readExtra_76, bX7_readExtra_78, bX7_readExtra_86, bX7_readExtra_106, bX7_readExtra_107, a_ald, a_cv, a_gi, a_ifeq, a_ifle, a_ifne, a_ild, a_ist, a_pi, a_push, a_zret, sh_59, pu_rv, pu_as, Value.category, pu_bk, pu_kl, List.replicate, pu_wi_1, pu_wi_2, nl_add, nl_ladd, nl_aa, nl_mul, nl_rmul, nl_mm, pu_qe0, pu_qe1, hQ, r3, hQ2, e1, rt]
        all_goals try simp (maxSteps := 400000) (disch := omega) [nl_tle, nl_fle, nl_tlt, nl_flt, nl_teq, nl_feq, nl_sub, nl_ss, nl_lt, nl_llt, nl_ltt, nl_le, nl_lle, nl_lee, nl_eq, nl_leq, nl_ee, nl_div, nl_rem, nl_cl, nl_n1, nl_n2, nl_n3, nl_n4, nl_add, nl_ladd, nl_aa, nl_mul, nl_rmul, nl_mm, pu_wi_1, pu_wi_2, bX7_readExtra_0, bX7_readExtra_21, bX7_readExtra_44, bX7_readExtra_62, bX7_readExtra_63, bX7_readExtra_76, bX7_readExtra_78, bX7_readExtra_86, bX7_readExtra_106, bX7_readExtra_107, a_ald, a_cv, a_gi, a_ifeq, a_ifle, a_ifne, a_ild, a_ist, a_pi, a_push, a_zret, sh_59, pu_rv, pu_as, Value.category, pu_bk, pu_kl, pu_qe0, pu_qe1, hQ, r3, hQ2, e1, rt]
        all_goals try simp [bX7_readExtra_0, bX7_readExtra_21, bX7_readExtra_44, bX7_readExtra_62, bX7_readExtra_63, bX7_readExtra_76, bX7_readExtra_78, bX7_readExtra_86, bX7_readExtra_106, bX7_readExtra_107, a_ald, a_cv, a_gi, a_ifeq, a_ifle, a_ifne, a_ild, a_ist, a_pi, a_push, a_zret, sh_59, pu_rv, pu_as, Value.category, pu_bk, pu_kl, List.replicate, pu_wi_1, pu_wi_2, nl_add, nl_ladd, nl_aa, nl_mul, nl_rmul, nl_mm, pu_qe0, pu_qe1, hQ, r3, hQ2, e1, rt]
        all_goals try simp (maxSteps := 400000) (disch := omega) [nl_tle, nl_fle, nl_tlt, nl_flt, nl_teq, nl_feq, nl_sub, nl_ss, nl_lt, nl_llt, nl_ltt, nl_le, nl_lle, nl_lee, nl_eq, nl_leq, nl_ee, nl_div, nl_rem, nl_cl, nl_n1, nl_n2, nl_n3, nl_n4, nl_add, nl_ladd, nl_aa, nl_mul, nl_rmul, nl_mm, pu_wi_1, pu_wi_2, bX7_readExtra_0, bX7_readExtra_21, bX7_readExtra_44, bX7_readExtra_62, bX7_readExtra_63, bX7_readExtra_76, bX7_readExtra_78, bX7_readExtra_86, bX7_readExtra_106, bX7_readExtra_107, a_ald, a_cv, a_gi, a_ifeq, a_ifle, a_ifne, a_ild, a_ist, a_pi, a_push, a_zret, sh_59, pu_rv, pu_as, Value.category, pu_bk, pu_kl, pu_qe0, pu_qe1, hQ, r3, hQ2, e1, rt]
        all_goals try simp [bX7_readExtra_0, bX7_readExtra_21, bX7_readExtra_44, bX7_readExtra_62, bX7_readExtra_63, bX7_readExtra_76, bX7_readExtra_78, bX7_readExtra_86, bX7_readExtra_106, bX7_readExtra_107, a_ald, a_cv, a_gi, a_ifeq, a_ifle, a_ifne, a_ild, a_ist, a_pi, a_push, a_zret, sh_59, pu_rv, pu_as, Value.category, pu_bk, pu_kl, List.replicate, pu_wi_1, pu_wi_2, nl_add, nl_ladd, nl_aa, nl_mul, nl_rmul, nl_mm, pu_qe0, pu_qe1, hQ, r3, hQ2, e1, rt]
  rw [if_neg c1]
  rw [pu_q0 (fun z => c1 ⟨z.1, by omega⟩)] at e1
  by_cases c2 : pos + 1 < t ∧ b (pos + 1) = 99
  · rw [if_pos c2]
    rw [pu_q1 ⟨c2.1, by omega, by omega⟩] at e2
    obtain ⟨w1, w2, w3⟩ := W 3
    have rt := c_rt5 w1 w2 (by omega) w3
    have mb := py_mq_b b t [99, 111, 117, 114, 116, 32] (pos + 1) (by omega)
    have w4 : pu_fx (pu_wi (pu_wi Q2 59 3 3) 59 7 (nI (py_mq b t [99, 111, 117, 114, 116, 32] (pos + 1)))) := w1
    have w5 : py_tv (pu_wi (pu_wi Q2 59 3 3) 59 7 (nI (py_mq b t [99, 111, 117, 114, 116, 32] (pos + 1)))) b t := py_tv_p w2 _
    have w6 : (pu_wi (pu_wi Q2 59 3 3) 59 7 (nI (py_mq b t [99, 111, 117, 114, 116, 32] (pos + 1)))).1 59 7 = nI (py_mq b t [99, 111, 117, 114, 116, 32] (pos + 1)) := by simp [pu_wi_1]
    have w7 : (pu_wi (pu_wi Q2 59 3 3) 59 7 (nI (py_mq b t [99, 111, 117, 114, 116, 32] (pos + 1)))).1 59 3 = nI 3 := by
      rw [py_wi_o (by omega)]
      simp [pu_wi_1]
      rfl
    have w8 : (pu_wi (pu_wi Q2 59 3 3) 59 7 (nI (py_mq b t [99, 111, 117, 114, 116, 32] (pos + 1)))).1 59 4 = 0 := by
      rw [py_wi_o (by omega), py_wi_o (by omega)]
      exact g23
    have w9 : (pu_wi (pu_wi Q2 59 3 3) 59 7 (nI (py_mq b t [99, 111, 117, 114, 116, 32] (pos + 1)))).1 59 2 = M.1 59 2 := by
      rw [py_wi_o (by omega), py_wi_o (by omega)]
      exact g22
    have f9 : py_r9 M (pu_wi (pu_wi Q2 59 3 3) 59 7 (nI (py_mq b t [99, 111, 117, 114, 116, 32] (pos + 1)))) := ⟨f2.1, fun x j hj => by rw [py_wi_o (by omega), py_wi_o (by omega)]; exact f2.2 x j hj⟩
    generalize hQ9 : pu_wi (pu_wi Q2 59 3 3) 59 7 (nI (py_mq b t [99, 111, 117, 114, 116, 32] (pos + 1))) = Q9 at *
    by_cases m : py_mo b t [99, 111, 117, 114, 116, 32] (pos + 1) = true
    · rw [if_pos m]
      rw [pu_q1 m] at rt
      generalize py_mq b t [99, 111, 117, 114, 116, 32] (pos + 1) = p9 at *
      have e3 := c_readDigits 1 (by omega) w4 w5 (by omega) w6
      rw [show nI (1 + 1) = (2 : Int32) from rfl] at e3
      have db := py_d1_b b t 1 p9 (by omega)
      generalize (py_d1 b t 1 p9).1 = v at *
      generalize (py_d1 b t 1 p9).2 = p at *
      have z4 : (pu_wi (pu_wi Q9 59 7 (nI p)) 59 4 (nI v)).1 59 4 = nI v := by simp [pu_wi_1]
      refine ⟨pu_wi (pu_wi Q9 59 7 (nI p)) 59 4 (nI v), ⟨f9.1, fun x j hj => by rw [py_wi_o (by omega), py_wi_o (by omega)]; exact f9.2 x j hj⟩, by rw [py_wi_o (by omega), py_wi_o (by omega)]; exact w9, ?_, ?_, z4, ?_⟩
      · rw [py_wi_o (by omega)]
        simp [pu_wi_1]
      · rw [py_wi_o (by omega), py_wi_o (by omega)]
        simp only
        exact w7
      · generalize hQ8 : pu_wi (pu_wi Q9 59 7 (nI p)) 59 4 (nI v) = Q8 at *
        by_cases v0 : 0 < v
        · rw [pu_q1 (show decide (0 < v) = true from decide_eq_true v0)]
          have v1 : ¬ nI v ≤ 0 := fun q => by
            rw [show (0 : Int32) = nI 0 from rfl, nI_leI (by omega) (by omega)] at q
            omega
          have v2 : ¬ v ≤ 0 := by omega
          have v3 : ¬ v = 0 := by omega
          rw [qX7_readExtra]
          simp [a_ent, bX7_readExtra_0, bX7_readExtra_21, bX7_readExtra_44, bX7_readExtra_62, bX7_readExtra_63, bX7_readExtra_76, bX7_readExtra_78, bX7_readExtra_86, bX7_readExtra_106, bX7_readExtra_107, a_ald, a_cv, a_gi, a_ifeq, a_ifle, a_ifne, a_ild, a_ist, a_pi, a_push, a_zret, sh_59, pu_rv, pu_as, Value.category, pu_bk, pu_kl, List.replicate, pu_wi_1, pu_wi_2, nl_add, nl_ladd, nl_aa, nl_mul, nl_rmul, nl_mm, pu_qe0, pu_qe1, hQ, r3, hQ2, e1, e2, rt, hQ9, e3, hQ8, z4, v1, v2, v3]
          all_goals try simp (maxSteps := 400000) (disch := omega) [nl_tle, nl_fle, nl_tlt, nl_flt, nl_teq, nl_feq, nl_sub, nl_ss, nl_lt, nl_llt, nl_ltt, nl_le, nl_lle, nl_lee, nl_eq, nl_leq, nl_ee, nl_div, nl_rem, nl_cl, nl_n1, nl_n2, nl_n3, nl_n4, nl_add, nl_ladd, nl_aa, nl_mul, nl_rmul, nl_mm, pu_wi_1, pu_wi_2, bX7_readExtra_0, bX7_readExtra_21, bX7_readExtra_44, bX7_readExtra_62, bX7_readExtra_63, bX7_readExtra_76, bX7_readExtra_78, bX7_readExtra_86, bX7_readExtra_106, bX7_readExtra_107, a_ald, a_cv, a_gi, a_ifeq, a_ifle, a_ifne, a_ild, a_ist, a_pi, a_push, a_zret, sh_59, pu_rv, pu_as, Value.category, pu_bk, pu_kl, pu_qe0, pu_qe1, hQ, r3, hQ2, e1, e2, rt, hQ9, e3, hQ8, z4, v1, v2, v3]
          all_goals try simp [bX7_readExtra_0, bX7_readExtra_21, bX7_readExtra_44, bX7_readExtra_62, bX7_readExtra_63, bX7_readExtra_76, bX7_readExtra_78, bX7_readExtra_86, bX7_readExtra_106, bX7_readExtra_107, a_ald, a_cv, a_gi, a_ifeq, a_ifle, a_ifne, a_ild, a_ist, a_pi, a_push, a_zret, sh_59, pu_rv, pu_as, Value.category, pu_bk, pu_kl, List.replicate, pu_wi_1, pu_wi_2, nl_add, nl_ladd, nl_aa, nl_mul, nl_rmul, nl_mm, pu_qe0, pu_qe1, hQ, r3, hQ2, e1, e2, rt, hQ9, e3, hQ8, z4, v1, v2, v3]
          all_goals try simp (maxSteps := 400000) (disch := omega) [nl_tle, nl_fle, nl_tlt, nl_flt, nl_teq, nl_feq, nl_sub, nl_ss, nl_lt, nl_llt, nl_ltt, nl_le, nl_lle, nl_lee, nl_eq, nl_leq, nl_ee, nl_div, nl_rem, nl_cl, nl_n1, nl_n2, nl_n3, nl_n4, nl_add, nl_ladd, nl_aa, nl_mul, nl_rmul, nl_mm, pu_wi_1, pu_wi_2, bX7_readExtra_0, bX7_readExtra_21, bX7_readExtra_44, bX7_readExtra_62, bX7_readExtra_63, bX7_readExtra_76, bX7_readExtra_78, bX7_readExtra_86, bX7_readExtra_106, bX7_readExtra_107, a_ald, a_cv, a_gi, a_ifeq, a_ifle, a_ifne, a_ild, a_ist, a_pi, a_push, a_zret, sh_59, pu_rv, pu_as, Value.category, pu_bk, pu_kl, pu_qe0, pu_qe1, hQ, r3, hQ2, e1, e2, rt, hQ9, e3, hQ8, z4, v1, v2, v3]
          all_goals try simp [bX7_readExtra_0, bX7_readExtra_21, bX7_readExtra_44, bX7_readExtra_62, bX7_readExtra_63, bX7_readExtra_76, bX7_readExtra_78, bX7_readExtra_86, bX7_readExtra_106, bX7_readExtra_107, a_ald, a_cv, a_gi, a_ifeq, a_ifle, a_ifne, a_ild, a_ist, a_pi, a_push, a_zret, sh_59, pu_rv, pu_as, Value.category, pu_bk, pu_kl, List.replicate, pu_wi_1, pu_wi_2, nl_add, nl_ladd, nl_aa, nl_mul, nl_rmul, nl_mm, pu_qe0, pu_qe1, hQ, r3, hQ2, e1, e2, rt, hQ9, e3, hQ8, z4, v1, v2, v3]
          all_goals try simp (maxSteps := 400000) (disch := omega) [nl_tle, nl_fle, nl_tlt, nl_flt, nl_teq, nl_feq, nl_sub, nl_ss, nl_lt, nl_llt, nl_ltt, nl_le, nl_lle, nl_lee, nl_eq, nl_leq, nl_ee, nl_div, nl_rem, nl_cl, nl_n1, nl_n2, nl_n3, nl_n4, nl_add, nl_ladd, nl_aa, nl_mul, nl_rmul, nl_mm, pu_wi_1, pu_wi_2, bX7_readExtra_0, bX7_readExtra_21, bX7_readExtra_44, bX7_readExtra_62, bX7_readExtra_63, bX7_readExtra_76, bX7_readExtra_78, bX7_readExtra_86, bX7_readExtra_106, bX7_readExtra_107, a_ald, a_cv, a_gi, a_ifeq, a_ifle, a_ifne, a_ild, a_ist, a_pi, a_push, a_zret, sh_59, pu_rv, pu_as, Value.category, pu_bk, pu_kl, pu_qe0, pu_qe1, hQ, r3, hQ2, e1, e2, rt, hQ9, e3, hQ8, z4, v1, v2, v3]
          all_goals try simp [bX7_readExtra_0, bX7_readExtra_21, bX7_readExtra_44, bX7_readExtra_62, bX7_readExtra_63, bX7_readExtra_76, bX7_readExtra_78, bX7_readExtra_86, bX7_readExtra_106, bX7_readExtra_107, a_ald, a_cv, a_gi, a_ifeq, a_ifle, a_ifne, a_ild, a_ist, a_pi, a_push, a_zret, sh_59, pu_rv, pu_as, Value.category, pu_bk, pu_kl, List.replicate, pu_wi_1, pu_wi_2, nl_add, nl_ladd, nl_aa, nl_mul, nl_rmul, nl_mm, pu_qe0, pu_qe1, hQ, r3, hQ2, e1, e2, rt, hQ9, e3, hQ8, z4, v1, v2, v3]
        · rw [pu_q0 (fun z : decide (0 < v) = true => v0 (of_decide_eq_true z))]
          have v3 : v = 0 := by omega
          subst v3
          have v1 : nI 0 ≤ 0 := by decide
          rw [qX7_readExtra]
          simp [a_ent, bX7_readExtra_0, bX7_readExtra_21, bX7_readExtra_44, bX7_readExtra_62, bX7_readExtra_63, bX7_readExtra_76, bX7_readExtra_78, bX7_readExtra_86, bX7_readExtra_106, bX7_readExtra_107, a_ald, a_cv, a_gi, a_ifeq, a_ifle, a_ifne, a_ild, a_ist, a_pi, a_push, a_zret, sh_59, pu_rv, pu_as, Value.category, pu_bk, pu_kl, List.replicate, pu_wi_1, pu_wi_2, nl_add, nl_ladd, nl_aa, nl_mul, nl_rmul, nl_mm, pu_qe0, pu_qe1, hQ, r3, hQ2, e1, e2, rt, hQ9, e3, hQ8, z4, v1]
          all_goals try simp (maxSteps := 400000) (disch := omega) [nl_tle, nl_fle, nl_tlt, nl_flt, nl_teq, nl_feq, nl_sub, nl_ss, nl_lt, nl_llt, nl_ltt, nl_le, nl_lle, nl_lee, nl_eq, nl_leq, nl_ee, nl_div, nl_rem, nl_cl, nl_n1, nl_n2, nl_n3, nl_n4, nl_add, nl_ladd, nl_aa, nl_mul, nl_rmul, nl_mm, pu_wi_1, pu_wi_2, bX7_readExtra_0, bX7_readExtra_21, bX7_readExtra_44, bX7_readExtra_62, bX7_readExtra_63, bX7_readExtra_76, bX7_readExtra_78, bX7_readExtra_86, bX7_readExtra_106, bX7_readExtra_107, a_ald, a_cv, a_gi, a_ifeq, a_ifle, a_ifne, a_ild, a_ist, a_pi, a_push, a_zret, sh_59, pu_rv, pu_as, Value.category, pu_bk, pu_kl, pu_qe0, pu_qe1, hQ, r3, hQ2, e1, e2, rt, hQ9, e3, hQ8, z4, v1]
          all_goals try simp [bX7_readExtra_0, bX7_readExtra_21, bX7_readExtra_44, bX7_readExtra_62, bX7_readExtra_63, bX7_readExtra_76, bX7_readExtra_78, bX7_readExtra_86, bX7_readExtra_106, bX7_readExtra_107, a_ald, a_cv, a_gi, a_ifeq, a_ifle, a_ifne, a_ild, a_ist, a_pi, a_push, a_zret, sh_59, pu_rv, pu_as, Value.category, pu_bk, pu_kl, List.replicate, pu_wi_1, pu_wi_2, nl_add, nl_ladd, nl_aa, nl_mul, nl_rmul, nl_mm, pu_qe0, pu_qe1, hQ, r3, hQ2, e1, e2, rt, hQ9, e3, hQ8, z4, v1]
          all_goals try simp (maxSteps := 400000) (disch := omega) [nl_tle, nl_fle, nl_tlt, nl_flt, nl_teq, nl_feq, nl_sub, nl_ss, nl_lt, nl_llt, nl_ltt, nl_le, nl_lle, nl_lee, nl_eq, nl_leq, nl_ee, nl_div, nl_rem, nl_cl, nl_n1, nl_n2, nl_n3, nl_n4, nl_add, nl_ladd, nl_aa, nl_mul, nl_rmul, nl_mm, pu_wi_1, pu_wi_2, bX7_readExtra_0, bX7_readExtra_21, bX7_readExtra_44, bX7_readExtra_62, bX7_readExtra_63, bX7_readExtra_76, bX7_readExtra_78, bX7_readExtra_86, bX7_readExtra_106, bX7_readExtra_107, a_ald, a_cv, a_gi, a_ifeq, a_ifle, a_ifne, a_ild, a_ist, a_pi, a_push, a_zret, sh_59, pu_rv, pu_as, Value.category, pu_bk, pu_kl, pu_qe0, pu_qe1, hQ, r3, hQ2, e1, e2, rt, hQ9, e3, hQ8, z4, v1]
          all_goals try simp [bX7_readExtra_0, bX7_readExtra_21, bX7_readExtra_44, bX7_readExtra_62, bX7_readExtra_63, bX7_readExtra_76, bX7_readExtra_78, bX7_readExtra_86, bX7_readExtra_106, bX7_readExtra_107, a_ald, a_cv, a_gi, a_ifeq, a_ifle, a_ifne, a_ild, a_ist, a_pi, a_push, a_zret, sh_59, pu_rv, pu_as, Value.category, pu_bk, pu_kl, List.replicate, pu_wi_1, pu_wi_2, nl_add, nl_ladd, nl_aa, nl_mul, nl_rmul, nl_mm, pu_qe0, pu_qe1, hQ, r3, hQ2, e1, e2, rt, hQ9, e3, hQ8, z4, v1]
          all_goals try simp (maxSteps := 400000) (disch := omega) [nl_tle, nl_fle, nl_tlt, nl_flt, nl_teq, nl_feq, nl_sub, nl_ss, nl_lt, nl_llt, nl_ltt, nl_le, nl_lle, nl_lee, nl_eq, nl_leq, nl_ee, nl_div, nl_rem, nl_cl, nl_n1, nl_n2, nl_n3, nl_n4, nl_add, nl_ladd, nl_aa, nl_mul, nl_rmul, nl_mm, pu_wi_1, pu_wi_2, bX7_readExtra_0, bX7_readExtra_21, bX7_readExtra_44, bX7_readExtra_62, bX7_readExtra_63, bX7_readExtra_76, bX7_readExtra_78, bX7_readExtra_86, bX7_readExtra_106, bX7_readExtra_107, a_ald, a_cv, a_gi, a_ifeq, a_ifle, a_ifne, a_ild, a_ist, a_pi, a_push, a_zret, sh_59, pu_rv, pu_as, Value.category, pu_bk, pu_kl, pu_qe0, pu_qe1, hQ, r3, hQ2, e1, e2, rt, hQ9, e3, hQ8, z4, v1]
          all_goals try simp [bX7_readExtra_0, bX7_readExtra_21, bX7_readExtra_44, bX7_readExtra_62, bX7_readExtra_63, bX7_readExtra_76, bX7_readExtra_78, bX7_readExtra_86, bX7_readExtra_106, bX7_readExtra_107, a_ald, a_cv, a_gi, a_ifeq, a_ifle, a_ifne, a_ild, a_ist, a_pi, a_push, a_zret, sh_59, pu_rv, pu_as, Value.category, pu_bk, pu_kl, List.replicate, pu_wi_1, pu_wi_2, nl_add, nl_ladd, nl_aa, nl_mul, nl_rmul, nl_mm, pu_qe0, pu_qe1, hQ, r3, hQ2, e1, e2, rt, hQ9, e3, hQ8, z4, v1]
    · rw [if_neg m]
      rw [pu_q0 m] at rt
      refine ⟨Q9, f9, w9, w6, by simp only; exact w7, by simp only; exact w8, ?_⟩
      rw [pu_q0 (fun z : false = true => by cases z)]
      rw [qX7_readExtra]
      simp [a_ent, bX7_readExtra_0, bX7_readExtra_21, bX7_readExtra_44, bX7_readExtra_62, bX7_readExtra_63, bX7_readExtra_76, bX7_readExtra_78, bX7_readExtra_86, bX7_readExtra_106, bX7_readExtra_107, a_ald, a_cv, a_gi, a_ifeq, a_ifle, a_ifne, a_ild, a_ist, a_pi, a_push, a_zret, sh_59, pu_rv, pu_as, Value.category, pu_bk, pu_kl, List.replicate, pu_wi_1, pu_wi_2, nl_add, nl_ladd, nl_aa, nl_mul, nl_rmul, nl_mm, pu_qe0, pu_qe1, hQ, r3, hQ2, e1, e2, rt, hQ9]
      all_goals try simp (maxSteps := 400000) (disch := omega) [nl_tle, nl_fle, nl_tlt, nl_flt, nl_teq, nl_feq, nl_sub, nl_ss, nl_lt, nl_llt, nl_ltt, nl_le, nl_lle, nl_lee, nl_eq, nl_leq, nl_ee, nl_div, nl_rem, nl_cl, nl_n1, nl_n2, nl_n3, nl_n4, nl_add, nl_ladd, nl_aa, nl_mul, nl_rmul, nl_mm, pu_wi_1, pu_wi_2, bX7_readExtra_0, bX7_readExtra_21, bX7_readExtra_44, bX7_readExtra_62, bX7_readExtra_63, bX7_readExtra_76, bX7_readExtra_78, bX7_readExtra_86, bX7_readExtra_106, bX7_readExtra_107, a_ald, a_cv, a_gi, a_ifeq, a_ifle, a_ifne, a_ild, a_ist, a_pi, a_push, a_zret, sh_59, pu_rv, pu_as, Value.category, pu_bk, pu_kl, pu_qe0, pu_qe1, hQ, r3, hQ2, e1, e2, rt, hQ9]
      all_goals try simp [bX7_readExtra_0, bX7_readExtra_21, bX7_readExtra_44, bX7_readExtra_62, bX7_readExtra_63, bX7_readExtra_76, bX7_readExtra_78, bX7_readExtra_86, bX7_readExtra_106, bX7_readExtra_107, a_ald, a_cv, a_gi, a_ifeq, a_ifle, a_ifne, a_ild, a_ist, a_pi, a_push, a_zret, sh_59, pu_rv, pu_as, Value.category, pu_bk, pu_kl, List.replicate, pu_wi_1, pu_wi_2, nl_add, nl_ladd, nl_aa, nl_mul, nl_rmul, nl_mm, pu_qe0, pu_qe1, hQ, r3, hQ2, e1, e2, rt, hQ9]
      all_goals try simp (maxSteps := 400000) (disch := omega) [nl_tle, nl_fle, nl_tlt, nl_flt, nl_teq, nl_feq, nl_sub, nl_ss, nl_lt, nl_llt, nl_ltt, nl_le, nl_lle, nl_lee, nl_eq, nl_leq, nl_ee, nl_div, nl_rem, nl_cl, nl_n1, nl_n2, nl_n3, nl_n4, nl_add, nl_ladd, nl_aa, nl_mul, nl_rmul, nl_mm, pu_wi_1, pu_wi_2, bX7_readExtra_0, bX7_readExtra_21, bX7_readExtra_44, bX7_readExtra_62, bX7_readExtra_63, bX7_readExtra_76, bX7_readExtra_78, bX7_readExtra_86, bX7_readExtra_106, bX7_readExtra_107, a_ald, a_cv, a_gi, a_ifeq, a_ifle, a_ifne, a_ild, a_ist, a_pi, a_push, a_zret, sh_59, pu_rv, pu_as, Value.category, pu_bk, pu_kl, pu_qe0, pu_qe1, hQ, r3, hQ2, e1, e2, rt, hQ9]
      all_goals try simp [bX7_readExtra_0, bX7_readExtra_21, bX7_readExtra_44, bX7_readExtra_62, bX7_readExtra_63, bX7_readExtra_76, bX7_readExtra_78, bX7_readExtra_86, bX7_readExtra_106, bX7_readExtra_107, a_ald, a_cv, a_gi, a_ifeq, a_ifle, a_ifne, a_ild, a_ist, a_pi, a_push, a_zret, sh_59, pu_rv, pu_as, Value.category, pu_bk, pu_kl, List.replicate, pu_wi_1, pu_wi_2, nl_add, nl_ladd, nl_aa, nl_mul, nl_rmul, nl_mm, pu_qe0, pu_qe1, hQ, r3, hQ2, e1, e2, rt, hQ9]
      all_goals try simp (maxSteps := 400000) (disch := omega) [nl_tle, nl_fle, nl_tlt, nl_flt, nl_teq, nl_feq, nl_sub, nl_ss, nl_lt, nl_llt, nl_ltt, nl_le, nl_lle, nl_lee, nl_eq, nl_leq, nl_ee, nl_div, nl_rem, nl_cl, nl_n1, nl_n2, nl_n3, nl_n4, nl_add, nl_ladd, nl_aa, nl_mul, nl_rmul, nl_mm, pu_wi_1, pu_wi_2, bX7_readExtra_0, bX7_readExtra_21, bX7_readExtra_44, bX7_readExtra_62, bX7_readExtra_63, bX7_readExtra_76, bX7_readExtra_78, bX7_readExtra_86, bX7_readExtra_106, bX7_readExtra_107, a_ald, a_cv, a_gi, a_ifeq, a_ifle, a_ifne, a_ild, a_ist, a_pi, a_push, a_zret, sh_59, pu_rv, pu_as, Value.category, pu_bk, pu_kl, pu_qe0, pu_qe1, hQ, r3, hQ2, e1, e2, rt, hQ9]
      all_goals try simp [bX7_readExtra_0, bX7_readExtra_21, bX7_readExtra_44, bX7_readExtra_62, bX7_readExtra_63, bX7_readExtra_76, bX7_readExtra_78, bX7_readExtra_86, bX7_readExtra_106, bX7_readExtra_107, a_ald, a_cv, a_gi, a_ifeq, a_ifle, a_ifne, a_ild, a_ist, a_pi, a_push, a_zret, sh_59, pu_rv, pu_as, Value.category, pu_bk, pu_kl, List.replicate, pu_wi_1, pu_wi_2, nl_add, nl_ladd, nl_aa, nl_mul, nl_rmul, nl_mm, pu_qe0, pu_qe1, hQ, r3, hQ2, e1, e2, rt, hQ9]
  · rw [if_neg c2]
    rw [pu_q0 (fun z => c2 ⟨z.1, by omega⟩)] at e2
    obtain ⟨w1, w2, w3⟩ := W 4
    have rt := c_rt6 w1 w2 (by omega) w3
    have mb := py_mq_b b t [102, 108, 111, 111, 114, 32] (pos + 1) (by omega)
    have w4 : pu_fx (pu_wi (pu_wi Q2 59 3 4) 59 7 (nI (py_mq b t [102, 108, 111, 111, 114, 32] (pos + 1)))) := w1
    have w5 : py_tv (pu_wi (pu_wi Q2 59 3 4) 59 7 (nI (py_mq b t [102, 108, 111, 111, 114, 32] (pos + 1)))) b t := py_tv_p w2 _
    have w6 : (pu_wi (pu_wi Q2 59 3 4) 59 7 (nI (py_mq b t [102, 108, 111, 111, 114, 32] (pos + 1)))).1 59 7 = nI (py_mq b t [102, 108, 111, 111, 114, 32] (pos + 1)) := by simp [pu_wi_1]
    have w7 : (pu_wi (pu_wi Q2 59 3 4) 59 7 (nI (py_mq b t [102, 108, 111, 111, 114, 32] (pos + 1)))).1 59 3 = nI 4 := by
      rw [py_wi_o (by omega)]
      simp [pu_wi_1]
      rfl
    have w8 : (pu_wi (pu_wi Q2 59 3 4) 59 7 (nI (py_mq b t [102, 108, 111, 111, 114, 32] (pos + 1)))).1 59 4 = 0 := by
      rw [py_wi_o (by omega), py_wi_o (by omega)]
      exact g23
    have w9 : (pu_wi (pu_wi Q2 59 3 4) 59 7 (nI (py_mq b t [102, 108, 111, 111, 114, 32] (pos + 1)))).1 59 2 = M.1 59 2 := by
      rw [py_wi_o (by omega), py_wi_o (by omega)]
      exact g22
    have f9 : py_r9 M (pu_wi (pu_wi Q2 59 3 4) 59 7 (nI (py_mq b t [102, 108, 111, 111, 114, 32] (pos + 1)))) := ⟨f2.1, fun x j hj => by rw [py_wi_o (by omega), py_wi_o (by omega)]; exact f2.2 x j hj⟩
    generalize hQ9 : pu_wi (pu_wi Q2 59 3 4) 59 7 (nI (py_mq b t [102, 108, 111, 111, 114, 32] (pos + 1))) = Q9 at *
    by_cases m : py_mo b t [102, 108, 111, 111, 114, 32] (pos + 1) = true
    · rw [if_pos m]
      rw [pu_q1 m] at rt
      generalize py_mq b t [102, 108, 111, 111, 114, 32] (pos + 1) = p9 at *
      have e3 := c_readDigits 1 (by omega) w4 w5 (by omega) w6
      rw [show nI (1 + 1) = (2 : Int32) from rfl] at e3
      have db := py_d1_b b t 1 p9 (by omega)
      generalize (py_d1 b t 1 p9).1 = v at *
      generalize (py_d1 b t 1 p9).2 = p at *
      have z4 : (pu_wi (pu_wi Q9 59 7 (nI p)) 59 4 (nI v)).1 59 4 = nI v := by simp [pu_wi_1]
      refine ⟨pu_wi (pu_wi Q9 59 7 (nI p)) 59 4 (nI v), ⟨f9.1, fun x j hj => by rw [py_wi_o (by omega), py_wi_o (by omega)]; exact f9.2 x j hj⟩, by rw [py_wi_o (by omega), py_wi_o (by omega)]; exact w9, ?_, ?_, z4, ?_⟩
      · rw [py_wi_o (by omega)]
        simp [pu_wi_1]
      · rw [py_wi_o (by omega), py_wi_o (by omega)]
        simp only
        exact w7
      · generalize hQ8 : pu_wi (pu_wi Q9 59 7 (nI p)) 59 4 (nI v) = Q8 at *
        by_cases v0 : 0 < v
        · rw [pu_q1 (show decide (0 < v) = true from decide_eq_true v0)]
          have v1 : ¬ nI v ≤ 0 := fun q => by
            rw [show (0 : Int32) = nI 0 from rfl, nI_leI (by omega) (by omega)] at q
            omega
          have v2 : ¬ v ≤ 0 := by omega
          have v3 : ¬ v = 0 := by omega
          rw [qX7_readExtra]
          simp [a_ent, bX7_readExtra_0, bX7_readExtra_21, bX7_readExtra_44, bX7_readExtra_62, bX7_readExtra_63, bX7_readExtra_76, bX7_readExtra_78, bX7_readExtra_86, bX7_readExtra_106, bX7_readExtra_107, a_ald, a_cv, a_gi, a_ifeq, a_ifle, a_ifne, a_ild, a_ist, a_pi, a_push, a_zret, sh_59, pu_rv, pu_as, Value.category, pu_bk, pu_kl, List.replicate, pu_wi_1, pu_wi_2, nl_add, nl_ladd, nl_aa, nl_mul, nl_rmul, nl_mm, pu_qe0, pu_qe1, hQ, r3, hQ2, e1, e2, rt, hQ9, e3, hQ8, z4, v1, v2, v3]
          all_goals try simp (maxSteps := 400000) (disch := omega) [nl_tle, nl_fle, nl_tlt, nl_flt, nl_teq, nl_feq, nl_sub, nl_ss, nl_lt, nl_llt, nl_ltt, nl_le, nl_lle, nl_lee, nl_eq, nl_leq, nl_ee, nl_div, nl_rem, nl_cl, nl_n1, nl_n2, nl_n3, nl_n4, nl_add, nl_ladd, nl_aa, nl_mul, nl_rmul, nl_mm, pu_wi_1, pu_wi_2, bX7_readExtra_0, bX7_readExtra_21, bX7_readExtra_44, bX7_readExtra_62, bX7_readExtra_63, bX7_readExtra_76, bX7_readExtra_78, bX7_readExtra_86, bX7_readExtra_106, bX7_readExtra_107, a_ald, a_cv, a_gi, a_ifeq, a_ifle, a_ifne, a_ild, a_ist, a_pi, a_push, a_zret, sh_59, pu_rv, pu_as, Value.category, pu_bk, pu_kl, pu_qe0, pu_qe1, hQ, r3, hQ2, e1, e2, rt, hQ9, e3, hQ8, z4, v1, v2, v3]
          all_goals try simp [bX7_readExtra_0, bX7_readExtra_21, bX7_readExtra_44, bX7_readExtra_62, bX7_readExtra_63, bX7_readExtra_76, bX7_readExtra_78, bX7_readExtra_86, bX7_readExtra_106, bX7_readExtra_107, a_ald, a_cv, a_gi, a_ifeq, a_ifle, a_ifne, a_ild, a_ist, a_pi, a_push, a_zret, sh_59, pu_rv, pu_as, Value.category, pu_bk, pu_kl, List.replicate, pu_wi_1, pu_wi_2, nl_add, nl_ladd, nl_aa, nl_mul, nl_rmul, nl_mm, pu_qe0, pu_qe1, hQ, r3, hQ2, e1, e2, rt, hQ9, e3, hQ8, z4, v1, v2, v3]
          all_goals try simp (maxSteps := 400000) (disch := omega) [nl_tle, nl_fle, nl_tlt, nl_flt, nl_teq, nl_feq, nl_sub, nl_ss, nl_lt, nl_llt, nl_ltt, nl_le, nl_lle, nl_lee, nl_eq, nl_leq, nl_ee, nl_div, nl_rem, nl_cl, nl_n1, nl_n2, nl_n3, nl_n4, nl_add, nl_ladd, nl_aa, nl_mul, nl_rmul, nl_mm, pu_wi_1, pu_wi_2, bX7_readExtra_0, bX7_readExtra_21, bX7_readExtra_44, bX7_readExtra_62, bX7_readExtra_63, bX7_readExtra_76, bX7_readExtra_78, bX7_readExtra_86, bX7_readExtra_106, bX7_readExtra_107, a_ald, a_cv, a_gi, a_ifeq, a_ifle, a_ifne, a_ild, a_ist, a_pi, a_push, a_zret, sh_59, pu_rv, pu_as, Value.category, pu_bk, pu_kl, pu_qe0, pu_qe1, hQ, r3, hQ2, e1, e2, rt, hQ9, e3, hQ8, z4, v1, v2, v3]
          all_goals try simp [bX7_readExtra_0, bX7_readExtra_21, bX7_readExtra_44, bX7_readExtra_62, bX7_readExtra_63, bX7_readExtra_76, bX7_readExtra_78, bX7_readExtra_86, bX7_readExtra_106, bX7_readExtra_107, a_ald, a_cv, a_gi, a_ifeq, a_ifle, a_ifne, a_ild, a_ist, a_pi, a_push, a_zret, sh_59, pu_rv, pu_as, Value.category, pu_bk, pu_kl, List.replicate, pu_wi_1, pu_wi_2, nl_add, nl_ladd, nl_aa, nl_mul, nl_rmul, nl_mm, pu_qe0, pu_qe1, hQ, r3, hQ2, e1, e2, rt, hQ9, e3, hQ8, z4, v1, v2, v3]
          all_goals try simp (maxSteps := 400000) (disch := omega) [nl_tle, nl_fle, nl_tlt, nl_flt, nl_teq, nl_feq, nl_sub, nl_ss, nl_lt, nl_llt, nl_ltt, nl_le, nl_lle, nl_lee, nl_eq, nl_leq, nl_ee, nl_div, nl_rem, nl_cl, nl_n1, nl_n2, nl_n3, nl_n4, nl_add, nl_ladd, nl_aa, nl_mul, nl_rmul, nl_mm, pu_wi_1, pu_wi_2, bX7_readExtra_0, bX7_readExtra_21, bX7_readExtra_44, bX7_readExtra_62, bX7_readExtra_63, bX7_readExtra_76, bX7_readExtra_78, bX7_readExtra_86, bX7_readExtra_106, bX7_readExtra_107, a_ald, a_cv, a_gi, a_ifeq, a_ifle, a_ifne, a_ild, a_ist, a_pi, a_push, a_zret, sh_59, pu_rv, pu_as, Value.category, pu_bk, pu_kl, pu_qe0, pu_qe1, hQ, r3, hQ2, e1, e2, rt, hQ9, e3, hQ8, z4, v1, v2, v3]
          all_goals try simp [bX7_readExtra_0, bX7_readExtra_21, bX7_readExtra_44, bX7_readExtra_62, bX7_readExtra_63, bX7_readExtra_76, bX7_readExtra_78, bX7_readExtra_86, bX7_readExtra_106, bX7_readExtra_107, a_ald, a_cv, a_gi, a_ifeq, a_ifle, a_ifne, a_ild, a_ist, a_pi, a_push, a_zret, sh_59, pu_rv, pu_as, Value.category, pu_bk, pu_kl, List.replicate, pu_wi_1, pu_wi_2, nl_add, nl_ladd, nl_aa, nl_mul, nl_rmul, nl_mm, pu_qe0, pu_qe1, hQ, r3, hQ2, e1, e2, rt, hQ9, e3, hQ8, z4, v1, v2, v3]
        · rw [pu_q0 (fun z : decide (0 < v) = true => v0 (of_decide_eq_true z))]
          have v3 : v = 0 := by omega
          subst v3
          have v1 : nI 0 ≤ 0 := by decide
          rw [qX7_readExtra]
          simp [a_ent, bX7_readExtra_0, bX7_readExtra_21, bX7_readExtra_44, bX7_readExtra_62, bX7_readExtra_63, bX7_readExtra_76, bX7_readExtra_78, bX7_readExtra_86, bX7_readExtra_106, bX7_readExtra_107, a_ald, a_cv, a_gi, a_ifeq, a_ifle, a_ifne, a_ild, a_ist, a_pi, a_push, a_zret, sh_59, pu_rv, pu_as, Value.category, pu_bk, pu_kl, List.replicate, pu_wi_1, pu_wi_2, nl_add, nl_ladd, nl_aa, nl_mul, nl_rmul, nl_mm, pu_qe0, pu_qe1, hQ, r3, hQ2, e1, e2, rt, hQ9, e3, hQ8, z4, v1]
          all_goals try simp (maxSteps := 400000) (disch := omega) [nl_tle, nl_fle, nl_tlt, nl_flt, nl_teq, nl_feq, nl_sub, nl_ss, nl_lt, nl_llt, nl_ltt, nl_le, nl_lle, nl_lee, nl_eq, nl_leq, nl_ee, nl_div, nl_rem, nl_cl, nl_n1, nl_n2, nl_n3, nl_n4, nl_add, nl_ladd, nl_aa, nl_mul, nl_rmul, nl_mm, pu_wi_1, pu_wi_2, bX7_readExtra_0, bX7_readExtra_21, bX7_readExtra_44, bX7_readExtra_62, bX7_readExtra_63, bX7_readExtra_76, bX7_readExtra_78, bX7_readExtra_86, bX7_readExtra_106, bX7_readExtra_107, a_ald, a_cv, a_gi, a_ifeq, a_ifle, a_ifne, a_ild, a_ist, a_pi, a_push, a_zret, sh_59, pu_rv, pu_as, Value.category, pu_bk, pu_kl, pu_qe0, pu_qe1, hQ, r3, hQ2, e1, e2, rt, hQ9, e3, hQ8, z4, v1]
          all_goals try simp [bX7_readExtra_0, bX7_readExtra_21, bX7_readExtra_44, bX7_readExtra_62, bX7_readExtra_63, bX7_readExtra_76, bX7_readExtra_78, bX7_readExtra_86, bX7_readExtra_106, bX7_readExtra_107, a_ald, a_cv, a_gi, a_ifeq, a_ifle, a_ifne, a_ild, a_ist, a_pi, a_push, a_zret, sh_59, pu_rv, pu_as, Value.category, pu_bk, pu_kl, List.replicate, pu_wi_1, pu_wi_2, nl_add, nl_ladd, nl_aa, nl_mul, nl_rmul, nl_mm, pu_qe0, pu_qe1, hQ, r3, hQ2, e1, e2, rt, hQ9, e3, hQ8, z4, v1]
          all_goals try simp (maxSteps := 400000) (disch := omega) [nl_tle, nl_fle, nl_tlt, nl_flt, nl_teq, nl_feq, nl_sub, nl_ss, nl_lt, nl_llt, nl_ltt, nl_le, nl_lle, nl_lee, nl_eq, nl_leq, nl_ee, nl_div, nl_rem, nl_cl, nl_n1, nl_n2, nl_n3, nl_n4, nl_add, nl_ladd, nl_aa, nl_mul, nl_rmul, nl_mm, pu_wi_1, pu_wi_2, bX7_readExtra_0, bX7_readExtra_21, bX7_readExtra_44, bX7_readExtra_62, bX7_readExtra_63, bX7_readExtra_76, bX7_readExtra_78, bX7_readExtra_86, bX7_readExtra_106, bX7_readExtra_107, a_ald, a_cv, a_gi, a_ifeq, a_ifle, a_ifne, a_ild, a_ist, a_pi, a_push, a_zret, sh_59, pu_rv, pu_as, Value.category, pu_bk, pu_kl, pu_qe0, pu_qe1, hQ, r3, hQ2, e1, e2, rt, hQ9, e3, hQ8, z4, v1]
          all_goals try simp [bX7_readExtra_0, bX7_readExtra_21, bX7_readExtra_44, bX7_readExtra_62, bX7_readExtra_63, bX7_readExtra_76, bX7_readExtra_78, bX7_readExtra_86, bX7_readExtra_106, bX7_readExtra_107, a_ald, a_cv, a_gi, a_ifeq, a_ifle, a_ifne, a_ild, a_ist, a_pi, a_push, a_zret, sh_59, pu_rv, pu_as, Value.category, pu_bk, pu_kl, List.replicate, pu_wi_1, pu_wi_2, nl_add, nl_ladd, nl_aa, nl_mul, nl_rmul, nl_mm, pu_qe0, pu_qe1, hQ, r3, hQ2, e1, e2, rt, hQ9, e3, hQ8, z4, v1]
          all_goals try simp (maxSteps := 400000) (disch := omega) [nl_tle, nl_fle, nl_tlt, nl_flt, nl_teq, nl_feq, nl_sub, nl_ss, nl_lt, nl_llt, nl_ltt, nl_le, nl_lle, nl_lee, nl_eq, nl_leq, nl_ee, nl_div, nl_rem, nl_cl, nl_n1, nl_n2, nl_n3, nl_n4, nl_add, nl_ladd, nl_aa, nl_mul, nl_rmul, nl_mm, pu_wi_1, pu_wi_2, bX7_readExtra_0, bX7_readExtra_21, bX7_readExtra_44, bX7_readExtra_62, bX7_readExtra_63, bX7_readExtra_76, bX7_readExtra_78, bX7_readExtra_86, bX7_readExtra_106, bX7_readExtra_107, a_ald, a_cv, a_gi, a_ifeq, a_ifle, a_ifne, a_ild, a_ist, a_pi, a_push, a_zret, sh_59, pu_rv, pu_as, Value.category, pu_bk, pu_kl, pu_qe0, pu_qe1, hQ, r3, hQ2, e1, e2, rt, hQ9, e3, hQ8, z4, v1]
          all_goals try simp [bX7_readExtra_0, bX7_readExtra_21, bX7_readExtra_44, bX7_readExtra_62, bX7_readExtra_63, bX7_readExtra_76, bX7_readExtra_78, bX7_readExtra_86, bX7_readExtra_106, bX7_readExtra_107, a_ald, a_cv, a_gi, a_ifeq, a_ifle, a_ifne, a_ild, a_ist, a_pi, a_push, a_zret, sh_59, pu_rv, pu_as, Value.category, pu_bk, pu_kl, List.replicate, pu_wi_1, pu_wi_2, nl_add, nl_ladd, nl_aa, nl_mul, nl_rmul, nl_mm, pu_qe0, pu_qe1, hQ, r3, hQ2, e1, e2, rt, hQ9, e3, hQ8, z4, v1]
    · rw [if_neg m]
      rw [pu_q0 m] at rt
      refine ⟨Q9, f9, w9, w6, by simp only; exact w7, by simp only; exact w8, ?_⟩
      rw [pu_q0 (fun z : false = true => by cases z)]
      rw [qX7_readExtra]
      simp [a_ent, bX7_readExtra_0, bX7_readExtra_21, bX7_readExtra_44, bX7_readExtra_62, bX7_readExtra_63, bX7_readExtra_76, bX7_readExtra_78, bX7_readExtra_86, bX7_readExtra_106, bX7_readExtra_107, a_ald, a_cv, a_gi, a_ifeq, a_ifle, a_ifne, a_ild, a_ist, a_pi, a_push, a_zret, sh_59, pu_rv, pu_as, Value.category, pu_bk, pu_kl, List.replicate, pu_wi_1, pu_wi_2, nl_add, nl_ladd, nl_aa, nl_mul, nl_rmul, nl_mm, pu_qe0, pu_qe1, hQ, r3, hQ2, e1, e2, rt, hQ9]
      all_goals try simp (maxSteps := 400000) (disch := omega) [nl_tle, nl_fle, nl_tlt, nl_flt, nl_teq, nl_feq, nl_sub, nl_ss, nl_lt, nl_llt, nl_ltt, nl_le, nl_lle, nl_lee, nl_eq, nl_leq, nl_ee, nl_div, nl_rem, nl_cl, nl_n1, nl_n2, nl_n3, nl_n4, nl_add, nl_ladd, nl_aa, nl_mul, nl_rmul, nl_mm, pu_wi_1, pu_wi_2, bX7_readExtra_0, bX7_readExtra_21, bX7_readExtra_44, bX7_readExtra_62, bX7_readExtra_63, bX7_readExtra_76, bX7_readExtra_78, bX7_readExtra_86, bX7_readExtra_106, bX7_readExtra_107, a_ald, a_cv, a_gi, a_ifeq, a_ifle, a_ifne, a_ild, a_ist, a_pi, a_push, a_zret, sh_59, pu_rv, pu_as, Value.category, pu_bk, pu_kl, pu_qe0, pu_qe1, hQ, r3, hQ2, e1, e2, rt, hQ9]
      all_goals try simp [bX7_readExtra_0, bX7_readExtra_21, bX7_readExtra_44, bX7_readExtra_62, bX7_readExtra_63, bX7_readExtra_76, bX7_readExtra_78, bX7_readExtra_86, bX7_readExtra_106, bX7_readExtra_107, a_ald, a_cv, a_gi, a_ifeq, a_ifle, a_ifne, a_ild, a_ist, a_pi, a_push, a_zret, sh_59, pu_rv, pu_as, Value.category, pu_bk, pu_kl, List.replicate, pu_wi_1, pu_wi_2, nl_add, nl_ladd, nl_aa, nl_mul, nl_rmul, nl_mm, pu_qe0, pu_qe1, hQ, r3, hQ2, e1, e2, rt, hQ9]
      all_goals try simp (maxSteps := 400000) (disch := omega) [nl_tle, nl_fle, nl_tlt, nl_flt, nl_teq, nl_feq, nl_sub, nl_ss, nl_lt, nl_llt, nl_ltt, nl_le, nl_lle, nl_lee, nl_eq, nl_leq, nl_ee, nl_div, nl_rem, nl_cl, nl_n1, nl_n2, nl_n3, nl_n4, nl_add, nl_ladd, nl_aa, nl_mul, nl_rmul, nl_mm, pu_wi_1, pu_wi_2, bX7_readExtra_0, bX7_readExtra_21, bX7_readExtra_44, bX7_readExtra_62, bX7_readExtra_63, bX7_readExtra_76, bX7_readExtra_78, bX7_readExtra_86, bX7_readExtra_106, bX7_readExtra_107, a_ald, a_cv, a_gi, a_ifeq, a_ifle, a_ifne, a_ild, a_ist, a_pi, a_push, a_zret, sh_59, pu_rv, pu_as, Value.category, pu_bk, pu_kl, pu_qe0, pu_qe1, hQ, r3, hQ2, e1, e2, rt, hQ9]
      all_goals try simp [bX7_readExtra_0, bX7_readExtra_21, bX7_readExtra_44, bX7_readExtra_62, bX7_readExtra_63, bX7_readExtra_76, bX7_readExtra_78, bX7_readExtra_86, bX7_readExtra_106, bX7_readExtra_107, a_ald, a_cv, a_gi, a_ifeq, a_ifle, a_ifne, a_ild, a_ist, a_pi, a_push, a_zret, sh_59, pu_rv, pu_as, Value.category, pu_bk, pu_kl, List.replicate, pu_wi_1, pu_wi_2, nl_add, nl_ladd, nl_aa, nl_mul, nl_rmul, nl_mm, pu_qe0, pu_qe1, hQ, r3, hQ2, e1, e2, rt, hQ9]
      all_goals try simp (maxSteps := 400000) (disch := omega) [nl_tle, nl_fle, nl_tlt, nl_flt, nl_teq, nl_feq, nl_sub, nl_ss, nl_lt, nl_llt, nl_ltt, nl_le, nl_lle, nl_lee, nl_eq, nl_leq, nl_ee, nl_div, nl_rem, nl_cl, nl_n1, nl_n2, nl_n3, nl_n4, nl_add, nl_ladd, nl_aa, nl_mul, nl_rmul, nl_mm, pu_wi_1, pu_wi_2, bX7_readExtra_0, bX7_readExtra_21, bX7_readExtra_44, bX7_readExtra_62, bX7_readExtra_63, bX7_readExtra_76, bX7_readExtra_78, bX7_readExtra_86, bX7_readExtra_106, bX7_readExtra_107, a_ald, a_cv, a_gi, a_ifeq, a_ifle, a_ifne, a_ild, a_ist, a_pi, a_push, a_zret, sh_59, pu_rv, pu_as, Value.category, pu_bk, pu_kl, pu_qe0, pu_qe1, hQ, r3, hQ2, e1, e2, rt, hQ9]
      all_goals try simp [bX7_readExtra_0, bX7_readExtra_21, bX7_readExtra_44, bX7_readExtra_62, bX7_readExtra_63, bX7_readExtra_76, bX7_readExtra_78, bX7_readExtra_86, bX7_readExtra_106, bX7_readExtra_107, a_ald, a_cv, a_gi, a_ifeq, a_ifle, a_ifne, a_ild, a_ist, a_pi, a_push, a_zret, sh_59, pu_rv, pu_as, Value.category, pu_bk, pu_kl, List.replicate, pu_wi_1, pu_wi_2, nl_add, nl_ladd, nl_aa, nl_mul, nl_rmul, nl_mm, pu_qe0, pu_qe1, hQ, r3, hQ2, e1, e2, rt, hQ9]
theorem c_street_l (b : Nat → Nat) (t : Nat) : ∀ (n i pos : Nat) (M : pu_M), pu_fx M → py_tv M b t → i + n = 3 → pos ≤ t → M.1 59 7 = nI pos → (∀ j, i ≤ j → j < 3 → M.2.1 60 j = 0) → ∃ N, py_rf M N 60 i ∧ N.1 59 7 = nI (py_sq b t n pos) ∧ (∀ l, py_sw b t n pos = some l → ∀ k, k < n → N.2.1 60 (i + k) = lN (pu_wv (l.getD k []))) ∧ pu_r 399 [some (.ref 59), some (.int (nI i))] [] M = some (some (.int (pu_q (py_sw b t n pos ≠ none))), N)
  | 0, i, pos, M, hx, h, hn, hp, h7, hz => by
    have e : i = 3 := by omega
    subst e
    refine ⟨M, ⟨rfl, fun _ _ _ => rfl, fun _ _ _ => rfl⟩, h7, fun l hl => (by cases hl), ?_⟩
    rw [pu_q0 (fun z => z rfl)]
    have hc : 3 ≤ nI 3 := by decide
    rw [qX7_readStreet_10]
    simp [bX7_readStreet_10, bX7_readStreet_66, bX7_readStreet_45, bX7_readStreet_47, bX7_readStreet_60, a_al, a_ald, a_cv, a_gr, a_icge, a_ifeq, a_ifne, a_ild, a_inc, a_lcmp, a_push, a_wl, a_zret, sh_59, sh_60, pu_rv, pu_as, Value.category, pu_bk, pu_kl, List.replicate, pu_wi_1, pu_wi_2, nl_add, nl_ladd, nl_aa, nl_mul, nl_rmul, nl_mm, pu_qe0, pu_qe1, hc]
    all_goals try simp (maxSteps := 400000) (disch := omega) [nl_tle, nl_fle, nl_tlt, nl_flt, nl_teq, nl_feq, nl_sub, nl_ss, nl_lt, nl_llt, nl_ltt, nl_le, nl_lle, nl_lee, nl_eq, nl_leq, nl_ee, nl_div, nl_rem, nl_cl, nl_n1, nl_n2, nl_n3, nl_n4, nl_add, nl_ladd, nl_aa, nl_mul, nl_rmul, nl_mm, pu_wi_1, pu_wi_2, bX7_readStreet_10, bX7_readStreet_66, bX7_readStreet_45, bX7_readStreet_47, bX7_readStreet_60, a_al, a_ald, a_cv, a_gr, a_icge, a_ifeq, a_ifne, a_ild, a_inc, a_lcmp, a_push, a_wl, a_zret, sh_59, sh_60, pu_rv, pu_as, Value.category, pu_bk, pu_kl, pu_qe0, pu_qe1, hc]
    all_goals try simp [bX7_readStreet_10, bX7_readStreet_66, bX7_readStreet_45, bX7_readStreet_47, bX7_readStreet_60, a_al, a_ald, a_cv, a_gr, a_icge, a_ifeq, a_ifne, a_ild, a_inc, a_lcmp, a_push, a_wl, a_zret, sh_59, sh_60, pu_rv, pu_as, Value.category, pu_bk, pu_kl, List.replicate, pu_wi_1, pu_wi_2, nl_add, nl_ladd, nl_aa, nl_mul, nl_rmul, nl_mm, pu_qe0, pu_qe1, hc]
    all_goals try simp (maxSteps := 400000) (disch := omega) [nl_tle, nl_fle, nl_tlt, nl_flt, nl_teq, nl_feq, nl_sub, nl_ss, nl_lt, nl_llt, nl_ltt, nl_le, nl_lle, nl_lee, nl_eq, nl_leq, nl_ee, nl_div, nl_rem, nl_cl, nl_n1, nl_n2, nl_n3, nl_n4, nl_add, nl_ladd, nl_aa, nl_mul, nl_rmul, nl_mm, pu_wi_1, pu_wi_2, bX7_readStreet_10, bX7_readStreet_66, bX7_readStreet_45, bX7_readStreet_47, bX7_readStreet_60, a_al, a_ald, a_cv, a_gr, a_icge, a_ifeq, a_ifne, a_ild, a_inc, a_lcmp, a_push, a_wl, a_zret, sh_59, sh_60, pu_rv, pu_as, Value.category, pu_bk, pu_kl, pu_qe0, pu_qe1, hc]
    all_goals try simp [bX7_readStreet_10, bX7_readStreet_66, bX7_readStreet_45, bX7_readStreet_47, bX7_readStreet_60, a_al, a_ald, a_cv, a_gr, a_icge, a_ifeq, a_ifne, a_ild, a_inc, a_lcmp, a_push, a_wl, a_zret, sh_59, sh_60, pu_rv, pu_as, Value.category, pu_bk, pu_kl, List.replicate, pu_wi_1, pu_wi_2, nl_add, nl_ladd, nl_aa, nl_mul, nl_rmul, nl_mm, pu_qe0, pu_qe1, hc]
    all_goals try simp (maxSteps := 400000) (disch := omega) [nl_tle, nl_fle, nl_tlt, nl_flt, nl_teq, nl_feq, nl_sub, nl_ss, nl_lt, nl_llt, nl_ltt, nl_le, nl_lle, nl_lee, nl_eq, nl_leq, nl_ee, nl_div, nl_rem, nl_cl, nl_n1, nl_n2, nl_n3, nl_n4, nl_add, nl_ladd, nl_aa, nl_mul, nl_rmul, nl_mm, pu_wi_1, pu_wi_2, bX7_readStreet_10, bX7_readStreet_66, bX7_readStreet_45, bX7_readStreet_47, bX7_readStreet_60, a_al, a_ald, a_cv, a_gr, a_icge, a_ifeq, a_ifne, a_ild, a_inc, a_lcmp, a_push, a_wl, a_zret, sh_59, sh_60, pu_rv, pu_as, Value.category, pu_bk, pu_kl, pu_qe0, pu_qe1, hc]
    all_goals try simp [bX7_readStreet_10, bX7_readStreet_66, bX7_readStreet_45, bX7_readStreet_47, bX7_readStreet_60, a_al, a_ald, a_cv, a_gr, a_icge, a_ifeq, a_ifne, a_ild, a_inc, a_lcmp, a_push, a_wl, a_zret, sh_59, sh_60, pu_rv, pu_as, Value.category, pu_bk, pu_kl, List.replicate, pu_wi_1, pu_wi_2, nl_add, nl_ladd, nl_aa, nl_mul, nl_rmul, nl_mm, pu_qe0, pu_qe1, hc]
  | n + 1, i, pos, M, hx, h, hn, hp, h7, hz => by
    have hc : ¬ 3 ≤ nI i := nI_ge (b := 3) (by omega) (by omega)
    have f60 := fx_59_0 hx
    have e := c_readWord hx h hp h7
    have q := py_lw_l b t 12 pos hp
    have z0 := py_lw0 (b := b) hp
    have il : i < 3 := by omega
    unfold py_sw py_sq
    generalize hds : py_lw b t 12 pos = ds at *
    have t1 := h.1
    have t3 := h.2.2.1
    have hM1 : pu_fx (pu_wl (pu_wi M 59 7 (nI (pos + ds.length))) 60 i (lN (pu_wv ds))) := hx
    have fM60 : (pu_wl (pu_wi M 59 7 (nI (pos + ds.length))) 60 i (lN (pu_wv ds))).2.2.1 59 0 = some 60 := f60
    have tM1 : py_tv (pu_wl (pu_wi M 59 7 (nI (pos + ds.length))) 60 i (lN (pu_wv ds))) b t := py_tv_m h (by rw [py_wl_1, py_wi_o (by omega)]) (fun j => by rw [py_wl_1, py_wi_o (by omega)]) rfl
    have pM1 : (pu_wl (pu_wi M 59 7 (nI (pos + ds.length))) 60 i (lN (pu_wv ds))).1 59 7 = nI (pos + ds.length) := by
      rw [py_wl_1]
      simp [pu_wi_1]
    have fM1 : py_rf M (pu_wl (pu_wi M 59 7 (nI (pos + ds.length))) 60 i (lN (pu_wv ds))) 60 i := ⟨rfl, fun x j hj => by rw [py_wl_1, py_wi_o hj], fun x j hj => by rw [py_wl_o (by omega)]; rfl⟩
    have rM1 : (pu_wl (pu_wi M 59 7 (nI (pos + ds.length))) 60 i (lN (pu_wv ds))).2.1 60 i = lN (pu_wv ds) := by
      rw [py_wl_3, if_pos rfl, if_pos rfl]
    have zM1 : ∀ j, i + 1 ≤ j → j < 3 → (pu_wl (pu_wi M 59 7 (nI (pos + ds.length))) 60 i (lN (pu_wv ds))).2.1 60 j = 0 := fun j h1 h2 => by
      rw [py_wl_o (by omega)]
      exact hz j (by omega) h2
    by_cases c0 : ds = []
    · rw [if_pos c0, if_pos c0]
      rw [c0] at pM1
      have l0 : pos + ([] : List Nat).length = pos := rfl
      rw [l0] at pM1
      generalize hM : pu_wl (pu_wi M 59 7 (nI (pos + ds.length))) 60 i (lN (pu_wv ds)) = M1 at *
      refine ⟨M1, fM1, ?_, fun l hl => (by cases hl), ?_⟩
      · rw [← hM, py_wl_1, c0]
        simp [pu_wi_1]
      · rw [pu_q0 (fun z => z rfl)]
        have w0 : lN (pu_wv ds) = 0 := by rw [z0]; exact c0
        rw [w0] at rM1 hM
        rw [qX7_readStreet_10]
        simp [bX7_readStreet_10, bX7_readStreet_66, bX7_readStreet_45, bX7_readStreet_47, bX7_readStreet_60, a_al, a_ald, a_cv, a_gr, a_icge, a_ifeq, a_ifne, a_ild, a_inc, a_lcmp, a_push, a_wl, a_zret, sh_59, sh_60, pu_rv, pu_as, Value.category, pu_bk, pu_kl, List.replicate, pu_wi_1, pu_wi_2, nl_add, nl_ladd, nl_aa, nl_mul, nl_rmul, nl_mm, pu_qe0, pu_qe1, hc, f60, fM60, e, w0, il, hM, rM1, py_cmp]
        all_goals try simp (maxSteps := 400000) (disch := omega) [nl_tle, nl_fle, nl_tlt, nl_flt, nl_teq, nl_feq, nl_sub, nl_ss, nl_lt, nl_llt, nl_ltt, nl_le, nl_lle, nl_lee, nl_eq, nl_leq, nl_ee, nl_div, nl_rem, nl_cl, nl_n1, nl_n2, nl_n3, nl_n4, nl_add, nl_ladd, nl_aa, nl_mul, nl_rmul, nl_mm, pu_wi_1, pu_wi_2, bX7_readStreet_10, bX7_readStreet_66, bX7_readStreet_45, bX7_readStreet_47, bX7_readStreet_60, a_al, a_ald, a_cv, a_gr, a_icge, a_ifeq, a_ifne, a_ild, a_inc, a_lcmp, a_push, a_wl, a_zret, sh_59, sh_60, pu_rv, pu_as, Value.category, pu_bk, pu_kl, pu_qe0, pu_qe1, hc, f60, fM60, e, w0, il, hM, rM1, py_cmp]
        all_goals try simp [bX7_readStreet_10, bX7_readStreet_66, bX7_readStreet_45, bX7_readStreet_47, bX7_readStreet_60, a_al, a_ald, a_cv, a_gr, a_icge, a_ifeq, a_ifne, a_ild, a_inc, a_lcmp, a_push, a_wl, a_zret, sh_59, sh_60, pu_rv, pu_as, Value.category, pu_bk, pu_kl, List.replicate, pu_wi_1, pu_wi_2, nl_add, nl_ladd, nl_aa, nl_mul, nl_rmul, nl_mm, pu_qe0, pu_qe1, hc, f60, fM60, e, w0, il, hM, rM1, py_cmp]
        all_goals try simp (maxSteps := 400000) (disch := omega) [nl_tle, nl_fle, nl_tlt, nl_flt, nl_teq, nl_feq, nl_sub, nl_ss, nl_lt, nl_llt, nl_ltt, nl_le, nl_lle, nl_lee, nl_eq, nl_leq, nl_ee, nl_div, nl_rem, nl_cl, nl_n1, nl_n2, nl_n3, nl_n4, nl_add, nl_ladd, nl_aa, nl_mul, nl_rmul, nl_mm, pu_wi_1, pu_wi_2, bX7_readStreet_10, bX7_readStreet_66, bX7_readStreet_45, bX7_readStreet_47, bX7_readStreet_60, a_al, a_ald, a_cv, a_gr, a_icge, a_ifeq, a_ifne, a_ild, a_inc, a_lcmp, a_push, a_wl, a_zret, sh_59, sh_60, pu_rv, pu_as, Value.category, pu_bk, pu_kl, pu_qe0, pu_qe1, hc, f60, fM60, e, w0, il, hM, rM1, py_cmp]
        all_goals try simp [bX7_readStreet_10, bX7_readStreet_66, bX7_readStreet_45, bX7_readStreet_47, bX7_readStreet_60, a_al, a_ald, a_cv, a_gr, a_icge, a_ifeq, a_ifne, a_ild, a_inc, a_lcmp, a_push, a_wl, a_zret, sh_59, sh_60, pu_rv, pu_as, Value.category, pu_bk, pu_kl, List.replicate, pu_wi_1, pu_wi_2, nl_add, nl_ladd, nl_aa, nl_mul, nl_rmul, nl_mm, pu_qe0, pu_qe1, hc, f60, fM60, e, w0, il, hM, rM1, py_cmp]
        all_goals try simp (maxSteps := 400000) (disch := omega) [nl_tle, nl_fle, nl_tlt, nl_flt, nl_teq, nl_feq, nl_sub, nl_ss, nl_lt, nl_llt, nl_ltt, nl_le, nl_lle, nl_lee, nl_eq, nl_leq, nl_ee, nl_div, nl_rem, nl_cl, nl_n1, nl_n2, nl_n3, nl_n4, nl_add, nl_ladd, nl_aa, nl_mul, nl_rmul, nl_mm, pu_wi_1, pu_wi_2, bX7_readStreet_10, bX7_readStreet_66, bX7_readStreet_45, bX7_readStreet_47, bX7_readStreet_60, a_al, a_ald, a_cv, a_gr, a_icge, a_ifeq, a_ifne, a_ild, a_inc, a_lcmp, a_push, a_wl, a_zret, sh_59, sh_60, pu_rv, pu_as, Value.category, pu_bk, pu_kl, pu_qe0, pu_qe1, hc, f60, fM60, e, w0, il, hM, rM1, py_cmp]
        all_goals try simp [bX7_readStreet_10, bX7_readStreet_66, bX7_readStreet_45, bX7_readStreet_47, bX7_readStreet_60, a_al, a_ald, a_cv, a_gr, a_icge, a_ifeq, a_ifne, a_ild, a_inc, a_lcmp, a_push, a_wl, a_zret, sh_59, sh_60, pu_rv, pu_as, Value.category, pu_bk, pu_kl, List.replicate, pu_wi_1, pu_wi_2, nl_add, nl_ladd, nl_aa, nl_mul, nl_rmul, nl_mm, pu_qe0, pu_qe1, hc, f60, fM60, e, w0, il, hM, rM1, py_cmp]
    · rw [if_neg c0, if_neg c0]
      have w0 : ¬ lN (pu_wv ds) = 0 := by rw [z0]; exact c0
      generalize hM : pu_wl (pu_wi M 59 7 (nI (pos + ds.length))) 60 i (lN (pu_wv ds)) = M1 at *
      rcases c_readByte hM1 tM1 (by omega) pM1 32 (by omega) with ⟨r1, r2, r3⟩ | ⟨r1, r2⟩
      · have C1 : pos + ds.length < t ∧ b (pos + ds.length) = 32 := ⟨r1, r2⟩
        rw [if_pos C1, if_pos C1]
        rw [show nI 32 = (32 : Int32) from rfl] at r3
        have hM2 : pu_fx (pu_wi M1 59 7 (nI (pos + ds.length + 1))) := hM1
        have tM2 : py_tv (pu_wi M1 59 7 (nI (pos + ds.length + 1))) b t := py_tv_p tM1 _
        have pM2 : (pu_wi M1 59 7 (nI (pos + ds.length + 1))).1 59 7 = nI (pos + ds.length + 1) := by simp [pu_wi_1]
        have fM2 : py_rf M (pu_wi M1 59 7 (nI (pos + ds.length + 1))) 60 i := ⟨fM1.1, fun x j hj => by rw [py_wi_o hj]; exact fM1.2.1 x j hj, fun x j hj => fM1.2.2 x j hj⟩
        have rM2 : (pu_wi M1 59 7 (nI (pos + ds.length + 1))).2.1 60 i = lN (pu_wv ds) := rM1
        have zM2 : ∀ j, i + 1 ≤ j → j < 3 → (pu_wi M1 59 7 (nI (pos + ds.length + 1))).2.1 60 j = 0 := zM1
        generalize hM2e : pu_wi M1 59 7 (nI (pos + ds.length + 1)) = M2 at *
        have e9 := c_isNext hM2 tM2 (by omega) pM2 49 57 (by omega) (by omega)
        rw [show nI 49 = (49 : Int32) from rfl, show nI 57 = (57 : Int32) from rfl] at e9
        by_cases c2 : pos + ds.length + 1 < t ∧ 49 ≤ b (pos + ds.length + 1) ∧ b (pos + ds.length + 1) ≤ 57
        · rw [if_pos c2, if_pos c2]
          rw [pu_q1 c2] at e9
          refine ⟨M2, fM2, pM2, fun l hl k hk => ?_, ?_⟩
          · cases hl
            by_cases k0 : k = 0
            · subst k0
              exact rM2
            · rw [zM2 (i + k) (by omega) (by omega)]
              have : ([ds] : List (List Nat)).getD k [] = [] := by
                obtain ⟨k', rfl⟩ : ∃ k', k = k' + 1 := ⟨k - 1, by omega⟩
                simp
              rw [this]
              rfl
          · rw [pu_q1 (fun z => by cases z)]
            rw [qX7_readStreet_10]
            simp [bX7_readStreet_10, bX7_readStreet_66, bX7_readStreet_45, bX7_readStreet_47, bX7_readStreet_60, a_al, a_ald, a_cv, a_gr, a_icge, a_ifeq, a_ifne, a_ild, a_inc, a_lcmp, a_push, a_wl, a_zret, sh_59, sh_60, pu_rv, pu_as, Value.category, pu_bk, pu_kl, List.replicate, pu_wi_1, pu_wi_2, nl_add, nl_ladd, nl_aa, nl_mul, nl_rmul, nl_mm, pu_qe0, pu_qe1, hc, f60, fM60, e, w0, il, hM, rM1, py_cmp, r3, e9]
            all_goals try simp (maxSteps := 400000) (disch := omega) [nl_tle, nl_fle, nl_tlt, nl_flt, nl_teq, nl_feq, nl_sub, nl_ss, nl_lt, nl_llt, nl_ltt, nl_le, nl_lle, nl_lee, nl_eq, nl_leq, nl_ee, nl_div, nl_rem, nl_cl, nl_n1, nl_n2, nl_n3, nl_n4, nl_add, nl_ladd, nl_aa, nl_mul, nl_rmul, nl_mm, pu_wi_1, pu_wi_2, bX7_readStreet_10, bX7_readStreet_66, bX7_readStreet_45, bX7_readStreet_47, bX7_readStreet_60, a_al, a_ald, a_cv, a_gr, a_icge, a_ifeq, a_ifne, a_ild, a_inc, a_lcmp, a_push, a_wl, a_zret, sh_59, sh_60, pu_rv, pu_as, Value.category, pu_bk, pu_kl, pu_qe0, pu_qe1, hc, f60, fM60, e, w0, il, hM, rM1, py_cmp, r3, e9]
            all_goals try simp [bX7_readStreet_10, bX7_readStreet_66, bX7_readStreet_45, bX7_readStreet_47, bX7_readStreet_60, a_al, a_ald, a_cv, a_gr, a_icge, a_ifeq, a_ifne, a_ild, a_inc, a_lcmp, a_push, a_wl, a_zret, sh_59, sh_60, pu_rv, pu_as, Value.category, pu_bk, pu_kl, List.replicate, pu_wi_1, pu_wi_2, nl_add, nl_ladd, nl_aa, nl_mul, nl_rmul, nl_mm, pu_qe0, pu_qe1, hc, f60, fM60, e, w0, il, hM, rM1, py_cmp, r3, e9]
            all_goals try simp (maxSteps := 400000) (disch := omega) [nl_tle, nl_fle, nl_tlt, nl_flt, nl_teq, nl_feq, nl_sub, nl_ss, nl_lt, nl_llt, nl_ltt, nl_le, nl_lle, nl_lee, nl_eq, nl_leq, nl_ee, nl_div, nl_rem, nl_cl, nl_n1, nl_n2, nl_n3, nl_n4, nl_add, nl_ladd, nl_aa, nl_mul, nl_rmul, nl_mm, pu_wi_1, pu_wi_2, bX7_readStreet_10, bX7_readStreet_66, bX7_readStreet_45, bX7_readStreet_47, bX7_readStreet_60, a_al, a_ald, a_cv, a_gr, a_icge, a_ifeq, a_ifne, a_ild, a_inc, a_lcmp, a_push, a_wl, a_zret, sh_59, sh_60, pu_rv, pu_as, Value.category, pu_bk, pu_kl, pu_qe0, pu_qe1, hc, f60, fM60, e, w0, il, hM, rM1, py_cmp, r3, e9]
            all_goals try simp [bX7_readStreet_10, bX7_readStreet_66, bX7_readStreet_45, bX7_readStreet_47, bX7_readStreet_60, a_al, a_ald, a_cv, a_gr, a_icge, a_ifeq, a_ifne, a_ild, a_inc, a_lcmp, a_push, a_wl, a_zret, sh_59, sh_60, pu_rv, pu_as, Value.category, pu_bk, pu_kl, List.replicate, pu_wi_1, pu_wi_2, nl_add, nl_ladd, nl_aa, nl_mul, nl_rmul, nl_mm, pu_qe0, pu_qe1, hc, f60, fM60, e, w0, il, hM, rM1, py_cmp, r3, e9]
            all_goals try simp (maxSteps := 400000) (disch := omega) [nl_tle, nl_fle, nl_tlt, nl_flt, nl_teq, nl_feq, nl_sub, nl_ss, nl_lt, nl_llt, nl_ltt, nl_le, nl_lle, nl_lee, nl_eq, nl_leq, nl_ee, nl_div, nl_rem, nl_cl, nl_n1, nl_n2, nl_n3, nl_n4, nl_add, nl_ladd, nl_aa, nl_mul, nl_rmul, nl_mm, pu_wi_1, pu_wi_2, bX7_readStreet_10, bX7_readStreet_66, bX7_readStreet_45, bX7_readStreet_47, bX7_readStreet_60, a_al, a_ald, a_cv, a_gr, a_icge, a_ifeq, a_ifne, a_ild, a_inc, a_lcmp, a_push, a_wl, a_zret, sh_59, sh_60, pu_rv, pu_as, Value.category, pu_bk, pu_kl, pu_qe0, pu_qe1, hc, f60, fM60, e, w0, il, hM, rM1, py_cmp, r3, e9]
            all_goals try simp [bX7_readStreet_10, bX7_readStreet_66, bX7_readStreet_45, bX7_readStreet_47, bX7_readStreet_60, a_al, a_ald, a_cv, a_gr, a_icge, a_ifeq, a_ifne, a_ild, a_inc, a_lcmp, a_push, a_wl, a_zret, sh_59, sh_60, pu_rv, pu_as, Value.category, pu_bk, pu_kl, List.replicate, pu_wi_1, pu_wi_2, nl_add, nl_ladd, nl_aa, nl_mul, nl_rmul, nl_mm, pu_qe0, pu_qe1, hc, f60, fM60, e, w0, il, hM, rM1, py_cmp, r3, e9]
        · rw [if_neg c2, if_neg c2]
          rw [pu_q0 c2] at e9
          obtain ⟨N, n1, n4, n2, n3⟩ := c_street_l b t n (i + 1) (pos + ds.length + 1) M2 hM2 tM2 (by omega) (by omega) pM2 (fun j h1 h2 => zM2 j h1 h2)
          refine ⟨N, ⟨n1.1.trans fM2.1, fun x j hj => by rw [n1.2.1 x j hj]; exact fM2.2.1 x j hj, fun x j hj => by rw [n1.2.2 x j (by omega)]; exact fM2.2.2 x j hj⟩, n4, fun l hl k hk => ?_, ?_⟩
          · rw [Option.map_eq_some_iff] at hl
            obtain ⟨l2, h1, h2⟩ := hl
            rw [← h2]
            by_cases k0 : k = 0
            · subst k0
              rw [Nat.add_zero, n1.2.2 60 i (by omega)]
              exact rM2
            · obtain ⟨k', rfl⟩ : ∃ k', k = k' + 1 := ⟨k - 1, by omega⟩
              have := n2 l2 h1 k' (by omega)
              rw [show i + (k' + 1) = i + 1 + k' by omega, this]
              rfl
          · have e3 : (Option.map (fun l => ds :: l) (py_sw b t n (pos + ds.length + 1)) ≠ none) = (py_sw b t n (pos + ds.length + 1) ≠ none) := by
              simp
            rw [e3]
            rw [qX7_readStreet_10]
            simp [bX7_readStreet_10, bX7_readStreet_66, bX7_readStreet_45, bX7_readStreet_47, bX7_readStreet_60, a_al, a_ald, a_cv, a_gr, a_icge, a_ifeq, a_ifne, a_ild, a_inc, a_lcmp, a_push, a_wl, a_zret, sh_59, sh_60, pu_rv, pu_as, Value.category, pu_bk, pu_kl, List.replicate, pu_wi_1, pu_wi_2, nl_add, nl_ladd, nl_aa, nl_mul, nl_rmul, nl_mm, pu_qe0, pu_qe1, hc, f60, fM60, e, w0, il, hM, rM1, py_cmp, r3, e9, n3]
            all_goals try simp (maxSteps := 400000) (disch := omega) [nl_tle, nl_fle, nl_tlt, nl_flt, nl_teq, nl_feq, nl_sub, nl_ss, nl_lt, nl_llt, nl_ltt, nl_le, nl_lle, nl_lee, nl_eq, nl_leq, nl_ee, nl_div, nl_rem, nl_cl, nl_n1, nl_n2, nl_n3, nl_n4, nl_add, nl_ladd, nl_aa, nl_mul, nl_rmul, nl_mm, pu_wi_1, pu_wi_2, bX7_readStreet_10, bX7_readStreet_66, bX7_readStreet_45, bX7_readStreet_47, bX7_readStreet_60, a_al, a_ald, a_cv, a_gr, a_icge, a_ifeq, a_ifne, a_ild, a_inc, a_lcmp, a_push, a_wl, a_zret, sh_59, sh_60, pu_rv, pu_as, Value.category, pu_bk, pu_kl, pu_qe0, pu_qe1, hc, f60, fM60, e, w0, il, hM, rM1, py_cmp, r3, e9, n3]
            all_goals try simp [bX7_readStreet_10, bX7_readStreet_66, bX7_readStreet_45, bX7_readStreet_47, bX7_readStreet_60, a_al, a_ald, a_cv, a_gr, a_icge, a_ifeq, a_ifne, a_ild, a_inc, a_lcmp, a_push, a_wl, a_zret, sh_59, sh_60, pu_rv, pu_as, Value.category, pu_bk, pu_kl, List.replicate, pu_wi_1, pu_wi_2, nl_add, nl_ladd, nl_aa, nl_mul, nl_rmul, nl_mm, pu_qe0, pu_qe1, hc, f60, fM60, e, w0, il, hM, rM1, py_cmp, r3, e9, n3]
            all_goals try simp (maxSteps := 400000) (disch := omega) [nl_tle, nl_fle, nl_tlt, nl_flt, nl_teq, nl_feq, nl_sub, nl_ss, nl_lt, nl_llt, nl_ltt, nl_le, nl_lle, nl_lee, nl_eq, nl_leq, nl_ee, nl_div, nl_rem, nl_cl, nl_n1, nl_n2, nl_n3, nl_n4, nl_add, nl_ladd, nl_aa, nl_mul, nl_rmul, nl_mm, pu_wi_1, pu_wi_2, bX7_readStreet_10, bX7_readStreet_66, bX7_readStreet_45, bX7_readStreet_47, bX7_readStreet_60, a_al, a_ald, a_cv, a_gr, a_icge, a_ifeq, a_ifne, a_ild, a_inc, a_lcmp, a_push, a_wl, a_zret, sh_59, sh_60, pu_rv, pu_as, Value.category, pu_bk, pu_kl, pu_qe0, pu_qe1, hc, f60, fM60, e, w0, il, hM, rM1, py_cmp, r3, e9, n3]
            all_goals try simp [bX7_readStreet_10, bX7_readStreet_66, bX7_readStreet_45, bX7_readStreet_47, bX7_readStreet_60, a_al, a_ald, a_cv, a_gr, a_icge, a_ifeq, a_ifne, a_ild, a_inc, a_lcmp, a_push, a_wl, a_zret, sh_59, sh_60, pu_rv, pu_as, Value.category, pu_bk, pu_kl, List.replicate, pu_wi_1, pu_wi_2, nl_add, nl_ladd, nl_aa, nl_mul, nl_rmul, nl_mm, pu_qe0, pu_qe1, hc, f60, fM60, e, w0, il, hM, rM1, py_cmp, r3, e9, n3]
            all_goals try simp (maxSteps := 400000) (disch := omega) [nl_tle, nl_fle, nl_tlt, nl_flt, nl_teq, nl_feq, nl_sub, nl_ss, nl_lt, nl_llt, nl_ltt, nl_le, nl_lle, nl_lee, nl_eq, nl_leq, nl_ee, nl_div, nl_rem, nl_cl, nl_n1, nl_n2, nl_n3, nl_n4, nl_add, nl_ladd, nl_aa, nl_mul, nl_rmul, nl_mm, pu_wi_1, pu_wi_2, bX7_readStreet_10, bX7_readStreet_66, bX7_readStreet_45, bX7_readStreet_47, bX7_readStreet_60, a_al, a_ald, a_cv, a_gr, a_icge, a_ifeq, a_ifne, a_ild, a_inc, a_lcmp, a_push, a_wl, a_zret, sh_59, sh_60, pu_rv, pu_as, Value.category, pu_bk, pu_kl, pu_qe0, pu_qe1, hc, f60, fM60, e, w0, il, hM, rM1, py_cmp, r3, e9, n3]
            all_goals try simp [bX7_readStreet_10, bX7_readStreet_66, bX7_readStreet_45, bX7_readStreet_47, bX7_readStreet_60, a_al, a_ald, a_cv, a_gr, a_icge, a_ifeq, a_ifne, a_ild, a_inc, a_lcmp, a_push, a_wl, a_zret, sh_59, sh_60, pu_rv, pu_as, Value.category, pu_bk, pu_kl, List.replicate, pu_wi_1, pu_wi_2, nl_add, nl_ladd, nl_aa, nl_mul, nl_rmul, nl_mm, pu_qe0, pu_qe1, hc, f60, fM60, e, w0, il, hM, rM1, py_cmp, r3, e9, n3]
      · rw [if_neg r1, if_neg r1]
        rw [show nI 32 = (32 : Int32) from rfl] at r2
        refine ⟨M1, fM1, pM1, fun l hl => (by cases hl), ?_⟩
        rw [pu_q0 (fun z => z rfl)]
        rw [qX7_readStreet_10]
        simp [bX7_readStreet_10, bX7_readStreet_66, bX7_readStreet_45, bX7_readStreet_47, bX7_readStreet_60, a_al, a_ald, a_cv, a_gr, a_icge, a_ifeq, a_ifne, a_ild, a_inc, a_lcmp, a_push, a_wl, a_zret, sh_59, sh_60, pu_rv, pu_as, Value.category, pu_bk, pu_kl, List.replicate, pu_wi_1, pu_wi_2, nl_add, nl_ladd, nl_aa, nl_mul, nl_rmul, nl_mm, pu_qe0, pu_qe1, hc, f60, fM60, e, w0, il, hM, rM1, py_cmp, r2]
        all_goals try simp (maxSteps := 400000) (disch := omega) [nl_tle, nl_fle, nl_tlt, nl_flt, nl_teq, nl_feq, nl_sub, nl_ss, nl_lt, nl_llt, nl_ltt, nl_le, nl_lle, nl_lee, nl_eq, nl_leq, nl_ee, nl_div, nl_rem, nl_cl, nl_n1, nl_n2, nl_n3, nl_n4, nl_add, nl_ladd, nl_aa, nl_mul, nl_rmul, nl_mm, pu_wi_1, pu_wi_2, bX7_readStreet_10, bX7_readStreet_66, bX7_readStreet_45, bX7_readStreet_47, bX7_readStreet_60, a_al, a_ald, a_cv, a_gr, a_icge, a_ifeq, a_ifne, a_ild, a_inc, a_lcmp, a_push, a_wl, a_zret, sh_59, sh_60, pu_rv, pu_as, Value.category, pu_bk, pu_kl, pu_qe0, pu_qe1, hc, f60, fM60, e, w0, il, hM, rM1, py_cmp, r2]
        all_goals try simp [bX7_readStreet_10, bX7_readStreet_66, bX7_readStreet_45, bX7_readStreet_47, bX7_readStreet_60, a_al, a_ald, a_cv, a_gr, a_icge, a_ifeq, a_ifne, a_ild, a_inc, a_lcmp, a_push, a_wl, a_zret, sh_59, sh_60, pu_rv, pu_as, Value.category, pu_bk, pu_kl, List.replicate, pu_wi_1, pu_wi_2, nl_add, nl_ladd, nl_aa, nl_mul, nl_rmul, nl_mm, pu_qe0, pu_qe1, hc, f60, fM60, e, w0, il, hM, rM1, py_cmp, r2]
        all_goals try simp (maxSteps := 400000) (disch := omega) [nl_tle, nl_fle, nl_tlt, nl_flt, nl_teq, nl_feq, nl_sub, nl_ss, nl_lt, nl_llt, nl_ltt, nl_le, nl_lle, nl_lee, nl_eq, nl_leq, nl_ee, nl_div, nl_rem, nl_cl, nl_n1, nl_n2, nl_n3, nl_n4, nl_add, nl_ladd, nl_aa, nl_mul, nl_rmul, nl_mm, pu_wi_1, pu_wi_2, bX7_readStreet_10, bX7_readStreet_66, bX7_readStreet_45, bX7_readStreet_47, bX7_readStreet_60, a_al, a_ald, a_cv, a_gr, a_icge, a_ifeq, a_ifne, a_ild, a_inc, a_lcmp, a_push, a_wl, a_zret, sh_59, sh_60, pu_rv, pu_as, Value.category, pu_bk, pu_kl, pu_qe0, pu_qe1, hc, f60, fM60, e, w0, il, hM, rM1, py_cmp, r2]
        all_goals try simp [bX7_readStreet_10, bX7_readStreet_66, bX7_readStreet_45, bX7_readStreet_47, bX7_readStreet_60, a_al, a_ald, a_cv, a_gr, a_icge, a_ifeq, a_ifne, a_ild, a_inc, a_lcmp, a_push, a_wl, a_zret, sh_59, sh_60, pu_rv, pu_as, Value.category, pu_bk, pu_kl, List.replicate, pu_wi_1, pu_wi_2, nl_add, nl_ladd, nl_aa, nl_mul, nl_rmul, nl_mm, pu_qe0, pu_qe1, hc, f60, fM60, e, w0, il, hM, rM1, py_cmp, r2]
        all_goals try simp (maxSteps := 400000) (disch := omega) [nl_tle, nl_fle, nl_tlt, nl_flt, nl_teq, nl_feq, nl_sub, nl_ss, nl_lt, nl_llt, nl_ltt, nl_le, nl_lle, nl_lee, nl_eq, nl_leq, nl_ee, nl_div, nl_rem, nl_cl, nl_n1, nl_n2, nl_n3, nl_n4, nl_add, nl_ladd, nl_aa, nl_mul, nl_rmul, nl_mm, pu_wi_1, pu_wi_2, bX7_readStreet_10, bX7_readStreet_66, bX7_readStreet_45, bX7_readStreet_47, bX7_readStreet_60, a_al, a_ald, a_cv, a_gr, a_icge, a_ifeq, a_ifne, a_ild, a_inc, a_lcmp, a_push, a_wl, a_zret, sh_59, sh_60, pu_rv, pu_as, Value.category, pu_bk, pu_kl, pu_qe0, pu_qe1, hc, f60, fM60, e, w0, il, hM, rM1, py_cmp, r2]
        all_goals try simp [bX7_readStreet_10, bX7_readStreet_66, bX7_readStreet_45, bX7_readStreet_47, bX7_readStreet_60, a_al, a_ald, a_cv, a_gr, a_icge, a_ifeq, a_ifne, a_ild, a_inc, a_lcmp, a_push, a_wl, a_zret, sh_59, sh_60, pu_rv, pu_as, Value.category, pu_bk, pu_kl, List.replicate, pu_wi_1, pu_wi_2, nl_add, nl_ladd, nl_aa, nl_mul, nl_rmul, nl_mm, pu_qe0, pu_qe1, hc, f60, fM60, e, w0, il, hM, rM1, py_cmp, r2]
theorem py_z3_z (M : pu_M) (a : Nat) : ∀ j, j < 3 → (py_z3 M a).2.1 a j = 0 := fun j hj => by
  unfold py_z3
  match j, hj with
  | 0, _ => rw [py_wl_o (by omega), py_wl_o (by omega), py_wl_3, if_pos rfl, if_pos rfl]
  | 1, _ => rw [py_wl_o (by omega), py_wl_3, if_pos rfl, if_pos rfl]
  | 2, _ => rw [py_wl_3, if_pos rfl, if_pos rfl]
  | j + 3, hj => omega
theorem c_readStreet {M : pu_M} (hx : pu_fx M) (h : py_tv M b t) {pos : Nat} (hp : pos ≤ t) (h7 : M.1 59 7 = nI pos) : ∃ N, py_rf M N 60 0 ∧ N.1 59 7 = nI (py_sq b t 3 pos) ∧ (∀ l, py_sw b t 3 pos = some l → ∀ k, k < 3 → N.2.1 60 k = lN (pu_wv (l.getD k []))) ∧ pu_r 165 [some (.ref 59)] [] M = some (some (.int (pu_q (py_sw b t 3 pos ≠ none))), N) := by
  have f60 := fx_59_0 hx
  have e := c_fill3 (M := M) 60 sh_60
  obtain ⟨N, n1, n4, n2, n3⟩ := c_street_l b t 3 0 pos (py_z3 M 60) hx (py_tv_m h rfl (fun _ => rfl) rfl) (by omega) hp h7 (fun j _ hj => py_z3_z M 60 j hj)
  refine ⟨N, ⟨n1.1, n1.2.1, fun x j hj => ?_⟩, n4, fun l hl k hk => ?_, ?_⟩
  · rw [n1.2.2 x j hj]
    unfold py_z3
    rw [py_wl_o (by omega), py_wl_o (by omega), py_wl_o (by omega)]
  · have := n2 l hl k hk
    rw [Nat.zero_add] at this
    exact this
  · rw [nI_0] at n3
    rw [qX7_readStreet]
    simp [a_ent, bX7_readStreet_0, a_ald, a_cs, a_gr, a_ist, a_push, sh_59, sh_60, pu_rv, pu_as, Value.category, pu_bk, pu_kl, List.replicate, pu_wi_1, pu_wi_2, nl_add, nl_ladd, nl_aa, nl_mul, nl_rmul, nl_mm, pu_qe0, pu_qe1, f60, e, n3]
    all_goals try simp (maxSteps := 400000) (disch := omega) [nl_tle, nl_fle, nl_tlt, nl_flt, nl_teq, nl_feq, nl_sub, nl_ss, nl_lt, nl_llt, nl_ltt, nl_le, nl_lle, nl_lee, nl_eq, nl_leq, nl_ee, nl_div, nl_rem, nl_cl, nl_n1, nl_n2, nl_n3, nl_n4, nl_add, nl_ladd, nl_aa, nl_mul, nl_rmul, nl_mm, pu_wi_1, pu_wi_2, bX7_readStreet_0, a_ald, a_cs, a_gr, a_ist, a_push, sh_59, sh_60, pu_rv, pu_as, Value.category, pu_bk, pu_kl, pu_qe0, pu_qe1, f60, e, n3]
    all_goals try simp [bX7_readStreet_0, a_ald, a_cs, a_gr, a_ist, a_push, sh_59, sh_60, pu_rv, pu_as, Value.category, pu_bk, pu_kl, List.replicate, pu_wi_1, pu_wi_2, nl_add, nl_ladd, nl_aa, nl_mul, nl_rmul, nl_mm, pu_qe0, pu_qe1, f60, e, n3]
    all_goals try simp (maxSteps := 400000) (disch := omega) [nl_tle, nl_fle, nl_tlt, nl_flt, nl_teq, nl_feq, nl_sub, nl_ss, nl_lt, nl_llt, nl_ltt, nl_le, nl_lle, nl_lee, nl_eq, nl_leq, nl_ee, nl_div, nl_rem, nl_cl, nl_n1, nl_n2, nl_n3, nl_n4, nl_add, nl_ladd, nl_aa, nl_mul, nl_rmul, nl_mm, pu_wi_1, pu_wi_2, bX7_readStreet_0, a_ald, a_cs, a_gr, a_ist, a_push, sh_59, sh_60, pu_rv, pu_as, Value.category, pu_bk, pu_kl, pu_qe0, pu_qe1, f60, e, n3]
    all_goals try simp [bX7_readStreet_0, a_ald, a_cs, a_gr, a_ist, a_push, sh_59, sh_60, pu_rv, pu_as, Value.category, pu_bk, pu_kl, List.replicate, pu_wi_1, pu_wi_2, nl_add, nl_ladd, nl_aa, nl_mul, nl_rmul, nl_mm, pu_qe0, pu_qe1, f60, e, n3]
    all_goals try simp (maxSteps := 400000) (disch := omega) [nl_tle, nl_fle, nl_tlt, nl_flt, nl_teq, nl_feq, nl_sub, nl_ss, nl_lt, nl_llt, nl_ltt, nl_le, nl_lle, nl_lee, nl_eq, nl_leq, nl_ee, nl_div, nl_rem, nl_cl, nl_n1, nl_n2, nl_n3, nl_n4, nl_add, nl_ladd, nl_aa, nl_mul, nl_rmul, nl_mm, pu_wi_1, pu_wi_2, bX7_readStreet_0, a_ald, a_cs, a_gr, a_ist, a_push, sh_59, sh_60, pu_rv, pu_as, Value.category, pu_bk, pu_kl, pu_qe0, pu_qe1, f60, e, n3]
    all_goals try simp [bX7_readStreet_0, a_ald, a_cs, a_gr, a_ist, a_push, sh_59, sh_60, pu_rv, pu_as, Value.category, pu_bk, pu_kl, List.replicate, pu_wi_1, pu_wi_2, nl_add, nl_ladd, nl_aa, nl_mul, nl_rmul, nl_mm, pu_qe0, pu_qe1, f60, e, n3]
end
