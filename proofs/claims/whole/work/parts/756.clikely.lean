/-! likely doors, on the class's side -/
section
variable {M : pu_M} {I : Nat → Nat → Int32} {L : Nat → Nat → Int64} {st o n : Nat} {y : Int32} {V : Nat → Nat}
theorem c_couldHave (hx : pu_fx M) (hw : pu_WF I L) (h : py_vd M I st y o V n) {w : Nat} (hwl : w < 160000) {a : Nat} (ha : a < n) : pu_r 174 [some (.ref 62), some (.int (nI a)), some (.int (nI w))] [] M = some (some (.int (pu_q (I 16 (V a) = 0 ∧ py_mh I st w y (V a)))), M) := by
  have hn := h.1
  have a1 : a < 100 := by omega
  have m := py_vd_m h ha
  have c := py_vd_c h ha
  have hst := h.2.2.2.2.2.2
  have r1 := h.2.1
  have p := py_pl0 hw hst m.1 m.2.1 m.2.2
  have rk := py_rka hw h ha
  obtain ⟨be, lo, l1, l2⟩ := c_lowD hx hw h (I 40 (pu_sl0 I (V a))) (pu_rk I o (V a)) (pz_ak I st (V a)) rk
  obtain ⟨ah, hh, h1, h2⟩ := c_highD hx hw h (I 40 (pu_sl0 I (V a))) (pu_rk I o (V a)) (pz_ak I st (V a)) rk
  have E := py_mh_e (w := w) hw hst l1 h1
  have c65 := c.2.1
  have c66 := c.2.2.1
  have c68 := c.2.2.2.2.1
  have s0 := pu_on (x := I 40 (pu_sl0 I (V a))) (n := 2) ⟨p.1, by omega⟩
  have s2 := s0.2
  have dg := c_areDigits (w / 16) (I 40 (pu_sl0 I (V a))).toNatClampNeg (by omega) s2 M
  rw [← s0.1] at dg
  rw [propext E]
  generalize (I 40 (pu_sl0 I (V a))).toNatClampNeg = s at *
  generalize I 40 (pu_sl0 I (V a)) = v40 at *
  generalize pu_rk I o (V a) = rr at *
  generalize I 27 st = r27 at *
  generalize I 16 (V a) = v16 at *
  by_cases f1 : v16 = 0
  rotate_left
  · rw [pu_q0 (fun z => f1 z.1)]
    rw [qX9_couldHave]
    simp [a_ent, bX9_couldHave_0, bX9_couldHave_32, bX9_couldHave_34, bX9_couldHave_78, bX9_couldHave_79, bX9_couldHave_74, a_ai, a_ald, a_cs, a_cv, a_gi, a_gr, a_icge, a_icle, a_idiv, a_ifne, a_ild, a_push, a_zret, fx_62_5 hx, fx_62_6 hx, fx_62_8 hx, sh_62, sh_65, sh_66, sh_68, pu_rv, pu_as, Value.category, pu_bk, pu_kl, List.replicate, pu_wi_1, pu_wi_2, nl_add, nl_ladd, nl_aa, nl_mul, nl_rmul, nl_mm, pu_qe0, pu_qe1, a1, c65, f1]
    all_goals try simp (maxSteps := 400000) (disch := omega) [nl_tle, nl_fle, nl_tlt, nl_flt, nl_teq, nl_feq, nl_sub, nl_ss, nl_lt, nl_llt, nl_ltt, nl_le, nl_lle, nl_lee, nl_eq, nl_leq, nl_ee, nl_div, nl_rem, nl_cl, nl_n1, nl_n2, nl_n3, nl_n4, nl_add, nl_ladd, nl_aa, nl_mul, nl_rmul, nl_mm, pu_wi_1, pu_wi_2, bX9_couldHave_0, bX9_couldHave_32, bX9_couldHave_34, bX9_couldHave_78, bX9_couldHave_79, bX9_couldHave_74, a_ai, a_ald, a_cs, a_cv, a_gi, a_gr, a_icge, a_icle, a_idiv, a_ifne, a_ild, a_push, a_zret, fx_62_5 hx, fx_62_6 hx, fx_62_8 hx, sh_62, sh_65, sh_66, sh_68, pu_rv, pu_as, Value.category, pu_bk, pu_kl, pu_qe0, pu_qe1, a1, c65, f1]
    all_goals try simp [bX9_couldHave_0, bX9_couldHave_32, bX9_couldHave_34, bX9_couldHave_78, bX9_couldHave_79, bX9_couldHave_74, a_ai, a_ald, a_cs, a_cv, a_gi, a_gr, a_icge, a_icle, a_idiv, a_ifne, a_ild, a_push, a_zret, fx_62_5 hx, fx_62_6 hx, fx_62_8 hx, sh_62, sh_65, sh_66, sh_68, pu_rv, pu_as, Value.category, pu_bk, pu_kl, List.replicate, pu_wi_1, pu_wi_2, nl_add, nl_ladd, nl_aa, nl_mul, nl_rmul, nl_mm, pu_qe0, pu_qe1, a1, c65, f1]
    all_goals try simp (maxSteps := 400000) (disch := omega) [nl_tle, nl_fle, nl_tlt, nl_flt, nl_teq, nl_feq, nl_sub, nl_ss, nl_lt, nl_llt, nl_ltt, nl_le, nl_lle, nl_lee, nl_eq, nl_leq, nl_ee, nl_div, nl_rem, nl_cl, nl_n1, nl_n2, nl_n3, nl_n4, nl_add, nl_ladd, nl_aa, nl_mul, nl_rmul, nl_mm, pu_wi_1, pu_wi_2, bX9_couldHave_0, bX9_couldHave_32, bX9_couldHave_34, bX9_couldHave_78, bX9_couldHave_79, bX9_couldHave_74, a_ai, a_ald, a_cs, a_cv, a_gi, a_gr, a_icge, a_icle, a_idiv, a_ifne, a_ild, a_push, a_zret, fx_62_5 hx, fx_62_6 hx, fx_62_8 hx, sh_62, sh_65, sh_66, sh_68, pu_rv, pu_as, Value.category, pu_bk, pu_kl, pu_qe0, pu_qe1, a1, c65, f1]
    all_goals try simp [bX9_couldHave_0, bX9_couldHave_32, bX9_couldHave_34, bX9_couldHave_78, bX9_couldHave_79, bX9_couldHave_74, a_ai, a_ald, a_cs, a_cv, a_gi, a_gr, a_icge, a_icle, a_idiv, a_ifne, a_ild, a_push, a_zret, fx_62_5 hx, fx_62_6 hx, fx_62_8 hx, sh_62, sh_65, sh_66, sh_68, pu_rv, pu_as, Value.category, pu_bk, pu_kl, List.replicate, pu_wi_1, pu_wi_2, nl_add, nl_ladd, nl_aa, nl_mul, nl_rmul, nl_mm, pu_qe0, pu_qe1, a1, c65, f1]
    all_goals try simp (maxSteps := 400000) (disch := omega) [nl_tle, nl_fle, nl_tlt, nl_flt, nl_teq, nl_feq, nl_sub, nl_ss, nl_lt, nl_llt, nl_ltt, nl_le, nl_lle, nl_lee, nl_eq, nl_leq, nl_ee, nl_div, nl_rem, nl_cl, nl_n1, nl_n2, nl_n3, nl_n4, nl_add, nl_ladd, nl_aa, nl_mul, nl_rmul, nl_mm, pu_wi_1, pu_wi_2, bX9_couldHave_0, bX9_couldHave_32, bX9_couldHave_34, bX9_couldHave_78, bX9_couldHave_79, bX9_couldHave_74, a_ai, a_ald, a_cs, a_cv, a_gi, a_gr, a_icge, a_icle, a_idiv, a_ifne, a_ild, a_push, a_zret, fx_62_5 hx, fx_62_6 hx, fx_62_8 hx, sh_62, sh_65, sh_66, sh_68, pu_rv, pu_as, Value.category, pu_bk, pu_kl, pu_qe0, pu_qe1, a1, c65, f1]
    all_goals try simp [bX9_couldHave_0, bX9_couldHave_32, bX9_couldHave_34, bX9_couldHave_78, bX9_couldHave_79, bX9_couldHave_74, a_ai, a_ald, a_cs, a_cv, a_gi, a_gr, a_icge, a_icle, a_idiv, a_ifne, a_ild, a_push, a_zret, fx_62_5 hx, fx_62_6 hx, fx_62_8 hx, sh_62, sh_65, sh_66, sh_68, pu_rv, pu_as, Value.category, pu_bk, pu_kl, List.replicate, pu_wi_1, pu_wi_2, nl_add, nl_ladd, nl_aa, nl_mul, nl_rmul, nl_mm, pu_qe0, pu_qe1, a1, c65, f1]
  rw [f1] at c65
  have LH : (r27 = 0 → w / 16 % 2 + s = 1) → kX9_couldHave_34 pu_r [some (.ref 62), some (.int (nI a)), some (.int (nI w))] [] M = some (some (.int (pu_q (v16 = 0 ∧ (r27 = 0 → w / 16 % 2 + s = 1) ∧ lo < nI w ∧ nI w < hh))), M) := fun q => by
    by_cases f2 : lo < nI w
    · have f2' := Int32.not_le.mpr f2
      by_cases f3 : nI w < hh
      · have f3' := Int32.not_le.mpr f3
        rw [pu_q1 ⟨f1, q, f2, f3⟩]
        generalize nI w = ww at *
        simp [bX9_couldHave_34, bX9_couldHave_78, bX9_couldHave_79, bX9_couldHave_74, a_ai, a_ald, a_cv, a_gr, a_icge, a_icle, a_ild, a_push, a_zret, fx_62_6 hx, fx_62_8 hx, sh_62, sh_66, sh_68, pu_rv, pu_as, Value.category, pu_bk, pu_kl, List.replicate, pu_wi_1, pu_wi_2, nl_add, nl_ladd, nl_aa, nl_mul, nl_rmul, nl_mm, pu_qe0, pu_qe1, a1, c66, c68, l2, h2, f2, f2', f3, f3']
        all_goals try simp (maxSteps := 400000) (disch := omega) [nl_tle, nl_fle, nl_tlt, nl_flt, nl_teq, nl_feq, nl_sub, nl_ss, nl_lt, nl_llt, nl_ltt, nl_le, nl_lle, nl_lee, nl_eq, nl_leq, nl_ee, nl_div, nl_rem, nl_cl, nl_n1, nl_n2, nl_n3, nl_n4, nl_add, nl_ladd, nl_aa, nl_mul, nl_rmul, nl_mm, pu_wi_1, pu_wi_2, bX9_couldHave_34, bX9_couldHave_78, bX9_couldHave_79, bX9_couldHave_74, a_ai, a_ald, a_cv, a_gr, a_icge, a_icle, a_ild, a_push, a_zret, fx_62_6 hx, fx_62_8 hx, sh_62, sh_66, sh_68, pu_rv, pu_as, Value.category, pu_bk, pu_kl, pu_qe0, pu_qe1, a1, c66, c68, l2, h2, f2, f2', f3, f3']
        all_goals try simp [bX9_couldHave_34, bX9_couldHave_78, bX9_couldHave_79, bX9_couldHave_74, a_ai, a_ald, a_cv, a_gr, a_icge, a_icle, a_ild, a_push, a_zret, fx_62_6 hx, fx_62_8 hx, sh_62, sh_66, sh_68, pu_rv, pu_as, Value.category, pu_bk, pu_kl, List.replicate, pu_wi_1, pu_wi_2, nl_add, nl_ladd, nl_aa, nl_mul, nl_rmul, nl_mm, pu_qe0, pu_qe1, a1, c66, c68, l2, h2, f2, f2', f3, f3']
        all_goals try simp (maxSteps := 400000) (disch := omega) [nl_tle, nl_fle, nl_tlt, nl_flt, nl_teq, nl_feq, nl_sub, nl_ss, nl_lt, nl_llt, nl_ltt, nl_le, nl_lle, nl_lee, nl_eq, nl_leq, nl_ee, nl_div, nl_rem, nl_cl, nl_n1, nl_n2, nl_n3, nl_n4, nl_add, nl_ladd, nl_aa, nl_mul, nl_rmul, nl_mm, pu_wi_1, pu_wi_2, bX9_couldHave_34, bX9_couldHave_78, bX9_couldHave_79, bX9_couldHave_74, a_ai, a_ald, a_cv, a_gr, a_icge, a_icle, a_ild, a_push, a_zret, fx_62_6 hx, fx_62_8 hx, sh_62, sh_66, sh_68, pu_rv, pu_as, Value.category, pu_bk, pu_kl, pu_qe0, pu_qe1, a1, c66, c68, l2, h2, f2, f2', f3, f3']
        all_goals try simp [bX9_couldHave_34, bX9_couldHave_78, bX9_couldHave_79, bX9_couldHave_74, a_ai, a_ald, a_cv, a_gr, a_icge, a_icle, a_ild, a_push, a_zret, fx_62_6 hx, fx_62_8 hx, sh_62, sh_66, sh_68, pu_rv, pu_as, Value.category, pu_bk, pu_kl, List.replicate, pu_wi_1, pu_wi_2, nl_add, nl_ladd, nl_aa, nl_mul, nl_rmul, nl_mm, pu_qe0, pu_qe1, a1, c66, c68, l2, h2, f2, f2', f3, f3']
        all_goals try simp (maxSteps := 400000) (disch := omega) [nl_tle, nl_fle, nl_tlt, nl_flt, nl_teq, nl_feq, nl_sub, nl_ss, nl_lt, nl_llt, nl_ltt, nl_le, nl_lle, nl_lee, nl_eq, nl_leq, nl_ee, nl_div, nl_rem, nl_cl, nl_n1, nl_n2, nl_n3, nl_n4, nl_add, nl_ladd, nl_aa, nl_mul, nl_rmul, nl_mm, pu_wi_1, pu_wi_2, bX9_couldHave_34, bX9_couldHave_78, bX9_couldHave_79, bX9_couldHave_74, a_ai, a_ald, a_cv, a_gr, a_icge, a_icle, a_ild, a_push, a_zret, fx_62_6 hx, fx_62_8 hx, sh_62, sh_66, sh_68, pu_rv, pu_as, Value.category, pu_bk, pu_kl, pu_qe0, pu_qe1, a1, c66, c68, l2, h2, f2, f2', f3, f3']
        all_goals try simp [bX9_couldHave_34, bX9_couldHave_78, bX9_couldHave_79, bX9_couldHave_74, a_ai, a_ald, a_cv, a_gr, a_icge, a_icle, a_ild, a_push, a_zret, fx_62_6 hx, fx_62_8 hx, sh_62, sh_66, sh_68, pu_rv, pu_as, Value.category, pu_bk, pu_kl, List.replicate, pu_wi_1, pu_wi_2, nl_add, nl_ladd, nl_aa, nl_mul, nl_rmul, nl_mm, pu_qe0, pu_qe1, a1, c66, c68, l2, h2, f2, f2', f3, f3']
      · have f3' := Int32.not_lt.mp f3
        rw [pu_q0 (fun z => f3 z.2.2.2)]
        generalize nI w = ww at *
        simp [bX9_couldHave_34, bX9_couldHave_78, bX9_couldHave_79, bX9_couldHave_74, a_ai, a_ald, a_cv, a_gr, a_icge, a_icle, a_ild, a_push, a_zret, fx_62_6 hx, fx_62_8 hx, sh_62, sh_66, sh_68, pu_rv, pu_as, Value.category, pu_bk, pu_kl, List.replicate, pu_wi_1, pu_wi_2, nl_add, nl_ladd, nl_aa, nl_mul, nl_rmul, nl_mm, pu_qe0, pu_qe1, a1, c66, c68, l2, h2, f2, f2', f3, f3']
        all_goals try simp (maxSteps := 400000) (disch := omega) [nl_tle, nl_fle, nl_tlt, nl_flt, nl_teq, nl_feq, nl_sub, nl_ss, nl_lt, nl_llt, nl_ltt, nl_le, nl_lle, nl_lee, nl_eq, nl_leq, nl_ee, nl_div, nl_rem, nl_cl, nl_n1, nl_n2, nl_n3, nl_n4, nl_add, nl_ladd, nl_aa, nl_mul, nl_rmul, nl_mm, pu_wi_1, pu_wi_2, bX9_couldHave_34, bX9_couldHave_78, bX9_couldHave_79, bX9_couldHave_74, a_ai, a_ald, a_cv, a_gr, a_icge, a_icle, a_ild, a_push, a_zret, fx_62_6 hx, fx_62_8 hx, sh_62, sh_66, sh_68, pu_rv, pu_as, Value.category, pu_bk, pu_kl, pu_qe0, pu_qe1, a1, c66, c68, l2, h2, f2, f2', f3, f3']
        all_goals try simp [bX9_couldHave_34, bX9_couldHave_78, bX9_couldHave_79, bX9_couldHave_74, a_ai, a_ald, a_cv, a_gr, a_icge, a_icle, a_ild, a_push, a_zret, fx_62_6 hx, fx_62_8 hx, sh_62, sh_66, sh_68, pu_rv, pu_as, Value.category, pu_bk, pu_kl, List.replicate, pu_wi_1, pu_wi_2, nl_add, nl_ladd, nl_aa, nl_mul, nl_rmul, nl_mm, pu_qe0, pu_qe1, a1, c66, c68, l2, h2, f2, f2', f3, f3']
        all_goals try simp (maxSteps := 400000) (disch := omega) [nl_tle, nl_fle, nl_tlt, nl_flt, nl_teq, nl_feq, nl_sub, nl_ss, nl_lt, nl_llt, nl_ltt, nl_le, nl_lle, nl_lee, nl_eq, nl_leq, nl_ee, nl_div, nl_rem, nl_cl, nl_n1, nl_n2, nl_n3, nl_n4, nl_add, nl_ladd, nl_aa, nl_mul, nl_rmul, nl_mm, pu_wi_1, pu_wi_2, bX9_couldHave_34, bX9_couldHave_78, bX9_couldHave_79, bX9_couldHave_74, a_ai, a_ald, a_cv, a_gr, a_icge, a_icle, a_ild, a_push, a_zret, fx_62_6 hx, fx_62_8 hx, sh_62, sh_66, sh_68, pu_rv, pu_as, Value.category, pu_bk, pu_kl, pu_qe0, pu_qe1, a1, c66, c68, l2, h2, f2, f2', f3, f3']
        all_goals try simp [bX9_couldHave_34, bX9_couldHave_78, bX9_couldHave_79, bX9_couldHave_74, a_ai, a_ald, a_cv, a_gr, a_icge, a_icle, a_ild, a_push, a_zret, fx_62_6 hx, fx_62_8 hx, sh_62, sh_66, sh_68, pu_rv, pu_as, Value.category, pu_bk, pu_kl, List.replicate, pu_wi_1, pu_wi_2, nl_add, nl_ladd, nl_aa, nl_mul, nl_rmul, nl_mm, pu_qe0, pu_qe1, a1, c66, c68, l2, h2, f2, f2', f3, f3']
        all_goals try simp (maxSteps := 400000) (disch := omega) [nl_tle, nl_fle, nl_tlt, nl_flt, nl_teq, nl_feq, nl_sub, nl_ss, nl_lt, nl_llt, nl_ltt, nl_le, nl_lle, nl_lee, nl_eq, nl_leq, nl_ee, nl_div, nl_rem, nl_cl, nl_n1, nl_n2, nl_n3, nl_n4, nl_add, nl_ladd, nl_aa, nl_mul, nl_rmul, nl_mm, pu_wi_1, pu_wi_2, bX9_couldHave_34, bX9_couldHave_78, bX9_couldHave_79, bX9_couldHave_74, a_ai, a_ald, a_cv, a_gr, a_icge, a_icle, a_ild, a_push, a_zret, fx_62_6 hx, fx_62_8 hx, sh_62, sh_66, sh_68, pu_rv, pu_as, Value.category, pu_bk, pu_kl, pu_qe0, pu_qe1, a1, c66, c68, l2, h2, f2, f2', f3, f3']
        all_goals try simp [bX9_couldHave_34, bX9_couldHave_78, bX9_couldHave_79, bX9_couldHave_74, a_ai, a_ald, a_cv, a_gr, a_icge, a_icle, a_ild, a_push, a_zret, fx_62_6 hx, fx_62_8 hx, sh_62, sh_66, sh_68, pu_rv, pu_as, Value.category, pu_bk, pu_kl, List.replicate, pu_wi_1, pu_wi_2, nl_add, nl_ladd, nl_aa, nl_mul, nl_rmul, nl_mm, pu_qe0, pu_qe1, a1, c66, c68, l2, h2, f2, f2', f3, f3']
    · have f2' := Int32.not_lt.mp f2
      rw [pu_q0 (fun z => f2 z.2.2.1)]
      generalize nI w = ww at *
      simp [bX9_couldHave_34, bX9_couldHave_78, bX9_couldHave_79, bX9_couldHave_74, a_ai, a_ald, a_cv, a_gr, a_icge, a_icle, a_ild, a_push, a_zret, fx_62_6 hx, fx_62_8 hx, sh_62, sh_66, sh_68, pu_rv, pu_as, Value.category, pu_bk, pu_kl, List.replicate, pu_wi_1, pu_wi_2, nl_add, nl_ladd, nl_aa, nl_mul, nl_rmul, nl_mm, pu_qe0, pu_qe1, a1, c66, c68, l2, f2, f2']
      all_goals try simp (maxSteps := 400000) (disch := omega) [nl_tle, nl_fle, nl_tlt, nl_flt, nl_teq, nl_feq, nl_sub, nl_ss, nl_lt, nl_llt, nl_ltt, nl_le, nl_lle, nl_lee, nl_eq, nl_leq, nl_ee, nl_div, nl_rem, nl_cl, nl_n1, nl_n2, nl_n3, nl_n4, nl_add, nl_ladd, nl_aa, nl_mul, nl_rmul, nl_mm, pu_wi_1, pu_wi_2, bX9_couldHave_34, bX9_couldHave_78, bX9_couldHave_79, bX9_couldHave_74, a_ai, a_ald, a_cv, a_gr, a_icge, a_icle, a_ild, a_push, a_zret, fx_62_6 hx, fx_62_8 hx, sh_62, sh_66, sh_68, pu_rv, pu_as, Value.category, pu_bk, pu_kl, pu_qe0, pu_qe1, a1, c66, c68, l2, f2, f2']
      all_goals try simp [bX9_couldHave_34, bX9_couldHave_78, bX9_couldHave_79, bX9_couldHave_74, a_ai, a_ald, a_cv, a_gr, a_icge, a_icle, a_ild, a_push, a_zret, fx_62_6 hx, fx_62_8 hx, sh_62, sh_66, sh_68, pu_rv, pu_as, Value.category, pu_bk, pu_kl, List.replicate, pu_wi_1, pu_wi_2, nl_add, nl_ladd, nl_aa, nl_mul, nl_rmul, nl_mm, pu_qe0, pu_qe1, a1, c66, c68, l2, f2, f2']
      all_goals try simp (maxSteps := 400000) (disch := omega) [nl_tle, nl_fle, nl_tlt, nl_flt, nl_teq, nl_feq, nl_sub, nl_ss, nl_lt, nl_llt, nl_ltt, nl_le, nl_lle, nl_lee, nl_eq, nl_leq, nl_ee, nl_div, nl_rem, nl_cl, nl_n1, nl_n2, nl_n3, nl_n4, nl_add, nl_ladd, nl_aa, nl_mul, nl_rmul, nl_mm, pu_wi_1, pu_wi_2, bX9_couldHave_34, bX9_couldHave_78, bX9_couldHave_79, bX9_couldHave_74, a_ai, a_ald, a_cv, a_gr, a_icge, a_icle, a_ild, a_push, a_zret, fx_62_6 hx, fx_62_8 hx, sh_62, sh_66, sh_68, pu_rv, pu_as, Value.category, pu_bk, pu_kl, pu_qe0, pu_qe1, a1, c66, c68, l2, f2, f2']
      all_goals try simp [bX9_couldHave_34, bX9_couldHave_78, bX9_couldHave_79, bX9_couldHave_74, a_ai, a_ald, a_cv, a_gr, a_icge, a_icle, a_ild, a_push, a_zret, fx_62_6 hx, fx_62_8 hx, sh_62, sh_66, sh_68, pu_rv, pu_as, Value.category, pu_bk, pu_kl, List.replicate, pu_wi_1, pu_wi_2, nl_add, nl_ladd, nl_aa, nl_mul, nl_rmul, nl_mm, pu_qe0, pu_qe1, a1, c66, c68, l2, f2, f2']
      all_goals try simp (maxSteps := 400000) (disch := omega) [nl_tle, nl_fle, nl_tlt, nl_flt, nl_teq, nl_feq, nl_sub, nl_ss, nl_lt, nl_llt, nl_ltt, nl_le, nl_lle, nl_lee, nl_eq, nl_leq, nl_ee, nl_div, nl_rem, nl_cl, nl_n1, nl_n2, nl_n3, nl_n4, nl_add, nl_ladd, nl_aa, nl_mul, nl_rmul, nl_mm, pu_wi_1, pu_wi_2, bX9_couldHave_34, bX9_couldHave_78, bX9_couldHave_79, bX9_couldHave_74, a_ai, a_ald, a_cv, a_gr, a_icge, a_icle, a_ild, a_push, a_zret, fx_62_6 hx, fx_62_8 hx, sh_62, sh_66, sh_68, pu_rv, pu_as, Value.category, pu_bk, pu_kl, pu_qe0, pu_qe1, a1, c66, c68, l2, f2, f2']
      all_goals try simp [bX9_couldHave_34, bX9_couldHave_78, bX9_couldHave_79, bX9_couldHave_74, a_ai, a_ald, a_cv, a_gr, a_icge, a_icle, a_ild, a_push, a_zret, fx_62_6 hx, fx_62_8 hx, sh_62, sh_66, sh_68, pu_rv, pu_as, Value.category, pu_bk, pu_kl, List.replicate, pu_wi_1, pu_wi_2, nl_add, nl_ladd, nl_aa, nl_mul, nl_rmul, nl_mm, pu_qe0, pu_qe1, a1, c66, c68, l2, f2, f2']
  by_cases f4 : r27 = 0
  · by_cases f5 : w / 16 % 2 = 1 - s
    · rw [pu_q1 f5] at dg
      rw [← LH (fun _ => by omega)]
      rw [f4] at r1
      rw [qX9_couldHave]
      simp [a_ent, bX9_couldHave_0, bX9_couldHave_32, a_ai, a_ald, a_cs, a_gi, a_gr, a_idiv, a_ifne, a_ild, a_push, a_zret, fx_62_5 hx, fx_62_6 hx, sh_62, sh_65, sh_66, pu_rv, pu_as, Value.category, pu_bk, pu_kl, List.replicate, pu_wi_1, pu_wi_2, nl_add, nl_ladd, nl_aa, nl_mul, nl_rmul, nl_mm, pu_qe0, pu_qe1, a1, c65, c66, r1, dg]
      all_goals try simp (maxSteps := 400000) (disch := omega) [nl_tle, nl_fle, nl_tlt, nl_flt, nl_teq, nl_feq, nl_sub, nl_ss, nl_lt, nl_llt, nl_ltt, nl_le, nl_lle, nl_lee, nl_eq, nl_leq, nl_ee, nl_div, nl_rem, nl_cl, nl_n1, nl_n2, nl_n3, nl_n4, nl_add, nl_ladd, nl_aa, nl_mul, nl_rmul, nl_mm, pu_wi_1, pu_wi_2, bX9_couldHave_0, bX9_couldHave_32, a_ai, a_ald, a_cs, a_gi, a_gr, a_idiv, a_ifne, a_ild, a_push, a_zret, fx_62_5 hx, fx_62_6 hx, sh_62, sh_65, sh_66, pu_rv, pu_as, Value.category, pu_bk, pu_kl, pu_qe0, pu_qe1, a1, c65, c66, r1, dg]
      all_goals try simp [bX9_couldHave_0, bX9_couldHave_32, a_ai, a_ald, a_cs, a_gi, a_gr, a_idiv, a_ifne, a_ild, a_push, a_zret, fx_62_5 hx, fx_62_6 hx, sh_62, sh_65, sh_66, pu_rv, pu_as, Value.category, pu_bk, pu_kl, List.replicate, pu_wi_1, pu_wi_2, nl_add, nl_ladd, nl_aa, nl_mul, nl_rmul, nl_mm, pu_qe0, pu_qe1, a1, c65, c66, r1, dg]
      all_goals try simp (maxSteps := 400000) (disch := omega) [nl_tle, nl_fle, nl_tlt, nl_flt, nl_teq, nl_feq, nl_sub, nl_ss, nl_lt, nl_llt, nl_ltt, nl_le, nl_lle, nl_lee, nl_eq, nl_leq, nl_ee, nl_div, nl_rem, nl_cl, nl_n1, nl_n2, nl_n3, nl_n4, nl_add, nl_ladd, nl_aa, nl_mul, nl_rmul, nl_mm, pu_wi_1, pu_wi_2, bX9_couldHave_0, bX9_couldHave_32, a_ai, a_ald, a_cs, a_gi, a_gr, a_idiv, a_ifne, a_ild, a_push, a_zret, fx_62_5 hx, fx_62_6 hx, sh_62, sh_65, sh_66, pu_rv, pu_as, Value.category, pu_bk, pu_kl, pu_qe0, pu_qe1, a1, c65, c66, r1, dg]
      all_goals try simp [bX9_couldHave_0, bX9_couldHave_32, a_ai, a_ald, a_cs, a_gi, a_gr, a_idiv, a_ifne, a_ild, a_push, a_zret, fx_62_5 hx, fx_62_6 hx, sh_62, sh_65, sh_66, pu_rv, pu_as, Value.category, pu_bk, pu_kl, List.replicate, pu_wi_1, pu_wi_2, nl_add, nl_ladd, nl_aa, nl_mul, nl_rmul, nl_mm, pu_qe0, pu_qe1, a1, c65, c66, r1, dg]
      all_goals try simp (maxSteps := 400000) (disch := omega) [nl_tle, nl_fle, nl_tlt, nl_flt, nl_teq, nl_feq, nl_sub, nl_ss, nl_lt, nl_llt, nl_ltt, nl_le, nl_lle, nl_lee, nl_eq, nl_leq, nl_ee, nl_div, nl_rem, nl_cl, nl_n1, nl_n2, nl_n3, nl_n4, nl_add, nl_ladd, nl_aa, nl_mul, nl_rmul, nl_mm, pu_wi_1, pu_wi_2, bX9_couldHave_0, bX9_couldHave_32, a_ai, a_ald, a_cs, a_gi, a_gr, a_idiv, a_ifne, a_ild, a_push, a_zret, fx_62_5 hx, fx_62_6 hx, sh_62, sh_65, sh_66, pu_rv, pu_as, Value.category, pu_bk, pu_kl, pu_qe0, pu_qe1, a1, c65, c66, r1, dg]
      all_goals try simp [bX9_couldHave_0, bX9_couldHave_32, a_ai, a_ald, a_cs, a_gi, a_gr, a_idiv, a_ifne, a_ild, a_push, a_zret, fx_62_5 hx, fx_62_6 hx, sh_62, sh_65, sh_66, pu_rv, pu_as, Value.category, pu_bk, pu_kl, List.replicate, pu_wi_1, pu_wi_2, nl_add, nl_ladd, nl_aa, nl_mul, nl_rmul, nl_mm, pu_qe0, pu_qe1, a1, c65, c66, r1, dg]
    · rw [pu_q0 f5] at dg
      rw [pu_q0 (fun z => f5 (by have := z.2.1 f4; omega))]
      rw [f4] at r1
      rw [qX9_couldHave]
      simp [a_ent, bX9_couldHave_0, bX9_couldHave_32, a_ai, a_ald, a_cs, a_gi, a_gr, a_idiv, a_ifne, a_ild, a_push, a_zret, fx_62_5 hx, fx_62_6 hx, sh_62, sh_65, sh_66, pu_rv, pu_as, Value.category, pu_bk, pu_kl, List.replicate, pu_wi_1, pu_wi_2, nl_add, nl_ladd, nl_aa, nl_mul, nl_rmul, nl_mm, pu_qe0, pu_qe1, a1, c65, c66, r1, dg]
      all_goals try simp (maxSteps := 400000) (disch := omega) [nl_tle, nl_fle, nl_tlt, nl_flt, nl_teq, nl_feq, nl_sub, nl_ss, nl_lt, nl_llt, nl_ltt, nl_le, nl_lle, nl_lee, nl_eq, nl_leq, nl_ee, nl_div, nl_rem, nl_cl, nl_n1, nl_n2, nl_n3, nl_n4, nl_add, nl_ladd, nl_aa, nl_mul, nl_rmul, nl_mm, pu_wi_1, pu_wi_2, bX9_couldHave_0, bX9_couldHave_32, a_ai, a_ald, a_cs, a_gi, a_gr, a_idiv, a_ifne, a_ild, a_push, a_zret, fx_62_5 hx, fx_62_6 hx, sh_62, sh_65, sh_66, pu_rv, pu_as, Value.category, pu_bk, pu_kl, pu_qe0, pu_qe1, a1, c65, c66, r1, dg]
      all_goals try simp [bX9_couldHave_0, bX9_couldHave_32, a_ai, a_ald, a_cs, a_gi, a_gr, a_idiv, a_ifne, a_ild, a_push, a_zret, fx_62_5 hx, fx_62_6 hx, sh_62, sh_65, sh_66, pu_rv, pu_as, Value.category, pu_bk, pu_kl, List.replicate, pu_wi_1, pu_wi_2, nl_add, nl_ladd, nl_aa, nl_mul, nl_rmul, nl_mm, pu_qe0, pu_qe1, a1, c65, c66, r1, dg]
      all_goals try simp (maxSteps := 400000) (disch := omega) [nl_tle, nl_fle, nl_tlt, nl_flt, nl_teq, nl_feq, nl_sub, nl_ss, nl_lt, nl_llt, nl_ltt, nl_le, nl_lle, nl_lee, nl_eq, nl_leq, nl_ee, nl_div, nl_rem, nl_cl, nl_n1, nl_n2, nl_n3, nl_n4, nl_add, nl_ladd, nl_aa, nl_mul, nl_rmul, nl_mm, pu_wi_1, pu_wi_2, bX9_couldHave_0, bX9_couldHave_32, a_ai, a_ald, a_cs, a_gi, a_gr, a_idiv, a_ifne, a_ild, a_push, a_zret, fx_62_5 hx, fx_62_6 hx, sh_62, sh_65, sh_66, pu_rv, pu_as, Value.category, pu_bk, pu_kl, pu_qe0, pu_qe1, a1, c65, c66, r1, dg]
      all_goals try simp [bX9_couldHave_0, bX9_couldHave_32, a_ai, a_ald, a_cs, a_gi, a_gr, a_idiv, a_ifne, a_ild, a_push, a_zret, fx_62_5 hx, fx_62_6 hx, sh_62, sh_65, sh_66, pu_rv, pu_as, Value.category, pu_bk, pu_kl, List.replicate, pu_wi_1, pu_wi_2, nl_add, nl_ladd, nl_aa, nl_mul, nl_rmul, nl_mm, pu_qe0, pu_qe1, a1, c65, c66, r1, dg]
      all_goals try simp (maxSteps := 400000) (disch := omega) [nl_tle, nl_fle, nl_tlt, nl_flt, nl_teq, nl_feq, nl_sub, nl_ss, nl_lt, nl_llt, nl_ltt, nl_le, nl_lle, nl_lee, nl_eq, nl_leq, nl_ee, nl_div, nl_rem, nl_cl, nl_n1, nl_n2, nl_n3, nl_n4, nl_add, nl_ladd, nl_aa, nl_mul, nl_rmul, nl_mm, pu_wi_1, pu_wi_2, bX9_couldHave_0, bX9_couldHave_32, a_ai, a_ald, a_cs, a_gi, a_gr, a_idiv, a_ifne, a_ild, a_push, a_zret, fx_62_5 hx, fx_62_6 hx, sh_62, sh_65, sh_66, pu_rv, pu_as, Value.category, pu_bk, pu_kl, pu_qe0, pu_qe1, a1, c65, c66, r1, dg]
      all_goals try simp [bX9_couldHave_0, bX9_couldHave_32, a_ai, a_ald, a_cs, a_gi, a_gr, a_idiv, a_ifne, a_ild, a_push, a_zret, fx_62_5 hx, fx_62_6 hx, sh_62, sh_65, sh_66, pu_rv, pu_as, Value.category, pu_bk, pu_kl, List.replicate, pu_wi_1, pu_wi_2, nl_add, nl_ladd, nl_aa, nl_mul, nl_rmul, nl_mm, pu_qe0, pu_qe1, a1, c65, c66, r1, dg]
  · rw [← LH (fun z => absurd z f4)]
    rw [qX9_couldHave]
    simp [a_ent, bX9_couldHave_0, bX9_couldHave_32, a_ai, a_ald, a_cs, a_gi, a_gr, a_idiv, a_ifne, a_ild, a_push, a_zret, fx_62_5 hx, fx_62_6 hx, sh_62, sh_65, sh_66, pu_rv, pu_as, Value.category, pu_bk, pu_kl, List.replicate, pu_wi_1, pu_wi_2, nl_add, nl_ladd, nl_aa, nl_mul, nl_rmul, nl_mm, pu_qe0, pu_qe1, a1, c65, r1, f4]
    all_goals try simp (maxSteps := 400000) (disch := omega) [nl_tle, nl_fle, nl_tlt, nl_flt, nl_teq, nl_feq, nl_sub, nl_ss, nl_lt, nl_llt, nl_ltt, nl_le, nl_lle, nl_lee, nl_eq, nl_leq, nl_ee, nl_div, nl_rem, nl_cl, nl_n1, nl_n2, nl_n3, nl_n4, nl_add, nl_ladd, nl_aa, nl_mul, nl_rmul, nl_mm, pu_wi_1, pu_wi_2, bX9_couldHave_0, bX9_couldHave_32, a_ai, a_ald, a_cs, a_gi, a_gr, a_idiv, a_ifne, a_ild, a_push, a_zret, fx_62_5 hx, fx_62_6 hx, sh_62, sh_65, sh_66, pu_rv, pu_as, Value.category, pu_bk, pu_kl, pu_qe0, pu_qe1, a1, c65, r1, f4]
    all_goals try simp [bX9_couldHave_0, bX9_couldHave_32, a_ai, a_ald, a_cs, a_gi, a_gr, a_idiv, a_ifne, a_ild, a_push, a_zret, fx_62_5 hx, fx_62_6 hx, sh_62, sh_65, sh_66, pu_rv, pu_as, Value.category, pu_bk, pu_kl, List.replicate, pu_wi_1, pu_wi_2, nl_add, nl_ladd, nl_aa, nl_mul, nl_rmul, nl_mm, pu_qe0, pu_qe1, a1, c65, r1, f4]
    all_goals try simp (maxSteps := 400000) (disch := omega) [nl_tle, nl_fle, nl_tlt, nl_flt, nl_teq, nl_feq, nl_sub, nl_ss, nl_lt, nl_llt, nl_ltt, nl_le, nl_lle, nl_lee, nl_eq, nl_leq, nl_ee, nl_div, nl_rem, nl_cl, nl_n1, nl_n2, nl_n3, nl_n4, nl_add, nl_ladd, nl_aa, nl_mul, nl_rmul, nl_mm, pu_wi_1, pu_wi_2, bX9_couldHave_0, bX9_couldHave_32, a_ai, a_ald, a_cs, a_gi, a_gr, a_idiv, a_ifne, a_ild, a_push, a_zret, fx_62_5 hx, fx_62_6 hx, sh_62, sh_65, sh_66, pu_rv, pu_as, Value.category, pu_bk, pu_kl, pu_qe0, pu_qe1, a1, c65, r1, f4]
    all_goals try simp [bX9_couldHave_0, bX9_couldHave_32, a_ai, a_ald, a_cs, a_gi, a_gr, a_idiv, a_ifne, a_ild, a_push, a_zret, fx_62_5 hx, fx_62_6 hx, sh_62, sh_65, sh_66, pu_rv, pu_as, Value.category, pu_bk, pu_kl, List.replicate, pu_wi_1, pu_wi_2, nl_add, nl_ladd, nl_aa, nl_mul, nl_rmul, nl_mm, pu_qe0, pu_qe1, a1, c65, r1, f4]
    all_goals try simp (maxSteps := 400000) (disch := omega) [nl_tle, nl_fle, nl_tlt, nl_flt, nl_teq, nl_feq, nl_sub, nl_ss, nl_lt, nl_llt, nl_ltt, nl_le, nl_lle, nl_lee, nl_eq, nl_leq, nl_ee, nl_div, nl_rem, nl_cl, nl_n1, nl_n2, nl_n3, nl_n4, nl_add, nl_ladd, nl_aa, nl_mul, nl_rmul, nl_mm, pu_wi_1, pu_wi_2, bX9_couldHave_0, bX9_couldHave_32, a_ai, a_ald, a_cs, a_gi, a_gr, a_idiv, a_ifne, a_ild, a_push, a_zret, fx_62_5 hx, fx_62_6 hx, sh_62, sh_65, sh_66, pu_rv, pu_as, Value.category, pu_bk, pu_kl, pu_qe0, pu_qe1, a1, c65, r1, f4]
    all_goals try simp [bX9_couldHave_0, bX9_couldHave_32, a_ai, a_ald, a_cs, a_gi, a_gr, a_idiv, a_ifne, a_ild, a_push, a_zret, fx_62_5 hx, fx_62_6 hx, sh_62, sh_65, sh_66, pu_rv, pu_as, Value.category, pu_bk, pu_kl, List.replicate, pu_wi_1, pu_wi_2, nl_add, nl_ladd, nl_aa, nl_mul, nl_rmul, nl_mm, pu_qe0, pu_qe1, a1, c65, r1, f4]
/-- place b of the view is unknown and in line with place a -/
def py_ig (I : Nat → Nat → Int32) (st : Nat) (V : Nat → Nat) (a b : Nat) : Prop := I 16 (V b) = 0 ∧ ((I 27 st).toInt = 1 ∨ (I 40 (pu_sl0 I (V b))).toInt = (I 40 (pu_sl0 I (V a))).toInt)
theorem c_isInGap (hx : pu_fx M) (hw : pu_WF I L) (h : py_vd M I st y o V n) {a b : Nat} (ha : a < n) (hb : b < n) : pu_r 175 [some (.ref 62), some (.int (nI b)), some (.int (nI a))] [] M = some (some (.int (pu_q (py_ig I st V a b))), M) := by
  have hn := h.1
  have a1 : a < 100 := by omega
  have b1 : b < 100 := by omega
  have c65 := (py_vd_c h hb).2.1
  have c66 := (py_vd_c h ha).2.2.1
  have e := c_inLineD hx hw h hb (I 40 (pu_sl0 I (V a)))
  unfold py_ig
  generalize I 16 (V b) = v16 at *
  by_cases f1 : v16 = 0
  · rw [f1] at c65
    by_cases f2 : (I 27 st).toInt = 1 ∨ (I 40 (pu_sl0 I (V b))).toInt = (I 40 (pu_sl0 I (V a))).toInt
    · rw [pu_q1 f2] at e
      rw [pu_q1 ⟨f1, f2⟩]
      generalize I 40 (pu_sl0 I (V a)) = v40 at *
      rw [qX9_isInGap]
      simp [a_ent, bX9_isInGap_0, bX9_isInGap_27, bX9_isInGap_28, a_ai, a_ald, a_cv, a_gr, a_ifeq, a_ifne, a_ild, a_push, a_zret, fx_62_5 hx, fx_62_6 hx, sh_62, sh_65, sh_66, pu_rv, pu_as, Value.category, pu_bk, pu_kl, List.replicate, pu_wi_1, pu_wi_2, nl_add, nl_ladd, nl_aa, nl_mul, nl_rmul, nl_mm, pu_qe0, pu_qe1, a1, b1, c65, c66, e]
      all_goals try simp (maxSteps := 400000) (disch := omega) [nl_tle, nl_fle, nl_tlt, nl_flt, nl_teq, nl_feq, nl_sub, nl_ss, nl_lt, nl_llt, nl_ltt, nl_le, nl_lle, nl_lee, nl_eq, nl_leq, nl_ee, nl_div, nl_rem, nl_cl, nl_n1, nl_n2, nl_n3, nl_n4, nl_add, nl_ladd, nl_aa, nl_mul, nl_rmul, nl_mm, pu_wi_1, pu_wi_2, bX9_isInGap_0, bX9_isInGap_27, bX9_isInGap_28, a_ai, a_ald, a_cv, a_gr, a_ifeq, a_ifne, a_ild, a_push, a_zret, fx_62_5 hx, fx_62_6 hx, sh_62, sh_65, sh_66, pu_rv, pu_as, Value.category, pu_bk, pu_kl, pu_qe0, pu_qe1, a1, b1, c65, c66, e]
      all_goals try simp [bX9_isInGap_0, bX9_isInGap_27, bX9_isInGap_28, a_ai, a_ald, a_cv, a_gr, a_ifeq, a_ifne, a_ild, a_push, a_zret, fx_62_5 hx, fx_62_6 hx, sh_62, sh_65, sh_66, pu_rv, pu_as, Value.category, pu_bk, pu_kl, List.replicate, pu_wi_1, pu_wi_2, nl_add, nl_ladd, nl_aa, nl_mul, nl_rmul, nl_mm, pu_qe0, pu_qe1, a1, b1, c65, c66, e]
      all_goals try simp (maxSteps := 400000) (disch := omega) [nl_tle, nl_fle, nl_tlt, nl_flt, nl_teq, nl_feq, nl_sub, nl_ss, nl_lt, nl_llt, nl_ltt, nl_le, nl_lle, nl_lee, nl_eq, nl_leq, nl_ee, nl_div, nl_rem, nl_cl, nl_n1, nl_n2, nl_n3, nl_n4, nl_add, nl_ladd, nl_aa, nl_mul, nl_rmul, nl_mm, pu_wi_1, pu_wi_2, bX9_isInGap_0, bX9_isInGap_27, bX9_isInGap_28, a_ai, a_ald, a_cv, a_gr, a_ifeq, a_ifne, a_ild, a_push, a_zret, fx_62_5 hx, fx_62_6 hx, sh_62, sh_65, sh_66, pu_rv, pu_as, Value.category, pu_bk, pu_kl, pu_qe0, pu_qe1, a1, b1, c65, c66, e]
      all_goals try simp [bX9_isInGap_0, bX9_isInGap_27, bX9_isInGap_28, a_ai, a_ald, a_cv, a_gr, a_ifeq, a_ifne, a_ild, a_push, a_zret, fx_62_5 hx, fx_62_6 hx, sh_62, sh_65, sh_66, pu_rv, pu_as, Value.category, pu_bk, pu_kl, List.replicate, pu_wi_1, pu_wi_2, nl_add, nl_ladd, nl_aa, nl_mul, nl_rmul, nl_mm, pu_qe0, pu_qe1, a1, b1, c65, c66, e]
      all_goals try simp (maxSteps := 400000) (disch := omega) [nl_tle, nl_fle, nl_tlt, nl_flt, nl_teq, nl_feq, nl_sub, nl_ss, nl_lt, nl_llt, nl_ltt, nl_le, nl_lle, nl_lee, nl_eq, nl_leq, nl_ee, nl_div, nl_rem, nl_cl, nl_n1, nl_n2, nl_n3, nl_n4, nl_add, nl_ladd, nl_aa, nl_mul, nl_rmul, nl_mm, pu_wi_1, pu_wi_2, bX9_isInGap_0, bX9_isInGap_27, bX9_isInGap_28, a_ai, a_ald, a_cv, a_gr, a_ifeq, a_ifne, a_ild, a_push, a_zret, fx_62_5 hx, fx_62_6 hx, sh_62, sh_65, sh_66, pu_rv, pu_as, Value.category, pu_bk, pu_kl, pu_qe0, pu_qe1, a1, b1, c65, c66, e]
      all_goals try simp [bX9_isInGap_0, bX9_isInGap_27, bX9_isInGap_28, a_ai, a_ald, a_cv, a_gr, a_ifeq, a_ifne, a_ild, a_push, a_zret, fx_62_5 hx, fx_62_6 hx, sh_62, sh_65, sh_66, pu_rv, pu_as, Value.category, pu_bk, pu_kl, List.replicate, pu_wi_1, pu_wi_2, nl_add, nl_ladd, nl_aa, nl_mul, nl_rmul, nl_mm, pu_qe0, pu_qe1, a1, b1, c65, c66, e]
    · rw [pu_q0 f2] at e
      rw [pu_q0 (fun z => f2 z.2)]
      generalize I 40 (pu_sl0 I (V a)) = v40 at *
      rw [qX9_isInGap]
      simp [a_ent, bX9_isInGap_0, bX9_isInGap_27, bX9_isInGap_28, a_ai, a_ald, a_cv, a_gr, a_ifeq, a_ifne, a_ild, a_push, a_zret, fx_62_5 hx, fx_62_6 hx, sh_62, sh_65, sh_66, pu_rv, pu_as, Value.category, pu_bk, pu_kl, List.replicate, pu_wi_1, pu_wi_2, nl_add, nl_ladd, nl_aa, nl_mul, nl_rmul, nl_mm, pu_qe0, pu_qe1, a1, b1, c65, c66, e]
      all_goals try simp (maxSteps := 400000) (disch := omega) [nl_tle, nl_fle, nl_tlt, nl_flt, nl_teq, nl_feq, nl_sub, nl_ss, nl_lt, nl_llt, nl_ltt, nl_le, nl_lle, nl_lee, nl_eq, nl_leq, nl_ee, nl_div, nl_rem, nl_cl, nl_n1, nl_n2, nl_n3, nl_n4, nl_add, nl_ladd, nl_aa, nl_mul, nl_rmul, nl_mm, pu_wi_1, pu_wi_2, bX9_isInGap_0, bX9_isInGap_27, bX9_isInGap_28, a_ai, a_ald, a_cv, a_gr, a_ifeq, a_ifne, a_ild, a_push, a_zret, fx_62_5 hx, fx_62_6 hx, sh_62, sh_65, sh_66, pu_rv, pu_as, Value.category, pu_bk, pu_kl, pu_qe0, pu_qe1, a1, b1, c65, c66, e]
      all_goals try simp [bX9_isInGap_0, bX9_isInGap_27, bX9_isInGap_28, a_ai, a_ald, a_cv, a_gr, a_ifeq, a_ifne, a_ild, a_push, a_zret, fx_62_5 hx, fx_62_6 hx, sh_62, sh_65, sh_66, pu_rv, pu_as, Value.category, pu_bk, pu_kl, List.replicate, pu_wi_1, pu_wi_2, nl_add, nl_ladd, nl_aa, nl_mul, nl_rmul, nl_mm, pu_qe0, pu_qe1, a1, b1, c65, c66, e]
      all_goals try simp (maxSteps := 400000) (disch := omega) [nl_tle, nl_fle, nl_tlt, nl_flt, nl_teq, nl_feq, nl_sub, nl_ss, nl_lt, nl_llt, nl_ltt, nl_le, nl_lle, nl_lee, nl_eq, nl_leq, nl_ee, nl_div, nl_rem, nl_cl, nl_n1, nl_n2, nl_n3, nl_n4, nl_add, nl_ladd, nl_aa, nl_mul, nl_rmul, nl_mm, pu_wi_1, pu_wi_2, bX9_isInGap_0, bX9_isInGap_27, bX9_isInGap_28, a_ai, a_ald, a_cv, a_gr, a_ifeq, a_ifne, a_ild, a_push, a_zret, fx_62_5 hx, fx_62_6 hx, sh_62, sh_65, sh_66, pu_rv, pu_as, Value.category, pu_bk, pu_kl, pu_qe0, pu_qe1, a1, b1, c65, c66, e]
      all_goals try simp [bX9_isInGap_0, bX9_isInGap_27, bX9_isInGap_28, a_ai, a_ald, a_cv, a_gr, a_ifeq, a_ifne, a_ild, a_push, a_zret, fx_62_5 hx, fx_62_6 hx, sh_62, sh_65, sh_66, pu_rv, pu_as, Value.category, pu_bk, pu_kl, List.replicate, pu_wi_1, pu_wi_2, nl_add, nl_ladd, nl_aa, nl_mul, nl_rmul, nl_mm, pu_qe0, pu_qe1, a1, b1, c65, c66, e]
      all_goals try simp (maxSteps := 400000) (disch := omega) [nl_tle, nl_fle, nl_tlt, nl_flt, nl_teq, nl_feq, nl_sub, nl_ss, nl_lt, nl_llt, nl_ltt, nl_le, nl_lle, nl_lee, nl_eq, nl_leq, nl_ee, nl_div, nl_rem, nl_cl, nl_n1, nl_n2, nl_n3, nl_n4, nl_add, nl_ladd, nl_aa, nl_mul, nl_rmul, nl_mm, pu_wi_1, pu_wi_2, bX9_isInGap_0, bX9_isInGap_27, bX9_isInGap_28, a_ai, a_ald, a_cv, a_gr, a_ifeq, a_ifne, a_ild, a_push, a_zret, fx_62_5 hx, fx_62_6 hx, sh_62, sh_65, sh_66, pu_rv, pu_as, Value.category, pu_bk, pu_kl, pu_qe0, pu_qe1, a1, b1, c65, c66, e]
      all_goals try simp [bX9_isInGap_0, bX9_isInGap_27, bX9_isInGap_28, a_ai, a_ald, a_cv, a_gr, a_ifeq, a_ifne, a_ild, a_push, a_zret, fx_62_5 hx, fx_62_6 hx, sh_62, sh_65, sh_66, pu_rv, pu_as, Value.category, pu_bk, pu_kl, List.replicate, pu_wi_1, pu_wi_2, nl_add, nl_ladd, nl_aa, nl_mul, nl_rmul, nl_mm, pu_qe0, pu_qe1, a1, b1, c65, c66, e]
  · rw [pu_q0 (fun z => f1 z.1)]
    rw [qX9_isInGap]
    simp [a_ent, bX9_isInGap_0, bX9_isInGap_27, bX9_isInGap_28, a_ai, a_ald, a_cv, a_gr, a_ifeq, a_ifne, a_ild, a_push, a_zret, fx_62_5 hx, fx_62_6 hx, sh_62, sh_65, sh_66, pu_rv, pu_as, Value.category, pu_bk, pu_kl, List.replicate, pu_wi_1, pu_wi_2, nl_add, nl_ladd, nl_aa, nl_mul, nl_rmul, nl_mm, pu_qe0, pu_qe1, a1, b1, c65, f1]
    all_goals try simp (maxSteps := 400000) (disch := omega) [nl_tle, nl_fle, nl_tlt, nl_flt, nl_teq, nl_feq, nl_sub, nl_ss, nl_lt, nl_llt, nl_ltt, nl_le, nl_lle, nl_lee, nl_eq, nl_leq, nl_ee, nl_div, nl_rem, nl_cl, nl_n1, nl_n2, nl_n3, nl_n4, nl_add, nl_ladd, nl_aa, nl_mul, nl_rmul, nl_mm, pu_wi_1, pu_wi_2, bX9_isInGap_0, bX9_isInGap_27, bX9_isInGap_28, a_ai, a_ald, a_cv, a_gr, a_ifeq, a_ifne, a_ild, a_push, a_zret, fx_62_5 hx, fx_62_6 hx, sh_62, sh_65, sh_66, pu_rv, pu_as, Value.category, pu_bk, pu_kl, pu_qe0, pu_qe1, a1, b1, c65, f1]
    all_goals try simp [bX9_isInGap_0, bX9_isInGap_27, bX9_isInGap_28, a_ai, a_ald, a_cv, a_gr, a_ifeq, a_ifne, a_ild, a_push, a_zret, fx_62_5 hx, fx_62_6 hx, sh_62, sh_65, sh_66, pu_rv, pu_as, Value.category, pu_bk, pu_kl, List.replicate, pu_wi_1, pu_wi_2, nl_add, nl_ladd, nl_aa, nl_mul, nl_rmul, nl_mm, pu_qe0, pu_qe1, a1, b1, c65, f1]
    all_goals try simp (maxSteps := 400000) (disch := omega) [nl_tle, nl_fle, nl_tlt, nl_flt, nl_teq, nl_feq, nl_sub, nl_ss, nl_lt, nl_llt, nl_ltt, nl_le, nl_lle, nl_lee, nl_eq, nl_leq, nl_ee, nl_div, nl_rem, nl_cl, nl_n1, nl_n2, nl_n3, nl_n4, nl_add, nl_ladd, nl_aa, nl_mul, nl_rmul, nl_mm, pu_wi_1, pu_wi_2, bX9_isInGap_0, bX9_isInGap_27, bX9_isInGap_28, a_ai, a_ald, a_cv, a_gr, a_ifeq, a_ifne, a_ild, a_push, a_zret, fx_62_5 hx, fx_62_6 hx, sh_62, sh_65, sh_66, pu_rv, pu_as, Value.category, pu_bk, pu_kl, pu_qe0, pu_qe1, a1, b1, c65, f1]
    all_goals try simp [bX9_isInGap_0, bX9_isInGap_27, bX9_isInGap_28, a_ai, a_ald, a_cv, a_gr, a_ifeq, a_ifne, a_ild, a_push, a_zret, fx_62_5 hx, fx_62_6 hx, sh_62, sh_65, sh_66, pu_rv, pu_as, Value.category, pu_bk, pu_kl, List.replicate, pu_wi_1, pu_wi_2, nl_add, nl_ladd, nl_aa, nl_mul, nl_rmul, nl_mm, pu_qe0, pu_qe1, a1, b1, c65, f1]
    all_goals try simp (maxSteps := 400000) (disch := omega) [nl_tle, nl_fle, nl_tlt, nl_flt, nl_teq, nl_feq, nl_sub, nl_ss, nl_lt, nl_llt, nl_ltt, nl_le, nl_lle, nl_lee, nl_eq, nl_leq, nl_ee, nl_div, nl_rem, nl_cl, nl_n1, nl_n2, nl_n3, nl_n4, nl_add, nl_ladd, nl_aa, nl_mul, nl_rmul, nl_mm, pu_wi_1, pu_wi_2, bX9_isInGap_0, bX9_isInGap_27, bX9_isInGap_28, a_ai, a_ald, a_cv, a_gr, a_ifeq, a_ifne, a_ild, a_push, a_zret, fx_62_5 hx, fx_62_6 hx, sh_62, sh_65, sh_66, pu_rv, pu_as, Value.category, pu_bk, pu_kl, pu_qe0, pu_qe1, a1, b1, c65, f1]
    all_goals try simp [bX9_isInGap_0, bX9_isInGap_27, bX9_isInGap_28, a_ai, a_ald, a_cv, a_gr, a_ifeq, a_ifne, a_ild, a_push, a_zret, fx_62_5 hx, fx_62_6 hx, sh_62, sh_65, sh_66, pu_rv, pu_as, Value.category, pu_bk, pu_kl, List.replicate, pu_wi_1, pu_wi_2, nl_add, nl_ladd, nl_aa, nl_mul, nl_rmul, nl_mm, pu_qe0, pu_qe1, a1, b1, c65, f1]
theorem c_ug1 (hx : pu_fx M) (hw : pu_WF I L) (h : py_vd M I st y o V n) {a : Nat} (ha : a < n) : ∀ (p u : Nat), p ≤ a → ∃ p2, p2 ≤ p ∧ (∀ b, p2 ≤ b → b < p → py_ig I st V a b) ∧ (p2 = 0 ∨ ¬ py_ig I st V a (p2 - 1)) ∧ pu_r 403 [some (.ref 62), some (.int (nI a)), some (.int (nI u)), some (.int (nI p - 1))] [] M = pu_r 404 [some (.ref 62), some (.int (nI a)), some (.int (nI (u + (p - p2)))), some (.int (nI (a + 1)))] [] M := by
  intro p
  induction p with
  | zero =>
    intro u h1
    refine ⟨0, Nat.le_refl _, fun b z1 z2 => by omega, Or.inl rfl, ?_⟩
    rw [nI_0, show (0 : Int32) - 1 = -1 from by decide, Nat.sub_zero, Nat.add_zero]
    rw [qX9_unknownInGapOf_6]
    simp [bX9_unknownInGapOf_6, bX9_unknownInGapOf_28, a_ald, a_cv, a_iadd, a_ifeq, a_iflt, a_ild, a_inc, a_ist, a_push, sh_62, pu_rv, pu_as, Value.category, pu_bk, pu_kl, List.replicate, pu_wi_1, pu_wi_2, nl_add, nl_ladd, nl_aa, nl_mul, nl_rmul, nl_mm, pu_qe0, pu_qe1]
    all_goals try simp (maxSteps := 400000) (disch := omega) [nl_tle, nl_fle, nl_tlt, nl_flt, nl_teq, nl_feq, nl_sub, nl_ss, nl_lt, nl_llt, nl_ltt, nl_le, nl_lle, nl_lee, nl_eq, nl_leq, nl_ee, nl_div, nl_rem, nl_cl, nl_n1, nl_n2, nl_n3, nl_n4, nl_add, nl_ladd, nl_aa, nl_mul, nl_rmul, nl_mm, pu_wi_1, pu_wi_2, bX9_unknownInGapOf_6, bX9_unknownInGapOf_28, a_ald, a_cv, a_iadd, a_ifeq, a_iflt, a_ild, a_inc, a_ist, a_push, sh_62, pu_rv, pu_as, Value.category, pu_bk, pu_kl, pu_qe0, pu_qe1]
    all_goals try simp [bX9_unknownInGapOf_6, bX9_unknownInGapOf_28, a_ald, a_cv, a_iadd, a_ifeq, a_iflt, a_ild, a_inc, a_ist, a_push, sh_62, pu_rv, pu_as, Value.category, pu_bk, pu_kl, List.replicate, pu_wi_1, pu_wi_2, nl_add, nl_ladd, nl_aa, nl_mul, nl_rmul, nl_mm, pu_qe0, pu_qe1]
    all_goals try simp (maxSteps := 400000) (disch := omega) [nl_tle, nl_fle, nl_tlt, nl_flt, nl_teq, nl_feq, nl_sub, nl_ss, nl_lt, nl_llt, nl_ltt, nl_le, nl_lle, nl_lee, nl_eq, nl_leq, nl_ee, nl_div, nl_rem, nl_cl, nl_n1, nl_n2, nl_n3, nl_n4, nl_add, nl_ladd, nl_aa, nl_mul, nl_rmul, nl_mm, pu_wi_1, pu_wi_2, bX9_unknownInGapOf_6, bX9_unknownInGapOf_28, a_ald, a_cv, a_iadd, a_ifeq, a_iflt, a_ild, a_inc, a_ist, a_push, sh_62, pu_rv, pu_as, Value.category, pu_bk, pu_kl, pu_qe0, pu_qe1]
    all_goals try simp [bX9_unknownInGapOf_6, bX9_unknownInGapOf_28, a_ald, a_cv, a_iadd, a_ifeq, a_iflt, a_ild, a_inc, a_ist, a_push, sh_62, pu_rv, pu_as, Value.category, pu_bk, pu_kl, List.replicate, pu_wi_1, pu_wi_2, nl_add, nl_ladd, nl_aa, nl_mul, nl_rmul, nl_mm, pu_qe0, pu_qe1]
    all_goals try simp (maxSteps := 400000) (disch := omega) [nl_tle, nl_fle, nl_tlt, nl_flt, nl_teq, nl_feq, nl_sub, nl_ss, nl_lt, nl_llt, nl_ltt, nl_le, nl_lle, nl_lee, nl_eq, nl_leq, nl_ee, nl_div, nl_rem, nl_cl, nl_n1, nl_n2, nl_n3, nl_n4, nl_add, nl_ladd, nl_aa, nl_mul, nl_rmul, nl_mm, pu_wi_1, pu_wi_2, bX9_unknownInGapOf_6, bX9_unknownInGapOf_28, a_ald, a_cv, a_iadd, a_ifeq, a_iflt, a_ild, a_inc, a_ist, a_push, sh_62, pu_rv, pu_as, Value.category, pu_bk, pu_kl, pu_qe0, pu_qe1]
    all_goals try simp [bX9_unknownInGapOf_6, bX9_unknownInGapOf_28, a_ald, a_cv, a_iadd, a_ifeq, a_iflt, a_ild, a_inc, a_ist, a_push, sh_62, pu_rv, pu_as, Value.category, pu_bk, pu_kl, List.replicate, pu_wi_1, pu_wi_2, nl_add, nl_ladd, nl_aa, nl_mul, nl_rmul, nl_mm, pu_qe0, pu_qe1]
  | succ p ih =>
    intro u h1
    have hn := h.1
    have e := c_isInGap hx hw h ha (b := p) (by omega)
    have e1 : nI (p + 1) - 1 = nI p := nI_pred p
    have p0 : ¬ nI p < 0 := nI_pos (by omega)
    have e2 : nI p + (-1) = nI p - 1 := by rw [Int32.sub_eq_add_neg]
    rw [e1]
    by_cases c : py_ig I st V a p
    · rw [pu_q1 c] at e
      obtain ⟨p2, q1, q2, q3, q4⟩ := ih (u + 1) (by omega)
      refine ⟨p2, by omega, fun b z1 z2 => ?_, q3, ?_⟩
      · by_cases z : b = p
        · rw [z]; exact c
        · exact q2 b z1 (by omega)
      · rw [show u + (p + 1 - p2) = u + 1 + (p - p2) by omega, ← q4]
        generalize nI p - 1 = pp at *
        rw [qX9_unknownInGapOf_6]
        simp [bX9_unknownInGapOf_6, bX9_unknownInGapOf_28, a_ald, a_cv, a_iadd, a_ifeq, a_iflt, a_ild, a_inc, a_ist, a_push, sh_62, pu_rv, pu_as, Value.category, pu_bk, pu_kl, List.replicate, pu_wi_1, pu_wi_2, nl_add, nl_ladd, nl_aa, nl_mul, nl_rmul, nl_mm, pu_qe0, pu_qe1, p0, e, e2]
        all_goals try simp (maxSteps := 400000) (disch := omega) [nl_tle, nl_fle, nl_tlt, nl_flt, nl_teq, nl_feq, nl_sub, nl_ss, nl_lt, nl_llt, nl_ltt, nl_le, nl_lle, nl_lee, nl_eq, nl_leq, nl_ee, nl_div, nl_rem, nl_cl, nl_n1, nl_n2, nl_n3, nl_n4, nl_add, nl_ladd, nl_aa, nl_mul, nl_rmul, nl_mm, pu_wi_1, pu_wi_2, bX9_unknownInGapOf_6, bX9_unknownInGapOf_28, a_ald, a_cv, a_iadd, a_ifeq, a_iflt, a_ild, a_inc, a_ist, a_push, sh_62, pu_rv, pu_as, Value.category, pu_bk, pu_kl, pu_qe0, pu_qe1, p0, e, e2]
        all_goals try simp [bX9_unknownInGapOf_6, bX9_unknownInGapOf_28, a_ald, a_cv, a_iadd, a_ifeq, a_iflt, a_ild, a_inc, a_ist, a_push, sh_62, pu_rv, pu_as, Value.category, pu_bk, pu_kl, List.replicate, pu_wi_1, pu_wi_2, nl_add, nl_ladd, nl_aa, nl_mul, nl_rmul, nl_mm, pu_qe0, pu_qe1, p0, e, e2]
        all_goals try simp (maxSteps := 400000) (disch := omega) [nl_tle, nl_fle, nl_tlt, nl_flt, nl_teq, nl_feq, nl_sub, nl_ss, nl_lt, nl_llt, nl_ltt, nl_le, nl_lle, nl_lee, nl_eq, nl_leq, nl_ee, nl_div, nl_rem, nl_cl, nl_n1, nl_n2, nl_n3, nl_n4, nl_add, nl_ladd, nl_aa, nl_mul, nl_rmul, nl_mm, pu_wi_1, pu_wi_2, bX9_unknownInGapOf_6, bX9_unknownInGapOf_28, a_ald, a_cv, a_iadd, a_ifeq, a_iflt, a_ild, a_inc, a_ist, a_push, sh_62, pu_rv, pu_as, Value.category, pu_bk, pu_kl, pu_qe0, pu_qe1, p0, e, e2]
        all_goals try simp [bX9_unknownInGapOf_6, bX9_unknownInGapOf_28, a_ald, a_cv, a_iadd, a_ifeq, a_iflt, a_ild, a_inc, a_ist, a_push, sh_62, pu_rv, pu_as, Value.category, pu_bk, pu_kl, List.replicate, pu_wi_1, pu_wi_2, nl_add, nl_ladd, nl_aa, nl_mul, nl_rmul, nl_mm, pu_qe0, pu_qe1, p0, e, e2]
        all_goals try simp (maxSteps := 400000) (disch := omega) [nl_tle, nl_fle, nl_tlt, nl_flt, nl_teq, nl_feq, nl_sub, nl_ss, nl_lt, nl_llt, nl_ltt, nl_le, nl_lle, nl_lee, nl_eq, nl_leq, nl_ee, nl_div, nl_rem, nl_cl, nl_n1, nl_n2, nl_n3, nl_n4, nl_add, nl_ladd, nl_aa, nl_mul, nl_rmul, nl_mm, pu_wi_1, pu_wi_2, bX9_unknownInGapOf_6, bX9_unknownInGapOf_28, a_ald, a_cv, a_iadd, a_ifeq, a_iflt, a_ild, a_inc, a_ist, a_push, sh_62, pu_rv, pu_as, Value.category, pu_bk, pu_kl, pu_qe0, pu_qe1, p0, e, e2]
        all_goals try simp [bX9_unknownInGapOf_6, bX9_unknownInGapOf_28, a_ald, a_cv, a_iadd, a_ifeq, a_iflt, a_ild, a_inc, a_ist, a_push, sh_62, pu_rv, pu_as, Value.category, pu_bk, pu_kl, List.replicate, pu_wi_1, pu_wi_2, nl_add, nl_ladd, nl_aa, nl_mul, nl_rmul, nl_mm, pu_qe0, pu_qe1, p0, e, e2]
    · rw [pu_q0 c] at e
      refine ⟨p + 1, by omega, fun b z1 z2 => by omega, Or.inr c, ?_⟩
      rw [Nat.sub_self, Nat.add_zero]
      rw [qX9_unknownInGapOf_6]
      simp [bX9_unknownInGapOf_6, bX9_unknownInGapOf_28, a_ald, a_cv, a_iadd, a_ifeq, a_iflt, a_ild, a_inc, a_ist, a_push, sh_62, pu_rv, pu_as, Value.category, pu_bk, pu_kl, List.replicate, pu_wi_1, pu_wi_2, nl_add, nl_ladd, nl_aa, nl_mul, nl_rmul, nl_mm, pu_qe0, pu_qe1, p0, e]
      all_goals try simp (maxSteps := 400000) (disch := omega) [nl_tle, nl_fle, nl_tlt, nl_flt, nl_teq, nl_feq, nl_sub, nl_ss, nl_lt, nl_llt, nl_ltt, nl_le, nl_lle, nl_lee, nl_eq, nl_leq, nl_ee, nl_div, nl_rem, nl_cl, nl_n1, nl_n2, nl_n3, nl_n4, nl_add, nl_ladd, nl_aa, nl_mul, nl_rmul, nl_mm, pu_wi_1, pu_wi_2, bX9_unknownInGapOf_6, bX9_unknownInGapOf_28, a_ald, a_cv, a_iadd, a_ifeq, a_iflt, a_ild, a_inc, a_ist, a_push, sh_62, pu_rv, pu_as, Value.category, pu_bk, pu_kl, pu_qe0, pu_qe1, p0, e]
      all_goals try simp [bX9_unknownInGapOf_6, bX9_unknownInGapOf_28, a_ald, a_cv, a_iadd, a_ifeq, a_iflt, a_ild, a_inc, a_ist, a_push, sh_62, pu_rv, pu_as, Value.category, pu_bk, pu_kl, List.replicate, pu_wi_1, pu_wi_2, nl_add, nl_ladd, nl_aa, nl_mul, nl_rmul, nl_mm, pu_qe0, pu_qe1, p0, e]
      all_goals try simp (maxSteps := 400000) (disch := omega) [nl_tle, nl_fle, nl_tlt, nl_flt, nl_teq, nl_feq, nl_sub, nl_ss, nl_lt, nl_llt, nl_ltt, nl_le, nl_lle, nl_lee, nl_eq, nl_leq, nl_ee, nl_div, nl_rem, nl_cl, nl_n1, nl_n2, nl_n3, nl_n4, nl_add, nl_ladd, nl_aa, nl_mul, nl_rmul, nl_mm, pu_wi_1, pu_wi_2, bX9_unknownInGapOf_6, bX9_unknownInGapOf_28, a_ald, a_cv, a_iadd, a_ifeq, a_iflt, a_ild, a_inc, a_ist, a_push, sh_62, pu_rv, pu_as, Value.category, pu_bk, pu_kl, pu_qe0, pu_qe1, p0, e]
      all_goals try simp [bX9_unknownInGapOf_6, bX9_unknownInGapOf_28, a_ald, a_cv, a_iadd, a_ifeq, a_iflt, a_ild, a_inc, a_ist, a_push, sh_62, pu_rv, pu_as, Value.category, pu_bk, pu_kl, List.replicate, pu_wi_1, pu_wi_2, nl_add, nl_ladd, nl_aa, nl_mul, nl_rmul, nl_mm, pu_qe0, pu_qe1, p0, e]
      all_goals try simp (maxSteps := 400000) (disch := omega) [nl_tle, nl_fle, nl_tlt, nl_flt, nl_teq, nl_feq, nl_sub, nl_ss, nl_lt, nl_llt, nl_ltt, nl_le, nl_lle, nl_lee, nl_eq, nl_leq, nl_ee, nl_div, nl_rem, nl_cl, nl_n1, nl_n2, nl_n3, nl_n4, nl_add, nl_ladd, nl_aa, nl_mul, nl_rmul, nl_mm, pu_wi_1, pu_wi_2, bX9_unknownInGapOf_6, bX9_unknownInGapOf_28, a_ald, a_cv, a_iadd, a_ifeq, a_iflt, a_ild, a_inc, a_ist, a_push, sh_62, pu_rv, pu_as, Value.category, pu_bk, pu_kl, pu_qe0, pu_qe1, p0, e]
      all_goals try simp [bX9_unknownInGapOf_6, bX9_unknownInGapOf_28, a_ald, a_cv, a_iadd, a_ifeq, a_iflt, a_ild, a_inc, a_ist, a_push, sh_62, pu_rv, pu_as, Value.category, pu_bk, pu_kl, List.replicate, pu_wi_1, pu_wi_2, nl_add, nl_ladd, nl_aa, nl_mul, nl_rmul, nl_mm, pu_qe0, pu_qe1, p0, e]
theorem c_ug2 (hx : pu_fx M) (hw : pu_WF I L) (h : py_vd M I st y o V n) {a : Nat} (ha : a < n) : ∀ (m q u : Nat), q + m = n → ∃ q2, q ≤ q2 ∧ q2 ≤ n ∧ (∀ b, q ≤ b → b < q2 → py_ig I st V a b) ∧ (q2 = n ∨ ¬ py_ig I st V a q2) ∧ pu_r 404 [some (.ref 62), some (.int (nI a)), some (.int (nI u)), some (.int (nI q))] [] M = some (some (.int (nI (u + (q2 - q)))), M)
  | 0, q, u, e => by
    have hn := h.1
    have v0 := h.2.2.2.1.1
    have hc : nI n ≤ nI q := nI_le (by omega) (by omega)
    refine ⟨q, Nat.le_refl _, by omega, fun b z1 z2 => by omega, Or.inl (by omega), ?_⟩
    rw [Nat.sub_self, Nat.add_zero]
    rw [qX9_unknownInGapOf_32]
    simp [bX9_unknownInGapOf_32, bX9_unknownInGapOf_58, a_ald, a_cv, a_gi, a_icge, a_ifeq, a_ild, a_inc, a_iret, sh_62, pu_rv, pu_as, Value.category, pu_bk, pu_kl, List.replicate, pu_wi_1, pu_wi_2, nl_add, nl_ladd, nl_aa, nl_mul, nl_rmul, nl_mm, pu_qe0, pu_qe1, v0, hc]
    all_goals try simp (maxSteps := 400000) (disch := omega) [nl_tle, nl_fle, nl_tlt, nl_flt, nl_teq, nl_feq, nl_sub, nl_ss, nl_lt, nl_llt, nl_ltt, nl_le, nl_lle, nl_lee, nl_eq, nl_leq, nl_ee, nl_div, nl_rem, nl_cl, nl_n1, nl_n2, nl_n3, nl_n4, nl_add, nl_ladd, nl_aa, nl_mul, nl_rmul, nl_mm, pu_wi_1, pu_wi_2, bX9_unknownInGapOf_32, bX9_unknownInGapOf_58, a_ald, a_cv, a_gi, a_icge, a_ifeq, a_ild, a_inc, a_iret, sh_62, pu_rv, pu_as, Value.category, pu_bk, pu_kl, pu_qe0, pu_qe1, v0, hc]
    all_goals try simp [bX9_unknownInGapOf_32, bX9_unknownInGapOf_58, a_ald, a_cv, a_gi, a_icge, a_ifeq, a_ild, a_inc, a_iret, sh_62, pu_rv, pu_as, Value.category, pu_bk, pu_kl, List.replicate, pu_wi_1, pu_wi_2, nl_add, nl_ladd, nl_aa, nl_mul, nl_rmul, nl_mm, pu_qe0, pu_qe1, v0, hc]
    all_goals try simp (maxSteps := 400000) (disch := omega) [nl_tle, nl_fle, nl_tlt, nl_flt, nl_teq, nl_feq, nl_sub, nl_ss, nl_lt, nl_llt, nl_ltt, nl_le, nl_lle, nl_lee, nl_eq, nl_leq, nl_ee, nl_div, nl_rem, nl_cl, nl_n1, nl_n2, nl_n3, nl_n4, nl_add, nl_ladd, nl_aa, nl_mul, nl_rmul, nl_mm, pu_wi_1, pu_wi_2, bX9_unknownInGapOf_32, bX9_unknownInGapOf_58, a_ald, a_cv, a_gi, a_icge, a_ifeq, a_ild, a_inc, a_iret, sh_62, pu_rv, pu_as, Value.category, pu_bk, pu_kl, pu_qe0, pu_qe1, v0, hc]
    all_goals try simp [bX9_unknownInGapOf_32, bX9_unknownInGapOf_58, a_ald, a_cv, a_gi, a_icge, a_ifeq, a_ild, a_inc, a_iret, sh_62, pu_rv, pu_as, Value.category, pu_bk, pu_kl, List.replicate, pu_wi_1, pu_wi_2, nl_add, nl_ladd, nl_aa, nl_mul, nl_rmul, nl_mm, pu_qe0, pu_qe1, v0, hc]
    all_goals try simp (maxSteps := 400000) (disch := omega) [nl_tle, nl_fle, nl_tlt, nl_flt, nl_teq, nl_feq, nl_sub, nl_ss, nl_lt, nl_llt, nl_ltt, nl_le, nl_lle, nl_lee, nl_eq, nl_leq, nl_ee, nl_div, nl_rem, nl_cl, nl_n1, nl_n2, nl_n3, nl_n4, nl_add, nl_ladd, nl_aa, nl_mul, nl_rmul, nl_mm, pu_wi_1, pu_wi_2, bX9_unknownInGapOf_32, bX9_unknownInGapOf_58, a_ald, a_cv, a_gi, a_icge, a_ifeq, a_ild, a_inc, a_iret, sh_62, pu_rv, pu_as, Value.category, pu_bk, pu_kl, pu_qe0, pu_qe1, v0, hc]
    all_goals try simp [bX9_unknownInGapOf_32, bX9_unknownInGapOf_58, a_ald, a_cv, a_gi, a_icge, a_ifeq, a_ild, a_inc, a_iret, sh_62, pu_rv, pu_as, Value.category, pu_bk, pu_kl, List.replicate, pu_wi_1, pu_wi_2, nl_add, nl_ladd, nl_aa, nl_mul, nl_rmul, nl_mm, pu_qe0, pu_qe1, v0, hc]
  | m + 1, q, u, e => by
    have hn := h.1
    have v0 := h.2.2.2.1.1
    have hc : ¬ nI n ≤ nI q := nI_ge (by omega) (by omega)
    have e1 := c_isInGap hx hw h ha (b := q) (by omega)
    by_cases c : py_ig I st V a q
    · rw [pu_q1 c] at e1
      obtain ⟨q2, x1, x2, x3, x4, x5⟩ := c_ug2 hx hw h ha m (q + 1) (u + 1) (by omega)
      refine ⟨q2, by omega, x2, fun b z1 z2 => ?_, x4, ?_⟩
      · by_cases z : b = q
        · rw [z]; exact c
        · exact x3 b (by omega) z2
      · rw [show u + (q2 - q) = u + 1 + (q2 - (q + 1)) by omega]
        rw [qX9_unknownInGapOf_32]
        simp [bX9_unknownInGapOf_32, bX9_unknownInGapOf_58, a_ald, a_cv, a_gi, a_icge, a_ifeq, a_ild, a_inc, a_iret, sh_62, pu_rv, pu_as, Value.category, pu_bk, pu_kl, List.replicate, pu_wi_1, pu_wi_2, nl_add, nl_ladd, nl_aa, nl_mul, nl_rmul, nl_mm, pu_qe0, pu_qe1, v0, hc, e1, x5]
        all_goals try simp (maxSteps := 400000) (disch := omega) [nl_tle, nl_fle, nl_tlt, nl_flt, nl_teq, nl_feq, nl_sub, nl_ss, nl_lt, nl_llt, nl_ltt, nl_le, nl_lle, nl_lee, nl_eq, nl_leq, nl_ee, nl_div, nl_rem, nl_cl, nl_n1, nl_n2, nl_n3, nl_n4, nl_add, nl_ladd, nl_aa, nl_mul, nl_rmul, nl_mm, pu_wi_1, pu_wi_2, bX9_unknownInGapOf_32, bX9_unknownInGapOf_58, a_ald, a_cv, a_gi, a_icge, a_ifeq, a_ild, a_inc, a_iret, sh_62, pu_rv, pu_as, Value.category, pu_bk, pu_kl, pu_qe0, pu_qe1, v0, hc, e1, x5]
        all_goals try simp [bX9_unknownInGapOf_32, bX9_unknownInGapOf_58, a_ald, a_cv, a_gi, a_icge, a_ifeq, a_ild, a_inc, a_iret, sh_62, pu_rv, pu_as, Value.category, pu_bk, pu_kl, List.replicate, pu_wi_1, pu_wi_2, nl_add, nl_ladd, nl_aa, nl_mul, nl_rmul, nl_mm, pu_qe0, pu_qe1, v0, hc, e1, x5]
        all_goals try simp (maxSteps := 400000) (disch := omega) [nl_tle, nl_fle, nl_tlt, nl_flt, nl_teq, nl_feq, nl_sub, nl_ss, nl_lt, nl_llt, nl_ltt, nl_le, nl_lle, nl_lee, nl_eq, nl_leq, nl_ee, nl_div, nl_rem, nl_cl, nl_n1, nl_n2, nl_n3, nl_n4, nl_add, nl_ladd, nl_aa, nl_mul, nl_rmul, nl_mm, pu_wi_1, pu_wi_2, bX9_unknownInGapOf_32, bX9_unknownInGapOf_58, a_ald, a_cv, a_gi, a_icge, a_ifeq, a_ild, a_inc, a_iret, sh_62, pu_rv, pu_as, Value.category, pu_bk, pu_kl, pu_qe0, pu_qe1, v0, hc, e1, x5]
        all_goals try simp [bX9_unknownInGapOf_32, bX9_unknownInGapOf_58, a_ald, a_cv, a_gi, a_icge, a_ifeq, a_ild, a_inc, a_iret, sh_62, pu_rv, pu_as, Value.category, pu_bk, pu_kl, List.replicate, pu_wi_1, pu_wi_2, nl_add, nl_ladd, nl_aa, nl_mul, nl_rmul, nl_mm, pu_qe0, pu_qe1, v0, hc, e1, x5]
        all_goals try simp (maxSteps := 400000) (disch := omega) [nl_tle, nl_fle, nl_tlt, nl_flt, nl_teq, nl_feq, nl_sub, nl_ss, nl_lt, nl_llt, nl_ltt, nl_le, nl_lle, nl_lee, nl_eq, nl_leq, nl_ee, nl_div, nl_rem, nl_cl, nl_n1, nl_n2, nl_n3, nl_n4, nl_add, nl_ladd, nl_aa, nl_mul, nl_rmul, nl_mm, pu_wi_1, pu_wi_2, bX9_unknownInGapOf_32, bX9_unknownInGapOf_58, a_ald, a_cv, a_gi, a_icge, a_ifeq, a_ild, a_inc, a_iret, sh_62, pu_rv, pu_as, Value.category, pu_bk, pu_kl, pu_qe0, pu_qe1, v0, hc, e1, x5]
        all_goals try simp [bX9_unknownInGapOf_32, bX9_unknownInGapOf_58, a_ald, a_cv, a_gi, a_icge, a_ifeq, a_ild, a_inc, a_iret, sh_62, pu_rv, pu_as, Value.category, pu_bk, pu_kl, List.replicate, pu_wi_1, pu_wi_2, nl_add, nl_ladd, nl_aa, nl_mul, nl_rmul, nl_mm, pu_qe0, pu_qe1, v0, hc, e1, x5]
    · rw [pu_q0 c] at e1
      refine ⟨q, Nat.le_refl _, by omega, fun b z1 z2 => by omega, Or.inr c, ?_⟩
      rw [Nat.sub_self, Nat.add_zero]
      rw [qX9_unknownInGapOf_32]
      simp [bX9_unknownInGapOf_32, bX9_unknownInGapOf_58, a_ald, a_cv, a_gi, a_icge, a_ifeq, a_ild, a_inc, a_iret, sh_62, pu_rv, pu_as, Value.category, pu_bk, pu_kl, List.replicate, pu_wi_1, pu_wi_2, nl_add, nl_ladd, nl_aa, nl_mul, nl_rmul, nl_mm, pu_qe0, pu_qe1, v0, hc, e1]
      all_goals try simp (maxSteps := 400000) (disch := omega) [nl_tle, nl_fle, nl_tlt, nl_flt, nl_teq, nl_feq, nl_sub, nl_ss, nl_lt, nl_llt, nl_ltt, nl_le, nl_lle, nl_lee, nl_eq, nl_leq, nl_ee, nl_div, nl_rem, nl_cl, nl_n1, nl_n2, nl_n3, nl_n4, nl_add, nl_ladd, nl_aa, nl_mul, nl_rmul, nl_mm, pu_wi_1, pu_wi_2, bX9_unknownInGapOf_32, bX9_unknownInGapOf_58, a_ald, a_cv, a_gi, a_icge, a_ifeq, a_ild, a_inc, a_iret, sh_62, pu_rv, pu_as, Value.category, pu_bk, pu_kl, pu_qe0, pu_qe1, v0, hc, e1]
      all_goals try simp [bX9_unknownInGapOf_32, bX9_unknownInGapOf_58, a_ald, a_cv, a_gi, a_icge, a_ifeq, a_ild, a_inc, a_iret, sh_62, pu_rv, pu_as, Value.category, pu_bk, pu_kl, List.replicate, pu_wi_1, pu_wi_2, nl_add, nl_ladd, nl_aa, nl_mul, nl_rmul, nl_mm, pu_qe0, pu_qe1, v0, hc, e1]
      all_goals try simp (maxSteps := 400000) (disch := omega) [nl_tle, nl_fle, nl_tlt, nl_flt, nl_teq, nl_feq, nl_sub, nl_ss, nl_lt, nl_llt, nl_ltt, nl_le, nl_lle, nl_lee, nl_eq, nl_leq, nl_ee, nl_div, nl_rem, nl_cl, nl_n1, nl_n2, nl_n3, nl_n4, nl_add, nl_ladd, nl_aa, nl_mul, nl_rmul, nl_mm, pu_wi_1, pu_wi_2, bX9_unknownInGapOf_32, bX9_unknownInGapOf_58, a_ald, a_cv, a_gi, a_icge, a_ifeq, a_ild, a_inc, a_iret, sh_62, pu_rv, pu_as, Value.category, pu_bk, pu_kl, pu_qe0, pu_qe1, v0, hc, e1]
      all_goals try simp [bX9_unknownInGapOf_32, bX9_unknownInGapOf_58, a_ald, a_cv, a_gi, a_icge, a_ifeq, a_ild, a_inc, a_iret, sh_62, pu_rv, pu_as, Value.category, pu_bk, pu_kl, List.replicate, pu_wi_1, pu_wi_2, nl_add, nl_ladd, nl_aa, nl_mul, nl_rmul, nl_mm, pu_qe0, pu_qe1, v0, hc, e1]
      all_goals try simp (maxSteps := 400000) (disch := omega) [nl_tle, nl_fle, nl_tlt, nl_flt, nl_teq, nl_feq, nl_sub, nl_ss, nl_lt, nl_llt, nl_ltt, nl_le, nl_lle, nl_lee, nl_eq, nl_leq, nl_ee, nl_div, nl_rem, nl_cl, nl_n1, nl_n2, nl_n3, nl_n4, nl_add, nl_ladd, nl_aa, nl_mul, nl_rmul, nl_mm, pu_wi_1, pu_wi_2, bX9_unknownInGapOf_32, bX9_unknownInGapOf_58, a_ald, a_cv, a_gi, a_icge, a_ifeq, a_ild, a_inc, a_iret, sh_62, pu_rv, pu_as, Value.category, pu_bk, pu_kl, pu_qe0, pu_qe1, v0, hc, e1]
      all_goals try simp [bX9_unknownInGapOf_32, bX9_unknownInGapOf_58, a_ald, a_cv, a_gi, a_icge, a_ifeq, a_ild, a_inc, a_iret, sh_62, pu_rv, pu_as, Value.category, pu_bk, pu_kl, List.replicate, pu_wi_1, pu_wi_2, nl_add, nl_ladd, nl_aa, nl_mul, nl_rmul, nl_mm, pu_qe0, pu_qe1, v0, hc, e1]
/-- in line, the view rises -/
theorem py_vd_s (hw : pu_WF I L) (h : py_vd M I st y o V n) {a b : Nat} (hab : a ≤ b) (hb : b < n) (l : (I 27 st).toInt = 1 ∨ (I 40 (pu_sl0 I (V a))).toInt = (I 40 (pu_sl0 I (V b))).toInt) : pz_ak I st (V a) ≤ pz_ak I st (V b) := by
  by_cases z : a = b
  · rw [z]; exact Int.le_refl _
  · have so := Int32.le_iff_toInt_le.mp (h.2.2.2.2.1.2.2 a b (by omega) hb).2
    have ra := py_rka hw h (a := a) (by omega)
    have rb := py_rka hw h hb
    rw [ra, rb] at so
    by_cases yy : (I 27 st).toInt = 1
    · rw [if_pos yy, if_pos yy] at so
      omega
    · rw [if_neg yy, if_neg yy] at so
      rcases l with q | q
      · exact absurd q yy
      · rw [q] at so
        omega
/-- sides stand one behind the other -/
theorem py_vd_l (hw : pu_WF I L) (h : py_vd M I st y o V n) {a b c : Nat} (hab : a ≤ b) (hbc : b ≤ c) (hc : c < n) (l : (I 27 st).toInt = 1 ∨ (I 40 (pu_sl0 I (V a))).toInt = (I 40 (pu_sl0 I (V c))).toInt) : (I 27 st).toInt = 1 ∨ (I 40 (pu_sl0 I (V b))).toInt = (I 40 (pu_sl0 I (V c))).toInt := by
  by_cases yy : (I 27 st).toInt = 1
  · exact Or.inl yy
  · refine Or.inr ?_
    have l2 : (I 40 (pu_sl0 I (V a))).toInt = (I 40 (pu_sl0 I (V c))).toInt := by
      rcases l with q | q
      · exact absurd q yy
      · exact q
    have hst := h.2.2.2.2.2.2
    have le : ∀ u v, u ≤ v → v < n → (pu_rk I o (V u)).toInt ≤ (pu_rk I o (V v)).toInt := fun u v h1 h2 => by
      by_cases z : u = v
      · rw [z]; exact Int.le_refl _
      · exact Int32.le_iff_toInt_le.mp (h.2.2.2.2.1.2.2 u v (by omega) h2).2
    have ra := py_rka hw h (a := a) (by omega)
    have rb := py_rka hw h (a := b) (by omega)
    have rc := py_rka hw h hc
    have x1 := le a b hab (by omega)
    have x2 := le b c hbc hc
    have ma := py_vd_m h (a := a) (by omega)
    have mb := py_vd_m h (a := b) (by omega)
    have mc := py_vd_m h hc
    have pa := py_pl0 hw hst ma.1 ma.2.1 ma.2.2
    have pb := py_pl0 hw hst mb.1 mb.2.1 mb.2.2
    have pc := py_pl0 hw hst mc.1 mc.2.1 mc.2.2
    rw [if_neg yy] at ra rb rc
    unfold pz_ak pz_al at ra rb rc
    rw [if_neg yy] at ra rb rc
    omega
theorem py_gp_v (hw : pu_WF I L) (hy : ¬ y < 0) (h : py_vd M I st y o V n) {a p q : Nat} (ha : a < n) (u0 : I 16 (V a) = 0) (pa : p ≤ a) (aq : a < q) (qn : q ≤ n) (g1 : ∀ b, p ≤ b → b < q → py_ig I st V a b) (g2 : p = 0 ∨ ¬ py_ig I st V a (p - 1)) (g3 : q = n ∨ ¬ py_ig I st V a q) : py_gp I st y (V a) = q - p := by
  have hst := h.2.2.2.2.2.2
  have VI := h.2.2.2.2.1
  have t0 : (0 : Int32).toInt = 0 := by decide
  have NE : ∀ b c, b < n → c < n → b ≠ c → ((I 27 st).toInt = 1 ∨ (I 40 (pu_sl0 I (V b))).toInt = (I 40 (pu_sl0 I (V c))).toInt) → pz_ak I st (V b) ≠ pz_ak I st (V c) := fun b c hb hc ne l z => by
    have mb := py_vd_m h hb
    have mc := py_vd_m h hc
    have e := py_injB (sd := (I 40 (pu_sl0 I (V c))).toInt) hw hst mb.1 mb.2.1 mb.2.2 l mc.1 mc.2.1 mc.2.2 (Or.inr rfl) z
    rcases Nat.lt_or_gt_of_ne ne with k | k
    · exact (VI.2.2 b c k hc).1 e
    · exact (VI.2.2 c b k hb).1 e.symm
  have SY : ∀ b c, ((I 27 st).toInt = 1 ∨ (I 40 (pu_sl0 I (V b))).toInt = (I 40 (pu_sl0 I (V c))).toInt) → ((I 27 st).toInt = 1 ∨ (I 40 (pu_sl0 I (V c))).toInt = (I 40 (pu_sl0 I (V b))).toInt) := fun b c z => z.imp id Eq.symm
  have TR : ∀ b c, ((I 27 st).toInt = 1 ∨ (I 40 (pu_sl0 I (V b))).toInt = (I 40 (pu_sl0 I (V a))).toInt) → ((I 27 st).toInt = 1 ∨ (I 40 (pu_sl0 I (V c))).toInt = (I 40 (pu_sl0 I (V a))).toInt) → ((I 27 st).toInt = 1 ∨ (I 40 (pu_sl0 I (V b))).toInt = (I 40 (pu_sl0 I (V c))).toInt) := fun b c z1 z2 => by
    rcases z1 with z1 | z1
    · exact Or.inl z1
    · rcases z2 with z2 | z2
      · exact Or.inl z2
      · exact Or.inr (z1.trans z2.symm)
  -- an unknown place in line, outside: a known one lies between
  have OUT : ∀ b, b < n → py_ig I st V a b → (∀ e, py_eo I st y (I 40 (pu_sl0 I (V a))).toInt e → ¬ (pz_ak I st (V b) < pz_ak I st e ∧ pz_ak I st e < pz_ak I st (V a)) ∧ ¬ (pz_ak I st (V a) < pz_ak I st e ∧ pz_ak I st e < pz_ak I st (V b))) → p ≤ b ∧ b < q := fun b hb ig g => by
    have KN : ∀ c, c < n → ((I 27 st).toInt = 1 ∨ (I 40 (pu_sl0 I (V c))).toInt = (I 40 (pu_sl0 I (V a))).toInt) → ¬ py_ig I st V a c → py_eo I st y (I 40 (pu_sl0 I (V a))).toInt (V c) := fun c hc l nig => by
      have mc := py_vd_m h hc
      have uw := wx_uw hw (V c) mc.1
      have w0 : (I 16 (V c)).toInt ≠ 0 := fun z => nig ⟨Int32.toInt_inj.mp (by rw [z, t0]), l⟩
      exact ⟨mc.1, mc.2.1, mc.2.2, l, by omega⟩
    refine ⟨Nat.not_lt.mp (fun z => ?_), Nat.not_le.mp (fun z => ?_)⟩
    · rcases g2 with k | k
      · omega
      · have l := py_vd_l hw h (a := b) (b := p - 1) (c := a) (by omega) (by omega) ha ig.2
        have eo := KN (p - 1) (by omega) l k
        have bp : b ≠ p - 1 := fun e => k (e ▸ ig)
        have x1 := py_vd_s hw h (a := b) (b := p - 1) (by omega) (by omega) (TR _ _ ig.2 l)
        have x2 := py_vd_s hw h (a := p - 1) (b := a) (by omega) ha l
        have y1 := NE b (p - 1) hb (by omega) bp (TR _ _ ig.2 l)
        have y2 := NE (p - 1) a (by omega) ha (by omega) l
        exact (g _ eo).1 ⟨by omega, by omega⟩
    · rcases g3 with k | k
      · omega
      · have l0 := py_vd_l hw h (a := a) (b := q) (c := b) (by omega) z hb (SY _ _ ig.2)
        have l := TR q a (by
          rcases l0 with l0 | l0
          · exact Or.inl l0
          · rcases ig.2 with z2 | z2
            · exact Or.inl z2
            · exact Or.inr (l0.trans z2)) (Or.inr rfl)
        have eo := KN q (by omega) l k
        have bq : q ≠ b := fun e => k (e ▸ ig)
        have x1 := py_vd_s hw h (a := a) (b := q) (by omega) (by omega) (SY _ _ l)
        have x2 := py_vd_s hw h (a := q) (b := b) z hb (TR _ _ l ig.2)
        have y1 := NE q b (by omega) hb bq (TR _ _ l ig.2)
        have y2 := NE a q ha (by omega) (by omega) (SY _ _ l)
        exact (g _ eo).2 ⟨by omega, by omega⟩
  unfold py_gp
  refine py_cnt_bij (cU I) 0 (q - p) (fun b => V (p + b)) (fun b hb => ?_) (fun b c hbc hc => (VI.2.2 (p + b) (p + c) (by omega) (by omega)).1) (fun k _ hk g => ?_)
  · have pb : p + b < n := by omega
    have m := py_vd_m h pb
    have ig := g1 (p + b) (by omega) (by omega)
    refine ⟨Nat.zero_le _, by show V (p + b) < 0 + cU I; have := m.1; omega, ig.1, ⟨m.2.1, by rw [← py_tn_e hy]; exact m.2.2⟩, ig.2, fun e he => ?_⟩
    obtain ⟨c, c1, c2⟩ := py_vd_e h he.1 he.2.1 he.2.2.1
    have nig : ¬ py_ig I st V a c := fun z => by
      have := he.2.2.2.2
      rw [← c2, z.1] at this
      omega
    have l := he.2.2.2.1
    rw [← c2] at l ⊢
    have out : c < p ∨ q ≤ c := by
      rcases Nat.lt_or_ge c p with z | z
      · exact Or.inl z
      · rcases Nat.lt_or_ge c q with z2 | z2
        · exact absurd (g1 c z z2) nig
        · exact Or.inr z2
    rcases out with z | z
    · have x1 := py_vd_s hw h (a := c) (b := p + b) (by omega) pb (TR _ _ l ig.2)
      have x2 := py_vd_s hw h (a := c) (b := a) (by omega) ha l
      exact ⟨fun k => by omega, fun k => by omega⟩
    · have x1 := py_vd_s hw h (a := p + b) (b := c) (by omega) c1 (TR _ _ ig.2 l)
      have x2 := py_vd_s hw h (a := a) (b := c) (by omega) c1 (SY _ _ l)
      exact ⟨fun k => by omega, fun k => by omega⟩
  · obtain ⟨b, b1, b2⟩ := py_vd_e h (k := k) (by omega) g.2.1.1 (by rw [py_tn_e hy]; exact g.2.1.2)
    rw [← b2] at g
    have := OUT b b1 ⟨g.1, g.2.2.1⟩ g.2.2.2
    exact ⟨b - p, by omega, by show V (p + (b - p)) = k; rw [Nat.add_sub_cancel' this.1]; exact b2⟩
theorem c_likelyRank (hx : pu_fx M) (hw : pu_WF I L) (hy : ¬ y < 0) (h : py_vd M I st y o V n) {a : Nat} (ha : a < n) (u0 : I 16 (V a) = 0) : pu_r 177 [some (.ref 62), some (.int (nI a))] [] M = some (some (.int (nI (py_ky I st y (V a)))), M) := by
  have hn := h.1
  have a1 : a < 100 := by omega
  have hst := h.2.2.2.2.2.2
  have m := py_vd_m h ha
  obtain ⟨p, p1, p2, p3, p4⟩ := c_ug1 hx hw h ha a 1 (Nat.le_refl _)
  obtain ⟨q, q1, q2, q3, q4, q5⟩ := c_ug2 hx hw h ha (n - (a + 1)) (a + 1) (1 + (a - p)) (by omega)
  have G := py_gp_v hw hy h ha u0 p1 (show a < q by omega) q2 (fun b z1 z2 => by
    by_cases z : b = a
    · rw [z]; exact ⟨u0, Or.inr rfl⟩
    · by_cases z3 : b < a
      · exact p2 b z1 z3
      · exact q3 b (by omega) z2) p3 q4
  rw [q5] at p4
  rw [show 1 + (a - p) + (q - (a + 1)) = py_gp I st y (V a) by rw [G]; omega] at p4
  have U : pu_r 176 [some (.ref 62), some (.int (nI a))] [] M = some (some (.int (nI (py_gp I st y (V a)))), M) := by
    rw [show nI 1 = (1 : Int32) from rfl] at p4
    generalize hpp : nI a - 1 = pp at *
    generalize py_gp I st y (V a) = g at *
    rw [qX9_unknownInGapOf]
    simp [a_ent, bX9_unknownInGapOf_0, a_ild, a_ist, a_isub, a_push, pu_rv, pu_as, Value.category, pu_bk, pu_kl, List.replicate, pu_wi_1, pu_wi_2, nl_add, nl_ladd, nl_aa, nl_mul, nl_rmul, nl_mm, pu_qe0, pu_qe1, hpp, p4]
    all_goals try simp (maxSteps := 400000) (disch := omega) [nl_tle, nl_fle, nl_tlt, nl_flt, nl_teq, nl_feq, nl_sub, nl_ss, nl_lt, nl_llt, nl_ltt, nl_le, nl_lle, nl_lee, nl_eq, nl_leq, nl_ee, nl_div, nl_rem, nl_cl, nl_n1, nl_n2, nl_n3, nl_n4, nl_add, nl_ladd, nl_aa, nl_mul, nl_rmul, nl_mm, pu_wi_1, pu_wi_2, bX9_unknownInGapOf_0, a_ild, a_ist, a_isub, a_push, pu_rv, pu_as, Value.category, pu_bk, pu_kl, pu_qe0, pu_qe1, hpp, p4]
    all_goals try simp [bX9_unknownInGapOf_0, a_ild, a_ist, a_isub, a_push, pu_rv, pu_as, Value.category, pu_bk, pu_kl, List.replicate, pu_wi_1, pu_wi_2, nl_add, nl_ladd, nl_aa, nl_mul, nl_rmul, nl_mm, pu_qe0, pu_qe1, hpp, p4]
    all_goals try simp (maxSteps := 400000) (disch := omega) [nl_tle, nl_fle, nl_tlt, nl_flt, nl_teq, nl_feq, nl_sub, nl_ss, nl_lt, nl_llt, nl_ltt, nl_le, nl_lle, nl_lee, nl_eq, nl_leq, nl_ee, nl_div, nl_rem, nl_cl, nl_n1, nl_n2, nl_n3, nl_n4, nl_add, nl_ladd, nl_aa, nl_mul, nl_rmul, nl_mm, pu_wi_1, pu_wi_2, bX9_unknownInGapOf_0, a_ild, a_ist, a_isub, a_push, pu_rv, pu_as, Value.category, pu_bk, pu_kl, pu_qe0, pu_qe1, hpp, p4]
    all_goals try simp [bX9_unknownInGapOf_0, a_ild, a_ist, a_isub, a_push, pu_rv, pu_as, Value.category, pu_bk, pu_kl, List.replicate, pu_wi_1, pu_wi_2, nl_add, nl_ladd, nl_aa, nl_mul, nl_rmul, nl_mm, pu_qe0, pu_qe1, hpp, p4]
    all_goals try simp (maxSteps := 400000) (disch := omega) [nl_tle, nl_fle, nl_tlt, nl_flt, nl_teq, nl_feq, nl_sub, nl_ss, nl_lt, nl_llt, nl_ltt, nl_le, nl_lle, nl_lee, nl_eq, nl_leq, nl_ee, nl_div, nl_rem, nl_cl, nl_n1, nl_n2, nl_n3, nl_n4, nl_add, nl_ladd, nl_aa, nl_mul, nl_rmul, nl_mm, pu_wi_1, pu_wi_2, bX9_unknownInGapOf_0, a_ild, a_ist, a_isub, a_push, pu_rv, pu_as, Value.category, pu_bk, pu_kl, pu_qe0, pu_qe1, hpp, p4]
    all_goals try simp [bX9_unknownInGapOf_0, a_ild, a_ist, a_isub, a_push, pu_rv, pu_as, Value.category, pu_bk, pu_kl, List.replicate, pu_wi_1, pu_wi_2, nl_add, nl_ladd, nl_aa, nl_mul, nl_rmul, nl_mm, pu_qe0, pu_qe1, hpp, p4]
  obtain ⟨gb, s, pc, s2, pc2, es, ep, ek⟩ := py_ky_b hw hst m.1 m.2.1 m.2.2
  rw [ek]
  have c66 := (py_vd_c h ha).2.2.1
  have c67 := (py_vd_c h ha).2.2.2.1
  rw [es] at c66
  rw [ep] at c67
  generalize py_gp I st y (V a) = g at *
  rw [qX9_likelyRankOf]
  simp [a_ent, bX9_likelyRankOf_0, a_ai, a_ald, a_cv, a_gr, a_iadd, a_ild, a_imul, a_iret, a_push, fx_62_6 hx, fx_62_7 hx, sh_62, sh_66, sh_67, pu_rv, pu_as, Value.category, pu_bk, pu_kl, List.replicate, pu_wi_1, pu_wi_2, nl_add, nl_ladd, nl_aa, nl_mul, nl_rmul, nl_mm, pu_qe0, pu_qe1, a1, U, c66, c67, show (2 : Int32) = nI 2 from rfl, show (20000 : Int32) = nI 20000 from rfl, nI_add, pk_mul]
  all_goals try simp (maxSteps := 400000) (disch := omega) [nl_tle, nl_fle, nl_tlt, nl_flt, nl_teq, nl_feq, nl_sub, nl_ss, nl_lt, nl_llt, nl_ltt, nl_le, nl_lle, nl_lee, nl_eq, nl_leq, nl_ee, nl_div, nl_rem, nl_cl, nl_n1, nl_n2, nl_n3, nl_n4, nl_add, nl_ladd, nl_aa, nl_mul, nl_rmul, nl_mm, pu_wi_1, pu_wi_2, bX9_likelyRankOf_0, a_ai, a_ald, a_cv, a_gr, a_iadd, a_ild, a_imul, a_iret, a_push, fx_62_6 hx, fx_62_7 hx, sh_62, sh_66, sh_67, pu_rv, pu_as, Value.category, pu_bk, pu_kl, pu_qe0, pu_qe1, a1, U, c66, c67, show (2 : Int32) = nI 2 from rfl, show (20000 : Int32) = nI 20000 from rfl, nI_add, pk_mul]
  all_goals try simp [bX9_likelyRankOf_0, a_ai, a_ald, a_cv, a_gr, a_iadd, a_ild, a_imul, a_iret, a_push, fx_62_6 hx, fx_62_7 hx, sh_62, sh_66, sh_67, pu_rv, pu_as, Value.category, pu_bk, pu_kl, List.replicate, pu_wi_1, pu_wi_2, nl_add, nl_ladd, nl_aa, nl_mul, nl_rmul, nl_mm, pu_qe0, pu_qe1, a1, U, c66, c67, show (2 : Int32) = nI 2 from rfl, show (20000 : Int32) = nI 20000 from rfl, nI_add, pk_mul]
  all_goals try simp (maxSteps := 400000) (disch := omega) [nl_tle, nl_fle, nl_tlt, nl_flt, nl_teq, nl_feq, nl_sub, nl_ss, nl_lt, nl_llt, nl_ltt, nl_le, nl_lle, nl_lee, nl_eq, nl_leq, nl_ee, nl_div, nl_rem, nl_cl, nl_n1, nl_n2, nl_n3, nl_n4, nl_add, nl_ladd, nl_aa, nl_mul, nl_rmul, nl_mm, pu_wi_1, pu_wi_2, bX9_likelyRankOf_0, a_ai, a_ald, a_cv, a_gr, a_iadd, a_ild, a_imul, a_iret, a_push, fx_62_6 hx, fx_62_7 hx, sh_62, sh_66, sh_67, pu_rv, pu_as, Value.category, pu_bk, pu_kl, pu_qe0, pu_qe1, a1, U, c66, c67, show (2 : Int32) = nI 2 from rfl, show (20000 : Int32) = nI 20000 from rfl, nI_add, pk_mul]
  all_goals try simp [bX9_likelyRankOf_0, a_ai, a_ald, a_cv, a_gr, a_iadd, a_ild, a_imul, a_iret, a_push, fx_62_6 hx, fx_62_7 hx, sh_62, sh_66, sh_67, pu_rv, pu_as, Value.category, pu_bk, pu_kl, List.replicate, pu_wi_1, pu_wi_2, nl_add, nl_ladd, nl_aa, nl_mul, nl_rmul, nl_mm, pu_qe0, pu_qe1, a1, U, c66, c67, show (2 : Int32) = nI 2 from rfl, show (20000 : Int32) = nI 20000 from rfl, nI_add, pk_mul]
  all_goals try simp (maxSteps := 400000) (disch := omega) [nl_tle, nl_fle, nl_tlt, nl_flt, nl_teq, nl_feq, nl_sub, nl_ss, nl_lt, nl_llt, nl_ltt, nl_le, nl_lle, nl_lee, nl_eq, nl_leq, nl_ee, nl_div, nl_rem, nl_cl, nl_n1, nl_n2, nl_n3, nl_n4, nl_add, nl_ladd, nl_aa, nl_mul, nl_rmul, nl_mm, pu_wi_1, pu_wi_2, bX9_likelyRankOf_0, a_ai, a_ald, a_cv, a_gr, a_iadd, a_ild, a_imul, a_iret, a_push, fx_62_6 hx, fx_62_7 hx, sh_62, sh_66, sh_67, pu_rv, pu_as, Value.category, pu_bk, pu_kl, pu_qe0, pu_qe1, a1, U, c66, c67, show (2 : Int32) = nI 2 from rfl, show (20000 : Int32) = nI 20000 from rfl, nI_add, pk_mul]
  all_goals try simp [bX9_likelyRankOf_0, a_ai, a_ald, a_cv, a_gr, a_iadd, a_ild, a_imul, a_iret, a_push, fx_62_6 hx, fx_62_7 hx, sh_62, sh_66, sh_67, pu_rv, pu_as, Value.category, pu_bk, pu_kl, List.replicate, pu_wi_1, pu_wi_2, nl_add, nl_ladd, nl_aa, nl_mul, nl_rmul, nl_mm, pu_qe0, pu_qe1, a1, U, c66, c67, show (2 : Int32) = nI 2 from rfl, show (20000 : Int32) = nI 20000 from rfl, nI_add, pk_mul]
end
