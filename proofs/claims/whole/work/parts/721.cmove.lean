/-! join: the class moves the names -/
theorem py_nsub (a c : Nat) : nI (a + c) - nI a = nI c := by
  have e : nI (a + c) = nI a + nI c := Int32.ofNat_add a c
  rw [e, Int32.add_comm, Int32.add_sub_cancel]
noncomputable def py_mc (P : Nat → Prop) : Nat → Nat
  | 0 => 0
  | i + 1 => py_mc P i + @ite _ (P i) (Classical.propDecidable _) 1 0
theorem py_mc_t {P : Nat → Prop} {i : Nat} (h : P i) : py_mc P (i + 1) = py_mc P i + 1 := by
  show py_mc P i + @ite _ (P i) (Classical.propDecidable _) 1 0 = _
  rw [if_pos h]
theorem py_mc_f {P : Nat → Prop} {i : Nat} (h : ¬ P i) : py_mc P (i + 1) = py_mc P i := by
  show py_mc P i + @ite _ (P i) (Classical.propDecidable _) 1 0 = _
  rw [if_neg h, Nat.add_zero]
theorem py_mc_m {P : Nat → Prop} : ∀ {i j : Nat}, i ≤ j → py_mc P i ≤ py_mc P j
  | i, 0, h => by
    rw [show i = 0 by omega]
    exact Nat.le_refl _
  | i, j + 1, h => by
    by_cases z : i = j + 1
    · rw [z]
      exact Nat.le_refl _
    · have := py_mc_m (P := P) (i := i) (j := j) (by omega)
      by_cases c : P j
      · rw [py_mc_t c]; omega
      · rw [py_mc_f c]; omega
theorem py_mc_l {P : Nat → Prop} {i j : Nat} (h : i < j) (hp : P i) : py_mc P i < py_mc P j := by
  have := py_mc_m (P := P) (i := i + 1) (j := j) (by omega)
  rw [py_mc_t hp] at this
  omega
/-- each number below the count is one's place -/
theorem py_mc_on {P : Nat → Prop} : ∀ {n c : Nat}, c < py_mc P n → ∃ i, i < n ∧ P i ∧ py_mc P i = c
  | 0, c, h => absurd h (Nat.not_lt_zero _)
  | n + 1, c, h => by
    by_cases p : P n
    · rw [py_mc_t p] at h
      by_cases z : c = py_mc P n
      · exact ⟨n, by omega, p, z.symm⟩
      · obtain ⟨i, i1, i2, i3⟩ := py_mc_on (P := P) (n := n) (c := c) (by omega)
        exact ⟨i, by omega, i2, i3⟩
    · rw [py_mc_f p] at h
      obtain ⟨i, i1, i2, i3⟩ := py_mc_on (P := P) (n := n) (c := c) h
      exact ⟨i, by omega, i2, i3⟩
/-- the first i spans have been looked at -/
def py_ms (M N : pu_M) (P : Nat → Prop) (n : Nat) (into p : Int32) (i : Nat) : Prop :=
  N.2.2 = M.2.2 ∧ N.1 19 0 = nI (n + py_mc P i) ∧
  (∀ j, j < i → P j → N.1 23 j = p ∧ N.1 20 (n + py_mc P j) = M.1 20 j ∧ N.1 21 (n + py_mc P j) = into ∧ N.1 22 (n + py_mc P j) = p ∧ N.1 23 (n + py_mc P j) = -1 ∧ ∀ w, w < 3 → N.2.1 24 (3 * (n + py_mc P j) + w) = M.2.1 24 (3 * j + w)) ∧
  (∀ a j, ¬ (a = 19 ∧ j = 0) → ¬ (a = 23 ∧ j < i ∧ P j) → ¬ (20 ≤ a ∧ a ≤ 23 ∧ n ≤ j) → N.1 a j = M.1 a j) ∧
  (∀ a j, ¬ (a = 24 ∧ 3 * n ≤ j) → N.2.1 a j = M.2.1 a j)
theorem c_move_l {M : pu_M} (hx : pu_fx M) (n : Nat) (b into p : Int32) (hn : n + py_mc (fun i => M.1 23 i = -1 ∧ M.1 21 i = b) n ≤ 416) : ∀ m i (N : pu_M), i + m = n → py_ms M N (fun i => M.1 23 i = -1 ∧ M.1 21 i = b) n into p i → ∃ F, py_ms M F (fun i => M.1 23 i = -1 ∧ M.1 21 i = b) n into p n ∧ pu_r 389 [some (.ref 19), some (.int b), some (.int into), some (.int p), some (.int (nI n)), some (.int (nI i))] [] N = some (some (.int (nI (py_mc (fun i => M.1 23 i = -1 ∧ M.1 21 i = b) n))), F)
  | 0, i, N, h, S => by
    have e : i = n := by omega
    subst e
    refine ⟨N, S, ?_⟩
    obtain ⟨s1, s2, s3, s4, s5⟩ := S
    have hxN : pu_fx N := fun a k r q => by
      rw [s1]
      exact hx a k r q
    have hc : nI i ≤ nI i := nI_le (by omega) (by omega)
    have sub : nI (i + py_mc (fun i => M.1 23 i = -1 ∧ M.1 21 i = b) i) - nI i = nI (py_mc (fun i => M.1 23 i = -1 ∧ M.1 21 i = b) i) := py_nsub _ _
    rw [qX3_moveAll_9]
    simp [bX3_moveAll_9, bX3_moveAll_73, bX3_moveAll_67, bX3_moveAll_53, a_ai, a_ald, a_cv, a_gi, a_gr, a_icge, a_icne, a_ild, a_imul, a_inc, a_iret, a_isub, a_push, a_wi, sh_19, sh_20, sh_21, sh_23, sh_24, pu_rv, pu_as, Value.category, pu_bk, pu_kl, List.replicate, pu_wi_1, pu_wi_2, nl_add, nl_ladd, nl_aa, nl_mul, nl_rmul, nl_mm, pu_qe0, pu_qe1, hc, s2, sub]
    all_goals try simp (maxSteps := 400000) (disch := omega) [nl_tle, nl_fle, nl_tlt, nl_flt, nl_teq, nl_feq, nl_sub, nl_ss, nl_lt, nl_llt, nl_ltt, nl_le, nl_lle, nl_lee, nl_eq, nl_leq, nl_ee, nl_div, nl_rem, nl_cl, nl_n1, nl_n2, nl_n3, nl_n4, nl_add, nl_ladd, nl_aa, nl_mul, nl_rmul, nl_mm, pu_wi_1, pu_wi_2, bX3_moveAll_9, bX3_moveAll_73, bX3_moveAll_67, bX3_moveAll_53, a_ai, a_ald, a_cv, a_gi, a_gr, a_icge, a_icne, a_ild, a_imul, a_inc, a_iret, a_isub, a_push, a_wi, sh_19, sh_20, sh_21, sh_23, sh_24, pu_rv, pu_as, Value.category, pu_bk, pu_kl, pu_qe0, pu_qe1, hc, s2, sub]
    all_goals try simp [bX3_moveAll_9, bX3_moveAll_73, bX3_moveAll_67, bX3_moveAll_53, a_ai, a_ald, a_cv, a_gi, a_gr, a_icge, a_icne, a_ild, a_imul, a_inc, a_iret, a_isub, a_push, a_wi, sh_19, sh_20, sh_21, sh_23, sh_24, pu_rv, pu_as, Value.category, pu_bk, pu_kl, List.replicate, pu_wi_1, pu_wi_2, nl_add, nl_ladd, nl_aa, nl_mul, nl_rmul, nl_mm, pu_qe0, pu_qe1, hc, s2, sub]
    all_goals try simp (maxSteps := 400000) (disch := omega) [nl_tle, nl_fle, nl_tlt, nl_flt, nl_teq, nl_feq, nl_sub, nl_ss, nl_lt, nl_llt, nl_ltt, nl_le, nl_lle, nl_lee, nl_eq, nl_leq, nl_ee, nl_div, nl_rem, nl_cl, nl_n1, nl_n2, nl_n3, nl_n4, nl_add, nl_ladd, nl_aa, nl_mul, nl_rmul, nl_mm, pu_wi_1, pu_wi_2, bX3_moveAll_9, bX3_moveAll_73, bX3_moveAll_67, bX3_moveAll_53, a_ai, a_ald, a_cv, a_gi, a_gr, a_icge, a_icne, a_ild, a_imul, a_inc, a_iret, a_isub, a_push, a_wi, sh_19, sh_20, sh_21, sh_23, sh_24, pu_rv, pu_as, Value.category, pu_bk, pu_kl, pu_qe0, pu_qe1, hc, s2, sub]
    all_goals try simp [bX3_moveAll_9, bX3_moveAll_73, bX3_moveAll_67, bX3_moveAll_53, a_ai, a_ald, a_cv, a_gi, a_gr, a_icge, a_icne, a_ild, a_imul, a_inc, a_iret, a_isub, a_push, a_wi, sh_19, sh_20, sh_21, sh_23, sh_24, pu_rv, pu_as, Value.category, pu_bk, pu_kl, List.replicate, pu_wi_1, pu_wi_2, nl_add, nl_ladd, nl_aa, nl_mul, nl_rmul, nl_mm, pu_qe0, pu_qe1, hc, s2, sub]
    all_goals try simp (maxSteps := 400000) (disch := omega) [nl_tle, nl_fle, nl_tlt, nl_flt, nl_teq, nl_feq, nl_sub, nl_ss, nl_lt, nl_llt, nl_ltt, nl_le, nl_lle, nl_lee, nl_eq, nl_leq, nl_ee, nl_div, nl_rem, nl_cl, nl_n1, nl_n2, nl_n3, nl_n4, nl_add, nl_ladd, nl_aa, nl_mul, nl_rmul, nl_mm, pu_wi_1, pu_wi_2, bX3_moveAll_9, bX3_moveAll_73, bX3_moveAll_67, bX3_moveAll_53, a_ai, a_ald, a_cv, a_gi, a_gr, a_icge, a_icne, a_ild, a_imul, a_inc, a_iret, a_isub, a_push, a_wi, sh_19, sh_20, sh_21, sh_23, sh_24, pu_rv, pu_as, Value.category, pu_bk, pu_kl, pu_qe0, pu_qe1, hc, s2, sub]
    all_goals try simp [bX3_moveAll_9, bX3_moveAll_73, bX3_moveAll_67, bX3_moveAll_53, a_ai, a_ald, a_cv, a_gi, a_gr, a_icge, a_icne, a_ild, a_imul, a_inc, a_iret, a_isub, a_push, a_wi, sh_19, sh_20, sh_21, sh_23, sh_24, pu_rv, pu_as, Value.category, pu_bk, pu_kl, List.replicate, pu_wi_1, pu_wi_2, nl_add, nl_ladd, nl_aa, nl_mul, nl_rmul, nl_mm, pu_qe0, pu_qe1, hc, s2, sub]
  | m + 1, i, N, h, S => by
    obtain ⟨s1, s2, s3, s4, s5⟩ := id S
    have hxN : pu_fx N := fun a k r q => by
      rw [s1]
      exact hx a k r q
    have hi : i < n := by omega
    have hi4 : i < 416 := by omega
    have hc : ¬ nI n ≤ nI i := nI_ge (by omega) (by omega)
    have g23 : N.1 23 i = M.1 23 i := s4 23 i (by omega) (by omega) (by omega)
    have g21 : N.1 21 i = M.1 21 i := s4 21 i (by omega) (by omega) (by omega)
    have g20 : N.1 20 i = M.1 20 i := s4 20 i (by omega) (by omega) (by omega)
    have f1 := fx_19_1 hxN
    have f2 := fx_19_2 hxN
    have f4 := fx_19_4 hxN
    have f5 := fx_19_5 hxN
    by_cases c : M.1 23 i = -1 ∧ M.1 21 i = b
    · have cl := py_mc_l (P := fun i => M.1 23 i = -1 ∧ M.1 21 i = b) (i := i) (j := n) hi c
      have ct := py_mc_t (P := fun i => M.1 23 i = -1 ∧ M.1 21 i = b) (i := i) c
      have e := c_nopen (M := pu_wi N 23 i p) (pz_fx_of hxN rfl) (n + py_mc (fun i => M.1 23 i = -1 ∧ M.1 21 i = b) i) (by rw [py_wi_o (by omega)]; exact s2) (by omega) (M.1 20 i) into 24 (3 * i) 1248 sh_24 (by omega) (by omega) p
      have v := py_no_v (M := pu_wi N 23 i p) (n := n + py_mc (fun i => M.1 23 i = -1 ∧ M.1 21 i = b) i) (st := M.1 20 i) (tn := into) (a := 24) (f := 3 * i) (p := p)
      have o : ∀ a j, ¬ (a = 19 ∧ j = 0) → ¬ (20 ≤ a ∧ a ≤ 23 ∧ j = n + py_mc (fun i => M.1 23 i = -1 ∧ M.1 21 i = b) i) → ¬ (a = 23 ∧ j = i) → (py_no (pu_wi N 23 i p) (n + py_mc (fun i => M.1 23 i = -1 ∧ M.1 21 i = b) i) (M.1 20 i) into 24 (3 * i) p).1 a j = N.1 a j := fun a j a1 a2 a3 => by rw [py_no_o a1 a2, py_wi_o a3]
      have o23 : (py_no (pu_wi N 23 i p) (n + py_mc (fun i => M.1 23 i = -1 ∧ M.1 21 i = b) i) (M.1 20 i) into 24 (3 * i) p).1 23 i = p := by
        rw [py_no_o (by omega) (by omega)]
        simp [pu_wi_1]
      have oL : ∀ a j, ¬ (a = 24 ∧ 3 * (n + py_mc (fun i => M.1 23 i = -1 ∧ M.1 21 i = b) i) ≤ j ∧ j < 3 * (n + py_mc (fun i => M.1 23 i = -1 ∧ M.1 21 i = b) i) + 3) → (py_no (pu_wi N 23 i p) (n + py_mc (fun i => M.1 23 i = -1 ∧ M.1 21 i = b) i) (M.1 20 i) into 24 (3 * i) p).2.1 a j = N.2.1 a j := fun a j a1 => by rw [py_no_L a1]; rfl
      have oW : ∀ w, w < 3 → (py_no (pu_wi N 23 i p) (n + py_mc (fun i => M.1 23 i = -1 ∧ M.1 21 i = b) i) (M.1 20 i) into 24 (3 * i) p).2.1 24 (3 * (n + py_mc (fun i => M.1 23 i = -1 ∧ M.1 21 i = b) i) + w) = N.2.1 24 (3 * i + w) := fun w hw => by rw [py_no_W hw]; rfl
      have o2 : (py_no (pu_wi N 23 i p) (n + py_mc (fun i => M.1 23 i = -1 ∧ M.1 21 i = b) i) (M.1 20 i) into 24 (3 * i) p).2.2 = N.2.2 := rfl
      generalize py_no (pu_wi N 23 i p) (n + py_mc (fun i => M.1 23 i = -1 ∧ M.1 21 i = b) i) (M.1 20 i) into 24 (3 * i) p = N' at *
      have S' : py_ms M N' (fun i => M.1 23 i = -1 ∧ M.1 21 i = b) n into p (i + 1) := by
        refine ⟨o2.trans s1, ?_, fun j hj pj => ?_, fun a j a1 a2 a3 => ?_, fun a j a1 => ?_⟩
        · rw [v.1, ct, Nat.add_assoc]
        · by_cases z : j = i
          · subst z
            refine ⟨o23, v.2.1, v.2.2.1, v.2.2.2.1, v.2.2.2.2, fun w hw => ?_⟩
            rw [oW w hw, s5 24 _ (by omega)]
          · have ji : j < i := by omega
            have cj := py_mc_l (P := fun i => M.1 23 i = -1 ∧ M.1 21 i = b) (i := j) (j := i) ji pj
            obtain ⟨y1, y2, y3, y4, y5, y6⟩ := s3 j ji pj
            refine ⟨by rw [o 23 j (by omega) (by omega) (by omega)]; exact y1, by rw [o 20 _ (by omega) (by omega) (by omega)]; exact y2, by rw [o 21 _ (by omega) (by omega) (by omega)]; exact y3, by rw [o 22 _ (by omega) (by omega) (by omega)]; exact y4, by rw [o 23 _ (by omega) (by omega) (by omega)]; exact y5, fun w hw => ?_⟩
            rw [oL 24 _ (by omega)]
            exact y6 w hw
        · rw [o a j a1 (by omega) (fun q => a2 ⟨q.1, by omega, by rw [q.2]; exact c⟩), s4 a j a1 (fun q => a2 ⟨q.1, by omega, q.2.2⟩) a3]
        · rw [oL a j (by omega), s5 a j a1]
      obtain ⟨F, F1, F2⟩ := c_move_l hx n b into p hn m (i + 1) N' (by omega) S'
      refine ⟨F, F1, ?_⟩
      rw [← F2]
      obtain ⟨c1, c2⟩ := c
      rw [c1] at g23
      rw [c2] at g21
      have w20 : (pu_wi N 23 i p).1 20 i = M.1 20 i := by rw [py_wi_o (by omega)]; exact g20
      rw [qX3_moveAll_9]
      simp [bX3_moveAll_9, bX3_moveAll_73, bX3_moveAll_67, bX3_moveAll_53, a_ai, a_ald, a_cv, a_gi, a_gr, a_icge, a_icne, a_ild, a_imul, a_inc, a_iret, a_isub, a_push, a_wi, sh_19, sh_20, sh_21, sh_23, sh_24, pu_rv, pu_as, Value.category, pu_bk, pu_kl, List.replicate, pu_wi_1, pu_wi_2, nl_add, nl_ladd, nl_aa, nl_mul, nl_rmul, nl_mm, pu_qe0, pu_qe1, hc, f1, f2, f4, f5, g23, g21, g20, hi4, e]
      all_goals try simp (maxSteps := 400000) (disch := omega) [nl_tle, nl_fle, nl_tlt, nl_flt, nl_teq, nl_feq, nl_sub, nl_ss, nl_lt, nl_llt, nl_ltt, nl_le, nl_lle, nl_lee, nl_eq, nl_leq, nl_ee, nl_div, nl_rem, nl_cl, nl_n1, nl_n2, nl_n3, nl_n4, nl_add, nl_ladd, nl_aa, nl_mul, nl_rmul, nl_mm, pu_wi_1, pu_wi_2, bX3_moveAll_9, bX3_moveAll_73, bX3_moveAll_67, bX3_moveAll_53, a_ai, a_ald, a_cv, a_gi, a_gr, a_icge, a_icne, a_ild, a_imul, a_inc, a_iret, a_isub, a_push, a_wi, sh_19, sh_20, sh_21, sh_23, sh_24, pu_rv, pu_as, Value.category, pu_bk, pu_kl, pu_qe0, pu_qe1, hc, f1, f2, f4, f5, g23, g21, g20, hi4, e]
      all_goals try simp [bX3_moveAll_9, bX3_moveAll_73, bX3_moveAll_67, bX3_moveAll_53, a_ai, a_ald, a_cv, a_gi, a_gr, a_icge, a_icne, a_ild, a_imul, a_inc, a_iret, a_isub, a_push, a_wi, sh_19, sh_20, sh_21, sh_23, sh_24, pu_rv, pu_as, Value.category, pu_bk, pu_kl, List.replicate, pu_wi_1, pu_wi_2, nl_add, nl_ladd, nl_aa, nl_mul, nl_rmul, nl_mm, pu_qe0, pu_qe1, hc, f1, f2, f4, f5, g23, g21, g20, hi4, e]
      all_goals try simp (maxSteps := 400000) (disch := omega) [nl_tle, nl_fle, nl_tlt, nl_flt, nl_teq, nl_feq, nl_sub, nl_ss, nl_lt, nl_llt, nl_ltt, nl_le, nl_lle, nl_lee, nl_eq, nl_leq, nl_ee, nl_div, nl_rem, nl_cl, nl_n1, nl_n2, nl_n3, nl_n4, nl_add, nl_ladd, nl_aa, nl_mul, nl_rmul, nl_mm, pu_wi_1, pu_wi_2, bX3_moveAll_9, bX3_moveAll_73, bX3_moveAll_67, bX3_moveAll_53, a_ai, a_ald, a_cv, a_gi, a_gr, a_icge, a_icne, a_ild, a_imul, a_inc, a_iret, a_isub, a_push, a_wi, sh_19, sh_20, sh_21, sh_23, sh_24, pu_rv, pu_as, Value.category, pu_bk, pu_kl, pu_qe0, pu_qe1, hc, f1, f2, f4, f5, g23, g21, g20, hi4, e]
      all_goals try simp [bX3_moveAll_9, bX3_moveAll_73, bX3_moveAll_67, bX3_moveAll_53, a_ai, a_ald, a_cv, a_gi, a_gr, a_icge, a_icne, a_ild, a_imul, a_inc, a_iret, a_isub, a_push, a_wi, sh_19, sh_20, sh_21, sh_23, sh_24, pu_rv, pu_as, Value.category, pu_bk, pu_kl, List.replicate, pu_wi_1, pu_wi_2, nl_add, nl_ladd, nl_aa, nl_mul, nl_rmul, nl_mm, pu_qe0, pu_qe1, hc, f1, f2, f4, f5, g23, g21, g20, hi4, e]
      all_goals try simp (maxSteps := 400000) (disch := omega) [nl_tle, nl_fle, nl_tlt, nl_flt, nl_teq, nl_feq, nl_sub, nl_ss, nl_lt, nl_llt, nl_ltt, nl_le, nl_lle, nl_lee, nl_eq, nl_leq, nl_ee, nl_div, nl_rem, nl_cl, nl_n1, nl_n2, nl_n3, nl_n4, nl_add, nl_ladd, nl_aa, nl_mul, nl_rmul, nl_mm, pu_wi_1, pu_wi_2, bX3_moveAll_9, bX3_moveAll_73, bX3_moveAll_67, bX3_moveAll_53, a_ai, a_ald, a_cv, a_gi, a_gr, a_icge, a_icne, a_ild, a_imul, a_inc, a_iret, a_isub, a_push, a_wi, sh_19, sh_20, sh_21, sh_23, sh_24, pu_rv, pu_as, Value.category, pu_bk, pu_kl, pu_qe0, pu_qe1, hc, f1, f2, f4, f5, g23, g21, g20, hi4, e]
      all_goals try simp [bX3_moveAll_9, bX3_moveAll_73, bX3_moveAll_67, bX3_moveAll_53, a_ai, a_ald, a_cv, a_gi, a_gr, a_icge, a_icne, a_ild, a_imul, a_inc, a_iret, a_isub, a_push, a_wi, sh_19, sh_20, sh_21, sh_23, sh_24, pu_rv, pu_as, Value.category, pu_bk, pu_kl, List.replicate, pu_wi_1, pu_wi_2, nl_add, nl_ladd, nl_aa, nl_mul, nl_rmul, nl_mm, pu_qe0, pu_qe1, hc, f1, f2, f4, f5, g23, g21, g20, hi4, e]
    · have ct := py_mc_f (P := fun i => M.1 23 i = -1 ∧ M.1 21 i = b) (i := i) c
      have S' : py_ms M N (fun i => M.1 23 i = -1 ∧ M.1 21 i = b) n into p (i + 1) := by
        refine ⟨s1, by rw [ct]; exact s2, fun j hj pj => ?_, fun a j a1 a2 a3 => ?_, s5⟩
        · have : j ≠ i := fun q => c (by rw [← q]; exact pj)
          exact s3 j (by omega) pj
        · exact s4 a j a1 (fun q => a2 ⟨q.1, by omega, q.2.2⟩) a3
      obtain ⟨F, F1, F2⟩ := c_move_l hx n b into p hn m (i + 1) N (by omega) S'
      refine ⟨F, F1, ?_⟩
      rw [← F2]
      by_cases c1 : M.1 23 i = -1
      · have c2 : ¬ M.1 21 i = b := fun z => c ⟨c1, z⟩
        rw [c1] at g23
        rw [qX3_moveAll_9]
        simp [bX3_moveAll_9, bX3_moveAll_73, bX3_moveAll_67, bX3_moveAll_53, a_ai, a_ald, a_cv, a_gi, a_gr, a_icge, a_icne, a_ild, a_imul, a_inc, a_iret, a_isub, a_push, a_wi, sh_19, sh_20, sh_21, sh_23, sh_24, pu_rv, pu_as, Value.category, pu_bk, pu_kl, List.replicate, pu_wi_1, pu_wi_2, nl_add, nl_ladd, nl_aa, nl_mul, nl_rmul, nl_mm, pu_qe0, pu_qe1, hc, f1, f2, f4, f5, g23, g21, c2, hi4]
        all_goals try simp (maxSteps := 400000) (disch := omega) [nl_tle, nl_fle, nl_tlt, nl_flt, nl_teq, nl_feq, nl_sub, nl_ss, nl_lt, nl_llt, nl_ltt, nl_le, nl_lle, nl_lee, nl_eq, nl_leq, nl_ee, nl_div, nl_rem, nl_cl, nl_n1, nl_n2, nl_n3, nl_n4, nl_add, nl_ladd, nl_aa, nl_mul, nl_rmul, nl_mm, pu_wi_1, pu_wi_2, bX3_moveAll_9, bX3_moveAll_73, bX3_moveAll_67, bX3_moveAll_53, a_ai, a_ald, a_cv, a_gi, a_gr, a_icge, a_icne, a_ild, a_imul, a_inc, a_iret, a_isub, a_push, a_wi, sh_19, sh_20, sh_21, sh_23, sh_24, pu_rv, pu_as, Value.category, pu_bk, pu_kl, pu_qe0, pu_qe1, hc, f1, f2, f4, f5, g23, g21, c2, hi4]
        all_goals try simp [bX3_moveAll_9, bX3_moveAll_73, bX3_moveAll_67, bX3_moveAll_53, a_ai, a_ald, a_cv, a_gi, a_gr, a_icge, a_icne, a_ild, a_imul, a_inc, a_iret, a_isub, a_push, a_wi, sh_19, sh_20, sh_21, sh_23, sh_24, pu_rv, pu_as, Value.category, pu_bk, pu_kl, List.replicate, pu_wi_1, pu_wi_2, nl_add, nl_ladd, nl_aa, nl_mul, nl_rmul, nl_mm, pu_qe0, pu_qe1, hc, f1, f2, f4, f5, g23, g21, c2, hi4]
        all_goals try simp (maxSteps := 400000) (disch := omega) [nl_tle, nl_fle, nl_tlt, nl_flt, nl_teq, nl_feq, nl_sub, nl_ss, nl_lt, nl_llt, nl_ltt, nl_le, nl_lle, nl_lee, nl_eq, nl_leq, nl_ee, nl_div, nl_rem, nl_cl, nl_n1, nl_n2, nl_n3, nl_n4, nl_add, nl_ladd, nl_aa, nl_mul, nl_rmul, nl_mm, pu_wi_1, pu_wi_2, bX3_moveAll_9, bX3_moveAll_73, bX3_moveAll_67, bX3_moveAll_53, a_ai, a_ald, a_cv, a_gi, a_gr, a_icge, a_icne, a_ild, a_imul, a_inc, a_iret, a_isub, a_push, a_wi, sh_19, sh_20, sh_21, sh_23, sh_24, pu_rv, pu_as, Value.category, pu_bk, pu_kl, pu_qe0, pu_qe1, hc, f1, f2, f4, f5, g23, g21, c2, hi4]
        all_goals try simp [bX3_moveAll_9, bX3_moveAll_73, bX3_moveAll_67, bX3_moveAll_53, a_ai, a_ald, a_cv, a_gi, a_gr, a_icge, a_icne, a_ild, a_imul, a_inc, a_iret, a_isub, a_push, a_wi, sh_19, sh_20, sh_21, sh_23, sh_24, pu_rv, pu_as, Value.category, pu_bk, pu_kl, List.replicate, pu_wi_1, pu_wi_2, nl_add, nl_ladd, nl_aa, nl_mul, nl_rmul, nl_mm, pu_qe0, pu_qe1, hc, f1, f2, f4, f5, g23, g21, c2, hi4]
        all_goals try simp (maxSteps := 400000) (disch := omega) [nl_tle, nl_fle, nl_tlt, nl_flt, nl_teq, nl_feq, nl_sub, nl_ss, nl_lt, nl_llt, nl_ltt, nl_le, nl_lle, nl_lee, nl_eq, nl_leq, nl_ee, nl_div, nl_rem, nl_cl, nl_n1, nl_n2, nl_n3, nl_n4, nl_add, nl_ladd, nl_aa, nl_mul, nl_rmul, nl_mm, pu_wi_1, pu_wi_2, bX3_moveAll_9, bX3_moveAll_73, bX3_moveAll_67, bX3_moveAll_53, a_ai, a_ald, a_cv, a_gi, a_gr, a_icge, a_icne, a_ild, a_imul, a_inc, a_iret, a_isub, a_push, a_wi, sh_19, sh_20, sh_21, sh_23, sh_24, pu_rv, pu_as, Value.category, pu_bk, pu_kl, pu_qe0, pu_qe1, hc, f1, f2, f4, f5, g23, g21, c2, hi4]
        all_goals try simp [bX3_moveAll_9, bX3_moveAll_73, bX3_moveAll_67, bX3_moveAll_53, a_ai, a_ald, a_cv, a_gi, a_gr, a_icge, a_icne, a_ild, a_imul, a_inc, a_iret, a_isub, a_push, a_wi, sh_19, sh_20, sh_21, sh_23, sh_24, pu_rv, pu_as, Value.category, pu_bk, pu_kl, List.replicate, pu_wi_1, pu_wi_2, nl_add, nl_ladd, nl_aa, nl_mul, nl_rmul, nl_mm, pu_qe0, pu_qe1, hc, f1, f2, f4, f5, g23, g21, c2, hi4]
      · rw [qX3_moveAll_9]
        simp [bX3_moveAll_9, bX3_moveAll_73, bX3_moveAll_67, bX3_moveAll_53, a_ai, a_ald, a_cv, a_gi, a_gr, a_icge, a_icne, a_ild, a_imul, a_inc, a_iret, a_isub, a_push, a_wi, sh_19, sh_20, sh_21, sh_23, sh_24, pu_rv, pu_as, Value.category, pu_bk, pu_kl, List.replicate, pu_wi_1, pu_wi_2, nl_add, nl_ladd, nl_aa, nl_mul, nl_rmul, nl_mm, pu_qe0, pu_qe1, hc, f1, f2, f4, f5, g23, c1, hi4]
        all_goals try simp (maxSteps := 400000) (disch := omega) [nl_tle, nl_fle, nl_tlt, nl_flt, nl_teq, nl_feq, nl_sub, nl_ss, nl_lt, nl_llt, nl_ltt, nl_le, nl_lle, nl_lee, nl_eq, nl_leq, nl_ee, nl_div, nl_rem, nl_cl, nl_n1, nl_n2, nl_n3, nl_n4, nl_add, nl_ladd, nl_aa, nl_mul, nl_rmul, nl_mm, pu_wi_1, pu_wi_2, bX3_moveAll_9, bX3_moveAll_73, bX3_moveAll_67, bX3_moveAll_53, a_ai, a_ald, a_cv, a_gi, a_gr, a_icge, a_icne, a_ild, a_imul, a_inc, a_iret, a_isub, a_push, a_wi, sh_19, sh_20, sh_21, sh_23, sh_24, pu_rv, pu_as, Value.category, pu_bk, pu_kl, pu_qe0, pu_qe1, hc, f1, f2, f4, f5, g23, c1, hi4]
        all_goals try simp [bX3_moveAll_9, bX3_moveAll_73, bX3_moveAll_67, bX3_moveAll_53, a_ai, a_ald, a_cv, a_gi, a_gr, a_icge, a_icne, a_ild, a_imul, a_inc, a_iret, a_isub, a_push, a_wi, sh_19, sh_20, sh_21, sh_23, sh_24, pu_rv, pu_as, Value.category, pu_bk, pu_kl, List.replicate, pu_wi_1, pu_wi_2, nl_add, nl_ladd, nl_aa, nl_mul, nl_rmul, nl_mm, pu_qe0, pu_qe1, hc, f1, f2, f4, f5, g23, c1, hi4]
        all_goals try simp (maxSteps := 400000) (disch := omega) [nl_tle, nl_fle, nl_tlt, nl_flt, nl_teq, nl_feq, nl_sub, nl_ss, nl_lt, nl_llt, nl_ltt, nl_le, nl_lle, nl_lee, nl_eq, nl_leq, nl_ee, nl_div, nl_rem, nl_cl, nl_n1, nl_n2, nl_n3, nl_n4, nl_add, nl_ladd, nl_aa, nl_mul, nl_rmul, nl_mm, pu_wi_1, pu_wi_2, bX3_moveAll_9, bX3_moveAll_73, bX3_moveAll_67, bX3_moveAll_53, a_ai, a_ald, a_cv, a_gi, a_gr, a_icge, a_icne, a_ild, a_imul, a_inc, a_iret, a_isub, a_push, a_wi, sh_19, sh_20, sh_21, sh_23, sh_24, pu_rv, pu_as, Value.category, pu_bk, pu_kl, pu_qe0, pu_qe1, hc, f1, f2, f4, f5, g23, c1, hi4]
        all_goals try simp [bX3_moveAll_9, bX3_moveAll_73, bX3_moveAll_67, bX3_moveAll_53, a_ai, a_ald, a_cv, a_gi, a_gr, a_icge, a_icne, a_ild, a_imul, a_inc, a_iret, a_isub, a_push, a_wi, sh_19, sh_20, sh_21, sh_23, sh_24, pu_rv, pu_as, Value.category, pu_bk, pu_kl, List.replicate, pu_wi_1, pu_wi_2, nl_add, nl_ladd, nl_aa, nl_mul, nl_rmul, nl_mm, pu_qe0, pu_qe1, hc, f1, f2, f4, f5, g23, c1, hi4]
        all_goals try simp (maxSteps := 400000) (disch := omega) [nl_tle, nl_fle, nl_tlt, nl_flt, nl_teq, nl_feq, nl_sub, nl_ss, nl_lt, nl_llt, nl_ltt, nl_le, nl_lle, nl_lee, nl_eq, nl_leq, nl_ee, nl_div, nl_rem, nl_cl, nl_n1, nl_n2, nl_n3, nl_n4, nl_add, nl_ladd, nl_aa, nl_mul, nl_rmul, nl_mm, pu_wi_1, pu_wi_2, bX3_moveAll_9, bX3_moveAll_73, bX3_moveAll_67, bX3_moveAll_53, a_ai, a_ald, a_cv, a_gi, a_gr, a_icge, a_icne, a_ild, a_imul, a_inc, a_iret, a_isub, a_push, a_wi, sh_19, sh_20, sh_21, sh_23, sh_24, pu_rv, pu_as, Value.category, pu_bk, pu_kl, pu_qe0, pu_qe1, hc, f1, f2, f4, f5, g23, c1, hi4]
        all_goals try simp [bX3_moveAll_9, bX3_moveAll_73, bX3_moveAll_67, bX3_moveAll_53, a_ai, a_ald, a_cv, a_gi, a_gr, a_icge, a_icne, a_ild, a_imul, a_inc, a_iret, a_isub, a_push, a_wi, sh_19, sh_20, sh_21, sh_23, sh_24, pu_rv, pu_as, Value.category, pu_bk, pu_kl, List.replicate, pu_wi_1, pu_wi_2, nl_add, nl_ladd, nl_aa, nl_mul, nl_rmul, nl_mm, pu_qe0, pu_qe1, hc, f1, f2, f4, f5, g23, c1, hi4]
theorem c_moveAll {M : pu_M} (hx : pu_fx M) (n : Nat) (h0 : M.1 19 0 = nI n) (b into p : Int32) (hn : n + py_mc (fun i => M.1 23 i = -1 ∧ M.1 21 i = b) n ≤ 416) : ∃ F, py_ms M F (fun i => M.1 23 i = -1 ∧ M.1 21 i = b) n into p n ∧ pu_r 119 [some (.ref 19), some (.int b), some (.int into), some (.int p)] [] M = some (some (.int (nI (py_mc (fun i => M.1 23 i = -1 ∧ M.1 21 i = b) n))), F) := by
  obtain ⟨F, F1, F2⟩ := c_move_l hx n b into p hn n 0 M (by omega) ⟨rfl, h0, fun j hj => by omega, fun _ _ _ _ _ => rfl, fun _ _ _ => rfl⟩
  rw [nI_0] at F2
  refine ⟨F, F1, ?_⟩
  rw [qX3_moveAll]
  simp [a_ent, bX3_moveAll_0, a_ald, a_gi, a_ist, a_push, sh_19, pu_rv, pu_as, Value.category, pu_bk, pu_kl, List.replicate, pu_wi_1, pu_wi_2, nl_add, nl_ladd, nl_aa, nl_mul, nl_rmul, nl_mm, pu_qe0, pu_qe1, h0, F2]
  all_goals try simp (maxSteps := 400000) (disch := omega) [nl_tle, nl_fle, nl_tlt, nl_flt, nl_teq, nl_feq, nl_sub, nl_ss, nl_lt, nl_llt, nl_ltt, nl_le, nl_lle, nl_lee, nl_eq, nl_leq, nl_ee, nl_div, nl_rem, nl_cl, nl_n1, nl_n2, nl_n3, nl_n4, nl_add, nl_ladd, nl_aa, nl_mul, nl_rmul, nl_mm, pu_wi_1, pu_wi_2, bX3_moveAll_0, a_ald, a_gi, a_ist, a_push, sh_19, pu_rv, pu_as, Value.category, pu_bk, pu_kl, pu_qe0, pu_qe1, h0, F2]
  all_goals try simp [bX3_moveAll_0, a_ald, a_gi, a_ist, a_push, sh_19, pu_rv, pu_as, Value.category, pu_bk, pu_kl, List.replicate, pu_wi_1, pu_wi_2, nl_add, nl_ladd, nl_aa, nl_mul, nl_rmul, nl_mm, pu_qe0, pu_qe1, h0, F2]
  all_goals try simp (maxSteps := 400000) (disch := omega) [nl_tle, nl_fle, nl_tlt, nl_flt, nl_teq, nl_feq, nl_sub, nl_ss, nl_lt, nl_llt, nl_ltt, nl_le, nl_lle, nl_lee, nl_eq, nl_leq, nl_ee, nl_div, nl_rem, nl_cl, nl_n1, nl_n2, nl_n3, nl_n4, nl_add, nl_ladd, nl_aa, nl_mul, nl_rmul, nl_mm, pu_wi_1, pu_wi_2, bX3_moveAll_0, a_ald, a_gi, a_ist, a_push, sh_19, pu_rv, pu_as, Value.category, pu_bk, pu_kl, pu_qe0, pu_qe1, h0, F2]
  all_goals try simp [bX3_moveAll_0, a_ald, a_gi, a_ist, a_push, sh_19, pu_rv, pu_as, Value.category, pu_bk, pu_kl, List.replicate, pu_wi_1, pu_wi_2, nl_add, nl_ladd, nl_aa, nl_mul, nl_rmul, nl_mm, pu_qe0, pu_qe1, h0, F2]
  all_goals try simp (maxSteps := 400000) (disch := omega) [nl_tle, nl_fle, nl_tlt, nl_flt, nl_teq, nl_feq, nl_sub, nl_ss, nl_lt, nl_llt, nl_ltt, nl_le, nl_lle, nl_lee, nl_eq, nl_leq, nl_ee, nl_div, nl_rem, nl_cl, nl_n1, nl_n2, nl_n3, nl_n4, nl_add, nl_ladd, nl_aa, nl_mul, nl_rmul, nl_mm, pu_wi_1, pu_wi_2, bX3_moveAll_0, a_ald, a_gi, a_ist, a_push, sh_19, pu_rv, pu_as, Value.category, pu_bk, pu_kl, pu_qe0, pu_qe1, h0, F2]
  all_goals try simp [bX3_moveAll_0, a_ald, a_gi, a_ist, a_push, sh_19, pu_rv, pu_as, Value.category, pu_bk, pu_kl, List.replicate, pu_wi_1, pu_wi_2, nl_add, nl_ladd, nl_aa, nl_mul, nl_rmul, nl_mm, pu_qe0, pu_qe1, h0, F2]
