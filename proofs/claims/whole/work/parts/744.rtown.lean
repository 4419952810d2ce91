/-! addresses: the reference's town; a fault told -/
section
variable {b : Nat → Nat} {t : Nat}
theorem r_town_l : ∀ (n w pos : Nat) (M : pu_M), pu_fx M → py_tr M b t → w + n = 3 → 0 < n → pos ≤ t → M.1 71 20 = nI pos → (∀ i, 12 * w ≤ i → i < 36 → M.1 82 i = 0) → ∃ N, py_rG M N 82 ∧ N.1 71 17 = M.1 71 17 ∧ N.1 71 18 = M.1 71 18 ∧ N.1 71 19 = M.1 71 19 ∧ (py_ns b t n pos ≠ none → N.1 72 15 = M.1 72 15) ∧ (¬ py_ns b t n pos ≠ none → N.1 72 15 = nI (py_nq b t n pos)) ∧ (∀ i, i < 12 * w → N.1 82 i = M.1 82 i) ∧ (∀ l, py_ns b t n pos = some l → ∀ k i, k < n → i < 12 → N.1 82 (12 * (w + k) + i) = pu_lt (l.getD k []) i) ∧ pu_r 493 [some (.ref 71), some (.int (nI w))] [] M = some (some (.int (pu_q (py_ns b t n pos ≠ none))), N)
  | 0, w, pos, M, hx, h, hn, h0, hp, h20, hz => absurd h0 (Nat.lt_irrefl _)
  | n + 1, w, pos, M, hx, h, hn, h0, hp, h20, hz => by
    have ht := h.2.1
    have f9 := fx_71_16 hx
    obtain ⟨N1, a1, a2, a3, a4, a5, a6⟩ := r_word_l (b := b) (t := t) 82 sh_82 (Or.inr rfl) w (by omega) 12 0 pos M hx h (by omega) hp h20 (fun i i1 i2 => hz (12 * w + i) (by omega) (by omega))
    have q := py_lw_l b t 12 pos hp
    have g1 : py_rG M N1 82 := ⟨a1, fun a j q1 q2 q3 => a2 a j (by omega) (by omega) q3⟩
    have hx1 : pu_fx N1 := pz_fx_of hx a1
    have tr1 := py_rG_r (Or.inr rfl) h g1
    have k17 : ∀ j, j ≠ 20 → N1.1 71 j = M.1 71 j := fun j hj => a2 71 j (by omega) (by omega) (by omega)
    have z1 : ∀ i, 12 * (w + 1) ≤ i → i < 36 → N1.1 82 i = 0 := fun i i1 i2 => by rw [a2 82 i (by omega) (by omega) (by omega)]; exact hz i (by omega) i2
    have o1 : ∀ i, i < 12 * w → N1.1 82 i = M.1 82 i := fun i hi => a2 82 i (by omega) (by omega) (by omega)
    have W : pu_r 305 [some (.ref 71), some (.ref 82), some (.int (nI w))] [] M = some (some (.int (pu_q (0 < 0 + (py_lw b t 12 pos).length ∧ ¬ (pos + (py_lw b t 12 pos).length < t ∧ 97 ≤ b (pos + (py_lw b t 12 pos).length) ∧ b (pos + (py_lw b t 12 pos).length) ≤ 122)))), N1) := by
      rw [nI_0] at a6
      generalize pu_q (0 < 0 + (py_lw b t 12 pos).length ∧ ¬ (pos + (py_lw b t 12 pos).length < t ∧ 97 ≤ b (pos + (py_lw b t 12 pos).length) ∧ b (pos + (py_lw b t 12 pos).length) ≤ 122)) = zz at *
      rw [qX12_word]
      simp [a_ent, bX12_word_0, a_ist, a_push, pu_rv, pu_as, Value.category, pu_bk, pu_kl, List.replicate, pu_wi_1, pu_wi_2, nl_add, nl_ladd, nl_aa, nl_mul, nl_rmul, nl_mm, pu_qe0, pu_qe1, a6]
      all_goals try simp (maxSteps := 400000) (disch := omega) [nl_tle, nl_fle, nl_tlt, nl_flt, nl_teq, nl_feq, nl_sub, nl_ss, nl_lt, nl_llt, nl_ltt, nl_le, nl_lle, nl_lee, nl_eq, nl_leq, nl_ee, nl_div, nl_rem, nl_cl, nl_n1, nl_n2, nl_n3, nl_n4, nl_add, nl_ladd, nl_aa, nl_mul, nl_rmul, nl_mm, pu_wi_1, pu_wi_2, bX12_word_0, a_ist, a_push, pu_rv, pu_as, Value.category, pu_bk, pu_kl, pu_qe0, pu_qe1, a6]
      all_goals try simp [bX12_word_0, a_ist, a_push, pu_rv, pu_as, Value.category, pu_bk, pu_kl, List.replicate, pu_wi_1, pu_wi_2, nl_add, nl_ladd, nl_aa, nl_mul, nl_rmul, nl_mm, pu_qe0, pu_qe1, a6]
      all_goals try simp (maxSteps := 400000) (disch := omega) [nl_tle, nl_fle, nl_tlt, nl_flt, nl_teq, nl_feq, nl_sub, nl_ss, nl_lt, nl_llt, nl_ltt, nl_le, nl_lle, nl_lee, nl_eq, nl_leq, nl_ee, nl_div, nl_rem, nl_cl, nl_n1, nl_n2, nl_n3, nl_n4, nl_add, nl_ladd, nl_aa, nl_mul, nl_rmul, nl_mm, pu_wi_1, pu_wi_2, bX12_word_0, a_ist, a_push, pu_rv, pu_as, Value.category, pu_bk, pu_kl, pu_qe0, pu_qe1, a6]
      all_goals try simp [bX12_word_0, a_ist, a_push, pu_rv, pu_as, Value.category, pu_bk, pu_kl, List.replicate, pu_wi_1, pu_wi_2, nl_add, nl_ladd, nl_aa, nl_mul, nl_rmul, nl_mm, pu_qe0, pu_qe1, a6]
      all_goals try simp (maxSteps := 400000) (disch := omega) [nl_tle, nl_fle, nl_tlt, nl_flt, nl_teq, nl_feq, nl_sub, nl_ss, nl_lt, nl_llt, nl_ltt, nl_le, nl_lle, nl_lee, nl_eq, nl_leq, nl_ee, nl_div, nl_rem, nl_cl, nl_n1, nl_n2, nl_n3, nl_n4, nl_add, nl_ladd, nl_aa, nl_mul, nl_rmul, nl_mm, pu_wi_1, pu_wi_2, bX12_word_0, a_ist, a_push, pu_rv, pu_as, Value.category, pu_bk, pu_kl, pu_qe0, pu_qe1, a6]
      all_goals try simp [bX12_word_0, a_ist, a_push, pu_rv, pu_as, Value.category, pu_bk, pu_kl, List.replicate, pu_wi_1, pu_wi_2, nl_add, nl_ladd, nl_aa, nl_mul, nl_rmul, nl_mm, pu_qe0, pu_qe1, a6]
    clear a6
    unfold py_ns py_nq
    generalize hds : py_lw b t 12 pos = ds at *
    rw [Nat.zero_add] at *
    by_cases c0 : ds = []
    · rw [if_pos c0, if_pos c0]
      have nk : ¬ (0 < ds.length ∧ ¬ (pos + ds.length < t ∧ 97 ≤ b (pos + ds.length) ∧ b (pos + ds.length) ≤ 122)) := fun z => by
        rw [c0] at z
        exact absurd z.1 (by simp)
      have f5 := a5 nk
      rw [pu_q0 nk] at W
      refine ⟨N1, g1, k17 17 (by omega), k17 18 (by omega), k17 19 (by omega), fun z => absurd rfl z, fun _ => by rw [f5, c0]; rfl, o1, fun l hl => (by cases hl), ?_⟩
      rw [pu_q0 (fun z => z rfl)]
      rw [qX12_townPart_2]
      simp [bX12_townPart_2, bX12_townPart_16, bX12_townPart_29, bX12_townPart_47, bX12_townPart_56, a_ald, a_cv, a_dup, a_gi, a_gr, a_iadd, a_icne, a_ifne, a_ild, a_inc, a_pi, a_push, a_zret, sh_71, sh_82, pu_rv, pu_as, Value.category, pu_bk, pu_kl, List.replicate, pu_wi_1, pu_wi_2, nl_add, nl_ladd, nl_aa, nl_mul, nl_rmul, nl_mm, pu_qe0, pu_qe1, f9, sh_82, W]
      all_goals try simp (maxSteps := 400000) (disch := omega) [nl_tle, nl_fle, nl_tlt, nl_flt, nl_teq, nl_feq, nl_sub, nl_ss, nl_lt, nl_llt, nl_ltt, nl_le, nl_lle, nl_lee, nl_eq, nl_leq, nl_ee, nl_div, nl_rem, nl_cl, nl_n1, nl_n2, nl_n3, nl_n4, nl_add, nl_ladd, nl_aa, nl_mul, nl_rmul, nl_mm, pu_wi_1, pu_wi_2, bX12_townPart_2, bX12_townPart_16, bX12_townPart_29, bX12_townPart_47, bX12_townPart_56, a_ald, a_cv, a_dup, a_gi, a_gr, a_iadd, a_icne, a_ifne, a_ild, a_inc, a_pi, a_push, a_zret, sh_71, sh_82, pu_rv, pu_as, Value.category, pu_bk, pu_kl, pu_qe0, pu_qe1, f9, sh_82, W]
      all_goals try simp [bX12_townPart_2, bX12_townPart_16, bX12_townPart_29, bX12_townPart_47, bX12_townPart_56, a_ald, a_cv, a_dup, a_gi, a_gr, a_iadd, a_icne, a_ifne, a_ild, a_inc, a_pi, a_push, a_zret, sh_71, sh_82, pu_rv, pu_as, Value.category, pu_bk, pu_kl, List.replicate, pu_wi_1, pu_wi_2, nl_add, nl_ladd, nl_aa, nl_mul, nl_rmul, nl_mm, pu_qe0, pu_qe1, f9, sh_82, W]
      all_goals try simp (maxSteps := 400000) (disch := omega) [nl_tle, nl_fle, nl_tlt, nl_flt, nl_teq, nl_feq, nl_sub, nl_ss, nl_lt, nl_llt, nl_ltt, nl_le, nl_lle, nl_lee, nl_eq, nl_leq, nl_ee, nl_div, nl_rem, nl_cl, nl_n1, nl_n2, nl_n3, nl_n4, nl_add, nl_ladd, nl_aa, nl_mul, nl_rmul, nl_mm, pu_wi_1, pu_wi_2, bX12_townPart_2, bX12_townPart_16, bX12_townPart_29, bX12_townPart_47, bX12_townPart_56, a_ald, a_cv, a_dup, a_gi, a_gr, a_iadd, a_icne, a_ifne, a_ild, a_inc, a_pi, a_push, a_zret, sh_71, sh_82, pu_rv, pu_as, Value.category, pu_bk, pu_kl, pu_qe0, pu_qe1, f9, sh_82, W]
      all_goals try simp [bX12_townPart_2, bX12_townPart_16, bX12_townPart_29, bX12_townPart_47, bX12_townPart_56, a_ald, a_cv, a_dup, a_gi, a_gr, a_iadd, a_icne, a_ifne, a_ild, a_inc, a_pi, a_push, a_zret, sh_71, sh_82, pu_rv, pu_as, Value.category, pu_bk, pu_kl, List.replicate, pu_wi_1, pu_wi_2, nl_add, nl_ladd, nl_aa, nl_mul, nl_rmul, nl_mm, pu_qe0, pu_qe1, f9, sh_82, W]
      all_goals try simp (maxSteps := 400000) (disch := omega) [nl_tle, nl_fle, nl_tlt, nl_flt, nl_teq, nl_feq, nl_sub, nl_ss, nl_lt, nl_llt, nl_ltt, nl_le, nl_lle, nl_lee, nl_eq, nl_leq, nl_ee, nl_div, nl_rem, nl_cl, nl_n1, nl_n2, nl_n3, nl_n4, nl_add, nl_ladd, nl_aa, nl_mul, nl_rmul, nl_mm, pu_wi_1, pu_wi_2, bX12_townPart_2, bX12_townPart_16, bX12_townPart_29, bX12_townPart_47, bX12_townPart_56, a_ald, a_cv, a_dup, a_gi, a_gr, a_iadd, a_icne, a_ifne, a_ild, a_inc, a_pi, a_push, a_zret, sh_71, sh_82, pu_rv, pu_as, Value.category, pu_bk, pu_kl, pu_qe0, pu_qe1, f9, sh_82, W]
      all_goals try simp [bX12_townPart_2, bX12_townPart_16, bX12_townPart_29, bX12_townPart_47, bX12_townPart_56, a_ald, a_cv, a_dup, a_gi, a_gr, a_iadd, a_icne, a_ifne, a_ild, a_inc, a_pi, a_push, a_zret, sh_71, sh_82, pu_rv, pu_as, Value.category, pu_bk, pu_kl, List.replicate, pu_wi_1, pu_wi_2, nl_add, nl_ladd, nl_aa, nl_mul, nl_rmul, nl_mm, pu_qe0, pu_qe1, f9, sh_82, W]
    · rw [if_neg c0, if_neg c0]
      have lp : 0 < ds.length := List.length_pos_iff.mpr c0
      by_cases k13 : pos + ds.length < t ∧ 97 ≤ b (pos + ds.length) ∧ b (pos + ds.length) ≤ 122
      · have nk : ¬ (0 < ds.length ∧ ¬ (pos + ds.length < t ∧ 97 ≤ b (pos + ds.length) ∧ b (pos + ds.length) ≤ 122)) := fun z => z.2 k13
        have f5 := a5 nk
        rw [pu_q0 nk] at W
        have nt : ¬ pos + ds.length = t := by omega
        have nb : ¬ b (pos + ds.length) = 32 := by omega
        rw [if_neg nt, if_neg nt, if_neg nb, if_neg nb]
        have SN : (if n = 0 then none else none : Option (List (List Nat))) = none := by split <;> rfl
        have SP : (if n = 0 then pos + ds.length else pos + ds.length) = pos + ds.length := by split <;> rfl
        rw [SN, SP]
        refine ⟨N1, g1, k17 17 (by omega), k17 18 (by omega), k17 19 (by omega), fun z => absurd rfl z, fun _ => f5, o1, fun l hl => (by cases hl), ?_⟩
        rw [pu_q0 (fun z => z rfl)]
        rw [qX12_townPart_2]
        simp [bX12_townPart_2, bX12_townPart_16, bX12_townPart_29, bX12_townPart_47, bX12_townPart_56, a_ald, a_cv, a_dup, a_gi, a_gr, a_iadd, a_icne, a_ifne, a_ild, a_inc, a_pi, a_push, a_zret, sh_71, sh_82, pu_rv, pu_as, Value.category, pu_bk, pu_kl, List.replicate, pu_wi_1, pu_wi_2, nl_add, nl_ladd, nl_aa, nl_mul, nl_rmul, nl_mm, pu_qe0, pu_qe1, f9, sh_82, W]
        all_goals try simp (maxSteps := 400000) (disch := omega) [nl_tle, nl_fle, nl_tlt, nl_flt, nl_teq, nl_feq, nl_sub, nl_ss, nl_lt, nl_llt, nl_ltt, nl_le, nl_lle, nl_lee, nl_eq, nl_leq, nl_ee, nl_div, nl_rem, nl_cl, nl_n1, nl_n2, nl_n3, nl_n4, nl_add, nl_ladd, nl_aa, nl_mul, nl_rmul, nl_mm, pu_wi_1, pu_wi_2, bX12_townPart_2, bX12_townPart_16, bX12_townPart_29, bX12_townPart_47, bX12_townPart_56, a_ald, a_cv, a_dup, a_gi, a_gr, a_iadd, a_icne, a_ifne, a_ild, a_inc, a_pi, a_push, a_zret, sh_71, sh_82, pu_rv, pu_as, Value.category, pu_bk, pu_kl, pu_qe0, pu_qe1, f9, sh_82, W]
        all_goals try simp [bX12_townPart_2, bX12_townPart_16, bX12_townPart_29, bX12_townPart_47, bX12_townPart_56, a_ald, a_cv, a_dup, a_gi, a_gr, a_iadd, a_icne, a_ifne, a_ild, a_inc, a_pi, a_push, a_zret, sh_71, sh_82, pu_rv, pu_as, Value.category, pu_bk, pu_kl, List.replicate, pu_wi_1, pu_wi_2, nl_add, nl_ladd, nl_aa, nl_mul, nl_rmul, nl_mm, pu_qe0, pu_qe1, f9, sh_82, W]
        all_goals try simp (maxSteps := 400000) (disch := omega) [nl_tle, nl_fle, nl_tlt, nl_flt, nl_teq, nl_feq, nl_sub, nl_ss, nl_lt, nl_llt, nl_ltt, nl_le, nl_lle, nl_lee, nl_eq, nl_leq, nl_ee, nl_div, nl_rem, nl_cl, nl_n1, nl_n2, nl_n3, nl_n4, nl_add, nl_ladd, nl_aa, nl_mul, nl_rmul, nl_mm, pu_wi_1, pu_wi_2, bX12_townPart_2, bX12_townPart_16, bX12_townPart_29, bX12_townPart_47, bX12_townPart_56, a_ald, a_cv, a_dup, a_gi, a_gr, a_iadd, a_icne, a_ifne, a_ild, a_inc, a_pi, a_push, a_zret, sh_71, sh_82, pu_rv, pu_as, Value.category, pu_bk, pu_kl, pu_qe0, pu_qe1, f9, sh_82, W]
        all_goals try simp [bX12_townPart_2, bX12_townPart_16, bX12_townPart_29, bX12_townPart_47, bX12_townPart_56, a_ald, a_cv, a_dup, a_gi, a_gr, a_iadd, a_icne, a_ifne, a_ild, a_inc, a_pi, a_push, a_zret, sh_71, sh_82, pu_rv, pu_as, Value.category, pu_bk, pu_kl, List.replicate, pu_wi_1, pu_wi_2, nl_add, nl_ladd, nl_aa, nl_mul, nl_rmul, nl_mm, pu_qe0, pu_qe1, f9, sh_82, W]
        all_goals try simp (maxSteps := 400000) (disch := omega) [nl_tle, nl_fle, nl_tlt, nl_flt, nl_teq, nl_feq, nl_sub, nl_ss, nl_lt, nl_llt, nl_ltt, nl_le, nl_lle, nl_lee, nl_eq, nl_leq, nl_ee, nl_div, nl_rem, nl_cl, nl_n1, nl_n2, nl_n3, nl_n4, nl_add, nl_ladd, nl_aa, nl_mul, nl_rmul, nl_mm, pu_wi_1, pu_wi_2, bX12_townPart_2, bX12_townPart_16, bX12_townPart_29, bX12_townPart_47, bX12_townPart_56, a_ald, a_cv, a_dup, a_gi, a_gr, a_iadd, a_icne, a_ifne, a_ild, a_inc, a_pi, a_push, a_zret, sh_71, sh_82, pu_rv, pu_as, Value.category, pu_bk, pu_kl, pu_qe0, pu_qe1, f9, sh_82, W]
        all_goals try simp [bX12_townPart_2, bX12_townPart_16, bX12_townPart_29, bX12_townPart_47, bX12_townPart_56, a_ald, a_cv, a_dup, a_gi, a_gr, a_iadd, a_icne, a_ifne, a_ild, a_inc, a_pi, a_push, a_zret, sh_71, sh_82, pu_rv, pu_as, Value.category, pu_bk, pu_kl, List.replicate, pu_wi_1, pu_wi_2, nl_add, nl_ladd, nl_aa, nl_mul, nl_rmul, nl_mm, pu_qe0, pu_qe1, f9, sh_82, W]
      · have f4 := a4 ⟨lp, k13⟩
        rw [pu_q1 ⟨lp, k13⟩] at W
        have h6 := tr1.1
        have p20 := f4.1
        have L0 : ∀ i, i < 12 → N1.1 82 (12 * w + i) = pu_lt ds i := fun i hi => by rw [← a3 i (by omega), Nat.add_zero]
        by_cases c1 : pos + ds.length = t
        · rw [if_pos c1, if_pos c1]
          rw [c1] at p20
          refine ⟨N1, g1, k17 17 (by omega), k17 18 (by omega), k17 19 (by omega), fun _ => f4.2, fun z => absurd (fun y => by cases y) z, o1, fun l hl k i hk hi => ?_, ?_⟩
          · cases hl
            cases k with
            | zero => exact L0 i hi
            | succ k =>
              rw [z1 _ (by omega) (by omega)]
              simp [py_lt_n]
          · rw [pu_q1 (fun z => by cases z)]
            rw [qX12_townPart_2]
            simp [bX12_townPart_2, bX12_townPart_16, bX12_townPart_29, bX12_townPart_47, bX12_townPart_56, a_ald, a_cv, a_dup, a_gi, a_gr, a_iadd, a_icne, a_ifne, a_ild, a_inc, a_pi, a_push, a_zret, sh_71, sh_82, pu_rv, pu_as, Value.category, pu_bk, pu_kl, List.replicate, pu_wi_1, pu_wi_2, nl_add, nl_ladd, nl_aa, nl_mul, nl_rmul, nl_mm, pu_qe0, pu_qe1, f9, sh_82, W, p20, h6]
            all_goals try simp (maxSteps := 400000) (disch := omega) [nl_tle, nl_fle, nl_tlt, nl_flt, nl_teq, nl_feq, nl_sub, nl_ss, nl_lt, nl_llt, nl_ltt, nl_le, nl_lle, nl_lee, nl_eq, nl_leq, nl_ee, nl_div, nl_rem, nl_cl, nl_n1, nl_n2, nl_n3, nl_n4, nl_add, nl_ladd, nl_aa, nl_mul, nl_rmul, nl_mm, pu_wi_1, pu_wi_2, bX12_townPart_2, bX12_townPart_16, bX12_townPart_29, bX12_townPart_47, bX12_townPart_56, a_ald, a_cv, a_dup, a_gi, a_gr, a_iadd, a_icne, a_ifne, a_ild, a_inc, a_pi, a_push, a_zret, sh_71, sh_82, pu_rv, pu_as, Value.category, pu_bk, pu_kl, pu_qe0, pu_qe1, f9, sh_82, W, p20, h6]
            all_goals try simp [bX12_townPart_2, bX12_townPart_16, bX12_townPart_29, bX12_townPart_47, bX12_townPart_56, a_ald, a_cv, a_dup, a_gi, a_gr, a_iadd, a_icne, a_ifne, a_ild, a_inc, a_pi, a_push, a_zret, sh_71, sh_82, pu_rv, pu_as, Value.category, pu_bk, pu_kl, List.replicate, pu_wi_1, pu_wi_2, nl_add, nl_ladd, nl_aa, nl_mul, nl_rmul, nl_mm, pu_qe0, pu_qe1, f9, sh_82, W, p20, h6]
            all_goals try simp (maxSteps := 400000) (disch := omega) [nl_tle, nl_fle, nl_tlt, nl_flt, nl_teq, nl_feq, nl_sub, nl_ss, nl_lt, nl_llt, nl_ltt, nl_le, nl_lle, nl_lee, nl_eq, nl_leq, nl_ee, nl_div, nl_rem, nl_cl, nl_n1, nl_n2, nl_n3, nl_n4, nl_add, nl_ladd, nl_aa, nl_mul, nl_rmul, nl_mm, pu_wi_1, pu_wi_2, bX12_townPart_2, bX12_townPart_16, bX12_townPart_29, bX12_townPart_47, bX12_townPart_56, a_ald, a_cv, a_dup, a_gi, a_gr, a_iadd, a_icne, a_ifne, a_ild, a_inc, a_pi, a_push, a_zret, sh_71, sh_82, pu_rv, pu_as, Value.category, pu_bk, pu_kl, pu_qe0, pu_qe1, f9, sh_82, W, p20, h6]
            all_goals try simp [bX12_townPart_2, bX12_townPart_16, bX12_townPart_29, bX12_townPart_47, bX12_townPart_56, a_ald, a_cv, a_dup, a_gi, a_gr, a_iadd, a_icne, a_ifne, a_ild, a_inc, a_pi, a_push, a_zret, sh_71, sh_82, pu_rv, pu_as, Value.category, pu_bk, pu_kl, List.replicate, pu_wi_1, pu_wi_2, nl_add, nl_ladd, nl_aa, nl_mul, nl_rmul, nl_mm, pu_qe0, pu_qe1, f9, sh_82, W, p20, h6]
            all_goals try simp (maxSteps := 400000) (disch := omega) [nl_tle, nl_fle, nl_tlt, nl_flt, nl_teq, nl_feq, nl_sub, nl_ss, nl_lt, nl_llt, nl_ltt, nl_le, nl_lle, nl_lee, nl_eq, nl_leq, nl_ee, nl_div, nl_rem, nl_cl, nl_n1, nl_n2, nl_n3, nl_n4, nl_add, nl_ladd, nl_aa, nl_mul, nl_rmul, nl_mm, pu_wi_1, pu_wi_2, bX12_townPart_2, bX12_townPart_16, bX12_townPart_29, bX12_townPart_47, bX12_townPart_56, a_ald, a_cv, a_dup, a_gi, a_gr, a_iadd, a_icne, a_ifne, a_ild, a_inc, a_pi, a_push, a_zret, sh_71, sh_82, pu_rv, pu_as, Value.category, pu_bk, pu_kl, pu_qe0, pu_qe1, f9, sh_82, W, p20, h6]
            all_goals try simp [bX12_townPart_2, bX12_townPart_16, bX12_townPart_29, bX12_townPart_47, bX12_townPart_56, a_ald, a_cv, a_dup, a_gi, a_gr, a_iadd, a_icne, a_ifne, a_ild, a_inc, a_pi, a_push, a_zret, sh_71, sh_82, pu_rv, pu_as, Value.category, pu_bk, pu_kl, List.replicate, pu_wi_1, pu_wi_2, nl_add, nl_ladd, nl_aa, nl_mul, nl_rmul, nl_mm, pu_qe0, pu_qe1, f9, sh_82, W, p20, h6]
        · rw [if_neg c1, if_neg c1]
          have ne : ¬ nI (pos + ds.length) = nI t := fun z => by
            rw [nI_eq (by omega) (by omega)] at z
            exact c1 z
          obtain ⟨u, e, hu⟩ := r_hereV hx1 tr1 (pos := pos + ds.length) (by omega)
          have e32 := py_hv hu 32 (by omega)
          have fa := r_faulty hx1 (nI (pos + ds.length))
          have FAIL : pu_r 493 [some (.ref 71), some (.int (nI w))] [] M = some (some (.int 0), pu_wi N1 72 15 (nI (pos + ds.length))) → ∃ N, py_rG M N 82 ∧ N.1 71 17 = M.1 71 17 ∧ N.1 71 18 = M.1 71 18 ∧ N.1 71 19 = M.1 71 19 ∧ ((none : Option (List (List Nat))) ≠ none → N.1 72 15 = M.1 72 15) ∧ (¬ (none : Option (List (List Nat))) ≠ none → N.1 72 15 = nI (pos + ds.length)) ∧ (∀ i, i < 12 * w → N.1 82 i = M.1 82 i) ∧ (∀ l, (none : Option (List (List Nat))) = some l → ∀ k i, k < n + 1 → i < 12 → N.1 82 (12 * (w + k) + i) = pu_lt (l.getD k []) i) ∧ pu_r 493 [some (.ref 71), some (.int (nI w))] [] M = some (some (.int (pu_q ((none : Option (List (List Nat))) ≠ none))), N) := fun K => by
            refine ⟨pu_wi N1 72 15 (nI (pos + ds.length)), ⟨a1, fun a j q1 q2 q3 => by rw [py_wi_o q3]; exact g1.2 a j q1 q2 q3⟩, by rw [py_wi_o (by omega)]; exact k17 17 (by omega), by rw [py_wi_o (by omega)]; exact k17 18 (by omega), by rw [py_wi_o (by omega)]; exact k17 19 (by omega), fun z => absurd rfl z, fun _ => by simp [pu_wi_1], fun i hi => by rw [py_wi_o (by omega)]; exact o1 i hi, fun l hl => (by cases hl), ?_⟩
            rw [pu_q0 (fun z => z rfl)]
            exact K
          by_cases c2 : n = 0
          · rw [if_pos c2, if_pos c2]
            refine FAIL ?_
            have w2 : w = 2 := by omega
            subst w2
            have e2 : nI 2 = (2 : Int32) := rfl
            rw [e2] at W
            by_cases u32 : u = 32
            · have v32 : (u = 32) = True := eq_true u32
              rw [qX12_townPart_2]
              simp [bX12_townPart_2, bX12_townPart_16, bX12_townPart_29, bX12_townPart_47, bX12_townPart_56, a_ald, a_cv, a_dup, a_gi, a_gr, a_iadd, a_icne, a_ifne, a_ild, a_inc, a_pi, a_push, a_zret, sh_71, sh_82, pu_rv, pu_as, Value.category, pu_bk, pu_kl, List.replicate, pu_wi_1, pu_wi_2, nl_add, nl_ladd, nl_aa, nl_mul, nl_rmul, nl_mm, pu_qe0, pu_qe1, f9, sh_82, W, p20, h6, ne, e, v32, e2, fa]
              all_goals try simp (maxSteps := 400000) (disch := omega) [nl_tle, nl_fle, nl_tlt, nl_flt, nl_teq, nl_feq, nl_sub, nl_ss, nl_lt, nl_llt, nl_ltt, nl_le, nl_lle, nl_lee, nl_eq, nl_leq, nl_ee, nl_div, nl_rem, nl_cl, nl_n1, nl_n2, nl_n3, nl_n4, nl_add, nl_ladd, nl_aa, nl_mul, nl_rmul, nl_mm, pu_wi_1, pu_wi_2, bX12_townPart_2, bX12_townPart_16, bX12_townPart_29, bX12_townPart_47, bX12_townPart_56, a_ald, a_cv, a_dup, a_gi, a_gr, a_iadd, a_icne, a_ifne, a_ild, a_inc, a_pi, a_push, a_zret, sh_71, sh_82, pu_rv, pu_as, Value.category, pu_bk, pu_kl, pu_qe0, pu_qe1, f9, sh_82, W, p20, h6, ne, e, v32, e2, fa]
              all_goals try simp [bX12_townPart_2, bX12_townPart_16, bX12_townPart_29, bX12_townPart_47, bX12_townPart_56, a_ald, a_cv, a_dup, a_gi, a_gr, a_iadd, a_icne, a_ifne, a_ild, a_inc, a_pi, a_push, a_zret, sh_71, sh_82, pu_rv, pu_as, Value.category, pu_bk, pu_kl, List.replicate, pu_wi_1, pu_wi_2, nl_add, nl_ladd, nl_aa, nl_mul, nl_rmul, nl_mm, pu_qe0, pu_qe1, f9, sh_82, W, p20, h6, ne, e, v32, e2, fa]
              all_goals try simp (maxSteps := 400000) (disch := omega) [nl_tle, nl_fle, nl_tlt, nl_flt, nl_teq, nl_feq, nl_sub, nl_ss, nl_lt, nl_llt, nl_ltt, nl_le, nl_lle, nl_lee, nl_eq, nl_leq, nl_ee, nl_div, nl_rem, nl_cl, nl_n1, nl_n2, nl_n3, nl_n4, nl_add, nl_ladd, nl_aa, nl_mul, nl_rmul, nl_mm, pu_wi_1, pu_wi_2, bX12_townPart_2, bX12_townPart_16, bX12_townPart_29, bX12_townPart_47, bX12_townPart_56, a_ald, a_cv, a_dup, a_gi, a_gr, a_iadd, a_icne, a_ifne, a_ild, a_inc, a_pi, a_push, a_zret, sh_71, sh_82, pu_rv, pu_as, Value.category, pu_bk, pu_kl, pu_qe0, pu_qe1, f9, sh_82, W, p20, h6, ne, e, v32, e2, fa]
              all_goals try simp [bX12_townPart_2, bX12_townPart_16, bX12_townPart_29, bX12_townPart_47, bX12_townPart_56, a_ald, a_cv, a_dup, a_gi, a_gr, a_iadd, a_icne, a_ifne, a_ild, a_inc, a_pi, a_push, a_zret, sh_71, sh_82, pu_rv, pu_as, Value.category, pu_bk, pu_kl, List.replicate, pu_wi_1, pu_wi_2, nl_add, nl_ladd, nl_aa, nl_mul, nl_rmul, nl_mm, pu_qe0, pu_qe1, f9, sh_82, W, p20, h6, ne, e, v32, e2, fa]
              all_goals try simp (maxSteps := 400000) (disch := omega) [nl_tle, nl_fle, nl_tlt, nl_flt, nl_teq, nl_feq, nl_sub, nl_ss, nl_lt, nl_llt, nl_ltt, nl_le, nl_lle, nl_lee, nl_eq, nl_leq, nl_ee, nl_div, nl_rem, nl_cl, nl_n1, nl_n2, nl_n3, nl_n4, nl_add, nl_ladd, nl_aa, nl_mul, nl_rmul, nl_mm, pu_wi_1, pu_wi_2, bX12_townPart_2, bX12_townPart_16, bX12_townPart_29, bX12_townPart_47, bX12_townPart_56, a_ald, a_cv, a_dup, a_gi, a_gr, a_iadd, a_icne, a_ifne, a_ild, a_inc, a_pi, a_push, a_zret, sh_71, sh_82, pu_rv, pu_as, Value.category, pu_bk, pu_kl, pu_qe0, pu_qe1, f9, sh_82, W, p20, h6, ne, e, v32, e2, fa]
              all_goals try simp [bX12_townPart_2, bX12_townPart_16, bX12_townPart_29, bX12_townPart_47, bX12_townPart_56, a_ald, a_cv, a_dup, a_gi, a_gr, a_iadd, a_icne, a_ifne, a_ild, a_inc, a_pi, a_push, a_zret, sh_71, sh_82, pu_rv, pu_as, Value.category, pu_bk, pu_kl, List.replicate, pu_wi_1, pu_wi_2, nl_add, nl_ladd, nl_aa, nl_mul, nl_rmul, nl_mm, pu_qe0, pu_qe1, f9, sh_82, W, p20, h6, ne, e, v32, e2, fa]
            · rw [qX12_townPart_2]
              simp [bX12_townPart_2, bX12_townPart_16, bX12_townPart_29, bX12_townPart_47, bX12_townPart_56, a_ald, a_cv, a_dup, a_gi, a_gr, a_iadd, a_icne, a_ifne, a_ild, a_inc, a_pi, a_push, a_zret, sh_71, sh_82, pu_rv, pu_as, Value.category, pu_bk, pu_kl, List.replicate, pu_wi_1, pu_wi_2, nl_add, nl_ladd, nl_aa, nl_mul, nl_rmul, nl_mm, pu_qe0, pu_qe1, f9, sh_82, W, p20, h6, ne, e, u32, e2, fa]
              all_goals try simp (maxSteps := 400000) (disch := omega) [nl_tle, nl_fle, nl_tlt, nl_flt, nl_teq, nl_feq, nl_sub, nl_ss, nl_lt, nl_llt, nl_ltt, nl_le, nl_lle, nl_lee, nl_eq, nl_leq, nl_ee, nl_div, nl_rem, nl_cl, nl_n1, nl_n2, nl_n3, nl_n4, nl_add, nl_ladd, nl_aa, nl_mul, nl_rmul, nl_mm, pu_wi_1, pu_wi_2, bX12_townPart_2, bX12_townPart_16, bX12_townPart_29, bX12_townPart_47, bX12_townPart_56, a_ald, a_cv, a_dup, a_gi, a_gr, a_iadd, a_icne, a_ifne, a_ild, a_inc, a_pi, a_push, a_zret, sh_71, sh_82, pu_rv, pu_as, Value.category, pu_bk, pu_kl, pu_qe0, pu_qe1, f9, sh_82, W, p20, h6, ne, e, u32, e2, fa]
              all_goals try simp [bX12_townPart_2, bX12_townPart_16, bX12_townPart_29, bX12_townPart_47, bX12_townPart_56, a_ald, a_cv, a_dup, a_gi, a_gr, a_iadd, a_icne, a_ifne, a_ild, a_inc, a_pi, a_push, a_zret, sh_71, sh_82, pu_rv, pu_as, Value.category, pu_bk, pu_kl, List.replicate, pu_wi_1, pu_wi_2, nl_add, nl_ladd, nl_aa, nl_mul, nl_rmul, nl_mm, pu_qe0, pu_qe1, f9, sh_82, W, p20, h6, ne, e, u32, e2, fa]
              all_goals try simp (maxSteps := 400000) (disch := omega) [nl_tle, nl_fle, nl_tlt, nl_flt, nl_teq, nl_feq, nl_sub, nl_ss, nl_lt, nl_llt, nl_ltt, nl_le, nl_lle, nl_lee, nl_eq, nl_leq, nl_ee, nl_div, nl_rem, nl_cl, nl_n1, nl_n2, nl_n3, nl_n4, nl_add, nl_ladd, nl_aa, nl_mul, nl_rmul, nl_mm, pu_wi_1, pu_wi_2, bX12_townPart_2, bX12_townPart_16, bX12_townPart_29, bX12_townPart_47, bX12_townPart_56, a_ald, a_cv, a_dup, a_gi, a_gr, a_iadd, a_icne, a_ifne, a_ild, a_inc, a_pi, a_push, a_zret, sh_71, sh_82, pu_rv, pu_as, Value.category, pu_bk, pu_kl, pu_qe0, pu_qe1, f9, sh_82, W, p20, h6, ne, e, u32, e2, fa]
              all_goals try simp [bX12_townPart_2, bX12_townPart_16, bX12_townPart_29, bX12_townPart_47, bX12_townPart_56, a_ald, a_cv, a_dup, a_gi, a_gr, a_iadd, a_icne, a_ifne, a_ild, a_inc, a_pi, a_push, a_zret, sh_71, sh_82, pu_rv, pu_as, Value.category, pu_bk, pu_kl, List.replicate, pu_wi_1, pu_wi_2, nl_add, nl_ladd, nl_aa, nl_mul, nl_rmul, nl_mm, pu_qe0, pu_qe1, f9, sh_82, W, p20, h6, ne, e, u32, e2, fa]
              all_goals try simp (maxSteps := 400000) (disch := omega) [nl_tle, nl_fle, nl_tlt, nl_flt, nl_teq, nl_feq, nl_sub, nl_ss, nl_lt, nl_llt, nl_ltt, nl_le, nl_lle, nl_lee, nl_eq, nl_leq, nl_ee, nl_div, nl_rem, nl_cl, nl_n1, nl_n2, nl_n3, nl_n4, nl_add, nl_ladd, nl_aa, nl_mul, nl_rmul, nl_mm, pu_wi_1, pu_wi_2, bX12_townPart_2, bX12_townPart_16, bX12_townPart_29, bX12_townPart_47, bX12_townPart_56, a_ald, a_cv, a_dup, a_gi, a_gr, a_iadd, a_icne, a_ifne, a_ild, a_inc, a_pi, a_push, a_zret, sh_71, sh_82, pu_rv, pu_as, Value.category, pu_bk, pu_kl, pu_qe0, pu_qe1, f9, sh_82, W, p20, h6, ne, e, u32, e2, fa]
              all_goals try simp [bX12_townPart_2, bX12_townPart_16, bX12_townPart_29, bX12_townPart_47, bX12_townPart_56, a_ald, a_cv, a_dup, a_gi, a_gr, a_iadd, a_icne, a_ifne, a_ild, a_inc, a_pi, a_push, a_zret, sh_71, sh_82, pu_rv, pu_as, Value.category, pu_bk, pu_kl, List.replicate, pu_wi_1, pu_wi_2, nl_add, nl_ladd, nl_aa, nl_mul, nl_rmul, nl_mm, pu_qe0, pu_qe1, f9, sh_82, W, p20, h6, ne, e, u32, e2, fa]
          · rw [if_neg c2, if_neg c2]
            have w2 : ¬ nI w = 2 := fun q => by
              rw [show (2 : Int32) = nI 2 from rfl, nI_eq (by omega) (by omega)] at q
              omega
            by_cases c3 : b (pos + ds.length) = 32
            · rw [if_pos c3, if_pos c3]
              have v32 : (u = 32) = True := eq_true (show u = nI 32 by rw [e32]; exact ⟨by omega, c3⟩)
              obtain ⟨N, b1, b7, b8, b9, b2, b3, b4, b5, b6⟩ := r_town_l n (w + 1) (pos + ds.length + 1) (pu_wi N1 71 20 (nI (pos + ds.length + 1))) hx1 (py_tr_w tr1 (by omega) (by omega)) (by omega) (by omega) (by omega) (by simp [pu_wi_1]) (fun i i1 i2 => by rw [py_wi_o (by omega)]; exact z1 i i1 i2)
              have e3 : (Option.map (fun l => ds :: l) (py_ns b t n (pos + ds.length + 1)) ≠ none) = (py_ns b t n (pos + ds.length + 1) ≠ none) := by
                simp
              rw [e3]
              refine ⟨N, ⟨b1.1.trans a1, fun a j q1 q2 q3 => by rw [b1.2 a j q1 q2 q3, py_wi_o (by omega)]; exact g1.2 a j q1 q2 q3⟩, by rw [b7, py_wi_o (by omega)]; exact k17 17 (by omega), by rw [b8, py_wi_o (by omega)]; exact k17 18 (by omega), by rw [b9, py_wi_o (by omega)]; exact k17 19 (by omega), fun z => by rw [b2 z, py_wi_o (by omega)]; exact f4.2, b3, fun i hi => by rw [b4 i (by omega), py_wi_o (by omega)]; exact o1 i hi, fun l hl k i hk hi => ?_, ?_⟩
              · rw [Option.map_eq_some_iff] at hl
                obtain ⟨l2, h1, h2⟩ := hl
                rw [← h2]
                cases k with
                | zero =>
                  rw [Nat.add_zero, b4 _ (by omega), py_wi_o (by omega)]
                  exact L0 i hi
                | succ k =>
                  have := b5 l2 h1 k i (by omega) hi
                  rw [show w + (k + 1) = w + 1 + k by omega, this]
                  rfl
              · generalize pu_q (py_ns b t n (pos + ds.length + 1) ≠ none) = zz at *
                rw [qX12_townPart_2]
                simp [bX12_townPart_2, bX12_townPart_16, bX12_townPart_29, bX12_townPart_47, bX12_townPart_56, a_ald, a_cv, a_dup, a_gi, a_gr, a_iadd, a_icne, a_ifne, a_ild, a_inc, a_pi, a_push, a_zret, sh_71, sh_82, pu_rv, pu_as, Value.category, pu_bk, pu_kl, List.replicate, pu_wi_1, pu_wi_2, nl_add, nl_ladd, nl_aa, nl_mul, nl_rmul, nl_mm, pu_qe0, pu_qe1, f9, sh_82, W, p20, h6, ne, e, v32, w2, b6]
                all_goals try simp (maxSteps := 400000) (disch := omega) [nl_tle, nl_fle, nl_tlt, nl_flt, nl_teq, nl_feq, nl_sub, nl_ss, nl_lt, nl_llt, nl_ltt, nl_le, nl_lle, nl_lee, nl_eq, nl_leq, nl_ee, nl_div, nl_rem, nl_cl, nl_n1, nl_n2, nl_n3, nl_n4, nl_add, nl_ladd, nl_aa, nl_mul, nl_rmul, nl_mm, pu_wi_1, pu_wi_2, bX12_townPart_2, bX12_townPart_16, bX12_townPart_29, bX12_townPart_47, bX12_townPart_56, a_ald, a_cv, a_dup, a_gi, a_gr, a_iadd, a_icne, a_ifne, a_ild, a_inc, a_pi, a_push, a_zret, sh_71, sh_82, pu_rv, pu_as, Value.category, pu_bk, pu_kl, pu_qe0, pu_qe1, f9, sh_82, W, p20, h6, ne, e, v32, w2, b6]
                all_goals try simp [bX12_townPart_2, bX12_townPart_16, bX12_townPart_29, bX12_townPart_47, bX12_townPart_56, a_ald, a_cv, a_dup, a_gi, a_gr, a_iadd, a_icne, a_ifne, a_ild, a_inc, a_pi, a_push, a_zret, sh_71, sh_82, pu_rv, pu_as, Value.category, pu_bk, pu_kl, List.replicate, pu_wi_1, pu_wi_2, nl_add, nl_ladd, nl_aa, nl_mul, nl_rmul, nl_mm, pu_qe0, pu_qe1, f9, sh_82, W, p20, h6, ne, e, v32, w2, b6]
                all_goals try simp (maxSteps := 400000) (disch := omega) [nl_tle, nl_fle, nl_tlt, nl_flt, nl_teq, nl_feq, nl_sub, nl_ss, nl_lt, nl_llt, nl_ltt, nl_le, nl_lle, nl_lee, nl_eq, nl_leq, nl_ee, nl_div, nl_rem, nl_cl, nl_n1, nl_n2, nl_n3, nl_n4, nl_add, nl_ladd, nl_aa, nl_mul, nl_rmul, nl_mm, pu_wi_1, pu_wi_2, bX12_townPart_2, bX12_townPart_16, bX12_townPart_29, bX12_townPart_47, bX12_townPart_56, a_ald, a_cv, a_dup, a_gi, a_gr, a_iadd, a_icne, a_ifne, a_ild, a_inc, a_pi, a_push, a_zret, sh_71, sh_82, pu_rv, pu_as, Value.category, pu_bk, pu_kl, pu_qe0, pu_qe1, f9, sh_82, W, p20, h6, ne, e, v32, w2, b6]
                all_goals try simp [bX12_townPart_2, bX12_townPart_16, bX12_townPart_29, bX12_townPart_47, bX12_townPart_56, a_ald, a_cv, a_dup, a_gi, a_gr, a_iadd, a_icne, a_ifne, a_ild, a_inc, a_pi, a_push, a_zret, sh_71, sh_82, pu_rv, pu_as, Value.category, pu_bk, pu_kl, List.replicate, pu_wi_1, pu_wi_2, nl_add, nl_ladd, nl_aa, nl_mul, nl_rmul, nl_mm, pu_qe0, pu_qe1, f9, sh_82, W, p20, h6, ne, e, v32, w2, b6]
                all_goals try simp (maxSteps := 400000) (disch := omega) [nl_tle, nl_fle, nl_tlt, nl_flt, nl_teq, nl_feq, nl_sub, nl_ss, nl_lt, nl_llt, nl_ltt, nl_le, nl_lle, nl_lee, nl_eq, nl_leq, nl_ee, nl_div, nl_rem, nl_cl, nl_n1, nl_n2, nl_n3, nl_n4, nl_add, nl_ladd, nl_aa, nl_mul, nl_rmul, nl_mm, pu_wi_1, pu_wi_2, bX12_townPart_2, bX12_townPart_16, bX12_townPart_29, bX12_townPart_47, bX12_townPart_56, a_ald, a_cv, a_dup, a_gi, a_gr, a_iadd, a_icne, a_ifne, a_ild, a_inc, a_pi, a_push, a_zret, sh_71, sh_82, pu_rv, pu_as, Value.category, pu_bk, pu_kl, pu_qe0, pu_qe1, f9, sh_82, W, p20, h6, ne, e, v32, w2, b6]
                all_goals try simp [bX12_townPart_2, bX12_townPart_16, bX12_townPart_29, bX12_townPart_47, bX12_townPart_56, a_ald, a_cv, a_dup, a_gi, a_gr, a_iadd, a_icne, a_ifne, a_ild, a_inc, a_pi, a_push, a_zret, sh_71, sh_82, pu_rv, pu_as, Value.category, pu_bk, pu_kl, List.replicate, pu_wi_1, pu_wi_2, nl_add, nl_ladd, nl_aa, nl_mul, nl_rmul, nl_mm, pu_qe0, pu_qe1, f9, sh_82, W, p20, h6, ne, e, v32, w2, b6]
            · rw [if_neg c3, if_neg c3]
              refine FAIL ?_
              have u32 : ¬ u = 32 := fun z => by
                have : u = nI 32 := z
                rw [e32] at this
                exact c3 this.2
              rw [qX12_townPart_2]
              simp [bX12_townPart_2, bX12_townPart_16, bX12_townPart_29, bX12_townPart_47, bX12_townPart_56, a_ald, a_cv, a_dup, a_gi, a_gr, a_iadd, a_icne, a_ifne, a_ild, a_inc, a_pi, a_push, a_zret, sh_71, sh_82, pu_rv, pu_as, Value.category, pu_bk, pu_kl, List.replicate, pu_wi_1, pu_wi_2, nl_add, nl_ladd, nl_aa, nl_mul, nl_rmul, nl_mm, pu_qe0, pu_qe1, f9, sh_82, W, p20, h6, ne, e, u32, fa]
              all_goals try simp (maxSteps := 400000) (disch := omega) [nl_tle, nl_fle, nl_tlt, nl_flt, nl_teq, nl_feq, nl_sub, nl_ss, nl_lt, nl_llt, nl_ltt, nl_le, nl_lle, nl_lee, nl_eq, nl_leq, nl_ee, nl_div, nl_rem, nl_cl, nl_n1, nl_n2, nl_n3, nl_n4, nl_add, nl_ladd, nl_aa, nl_mul, nl_rmul, nl_mm, pu_wi_1, pu_wi_2, bX12_townPart_2, bX12_townPart_16, bX12_townPart_29, bX12_townPart_47, bX12_townPart_56, a_ald, a_cv, a_dup, a_gi, a_gr, a_iadd, a_icne, a_ifne, a_ild, a_inc, a_pi, a_push, a_zret, sh_71, sh_82, pu_rv, pu_as, Value.category, pu_bk, pu_kl, pu_qe0, pu_qe1, f9, sh_82, W, p20, h6, ne, e, u32, fa]
              all_goals try simp [bX12_townPart_2, bX12_townPart_16, bX12_townPart_29, bX12_townPart_47, bX12_townPart_56, a_ald, a_cv, a_dup, a_gi, a_gr, a_iadd, a_icne, a_ifne, a_ild, a_inc, a_pi, a_push, a_zret, sh_71, sh_82, pu_rv, pu_as, Value.category, pu_bk, pu_kl, List.replicate, pu_wi_1, pu_wi_2, nl_add, nl_ladd, nl_aa, nl_mul, nl_rmul, nl_mm, pu_qe0, pu_qe1, f9, sh_82, W, p20, h6, ne, e, u32, fa]
              all_goals try simp (maxSteps := 400000) (disch := omega) [nl_tle, nl_fle, nl_tlt, nl_flt, nl_teq, nl_feq, nl_sub, nl_ss, nl_lt, nl_llt, nl_ltt, nl_le, nl_lle, nl_lee, nl_eq, nl_leq, nl_ee, nl_div, nl_rem, nl_cl, nl_n1, nl_n2, nl_n3, nl_n4, nl_add, nl_ladd, nl_aa, nl_mul, nl_rmul, nl_mm, pu_wi_1, pu_wi_2, bX12_townPart_2, bX12_townPart_16, bX12_townPart_29, bX12_townPart_47, bX12_townPart_56, a_ald, a_cv, a_dup, a_gi, a_gr, a_iadd, a_icne, a_ifne, a_ild, a_inc, a_pi, a_push, a_zret, sh_71, sh_82, pu_rv, pu_as, Value.category, pu_bk, pu_kl, pu_qe0, pu_qe1, f9, sh_82, W, p20, h6, ne, e, u32, fa]
              all_goals try simp [bX12_townPart_2, bX12_townPart_16, bX12_townPart_29, bX12_townPart_47, bX12_townPart_56, a_ald, a_cv, a_dup, a_gi, a_gr, a_iadd, a_icne, a_ifne, a_ild, a_inc, a_pi, a_push, a_zret, sh_71, sh_82, pu_rv, pu_as, Value.category, pu_bk, pu_kl, List.replicate, pu_wi_1, pu_wi_2, nl_add, nl_ladd, nl_aa, nl_mul, nl_rmul, nl_mm, pu_qe0, pu_qe1, f9, sh_82, W, p20, h6, ne, e, u32, fa]
              all_goals try simp (maxSteps := 400000) (disch := omega) [nl_tle, nl_fle, nl_tlt, nl_flt, nl_teq, nl_feq, nl_sub, nl_ss, nl_lt, nl_llt, nl_ltt, nl_le, nl_lle, nl_lee, nl_eq, nl_leq, nl_ee, nl_div, nl_rem, nl_cl, nl_n1, nl_n2, nl_n3, nl_n4, nl_add, nl_ladd, nl_aa, nl_mul, nl_rmul, nl_mm, pu_wi_1, pu_wi_2, bX12_townPart_2, bX12_townPart_16, bX12_townPart_29, bX12_townPart_47, bX12_townPart_56, a_ald, a_cv, a_dup, a_gi, a_gr, a_iadd, a_icne, a_ifne, a_ild, a_inc, a_pi, a_push, a_zret, sh_71, sh_82, pu_rv, pu_as, Value.category, pu_bk, pu_kl, pu_qe0, pu_qe1, f9, sh_82, W, p20, h6, ne, e, u32, fa]
              all_goals try simp [bX12_townPart_2, bX12_townPart_16, bX12_townPart_29, bX12_townPart_47, bX12_townPart_56, a_ald, a_cv, a_dup, a_gi, a_gr, a_iadd, a_icne, a_ifne, a_ild, a_inc, a_pi, a_push, a_zret, sh_71, sh_82, pu_rv, pu_as, Value.category, pu_bk, pu_kl, List.replicate, pu_wi_1, pu_wi_2, nl_add, nl_ladd, nl_aa, nl_mul, nl_rmul, nl_mm, pu_qe0, pu_qe1, f9, sh_82, W, p20, h6, ne, e, u32, fa]
end
section
variable {I J : Nat → Nat → Int32} {L : Nat → Nat → Int64} {s s' : Nat → Int32}
theorem St_fault (h : pu_St I L s) (F : ∀ x j, ¬ (x = 45 ∧ j = 0) → J x j = I x j) (G : ∀ j, j ≠ 15 → s' j = s j) (g : s' 15 = J 45 0) : pu_St J L s' := by
  obtain ⟨hw, hr⟩ := h
  have Y : ∀ x, x ≠ 45 → J x = I x := fun x hx => funext (fun j => F x j (by omega))
  have cP' : cP J = cP I := by unfold cP; rw [Y 6 (by omega)]
  have cU' : cU J = cU I := by unfold cU; rw [Y 14 (by omega)]
  have cN' : cN J = cN I := by unfold cN; rw [Y 19 (by omega)]
  have cK' : cK J = cK I := by unfold cK; rw [Y 25 (by omega)]
  have cT' : cT J = cT I := by unfold cT; rw [Y 25 (by omega)]
  have cD' : cD J = cD I := by unfold cD; rw [Y 31 (by omega)]
  have cF' : cF J = cF I := by unfold cF; rw [Y 42 (by omega)]
  have cQ' : cQ J = cQ I := by unfold cQ; rw [F 45 2 (by omega)]
  have cR' : cR J = cR I := by unfold cR; rw [F 45 3 (by omega)]
  have cS' : cS J = cS I := by unfold cS; rw [F 45 4 (by omega)]
  have cW' : cW J = cW I := by unfold cW; rw [F 45 5 (by omega)]
  have cE' : cE J = cE I := by unfold cE; rw [F 45 6 (by omega)]
  have cO' : cO J = cO I := by unfold cO; rw [F 45 7 (by omega)]
  have bN := wx_bN hw
  have bK := wx_bK hw
  have bP := wx_bP hw
  have bT := wx_bT hw
  have slE : ∀ k, pu_sl0 J k = pu_sl0 I k := fun k => by unfold pu_sl0; rw [Y 15 (by omega)]
  have tcE : ∀ p k, pu_tc J p k = pu_tc I p k := fun p k => by unfold pu_tc; rw [Y 9 (by omega), Y 10 (by omega)]
  have wp : w_p J := by
    unfold w_p
    simp only [tcE]
    rw [cP', cK', cT', Y 6 (by omega), Y 7 (by omega), Y 8 (by omega), Y 9 (by omega), Y 10 (by omega), Y 11 (by omega), Y 12 (by omega), Y 13 (by omega)]
    exact wg_p hw
  have wu : w_u J := by
    unfold w_u
    simp only [tcE, slE]
    rw [cP', cU', cD', cK', Y 15 (by omega), Y 16 (by omega), Y 17 (by omega), Y 18 (by omega), Y 32 (by omega), Y 36 (by omega), Y 37 (by omega), Y 38 (by omega), Y 39 (by omega), Y 40 (by omega), Y 41 (by omega)]
    exact wg_u hw
  have ctE : ∀ q t, pu_ct J q t = pu_ct I q t := fun q t => pz_ctc (fun p _ => by rw [Y 12 (by omega)]) t
  have wn : w_n J L := by
    unfold w_n
    simp only [ctE]
    rw [cP', cN', cK', cT', Y 7 (by omega), Y 9 (by omega), Y 11 (by omega), Y 12 (by omega), Y 20 (by omega), Y 21 (by omega), Y 22 (by omega), Y 23 (by omega), Y 28 (by omega)]
    exact wg_n hw
  have wk : w_k J L := by
    unfold w_k
    simp only [tcE]
    rw [cP', cK', cT', Y 9 (by omega), Y 27 (by omega), Y 28 (by omega), Y 29 (by omega), Y 30 (by omega)]
    exact wg_k hw
  have wd : w_d J := by
    unfold w_d
    simp only [tcE]
    rw [cP', cK', cD', Y 32 (by omega), Y 33 (by omega), Y 34 (by omega), Y 35 (by omega), Y 36 (by omega), Y 37 (by omega), Y 38 (by omega), Y 39 (by omega), Y 40 (by omega), Y 41 (by omega)]
    exact wg_d hw
  have we : w_e J L := by
    unfold w_e
    rw [cS', cF', cW', Y 53 (by omega), Y 54 (by omega)]
    exact wg_e hw
  refine ⟨⟨⟨?_, ?_, ?_, ?_, ?_, ?_, ?_, ?_, ?_, ?_, ?_, ?_, ?_⟩, ⟨by rw [cP']; exact bP, by rw [cU']; exact wx_bU hw, by rw [cN']; exact bN, by rw [cT']; exact bT, by rw [cK']; exact bK, by rw [cD']; exact wx_bD hw, by rw [cF']; exact wx_bF hw, by rw [cQ']; exact wx_bQ hw, by rw [cR']; exact wx_bR hw, by rw [cS']; exact wx_bS hw, by rw [cW']; exact wx_bW hw, by rw [cE']; exact wx_bE hw, by rw [cO']; exact wx_bO hw⟩, wp, wu, wn, wk, wd, we⟩, ⟨?_, ?_, ?_, ?_, ?_, ?_, ?_, ?_, ?_, ?_, ?_, ?_, ?_, ?_, ?_, ?_, ?_⟩, ?_, ?_, ?_, ?_, ?_, ?_, ?_, ?_⟩
  · rw [cP', Y 6 (by omega)]; exact wx_cP hw
  · rw [cU', Y 14 (by omega)]; exact wx_cU hw
  · rw [cN', Y 19 (by omega)]; exact wx_cN hw
  · rw [cT', Y 25 (by omega)]; exact wx_cT hw
  · rw [cK', Y 25 (by omega)]; exact wx_cK hw
  · rw [cD', Y 31 (by omega)]; exact wx_cD hw
  · rw [cF', Y 42 (by omega)]; exact wx_cF hw
  · rw [F 45 2 (by omega), cQ']; exact wx_cQ hw
  · rw [F 45 3 (by omega), cR']; exact wx_cR hw
  · rw [F 45 4 (by omega), cS']; exact wx_cS hw
  · rw [F 45 5 (by omega), cW']; exact wx_cW hw
  · rw [F 45 6 (by omega), cE']; exact wx_cE hw
  · rw [F 45 7 (by omega), cO']; exact wx_cO hw
  · rw [G _ (by omega), Y 6 (by omega)]; exact rl_h0 hr
  · rw [G _ (by omega), Y 6 (by omega)]; exact rl_h1 hr
  · rw [G _ (by omega), cT']; exact rl_h2 hr
  · rw [G _ (by omega), cK']; exact rl_h3 hr
  · rw [G _ (by omega), cD']; exact rl_h4 hr
  · rw [G _ (by omega), cP']; exact rl_h5 hr
  · rw [G _ (by omega), cU']; exact rl_h6 hr
  · rw [G _ (by omega), cN']; exact rl_h7 hr
  · rw [G _ (by omega), cF']; exact rl_h8 hr
  · rw [G _ (by omega), cS']; exact rl_h9 hr
  · rw [G _ (by omega), cE']; exact rl_h10 hr
  · rw [G _ (by omega), cQ']; exact rl_h11 hr
  · rw [G _ (by omega), cW']; exact rl_h12 hr
  · rw [G _ (by omega), cO']; exact rl_h13 hr
  · rw [G _ (by omega), cR']; exact rl_h14 hr
  · exact g
  · rw [G _ (by omega), F 45 1 (by omega)]; exact rl_h16 hr
  · have T := rf_p (rg_p hr) bP (s' := s') (fun j _ _ => G j (by omega))
    unfold rl_p
    rw [cP', Y 7 (by omega), Y 8 (by omega), Y 9 (by omega), Y 10 (by omega), Y 11 (by omega), Y 12 (by omega), Y 13 (by omega)]
    exact T
  · exact ru_same cU' (fun x _ _ k _ => F x k (by omega)) (fun k _ => F 39 _ (by omega)) (rf_u (rg_u hr) (wx_bU hw) (fun j _ _ => G j (by omega)))
  · exact rn_same cN' (fun x _ _ k _ => F x k (by omega)) (fun j _ => rfl) (rf_n (rg_n hr) ⟨bN, bP⟩ (fun j _ _ => G j (by omega)) (fun j _ _ => G j (by omega)))
  · have T := rf_t (rg_t hr) bT (s' := s') (fun j _ _ => G j (by omega)) (fun j _ _ => G j (by omega))
    unfold rl_t
    rw [cP', cT', Y 12 (by omega)]
    exact T
  · have T := rf_k (rg_k hr) bK (s' := s') (fun j _ _ => G j (by omega)) (fun j _ _ => G j (by omega))
    unfold rl_k
    rw [cK', Y 27 (by omega), Y 29 (by omega), Y 30 (by omega)]
    exact T
  · exact rd_same cD' (fun x _ _ k _ => F x k (by omega)) (fun x _ _ k _ => F x k (by omega)) (rf_d (rg_d hr) (wx_bD hw) (fun j _ _ => G j (by omega)))
  · have T := rf_f (rg_f hr) (wx_bF hw) (s' := s') (fun j _ _ => G j (by omega))
    unfold rl_f
    rw [cF']
    exact T
  · have T := rf_e (rg_e hr) ⟨wx_bS hw, wx_bE hw, wx_bQ hw, wx_bW hw, wx_bO hw, wx_bR hw⟩ (s' := s') (fun j _ _ => G j (by omega))
    unfold rl_e
    rw [cS', cE', cQ', cW', cO', cR', Y 52 (by omega), Y 53 (by omega), Y 55 (by omega), Y 46 (by omega), Y 47 (by omega), Y 54 (by omega), Y 56 (by omega), Y 57 (by omega), Y 49 (by omega), Y 50 (by omega)]
    exact T
end
