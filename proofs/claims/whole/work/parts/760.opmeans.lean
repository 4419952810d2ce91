/-! means, the reference's run; both sides -/
/-- an office with c found doors, as the reference's row has them -/
def py_JF (I : Nat → Nat → Int32) (s : Nat → Int32) (c : Nat) : Nat → Nat → Int32 := pu_dk I (fun a j => if a = 45 ∧ j = 2 then nI c else if a = 46 then s (59588 + 2 * j) else if a = 47 then s (59588 + 2 * j + 1) else I a j)
theorem St_JF {I : Nat → Nat → Int32} {L : Nat → Nat → Int64} {s s' : Nat → Int32} (h : pu_St I L s) {c : Nat} (hc : c ≤ 100) (G : ∀ j, j ≠ 11 → ¬ (59588 ≤ j ∧ j < 59788) → s' j = s j) (g11 : s' 11 = nI c) : pu_St (py_JF I s' c) L s' := by
  refine St_found h hc (fun x j z1 z2 => ?_) ?_ G g11 (fun k hk => ⟨?_, ?_⟩)
  · unfold py_JF pu_dk
    by_cases z : x < 45
    · rw [if_pos z]
    · rw [if_neg z]
      show (if x = 45 ∧ j = 2 then _ else if x = 46 then _ else if x = 47 then _ else I x j) = I x j
      rw [if_neg z2, if_neg (by omega), if_neg (by omega)]
  · rfl
  · rfl
  · rfl
section
variable {I : Nat → Nat → Int32} {L : Nat → Nat → Int64} {s0 : Nat → Int32} {st : Nat} {y : Int32}
theorem r_mn_l (h : pu_St I L s0) {w x k n : Nat} {W : Nat → Nat} (hn : n ≤ 100) (hxl : x < 5) (hk : k < 100) (hW : py_SL (py_ky I st y) (py_ls I st w y (cU I)) W n) (t2 t3 : Int32) : ∀ (m i : Nat) (N : pu_M) (X : Nat → Nat) (c : Nat) (t6 : Option Value), i + m = n → c ≤ i → pu_fx N → (∀ j, j ≠ 11 → ¬ (59588 ≤ j ∧ j < 59788) → N.1 72 j = s0 j) → N.1 72 11 = nI c → N.1 71 18 = nI x → N.1 71 19 = nI k → (∀ j, j < n → N.1 83 j = nI (W j)) → (∀ j, j < c → N.1 72 (59588 + 2 * j) = py_td I x k (pu_sl0 I (X j) / 2) y ∧ N.1 72 (59588 + 2 * j + 1) = 0) → py_SL (py_ky I st y) (fun l => ∃ a, a < i ∧ W a = l ∧ py_td I x k (pu_sl0 I l / 2) y ≠ -1) X c → ∃ N1 X1 c1, c1 ≤ n ∧ N1.2 = N.2 ∧ (∀ a j, a ≠ 72 → N1.1 a j = N.1 a j) ∧ (∀ j, j ≠ 11 → ¬ (59588 ≤ j ∧ j < 59788) → N1.1 72 j = s0 j) ∧ N1.1 72 11 = nI c1 ∧ (∀ j, j < c1 → N1.1 72 (59588 + 2 * j) = py_td I x k (pu_sl0 I (X1 j) / 2) y ∧ N1.1 72 (59588 + 2 * j + 1) = 0) ∧ py_SL (py_ky I st y) (fun l => ∃ a, a < n ∧ W a = l ∧ py_td I x k (pu_sl0 I l / 2) y ≠ -1) X1 c1 ∧ pu_r 503 [some (.ref 71), some (.int y), some (.int t2), some (.int t3), some (.int (nI n)), some (.int (nI i)), t6] [] N = some (some (.int (nI c1)), N1)
  | 0, i, N, X, c, t6, hi, hc, hx, fr, h11, h18, h19, h83, hf, sl => by
    have e : i = n := by omega
    have hcc : nI n ≤ nI n := nI_le (by omega) (by omega)
    refine ⟨N, X, c, by omega, rfl, fun _ _ _ => rfl, fr, h11, hf, by rw [← e]; exact sl, ?_⟩
    rw [e]
    rw [qX12_means_99]
    simp [bX12_means_99, bX12_means_199, bX12_means_141, bX12_means_180, bX12_means_193, a_ai, a_ald, a_cv, a_dup2, a_gr, a_iadd, a_icge, a_icne, a_ild, a_imul, a_inc, a_iret, a_ist, a_push, a_wi, fx_71_0 hx, fx_71_23 hx, sh_71, sh_72, sh_83, pu_rv, pu_as, Value.category, pu_bk, pu_kl, List.replicate, pu_wi_1, pu_wi_2, nl_add, nl_ladd, nl_aa, nl_mul, nl_rmul, nl_mm, pu_qe0, pu_qe1, hcc, h11]
    all_goals try simp (maxSteps := 400000) (disch := omega) [nl_tle, nl_fle, nl_tlt, nl_flt, nl_teq, nl_feq, nl_sub, nl_ss, nl_lt, nl_llt, nl_ltt, nl_le, nl_lle, nl_lee, nl_eq, nl_leq, nl_ee, nl_div, nl_rem, nl_cl, nl_n1, nl_n2, nl_n3, nl_n4, nl_add, nl_ladd, nl_aa, nl_mul, nl_rmul, nl_mm, pu_wi_1, pu_wi_2, bX12_means_99, bX12_means_199, bX12_means_141, bX12_means_180, bX12_means_193, a_ai, a_ald, a_cv, a_dup2, a_gr, a_iadd, a_icge, a_icne, a_ild, a_imul, a_inc, a_iret, a_ist, a_push, a_wi, fx_71_0 hx, fx_71_23 hx, sh_71, sh_72, sh_83, pu_rv, pu_as, Value.category, pu_bk, pu_kl, pu_qe0, pu_qe1, hcc, h11]
    all_goals try simp [bX12_means_99, bX12_means_199, bX12_means_141, bX12_means_180, bX12_means_193, a_ai, a_ald, a_cv, a_dup2, a_gr, a_iadd, a_icge, a_icne, a_ild, a_imul, a_inc, a_iret, a_ist, a_push, a_wi, fx_71_0 hx, fx_71_23 hx, sh_71, sh_72, sh_83, pu_rv, pu_as, Value.category, pu_bk, pu_kl, List.replicate, pu_wi_1, pu_wi_2, nl_add, nl_ladd, nl_aa, nl_mul, nl_rmul, nl_mm, pu_qe0, pu_qe1, hcc, h11]
    all_goals try simp (maxSteps := 400000) (disch := omega) [nl_tle, nl_fle, nl_tlt, nl_flt, nl_teq, nl_feq, nl_sub, nl_ss, nl_lt, nl_llt, nl_ltt, nl_le, nl_lle, nl_lee, nl_eq, nl_leq, nl_ee, nl_div, nl_rem, nl_cl, nl_n1, nl_n2, nl_n3, nl_n4, nl_add, nl_ladd, nl_aa, nl_mul, nl_rmul, nl_mm, pu_wi_1, pu_wi_2, bX12_means_99, bX12_means_199, bX12_means_141, bX12_means_180, bX12_means_193, a_ai, a_ald, a_cv, a_dup2, a_gr, a_iadd, a_icge, a_icne, a_ild, a_imul, a_inc, a_iret, a_ist, a_push, a_wi, fx_71_0 hx, fx_71_23 hx, sh_71, sh_72, sh_83, pu_rv, pu_as, Value.category, pu_bk, pu_kl, pu_qe0, pu_qe1, hcc, h11]
    all_goals try simp [bX12_means_99, bX12_means_199, bX12_means_141, bX12_means_180, bX12_means_193, a_ai, a_ald, a_cv, a_dup2, a_gr, a_iadd, a_icge, a_icne, a_ild, a_imul, a_inc, a_iret, a_ist, a_push, a_wi, fx_71_0 hx, fx_71_23 hx, sh_71, sh_72, sh_83, pu_rv, pu_as, Value.category, pu_bk, pu_kl, List.replicate, pu_wi_1, pu_wi_2, nl_add, nl_ladd, nl_aa, nl_mul, nl_rmul, nl_mm, pu_qe0, pu_qe1, hcc, h11]
    all_goals try simp (maxSteps := 400000) (disch := omega) [nl_tle, nl_fle, nl_tlt, nl_flt, nl_teq, nl_feq, nl_sub, nl_ss, nl_lt, nl_llt, nl_ltt, nl_le, nl_lle, nl_lee, nl_eq, nl_leq, nl_ee, nl_div, nl_rem, nl_cl, nl_n1, nl_n2, nl_n3, nl_n4, nl_add, nl_ladd, nl_aa, nl_mul, nl_rmul, nl_mm, pu_wi_1, pu_wi_2, bX12_means_99, bX12_means_199, bX12_means_141, bX12_means_180, bX12_means_193, a_ai, a_ald, a_cv, a_dup2, a_gr, a_iadd, a_icge, a_icne, a_ild, a_imul, a_inc, a_iret, a_ist, a_push, a_wi, fx_71_0 hx, fx_71_23 hx, sh_71, sh_72, sh_83, pu_rv, pu_as, Value.category, pu_bk, pu_kl, pu_qe0, pu_qe1, hcc, h11]
    all_goals try simp [bX12_means_99, bX12_means_199, bX12_means_141, bX12_means_180, bX12_means_193, a_ai, a_ald, a_cv, a_dup2, a_gr, a_iadd, a_icge, a_icne, a_ild, a_imul, a_inc, a_iret, a_ist, a_push, a_wi, fx_71_0 hx, fx_71_23 hx, sh_71, sh_72, sh_83, pu_rv, pu_as, Value.category, pu_bk, pu_kl, List.replicate, pu_wi_1, pu_wi_2, nl_add, nl_ladd, nl_aa, nl_mul, nl_rmul, nl_mm, pu_qe0, pu_qe1, hcc, h11]
  | m + 1, i, N, X, c, t6, hi, hc, hx, fr, h11, h18, h19, h83, hf, sl => by
    have hw := h.1
    have bU := wx_bU hw
    have bD := wx_bD hw
    have inn : i < n := by omega
    have hcc : ¬ nI n ≤ nI i := nI_ge (by omega) (by omega)
    have i2 : i < 200 := by omega
    have SJ := St_JF h (c := c) (s' := N.1 72) (by omega) fr h11
    obtain ⟨l1, l2, l3, l4⟩ := hW.1 i inn
    have wl : W i < 3000 := by omega
    have w83 := h83 i inn
    have sl0 := (pu_sl_lt hw l1).1
    have u0 : N.1 72 (10752 + 6 * W i) = nI (pu_sl0 I (W i) / 2) := by
      rw [fr _ (by omega) (by omega)]
      exact rl_u0 h.2 (W i) l1
    have we : pu_r 318 [some (.ref 71), some (.int (nI (pu_sl0 I (W i) / 2))), some (.int y)] [] N = some (some (.int (py_td I x k (pu_sl0 I (W i) / 2) y)), N) := r_withExtra hx SJ.2 SJ.1 hxl hk h18 h19 (pu_sl0 I (W i) / 2) (show pu_sl0 I (W i) / 2 < cD I by omega) y (show pu_sd I (pu_sl0 I (W i) / 2) y from (pu_sd_of hw l1 l3.2).1)
    by_cases c0 : py_td I x k (pu_sl0 I (W i) / 2) y = -1
    · rw [c0] at we
      have E : pu_r 503 [some (.ref 71), some (.int y), some (.int t2), some (.int t3), some (.int (nI n)), some (.int (nI i)), t6] [] N = pu_r 503 [some (.ref 71), some (.int y), some (.int t2), some (.int t3), some (.int (nI n)), some (.int (nI (i + 1))), some (.int (-1))] [] N := by
        generalize pu_sl0 I (W i) / 2 = f at *
        generalize W i = wi at *
        rw [qX12_means_99]
        simp [bX12_means_99, bX12_means_199, bX12_means_141, bX12_means_180, bX12_means_193, a_ai, a_ald, a_cv, a_dup2, a_gr, a_iadd, a_icge, a_icne, a_ild, a_imul, a_inc, a_iret, a_ist, a_push, a_wi, fx_71_0 hx, fx_71_23 hx, sh_71, sh_72, sh_83, pu_rv, pu_as, Value.category, pu_bk, pu_kl, List.replicate, pu_wi_1, pu_wi_2, nl_add, nl_ladd, nl_aa, nl_mul, nl_rmul, nl_mm, pu_qe0, pu_qe1, hcc, i2, w83, wl, u0, we]
        all_goals try simp (maxSteps := 400000) (disch := omega) [nl_tle, nl_fle, nl_tlt, nl_flt, nl_teq, nl_feq, nl_sub, nl_ss, nl_lt, nl_llt, nl_ltt, nl_le, nl_lle, nl_lee, nl_eq, nl_leq, nl_ee, nl_div, nl_rem, nl_cl, nl_n1, nl_n2, nl_n3, nl_n4, nl_add, nl_ladd, nl_aa, nl_mul, nl_rmul, nl_mm, pu_wi_1, pu_wi_2, bX12_means_99, bX12_means_199, bX12_means_141, bX12_means_180, bX12_means_193, a_ai, a_ald, a_cv, a_dup2, a_gr, a_iadd, a_icge, a_icne, a_ild, a_imul, a_inc, a_iret, a_ist, a_push, a_wi, fx_71_0 hx, fx_71_23 hx, sh_71, sh_72, sh_83, pu_rv, pu_as, Value.category, pu_bk, pu_kl, pu_qe0, pu_qe1, hcc, i2, w83, wl, u0, we]
        all_goals try simp [bX12_means_99, bX12_means_199, bX12_means_141, bX12_means_180, bX12_means_193, a_ai, a_ald, a_cv, a_dup2, a_gr, a_iadd, a_icge, a_icne, a_ild, a_imul, a_inc, a_iret, a_ist, a_push, a_wi, fx_71_0 hx, fx_71_23 hx, sh_71, sh_72, sh_83, pu_rv, pu_as, Value.category, pu_bk, pu_kl, List.replicate, pu_wi_1, pu_wi_2, nl_add, nl_ladd, nl_aa, nl_mul, nl_rmul, nl_mm, pu_qe0, pu_qe1, hcc, i2, w83, wl, u0, we]
        all_goals try simp (maxSteps := 400000) (disch := omega) [nl_tle, nl_fle, nl_tlt, nl_flt, nl_teq, nl_feq, nl_sub, nl_ss, nl_lt, nl_llt, nl_ltt, nl_le, nl_lle, nl_lee, nl_eq, nl_leq, nl_ee, nl_div, nl_rem, nl_cl, nl_n1, nl_n2, nl_n3, nl_n4, nl_add, nl_ladd, nl_aa, nl_mul, nl_rmul, nl_mm, pu_wi_1, pu_wi_2, bX12_means_99, bX12_means_199, bX12_means_141, bX12_means_180, bX12_means_193, a_ai, a_ald, a_cv, a_dup2, a_gr, a_iadd, a_icge, a_icne, a_ild, a_imul, a_inc, a_iret, a_ist, a_push, a_wi, fx_71_0 hx, fx_71_23 hx, sh_71, sh_72, sh_83, pu_rv, pu_as, Value.category, pu_bk, pu_kl, pu_qe0, pu_qe1, hcc, i2, w83, wl, u0, we]
        all_goals try simp [bX12_means_99, bX12_means_199, bX12_means_141, bX12_means_180, bX12_means_193, a_ai, a_ald, a_cv, a_dup2, a_gr, a_iadd, a_icge, a_icne, a_ild, a_imul, a_inc, a_iret, a_ist, a_push, a_wi, fx_71_0 hx, fx_71_23 hx, sh_71, sh_72, sh_83, pu_rv, pu_as, Value.category, pu_bk, pu_kl, List.replicate, pu_wi_1, pu_wi_2, nl_add, nl_ladd, nl_aa, nl_mul, nl_rmul, nl_mm, pu_qe0, pu_qe1, hcc, i2, w83, wl, u0, we]
        all_goals try simp (maxSteps := 400000) (disch := omega) [nl_tle, nl_fle, nl_tlt, nl_flt, nl_teq, nl_feq, nl_sub, nl_ss, nl_lt, nl_llt, nl_ltt, nl_le, nl_lle, nl_lee, nl_eq, nl_leq, nl_ee, nl_div, nl_rem, nl_cl, nl_n1, nl_n2, nl_n3, nl_n4, nl_add, nl_ladd, nl_aa, nl_mul, nl_rmul, nl_mm, pu_wi_1, pu_wi_2, bX12_means_99, bX12_means_199, bX12_means_141, bX12_means_180, bX12_means_193, a_ai, a_ald, a_cv, a_dup2, a_gr, a_iadd, a_icge, a_icne, a_ild, a_imul, a_inc, a_iret, a_ist, a_push, a_wi, fx_71_0 hx, fx_71_23 hx, sh_71, sh_72, sh_83, pu_rv, pu_as, Value.category, pu_bk, pu_kl, pu_qe0, pu_qe1, hcc, i2, w83, wl, u0, we]
        all_goals try simp [bX12_means_99, bX12_means_199, bX12_means_141, bX12_means_180, bX12_means_193, a_ai, a_ald, a_cv, a_dup2, a_gr, a_iadd, a_icge, a_icne, a_ild, a_imul, a_inc, a_iret, a_ist, a_push, a_wi, fx_71_0 hx, fx_71_23 hx, sh_71, sh_72, sh_83, pu_rv, pu_as, Value.category, pu_bk, pu_kl, List.replicate, pu_wi_1, pu_wi_2, nl_add, nl_ladd, nl_aa, nl_mul, nl_rmul, nl_mm, pu_qe0, pu_qe1, hcc, i2, w83, wl, u0, we]
      rw [E]
      exact r_mn_l h hn hxl hk hW t2 t3 m (i + 1) N X c (some (.int (-1))) (by omega) (by omega) hx fr h11 h18 h19 h83 hf (py_SL_c sl (fun l => by
        constructor
        · rintro ⟨a, a1, a2⟩
          exact ⟨a, by omega, a2⟩
        · rintro ⟨a, a1, a2, a3⟩
          by_cases z : a = i
          · rw [← a2, z] at a3
            exact absurd c0 a3
          · exact ⟨a, by omega, a2, a3⟩))
    · obtain ⟨d, hd⟩ : ∃ d, py_td I x k (pu_sl0 I (W i) / 2) y = d := ⟨_, rfl⟩
      rw [hd] at c0 we
      obtain ⟨T, hT⟩ : ∃ T, pu_wi (pu_wi (pu_wi N 72 (59588 + 2 * c) d) 72 (59588 + 2 * c + 1) 0) 72 11 (nI (c + 1)) = T := ⟨_, rfl⟩
      have T2 : T.2 = N.2 := by rw [← hT]; rfl
      have To : ∀ a j, ¬ (a = 72 ∧ (j = 11 ∨ j = 59588 + 2 * c ∨ j = 59588 + 2 * c + 1)) → T.1 a j = N.1 a j := fun a j z => by rw [← hT, py_wi_o (by omega), py_wi_o (by omega), py_wi_o (by omega)]
      have T11 : T.1 72 11 = nI (c + 1) := by rw [← hT]; simp [pu_wi_1]
      have Ta : T.1 72 (59588 + 2 * c) = d := by rw [← hT, py_wi_o (by omega), py_wi_o (by omega)]; simp [pu_wi_1]
      have Tb : T.1 72 (59588 + 2 * c + 1) = 0 := by rw [← hT, py_wi_o (by omega)]; simp [pu_wi_1]
      have E : pu_r 503 [some (.ref 71), some (.int y), some (.int t2), some (.int t3), some (.int (nI n)), some (.int (nI i)), t6] [] N = pu_r 503 [some (.ref 71), some (.int y), some (.int t2), some (.int t3), some (.int (nI n)), some (.int (nI (i + 1))), some (.int d)] [] T := by
        have c3 : c < 100 := by omega
        have F0 := fx_71_0 hx
        have g1 : (pu_wi N 72 (59588 + 2 * c) d).2.2.1 71 0 = some 72 := F0
        have g2 : (pu_wi N 72 (59588 + 2 * c) d).1 72 11 = nI c := by rw [py_wi_o (by omega)]; exact h11
        have g3 : (pu_wi (pu_wi N 72 (59588 + 2 * c) d) 72 (59588 + 2 * c + 1) 0).2.2.1 71 0 = some 72 := F0
        have g4 : (pu_wi (pu_wi N 72 (59588 + 2 * c) d) 72 (59588 + 2 * c + 1) 0).1 72 11 = nI c := by rw [py_wi_o (by omega), py_wi_o (by omega)]; exact h11
        generalize pu_sl0 I (W i) / 2 = f at *
        generalize W i = wi at *
        generalize hA : pu_wi N 72 (59588 + 2 * c) d = A at *
        generalize hB : pu_wi A 72 (59588 + 2 * c + 1) 0 = B at *
        rw [qX12_means_99]
        simp [bX12_means_99, bX12_means_199, bX12_means_141, bX12_means_180, bX12_means_193, a_ai, a_ald, a_cv, a_dup2, a_gr, a_iadd, a_icge, a_icne, a_ild, a_imul, a_inc, a_iret, a_ist, a_push, a_wi, fx_71_0 hx, fx_71_23 hx, sh_71, sh_72, sh_83, pu_rv, pu_as, Value.category, pu_bk, pu_kl, List.replicate, pu_wi_1, pu_wi_2, nl_add, nl_ladd, nl_aa, nl_mul, nl_rmul, nl_mm, pu_qe0, pu_qe1, hcc, i2, w83, wl, u0, we, c0, h11, c3, hA, g1, g2, hB, g3, g4, hT]
        all_goals try simp (maxSteps := 400000) (disch := omega) [nl_tle, nl_fle, nl_tlt, nl_flt, nl_teq, nl_feq, nl_sub, nl_ss, nl_lt, nl_llt, nl_ltt, nl_le, nl_lle, nl_lee, nl_eq, nl_leq, nl_ee, nl_div, nl_rem, nl_cl, nl_n1, nl_n2, nl_n3, nl_n4, nl_add, nl_ladd, nl_aa, nl_mul, nl_rmul, nl_mm, pu_wi_1, pu_wi_2, bX12_means_99, bX12_means_199, bX12_means_141, bX12_means_180, bX12_means_193, a_ai, a_ald, a_cv, a_dup2, a_gr, a_iadd, a_icge, a_icne, a_ild, a_imul, a_inc, a_iret, a_ist, a_push, a_wi, fx_71_0 hx, fx_71_23 hx, sh_71, sh_72, sh_83, pu_rv, pu_as, Value.category, pu_bk, pu_kl, pu_qe0, pu_qe1, hcc, i2, w83, wl, u0, we, c0, h11, c3, hA, g1, g2, hB, g3, g4, hT]
        all_goals try simp [bX12_means_99, bX12_means_199, bX12_means_141, bX12_means_180, bX12_means_193, a_ai, a_ald, a_cv, a_dup2, a_gr, a_iadd, a_icge, a_icne, a_ild, a_imul, a_inc, a_iret, a_ist, a_push, a_wi, fx_71_0 hx, fx_71_23 hx, sh_71, sh_72, sh_83, pu_rv, pu_as, Value.category, pu_bk, pu_kl, List.replicate, pu_wi_1, pu_wi_2, nl_add, nl_ladd, nl_aa, nl_mul, nl_rmul, nl_mm, pu_qe0, pu_qe1, hcc, i2, w83, wl, u0, we, c0, h11, c3, hA, g1, g2, hB, g3, g4, hT]
        all_goals try simp (maxSteps := 400000) (disch := omega) [nl_tle, nl_fle, nl_tlt, nl_flt, nl_teq, nl_feq, nl_sub, nl_ss, nl_lt, nl_llt, nl_ltt, nl_le, nl_lle, nl_lee, nl_eq, nl_leq, nl_ee, nl_div, nl_rem, nl_cl, nl_n1, nl_n2, nl_n3, nl_n4, nl_add, nl_ladd, nl_aa, nl_mul, nl_rmul, nl_mm, pu_wi_1, pu_wi_2, bX12_means_99, bX12_means_199, bX12_means_141, bX12_means_180, bX12_means_193, a_ai, a_ald, a_cv, a_dup2, a_gr, a_iadd, a_icge, a_icne, a_ild, a_imul, a_inc, a_iret, a_ist, a_push, a_wi, fx_71_0 hx, fx_71_23 hx, sh_71, sh_72, sh_83, pu_rv, pu_as, Value.category, pu_bk, pu_kl, pu_qe0, pu_qe1, hcc, i2, w83, wl, u0, we, c0, h11, c3, hA, g1, g2, hB, g3, g4, hT]
        all_goals try simp [bX12_means_99, bX12_means_199, bX12_means_141, bX12_means_180, bX12_means_193, a_ai, a_ald, a_cv, a_dup2, a_gr, a_iadd, a_icge, a_icne, a_ild, a_imul, a_inc, a_iret, a_ist, a_push, a_wi, fx_71_0 hx, fx_71_23 hx, sh_71, sh_72, sh_83, pu_rv, pu_as, Value.category, pu_bk, pu_kl, List.replicate, pu_wi_1, pu_wi_2, nl_add, nl_ladd, nl_aa, nl_mul, nl_rmul, nl_mm, pu_qe0, pu_qe1, hcc, i2, w83, wl, u0, we, c0, h11, c3, hA, g1, g2, hB, g3, g4, hT]
        all_goals try simp (maxSteps := 400000) (disch := omega) [nl_tle, nl_fle, nl_tlt, nl_flt, nl_teq, nl_feq, nl_sub, nl_ss, nl_lt, nl_llt, nl_ltt, nl_le, nl_lle, nl_lee, nl_eq, nl_leq, nl_ee, nl_div, nl_rem, nl_cl, nl_n1, nl_n2, nl_n3, nl_n4, nl_add, nl_ladd, nl_aa, nl_mul, nl_rmul, nl_mm, pu_wi_1, pu_wi_2, bX12_means_99, bX12_means_199, bX12_means_141, bX12_means_180, bX12_means_193, a_ai, a_ald, a_cv, a_dup2, a_gr, a_iadd, a_icge, a_icne, a_ild, a_imul, a_inc, a_iret, a_ist, a_push, a_wi, fx_71_0 hx, fx_71_23 hx, sh_71, sh_72, sh_83, pu_rv, pu_as, Value.category, pu_bk, pu_kl, pu_qe0, pu_qe1, hcc, i2, w83, wl, u0, we, c0, h11, c3, hA, g1, g2, hB, g3, g4, hT]
        all_goals try simp [bX12_means_99, bX12_means_199, bX12_means_141, bX12_means_180, bX12_means_193, a_ai, a_ald, a_cv, a_dup2, a_gr, a_iadd, a_icge, a_icne, a_ild, a_imul, a_inc, a_iret, a_ist, a_push, a_wi, fx_71_0 hx, fx_71_23 hx, sh_71, sh_72, sh_83, pu_rv, pu_as, Value.category, pu_bk, pu_kl, List.replicate, pu_wi_1, pu_wi_2, nl_add, nl_ladd, nl_aa, nl_mul, nl_rmul, nl_mm, pu_qe0, pu_qe1, hcc, i2, w83, wl, u0, we, c0, h11, c3, hA, g1, g2, hB, g3, g4, hT]
      rw [E]
      have CN : ∀ l, l < c → ∃ a, a < i ∧ W a = X l := fun l hl => by
        obtain ⟨a, a1, a2, _⟩ := sl.1 l hl
        exact ⟨a, a1, a2⟩
      have ADD := py_SL_add (k := W i) sl (Nat.le_refl c) (fun j z1 z2 => by omega) (by
        by_cases z : c = 0
        · exact Or.inl z
        · refine Or.inr ?_
          obtain ⟨a, a1, a2⟩ := CN (c - 1) (by omega)
          rw [← a2]
          exact hW.2.2 a i a1 inn)
      obtain ⟨N1, X1, c1, x1, x2, x3, x4, x5, x6, x7, x8⟩ := r_mn_l h hn hxl hk hW t2 t3 m (i + 1) T (pu_vi X c (W i)) (c + 1) (some (.int d)) (by omega) (by omega) (pz_fx_of hx T2) (fun j z1 z2 => by rw [To 72 j (by omega)]; exact fr j z1 z2) T11 (by rw [To 71 18 (by omega)]; exact h18) (by rw [To 71 19 (by omega)]; exact h19) (fun j hj => by rw [To 83 j (by omega)]; exact h83 j hj) (fun j hj => by
        unfold pu_vi
        by_cases z : j = c
        · rw [if_neg (by omega), if_pos z, z]
          exact ⟨by rw [Ta]; exact hd.symm, Tb⟩
        · rw [if_pos (by omega), To 72 _ (by omega), To 72 _ (by omega)]
          exact hf j (by omega)) (py_SL_c ADD (fun l => by
        constructor
        · rintro (⟨a, a1, a2⟩ | a)
          · exact ⟨a, by omega, a2⟩
          · rw [a]
            exact ⟨i, by omega, rfl, by rw [hd]; exact c0⟩
        · rintro ⟨a, a1, a2, a3⟩
          by_cases z : a = i
          · exact Or.inr (by rw [← a2, z])
          · exact Or.inl ⟨a, by omega, a2, a3⟩))
      exact ⟨N1, X1, c1, x1, by rw [x2, T2], fun a j z => by rw [x3 a j z, To a j (by omega)], x4, x5, x6, x7, x8⟩
set_option maxRecDepth 8000 in
theorem r_means {R : pu_M} (hx : pu_fx R) (h : pu_St I L (R.1 72)) {nm tw : Nat → Int64} (hnm : ∀ k, k < 3 → pu_Wd (R.1 78) (12 * k) (nm k)) (htw : ∀ k, k < 3 → pu_Wd (R.1 82) (12 * k) (tw k)) {w x k : Nat} (hwl : w < 160000) (hxl : x < 5) (hk : k < 100) (h17 : R.1 71 17 = nI w) (h18 : R.1 71 18 = nI x) (h19 : R.1 71 19 = nI k) (hy : ¬ y < 0) (t2 t3 t4 t5 t6 : Option Value) : ∃ F c, c ≤ 100 ∧ F.2 = R.2 ∧ (∀ a j, a ≠ 72 → a ≠ 83 → a ≠ 84 → ¬ (a = 71 ∧ (j = 21 ∨ j = 22)) → F.1 a j = R.1 a j) ∧ (∀ j, j ≠ 11 → ¬ (59588 ≤ j ∧ j < 59788) → F.1 72 j = R.1 72 j) ∧ F.1 72 11 = nI c ∧ py_CS I L nm tw w x k y c (fun j => F.1 72 (59588 + 2 * j)) (fun j => F.1 72 (59588 + 2 * j + 1)) ∧ kX12_means_17 pu_r [some (.ref 71), some (.int y), t2, t3, t4, t5, t6] [] R = some (some (.int (nI c)), F) := by
  have hw := h.1
  have bK := wx_bK hw
  have bU := wx_bU hw
  obtain ⟨v, v1, v2, es⟩ := r_sure hx h.2 hw nm tw hnm htw hxl hk h17 h18 h19 y
  obtain ⟨A, hA⟩ : ∃ A, pu_wi (pu_wi R 71 21 v) 72 11 0 = A := ⟨_, rfl⟩
  have A2 : A.2 = R.2 := by rw [← hA]; rfl
  have Ao : ∀ a j, ¬ (a = 72 ∧ j = 11) → ¬ (a = 71 ∧ j = 21) → A.1 a j = R.1 a j := fun a j z1 z2 => by rw [← hA, py_wi_o z1, py_wi_o z2]
  have A11 : A.1 72 11 = nI 0 := by rw [← hA]; simp [pu_wi_1]; rfl
  have A21 : A.1 71 21 = v := by rw [← hA, py_wi_o (by omega)]; simp [pu_wi_1]
  have hxA : pu_fx A := pz_fx_of hx A2
  have hx1 : pu_fx (pu_wi R 71 21 v) := hx
  have g71 := fx_71_0 hx1
  have a71 := fx_71_0 hxA
  have Afr : ∀ j, j ≠ 11 → ¬ (59588 ≤ j ∧ j < 59788) → A.1 72 j = R.1 72 j := fun j z1 z2 => Ao 72 j (by omega) (by omega)
  have SA := St_JF h (c := 0) (s' := A.1 72) (by omega) Afr A11
  have st0 := r_streetA hxA SA.2 SA.1 nm tw (fun k hk => pu_Wd_fr (hnm k hk) (fun i hi => Ao 78 _ (by omega) (by omega))) (fun k hk => pu_Wd_fr (htw k hk) (fun i hi => Ao 82 _ (by omega) (by omega))) y
  have st1 : pu_r 316 [some (.ref 71), some (.int y)] [] A = some (some (.int (py_ss I L nm tw y)), A) := st0
  by_cases num : py_ss I L nm tw y ≠ -1 ∧ py_u1 I (py_ss I L nm tw y) w y ≠ -1
  · have hv := v2.mpr num
    rw [hv] at A21
    by_cases c0 : py_sv I L nm tw w x k y = -1
    · refine ⟨A, 0, by omega, A2, fun a j z1 _ _ z4 => Ao a j (by omega) (by omega), Afr, A11, Or.inr (Or.inl ⟨num.1, num.2, Or.inl ⟨c0, rfl⟩⟩), ?_⟩
      rw [c0] at es
      rw [nI_0]
      generalize pu_wi R 71 21 v = R1 at *
      simp [bX12_means_17, bX12_means_73, bX12_means_88, bX12_means_94, bX12_means_45, a_ald, a_cv, a_gi, a_gr, a_icne, a_ifeq, a_ild, a_iret, a_ist, a_push, a_wi, sh_71, sh_72, pu_rv, pu_as, Value.category, pu_bk, pu_kl, List.replicate, pu_wi_1, pu_wi_2, nl_add, nl_ladd, nl_aa, nl_mul, nl_rmul, nl_mm, pu_qe0, pu_qe1, es, g71, hA, A21]
      all_goals try simp (maxSteps := 400000) (disch := omega) [nl_tle, nl_fle, nl_tlt, nl_flt, nl_teq, nl_feq, nl_sub, nl_ss, nl_lt, nl_llt, nl_ltt, nl_le, nl_lle, nl_lee, nl_eq, nl_leq, nl_ee, nl_div, nl_rem, nl_cl, nl_n1, nl_n2, nl_n3, nl_n4, nl_add, nl_ladd, nl_aa, nl_mul, nl_rmul, nl_mm, pu_wi_1, pu_wi_2, bX12_means_17, bX12_means_73, bX12_means_88, bX12_means_94, bX12_means_45, a_ald, a_cv, a_gi, a_gr, a_icne, a_ifeq, a_ild, a_iret, a_ist, a_push, a_wi, sh_71, sh_72, pu_rv, pu_as, Value.category, pu_bk, pu_kl, pu_qe0, pu_qe1, es, g71, hA, A21]
      all_goals try simp [bX12_means_17, bX12_means_73, bX12_means_88, bX12_means_94, bX12_means_45, a_ald, a_cv, a_gi, a_gr, a_icne, a_ifeq, a_ild, a_iret, a_ist, a_push, a_wi, sh_71, sh_72, pu_rv, pu_as, Value.category, pu_bk, pu_kl, List.replicate, pu_wi_1, pu_wi_2, nl_add, nl_ladd, nl_aa, nl_mul, nl_rmul, nl_mm, pu_qe0, pu_qe1, es, g71, hA, A21]
      all_goals try simp (maxSteps := 400000) (disch := omega) [nl_tle, nl_fle, nl_tlt, nl_flt, nl_teq, nl_feq, nl_sub, nl_ss, nl_lt, nl_llt, nl_ltt, nl_le, nl_lle, nl_lee, nl_eq, nl_leq, nl_ee, nl_div, nl_rem, nl_cl, nl_n1, nl_n2, nl_n3, nl_n4, nl_add, nl_ladd, nl_aa, nl_mul, nl_rmul, nl_mm, pu_wi_1, pu_wi_2, bX12_means_17, bX12_means_73, bX12_means_88, bX12_means_94, bX12_means_45, a_ald, a_cv, a_gi, a_gr, a_icne, a_ifeq, a_ild, a_iret, a_ist, a_push, a_wi, sh_71, sh_72, pu_rv, pu_as, Value.category, pu_bk, pu_kl, pu_qe0, pu_qe1, es, g71, hA, A21]
      all_goals try simp [bX12_means_17, bX12_means_73, bX12_means_88, bX12_means_94, bX12_means_45, a_ald, a_cv, a_gi, a_gr, a_icne, a_ifeq, a_ild, a_iret, a_ist, a_push, a_wi, sh_71, sh_72, pu_rv, pu_as, Value.category, pu_bk, pu_kl, List.replicate, pu_wi_1, pu_wi_2, nl_add, nl_ladd, nl_aa, nl_mul, nl_rmul, nl_mm, pu_qe0, pu_qe1, es, g71, hA, A21]
      all_goals try simp (maxSteps := 400000) (disch := omega) [nl_tle, nl_fle, nl_tlt, nl_flt, nl_teq, nl_feq, nl_sub, nl_ss, nl_lt, nl_llt, nl_ltt, nl_le, nl_lle, nl_lee, nl_eq, nl_leq, nl_ee, nl_div, nl_rem, nl_cl, nl_n1, nl_n2, nl_n3, nl_n4, nl_add, nl_ladd, nl_aa, nl_mul, nl_rmul, nl_mm, pu_wi_1, pu_wi_2, bX12_means_17, bX12_means_73, bX12_means_88, bX12_means_94, bX12_means_45, a_ald, a_cv, a_gi, a_gr, a_icne, a_ifeq, a_ild, a_iret, a_ist, a_push, a_wi, sh_71, sh_72, pu_rv, pu_as, Value.category, pu_bk, pu_kl, pu_qe0, pu_qe1, es, g71, hA, A21]
      all_goals try simp [bX12_means_17, bX12_means_73, bX12_means_88, bX12_means_94, bX12_means_45, a_ald, a_cv, a_gi, a_gr, a_icne, a_ifeq, a_ild, a_iret, a_ist, a_push, a_wi, sh_71, sh_72, pu_rv, pu_as, Value.category, pu_bk, pu_kl, List.replicate, pu_wi_1, pu_wi_2, nl_add, nl_ladd, nl_aa, nl_mul, nl_rmul, nl_mm, pu_qe0, pu_qe1, es, g71, hA, A21]
    · obtain ⟨d, hd⟩ : ∃ d, py_sv I L nm tw w x k y = d := ⟨_, rfl⟩
      rw [hd] at es c0
      obtain ⟨F, hF⟩ : ∃ F, pu_wi (pu_wi (pu_wi A 72 59588 d) 72 59589 1) 72 11 1 = F := ⟨_, rfl⟩
      have Fo : ∀ a j, ¬ (a = 72 ∧ (j = 11 ∨ j = 59588 ∨ j = 59589)) → F.1 a j = A.1 a j := fun a j z => by rw [← hF, py_wi_o (by omega), py_wi_o (by omega), py_wi_o (by omega)]
      have F11 : F.1 72 11 = 1 := by rw [← hF]; simp [pu_wi_1]
      have Fa : F.1 72 59588 = d := by rw [← hF, py_wi_o (by omega), py_wi_o (by omega)]; simp [pu_wi_1]
      have Fb : F.1 72 59589 = 1 := by rw [← hF, py_wi_o (by omega)]; simp [pu_wi_1]
      refine ⟨F, 1, by omega, by rw [← hF]; exact A2, fun a j z1 _ _ z4 => by rw [Fo a j (by omega), Ao a j (by omega) (by omega)], fun j z1 z2 => by rw [Fo 72 j (by omega)]; exact Afr j z1 z2, F11, Or.inr (Or.inl ⟨num.1, num.2, Or.inr ⟨by rw [hd]; exact c0, rfl, by rw [hd]; exact Fa, Fb⟩⟩), ?_⟩
      have g1 : (pu_wi A 72 59588 d).2.2.1 71 0 = some 72 := a71
      have g2 : (pu_wi (pu_wi A 72 59588 d) 72 59589 1).2.2.1 71 0 = some 72 := a71
      rw [show nI 1 = (1 : Int32) from rfl]
      generalize pu_wi R 71 21 v = R1 at *
      generalize hB : pu_wi A 72 59588 d = B at *
      generalize hC : pu_wi B 72 59589 1 = C at *
      simp [bX12_means_17, bX12_means_73, bX12_means_88, bX12_means_94, bX12_means_45, a_ald, a_cv, a_gi, a_gr, a_icne, a_ifeq, a_ild, a_iret, a_ist, a_push, a_wi, sh_71, sh_72, pu_rv, pu_as, Value.category, pu_bk, pu_kl, List.replicate, pu_wi_1, pu_wi_2, nl_add, nl_ladd, nl_aa, nl_mul, nl_rmul, nl_mm, pu_qe0, pu_qe1, es, g71, hA, A21, c0, a71, hB, g1, hC, g2, hF]
      all_goals try simp (maxSteps := 400000) (disch := omega) [nl_tle, nl_fle, nl_tlt, nl_flt, nl_teq, nl_feq, nl_sub, nl_ss, nl_lt, nl_llt, nl_ltt, nl_le, nl_lle, nl_lee, nl_eq, nl_leq, nl_ee, nl_div, nl_rem, nl_cl, nl_n1, nl_n2, nl_n3, nl_n4, nl_add, nl_ladd, nl_aa, nl_mul, nl_rmul, nl_mm, pu_wi_1, pu_wi_2, bX12_means_17, bX12_means_73, bX12_means_88, bX12_means_94, bX12_means_45, a_ald, a_cv, a_gi, a_gr, a_icne, a_ifeq, a_ild, a_iret, a_ist, a_push, a_wi, sh_71, sh_72, pu_rv, pu_as, Value.category, pu_bk, pu_kl, pu_qe0, pu_qe1, es, g71, hA, A21, c0, a71, hB, g1, hC, g2, hF]
      all_goals try simp [bX12_means_17, bX12_means_73, bX12_means_88, bX12_means_94, bX12_means_45, a_ald, a_cv, a_gi, a_gr, a_icne, a_ifeq, a_ild, a_iret, a_ist, a_push, a_wi, sh_71, sh_72, pu_rv, pu_as, Value.category, pu_bk, pu_kl, List.replicate, pu_wi_1, pu_wi_2, nl_add, nl_ladd, nl_aa, nl_mul, nl_rmul, nl_mm, pu_qe0, pu_qe1, es, g71, hA, A21, c0, a71, hB, g1, hC, g2, hF]
      all_goals try simp (maxSteps := 400000) (disch := omega) [nl_tle, nl_fle, nl_tlt, nl_flt, nl_teq, nl_feq, nl_sub, nl_ss, nl_lt, nl_llt, nl_ltt, nl_le, nl_lle, nl_lee, nl_eq, nl_leq, nl_ee, nl_div, nl_rem, nl_cl, nl_n1, nl_n2, nl_n3, nl_n4, nl_add, nl_ladd, nl_aa, nl_mul, nl_rmul, nl_mm, pu_wi_1, pu_wi_2, bX12_means_17, bX12_means_73, bX12_means_88, bX12_means_94, bX12_means_45, a_ald, a_cv, a_gi, a_gr, a_icne, a_ifeq, a_ild, a_iret, a_ist, a_push, a_wi, sh_71, sh_72, pu_rv, pu_as, Value.category, pu_bk, pu_kl, pu_qe0, pu_qe1, es, g71, hA, A21, c0, a71, hB, g1, hC, g2, hF]
      all_goals try simp [bX12_means_17, bX12_means_73, bX12_means_88, bX12_means_94, bX12_means_45, a_ald, a_cv, a_gi, a_gr, a_icne, a_ifeq, a_ild, a_iret, a_ist, a_push, a_wi, sh_71, sh_72, pu_rv, pu_as, Value.category, pu_bk, pu_kl, List.replicate, pu_wi_1, pu_wi_2, nl_add, nl_ladd, nl_aa, nl_mul, nl_rmul, nl_mm, pu_qe0, pu_qe1, es, g71, hA, A21, c0, a71, hB, g1, hC, g2, hF]
      all_goals try simp (maxSteps := 400000) (disch := omega) [nl_tle, nl_fle, nl_tlt, nl_flt, nl_teq, nl_feq, nl_sub, nl_ss, nl_lt, nl_llt, nl_ltt, nl_le, nl_lle, nl_lee, nl_eq, nl_leq, nl_ee, nl_div, nl_rem, nl_cl, nl_n1, nl_n2, nl_n3, nl_n4, nl_add, nl_ladd, nl_aa, nl_mul, nl_rmul, nl_mm, pu_wi_1, pu_wi_2, bX12_means_17, bX12_means_73, bX12_means_88, bX12_means_94, bX12_means_45, a_ald, a_cv, a_gi, a_gr, a_icne, a_ifeq, a_ild, a_iret, a_ist, a_push, a_wi, sh_71, sh_72, pu_rv, pu_as, Value.category, pu_bk, pu_kl, pu_qe0, pu_qe1, es, g71, hA, A21, c0, a71, hB, g1, hC, g2, hF]
      all_goals try simp [bX12_means_17, bX12_means_73, bX12_means_88, bX12_means_94, bX12_means_45, a_ald, a_cv, a_gi, a_gr, a_icne, a_ifeq, a_ild, a_iret, a_ist, a_push, a_wi, sh_71, sh_72, pu_rv, pu_as, Value.category, pu_bk, pu_kl, List.replicate, pu_wi_1, pu_wi_2, nl_add, nl_ladd, nl_aa, nl_mul, nl_rmul, nl_mm, pu_qe0, pu_qe1, es, g71, hA, A21, c0, a71, hB, g1, hC, g2, hF]
  · have hv : v = 0 := by
      rcases v1 with z | z
      · exact z
      · exact absurd (v2.mp z) num
    rw [hv] at A21
    rcases py_ss_s hw nm tw y with ⟨q, _⟩ | ⟨l, l1, _, l3⟩
    · rw [q] at st1
      refine ⟨A, 0, by omega, A2, fun a j z1 _ _ z4 => Ao a j (by omega) (by omega), Afr, A11, Or.inl ⟨q, rfl⟩, ?_⟩
      have L0 : ∀ d6 : Option Value, ∀ d : Int32, pu_r 503 [some (.ref 71), some (.int y), some (.int d), some (.int (-1)), some (.int 0), some (.int 0), d6] [] A = some (some (.int 0), A) := fun d6 d => by
        rw [nI_0] at A11
        have hx := hxA
        rw [qX12_means_99]
        simp [bX12_means_99, bX12_means_199, bX12_means_141, bX12_means_180, bX12_means_193, a_ai, a_ald, a_cv, a_dup2, a_gr, a_iadd, a_icge, a_icne, a_ild, a_imul, a_inc, a_iret, a_ist, a_push, a_wi, fx_71_0 hx, fx_71_23 hx, sh_71, sh_72, sh_83, pu_rv, pu_as, Value.category, pu_bk, pu_kl, List.replicate, pu_wi_1, pu_wi_2, nl_add, nl_ladd, nl_aa, nl_mul, nl_rmul, nl_mm, pu_qe0, pu_qe1, A11]
        all_goals try simp (maxSteps := 400000) (disch := omega) [nl_tle, nl_fle, nl_tlt, nl_flt, nl_teq, nl_feq, nl_sub, nl_ss, nl_lt, nl_llt, nl_ltt, nl_le, nl_lle, nl_lee, nl_eq, nl_leq, nl_ee, nl_div, nl_rem, nl_cl, nl_n1, nl_n2, nl_n3, nl_n4, nl_add, nl_ladd, nl_aa, nl_mul, nl_rmul, nl_mm, pu_wi_1, pu_wi_2, bX12_means_99, bX12_means_199, bX12_means_141, bX12_means_180, bX12_means_193, a_ai, a_ald, a_cv, a_dup2, a_gr, a_iadd, a_icge, a_icne, a_ild, a_imul, a_inc, a_iret, a_ist, a_push, a_wi, fx_71_0 hx, fx_71_23 hx, sh_71, sh_72, sh_83, pu_rv, pu_as, Value.category, pu_bk, pu_kl, pu_qe0, pu_qe1, A11]
        all_goals try simp [bX12_means_99, bX12_means_199, bX12_means_141, bX12_means_180, bX12_means_193, a_ai, a_ald, a_cv, a_dup2, a_gr, a_iadd, a_icge, a_icne, a_ild, a_imul, a_inc, a_iret, a_ist, a_push, a_wi, fx_71_0 hx, fx_71_23 hx, sh_71, sh_72, sh_83, pu_rv, pu_as, Value.category, pu_bk, pu_kl, List.replicate, pu_wi_1, pu_wi_2, nl_add, nl_ladd, nl_aa, nl_mul, nl_rmul, nl_mm, pu_qe0, pu_qe1, A11]
        all_goals try simp (maxSteps := 400000) (disch := omega) [nl_tle, nl_fle, nl_tlt, nl_flt, nl_teq, nl_feq, nl_sub, nl_ss, nl_lt, nl_llt, nl_ltt, nl_le, nl_lle, nl_lee, nl_eq, nl_leq, nl_ee, nl_div, nl_rem, nl_cl, nl_n1, nl_n2, nl_n3, nl_n4, nl_add, nl_ladd, nl_aa, nl_mul, nl_rmul, nl_mm, pu_wi_1, pu_wi_2, bX12_means_99, bX12_means_199, bX12_means_141, bX12_means_180, bX12_means_193, a_ai, a_ald, a_cv, a_dup2, a_gr, a_iadd, a_icge, a_icne, a_ild, a_imul, a_inc, a_iret, a_ist, a_push, a_wi, fx_71_0 hx, fx_71_23 hx, sh_71, sh_72, sh_83, pu_rv, pu_as, Value.category, pu_bk, pu_kl, pu_qe0, pu_qe1, A11]
        all_goals try simp [bX12_means_99, bX12_means_199, bX12_means_141, bX12_means_180, bX12_means_193, a_ai, a_ald, a_cv, a_dup2, a_gr, a_iadd, a_icge, a_icne, a_ild, a_imul, a_inc, a_iret, a_ist, a_push, a_wi, fx_71_0 hx, fx_71_23 hx, sh_71, sh_72, sh_83, pu_rv, pu_as, Value.category, pu_bk, pu_kl, List.replicate, pu_wi_1, pu_wi_2, nl_add, nl_ladd, nl_aa, nl_mul, nl_rmul, nl_mm, pu_qe0, pu_qe1, A11]
        all_goals try simp (maxSteps := 400000) (disch := omega) [nl_tle, nl_fle, nl_tlt, nl_flt, nl_teq, nl_feq, nl_sub, nl_ss, nl_lt, nl_llt, nl_ltt, nl_le, nl_lle, nl_lee, nl_eq, nl_leq, nl_ee, nl_div, nl_rem, nl_cl, nl_n1, nl_n2, nl_n3, nl_n4, nl_add, nl_ladd, nl_aa, nl_mul, nl_rmul, nl_mm, pu_wi_1, pu_wi_2, bX12_means_99, bX12_means_199, bX12_means_141, bX12_means_180, bX12_means_193, a_ai, a_ald, a_cv, a_dup2, a_gr, a_iadd, a_icge, a_icne, a_ild, a_imul, a_inc, a_iret, a_ist, a_push, a_wi, fx_71_0 hx, fx_71_23 hx, sh_71, sh_72, sh_83, pu_rv, pu_as, Value.category, pu_bk, pu_kl, pu_qe0, pu_qe1, A11]
        all_goals try simp [bX12_means_99, bX12_means_199, bX12_means_141, bX12_means_180, bX12_means_193, a_ai, a_ald, a_cv, a_dup2, a_gr, a_iadd, a_icge, a_icne, a_ild, a_imul, a_inc, a_iret, a_ist, a_push, a_wi, fx_71_0 hx, fx_71_23 hx, sh_71, sh_72, sh_83, pu_rv, pu_as, Value.category, pu_bk, pu_kl, List.replicate, pu_wi_1, pu_wi_2, nl_add, nl_ladd, nl_aa, nl_mul, nl_rmul, nl_mm, pu_qe0, pu_qe1, A11]
      rw [nI_0]
      generalize py_sv I L nm tw w x k y = d at *
      generalize pu_wi R 71 21 v = R1 at *
      simp [bX12_means_17, bX12_means_73, bX12_means_88, bX12_means_94, bX12_means_45, a_ald, a_cv, a_gi, a_gr, a_icne, a_ifeq, a_ild, a_iret, a_ist, a_push, a_wi, sh_71, sh_72, pu_rv, pu_as, Value.category, pu_bk, pu_kl, List.replicate, pu_wi_1, pu_wi_2, nl_add, nl_ladd, nl_aa, nl_mul, nl_rmul, nl_mm, pu_qe0, pu_qe1, es, g71, hA, A21, st1, L0]
      all_goals try simp (maxSteps := 400000) (disch := omega) [nl_tle, nl_fle, nl_tlt, nl_flt, nl_teq, nl_feq, nl_sub, nl_ss, nl_lt, nl_llt, nl_ltt, nl_le, nl_lle, nl_lee, nl_eq, nl_leq, nl_ee, nl_div, nl_rem, nl_cl, nl_n1, nl_n2, nl_n3, nl_n4, nl_add, nl_ladd, nl_aa, nl_mul, nl_rmul, nl_mm, pu_wi_1, pu_wi_2, bX12_means_17, bX12_means_73, bX12_means_88, bX12_means_94, bX12_means_45, a_ald, a_cv, a_gi, a_gr, a_icne, a_ifeq, a_ild, a_iret, a_ist, a_push, a_wi, sh_71, sh_72, pu_rv, pu_as, Value.category, pu_bk, pu_kl, pu_qe0, pu_qe1, es, g71, hA, A21, st1, L0]
      all_goals try simp [bX12_means_17, bX12_means_73, bX12_means_88, bX12_means_94, bX12_means_45, a_ald, a_cv, a_gi, a_gr, a_icne, a_ifeq, a_ild, a_iret, a_ist, a_push, a_wi, sh_71, sh_72, pu_rv, pu_as, Value.category, pu_bk, pu_kl, List.replicate, pu_wi_1, pu_wi_2, nl_add, nl_ladd, nl_aa, nl_mul, nl_rmul, nl_mm, pu_qe0, pu_qe1, es, g71, hA, A21, st1, L0]
      all_goals try simp (maxSteps := 400000) (disch := omega) [nl_tle, nl_fle, nl_tlt, nl_flt, nl_teq, nl_feq, nl_sub, nl_ss, nl_lt, nl_llt, nl_ltt, nl_le, nl_lle, nl_lee, nl_eq, nl_leq, nl_ee, nl_div, nl_rem, nl_cl, nl_n1, nl_n2, nl_n3, nl_n4, nl_add, nl_ladd, nl_aa, nl_mul, nl_rmul, nl_mm, pu_wi_1, pu_wi_2, bX12_means_17, bX12_means_73, bX12_means_88, bX12_means_94, bX12_means_45, a_ald, a_cv, a_gi, a_gr, a_icne, a_ifeq, a_ild, a_iret, a_ist, a_push, a_wi, sh_71, sh_72, pu_rv, pu_as, Value.category, pu_bk, pu_kl, pu_qe0, pu_qe1, es, g71, hA, A21, st1, L0]
      all_goals try simp [bX12_means_17, bX12_means_73, bX12_means_88, bX12_means_94, bX12_means_45, a_ald, a_cv, a_gi, a_gr, a_icne, a_ifeq, a_ild, a_iret, a_ist, a_push, a_wi, sh_71, sh_72, pu_rv, pu_as, Value.category, pu_bk, pu_kl, List.replicate, pu_wi_1, pu_wi_2, nl_add, nl_ladd, nl_aa, nl_mul, nl_rmul, nl_mm, pu_qe0, pu_qe1, es, g71, hA, A21, st1, L0]
      all_goals try simp (maxSteps := 400000) (disch := omega) [nl_tle, nl_fle, nl_tlt, nl_flt, nl_teq, nl_feq, nl_sub, nl_ss, nl_lt, nl_llt, nl_ltt, nl_le, nl_lle, nl_lee, nl_eq, nl_leq, nl_ee, nl_div, nl_rem, nl_cl, nl_n1, nl_n2, nl_n3, nl_n4, nl_add, nl_ladd, nl_aa, nl_mul, nl_rmul, nl_mm, pu_wi_1, pu_wi_2, bX12_means_17, bX12_means_73, bX12_means_88, bX12_means_94, bX12_means_45, a_ald, a_cv, a_gi, a_gr, a_icne, a_ifeq, a_ild, a_iret, a_ist, a_push, a_wi, sh_71, sh_72, pu_rv, pu_as, Value.category, pu_bk, pu_kl, pu_qe0, pu_qe1, es, g71, hA, A21, st1, L0]
      all_goals try simp [bX12_means_17, bX12_means_73, bX12_means_88, bX12_means_94, bX12_means_45, a_ald, a_cv, a_gi, a_gr, a_icne, a_ifeq, a_ild, a_iret, a_ist, a_push, a_wi, sh_71, sh_72, pu_rv, pu_as, Value.category, pu_bk, pu_kl, List.replicate, pu_wi_1, pu_wi_2, nl_add, nl_ladd, nl_aa, nl_mul, nl_rmul, nl_mm, pu_qe0, pu_qe1, es, g71, hA, A21, st1, L0]
    · have s := pu_on (x := I 20 l) (n := cK I) ⟨(wx_ns hw l l1).1, (wx_ns hw l l1).2⟩
      rw [s.1] at l3
      have s2 := s.2
      generalize (I 20 l).toNatClampNeg = st at *
      have n1 : ¬ nI st = -1 := fun z => by rw [nl_n1 _ (by omega)] at z; exact z
      have u1 : py_u1 I (nI st) w y = -1 := Classical.byContradiction (fun z => num ⟨by rw [l3]; exact n1, by rw [l3]; exact z⟩)
      rw [l3] at st1
      obtain ⟨B, W, n, b1, b2, b3, b4, b5⟩ := r_likelyOn hxA SA.2 SA.1 (show st < cK I from s2) hwl hy (by rw [Ao 71 17 (by omega) (by omega)]; exact h17)
      have b4' : py_SL (py_ky I st y) (py_ls I st w y (cU I)) W n := b4
      have hxB : pu_fx B := pz_fx_of hxA b2.1
      obtain ⟨F, X, c, x1, x2, x3, x4, x5, x6, x7, x8⟩ := r_mn_l h b1 hxl hk b4' (py_sv I L nm tw w x k y) (nI st) n 0 B (fun _ => 0) 0 t6 (by omega) (by omega) hxB (fun j z1 z2 => by rw [b2.2 72 j (by omega) (by omega) (by omega)]; exact Afr j z1 z2) (by rw [b2.2 72 11 (by omega) (by omega) (by omega)]; exact A11) (by rw [b2.2 71 18 (by omega) (by omega) (by omega), Ao 71 18 (by omega) (by omega)]; exact h18) (by rw [b2.2 71 19 (by omega) (by omega) (by omega), Ao 71 19 (by omega) (by omega)]; exact h19) (fun j hj => (b3 j hj).1) (fun j hj => by omega) ⟨fun a ha => by omega, fun l hl => by obtain ⟨a, a1, _⟩ := hl; omega, fun a b _ hb => by omega⟩
      refine ⟨F, c, by omega, by rw [x2, b2.1, A2], fun a j z1 z2 z3 z4 => by rw [x3 a j z1, b2.2 a j z2 z3 (by omega), Ao a j (by omega) (by omega)], x4, x5, Or.inr (Or.inr ⟨st, s2, l3, u1, X, x6, py_SL_c x7 (fun l => ?_)⟩), ?_⟩
      · constructor
        · rintro ⟨a, a1, a2, a3⟩
          exact ⟨by rw [← a2]; exact b4'.1 a a1, a3⟩
        · rintro ⟨z1, z2⟩
          obtain ⟨a, a1, a2⟩ := b4'.2.1 l z1
          exact ⟨a, a1, a2, z2⟩
      · rw [nI_0] at x8
        generalize py_sv I L nm tw w x k y = d at *
        generalize pu_wi R 71 21 v = R1 at *
        simp [bX12_means_17, bX12_means_73, bX12_means_88, bX12_means_94, bX12_means_45, a_ald, a_cv, a_gi, a_gr, a_icne, a_ifeq, a_ild, a_iret, a_ist, a_push, a_wi, sh_71, sh_72, pu_rv, pu_as, Value.category, pu_bk, pu_kl, List.replicate, pu_wi_1, pu_wi_2, nl_add, nl_ladd, nl_aa, nl_mul, nl_rmul, nl_mm, pu_qe0, pu_qe1, es, g71, hA, A21, st1, n1, b5, x8]
        all_goals try simp (maxSteps := 400000) (disch := omega) [nl_tle, nl_fle, nl_tlt, nl_flt, nl_teq, nl_feq, nl_sub, nl_ss, nl_lt, nl_llt, nl_ltt, nl_le, nl_lle, nl_lee, nl_eq, nl_leq, nl_ee, nl_div, nl_rem, nl_cl, nl_n1, nl_n2, nl_n3, nl_n4, nl_add, nl_ladd, nl_aa, nl_mul, nl_rmul, nl_mm, pu_wi_1, pu_wi_2, bX12_means_17, bX12_means_73, bX12_means_88, bX12_means_94, bX12_means_45, a_ald, a_cv, a_gi, a_gr, a_icne, a_ifeq, a_ild, a_iret, a_ist, a_push, a_wi, sh_71, sh_72, pu_rv, pu_as, Value.category, pu_bk, pu_kl, pu_qe0, pu_qe1, es, g71, hA, A21, st1, n1, b5, x8]
        all_goals try simp [bX12_means_17, bX12_means_73, bX12_means_88, bX12_means_94, bX12_means_45, a_ald, a_cv, a_gi, a_gr, a_icne, a_ifeq, a_ild, a_iret, a_ist, a_push, a_wi, sh_71, sh_72, pu_rv, pu_as, Value.category, pu_bk, pu_kl, List.replicate, pu_wi_1, pu_wi_2, nl_add, nl_ladd, nl_aa, nl_mul, nl_rmul, nl_mm, pu_qe0, pu_qe1, es, g71, hA, A21, st1, n1, b5, x8]
        all_goals try simp (maxSteps := 400000) (disch := omega) [nl_tle, nl_fle, nl_tlt, nl_flt, nl_teq, nl_feq, nl_sub, nl_ss, nl_lt, nl_llt, nl_ltt, nl_le, nl_lle, nl_lee, nl_eq, nl_leq, nl_ee, nl_div, nl_rem, nl_cl, nl_n1, nl_n2, nl_n3, nl_n4, nl_add, nl_ladd, nl_aa, nl_mul, nl_rmul, nl_mm, pu_wi_1, pu_wi_2, bX12_means_17, bX12_means_73, bX12_means_88, bX12_means_94, bX12_means_45, a_ald, a_cv, a_gi, a_gr, a_icne, a_ifeq, a_ild, a_iret, a_ist, a_push, a_wi, sh_71, sh_72, pu_rv, pu_as, Value.category, pu_bk, pu_kl, pu_qe0, pu_qe1, es, g71, hA, A21, st1, n1, b5, x8]
        all_goals try simp [bX12_means_17, bX12_means_73, bX12_means_88, bX12_means_94, bX12_means_45, a_ald, a_cv, a_gi, a_gr, a_icne, a_ifeq, a_ild, a_iret, a_ist, a_push, a_wi, sh_71, sh_72, pu_rv, pu_as, Value.category, pu_bk, pu_kl, List.replicate, pu_wi_1, pu_wi_2, nl_add, nl_ladd, nl_aa, nl_mul, nl_rmul, nl_mm, pu_qe0, pu_qe1, es, g71, hA, A21, st1, n1, b5, x8]
        all_goals try simp (maxSteps := 400000) (disch := omega) [nl_tle, nl_fle, nl_tlt, nl_flt, nl_teq, nl_feq, nl_sub, nl_ss, nl_lt, nl_llt, nl_ltt, nl_le, nl_lle, nl_lee, nl_eq, nl_leq, nl_ee, nl_div, nl_rem, nl_cl, nl_n1, nl_n2, nl_n3, nl_n4, nl_add, nl_ladd, nl_aa, nl_mul, nl_rmul, nl_mm, pu_wi_1, pu_wi_2, bX12_means_17, bX12_means_73, bX12_means_88, bX12_means_94, bX12_means_45, a_ald, a_cv, a_gi, a_gr, a_icne, a_ifeq, a_ild, a_iret, a_ist, a_push, a_wi, sh_71, sh_72, pu_rv, pu_as, Value.category, pu_bk, pu_kl, pu_qe0, pu_qe1, es, g71, hA, A21, st1, n1, b5, x8]
        all_goals try simp [bX12_means_17, bX12_means_73, bX12_means_88, bX12_means_94, bX12_means_45, a_ald, a_cv, a_gi, a_gr, a_icne, a_ifeq, a_ild, a_iret, a_ist, a_push, a_wi, sh_71, sh_72, pu_rv, pu_as, Value.category, pu_bk, pu_kl, List.replicate, pu_wi_1, pu_wi_2, nl_add, nl_ladd, nl_aa, nl_mul, nl_rmul, nl_mm, pu_qe0, pu_qe1, es, g71, hA, A21, st1, n1, b5, x8]
end
set_option maxRecDepth 8000 in
theorem op_means (y : Int32) : pu_op pu_Inv 183 324 [.int y] := by
  intro M h
  have hx := h.1
  have hI := pu_ag5 M
  have hL := pu_al5 M
  obtain ⟨ok, fl, nm, tw, w, x, k, N, n1, n2, n3, RF⟩ := py_adr h
  obtain ⟨m1, m2, m3, m4, m5, m6, m7⟩ := id n1
  have N72 : N.1 72 = M.1 72 := funext (fun j => m3 72 j (by omega) (by omega) (by omega))
  have RG : ∀ Q : pu_M, Q.2 = N.2 → (∀ a j, ¬ (5 ≤ a ∧ a < 58) → ¬ (62 ≤ a ∧ a ≤ 68) → Q.1 a j = N.1 a j) → ∃ R, py_cB Q R fl ∧ (ok → R.1 71 17 = nI w ∧ R.1 71 18 = nI x ∧ R.1 71 19 = nI k ∧ (∀ j, j < 3 → pu_Wd (R.1 78) (12 * j) (nm j)) ∧ (∀ j, j < 3 → pu_Wd (R.1 82) (12 * j) (tw j))) ∧ pu_r 314 [some (.ref 71)] [] Q = some (some (.int (pu_q ok)), R) ∧ pu_fx R ∧ pu_St (pu_si N 5) (pu_sj M 5) (R.1 72) := fun Q q2 qf => by
    have q72 : Q.1 72 = N.1 72 := funext (fun j => qf 72 j (by omega) (by omega))
    obtain ⟨R, r1, r2, r3⟩ := RF Q (pz_fx_of m6 q2) (by rw [q72]; exact N72) (by rw [qf 71 4 (by omega) (by omega)]; exact m3 71 4 (by omega) (by omega) (by omega)) (fun j => by rw [qf 75 j (by omega) (by omega)]; exact m3 75 j (by omega) (by omega) (by omega))
    exact ⟨R, r1, r2, r3, pz_fx_of (pz_fx_of m6 q2) r1.1, py_St_ad h n1 q72 r1⟩
  have ST : ∀ R : pu_M, py_cB N R fl → pu_St (pu_si N 5) (pu_sj M 5) (R.1 72) → pu_Inv R := fun R rb S => by
    refine py_Inv_ad h n1 rfl (fun _ _ _ _ => rfl) rb rfl (fun _ _ _ _ _ => rfl) ?_
    rw [show pu_si R 5 = pu_si N 5 from pu_si_eq (fun a j h1 h2 => by rw [rb.2.1 a j (by omega) (by omega) (by omega) (by omega) (by omega)]), show pu_sj R 5 = pu_sj M 5 from pu_sj_eq (fun a j h1 h2 => by rw [rb.1, m4 a j (by omega) (by omega)])]
    exact S
  by_cases hok : ok
  rotate_left
  · obtain ⟨R, r1, r2, r3, hxR, SR⟩ := RG N rfl (fun _ _ _ _ => rfl)
    rw [pu_q0 hok] at n3 r3
    refine ⟨-2, N, R, ?_, ?_, ST R r1 SR⟩
    · rw [qX11_means]
      simp [a_ent, bX11_means_0, bX11_means_14, a_ald, a_cs, a_cv, a_ifeq, a_ifne, a_ild, a_iret, a_push, sh_0, pu_rv, pu_as, Value.category, pu_bk, pu_kl, List.replicate, pu_wi_1, pu_wi_2, nl_add, nl_ladd, nl_aa, nl_mul, nl_rmul, nl_mm, pu_qe0, pu_qe1, n3]
      all_goals try simp (maxSteps := 400000) (disch := omega) [nl_tle, nl_fle, nl_tlt, nl_flt, nl_teq, nl_feq, nl_sub, nl_ss, nl_lt, nl_llt, nl_ltt, nl_le, nl_lle, nl_lee, nl_eq, nl_leq, nl_ee, nl_div, nl_rem, nl_cl, nl_n1, nl_n2, nl_n3, nl_n4, nl_add, nl_ladd, nl_aa, nl_mul, nl_rmul, nl_mm, pu_wi_1, pu_wi_2, bX11_means_0, bX11_means_14, a_ald, a_cs, a_cv, a_ifeq, a_ifne, a_ild, a_iret, a_push, sh_0, pu_rv, pu_as, Value.category, pu_bk, pu_kl, pu_qe0, pu_qe1, n3]
      all_goals try simp [bX11_means_0, bX11_means_14, a_ald, a_cs, a_cv, a_ifeq, a_ifne, a_ild, a_iret, a_push, sh_0, pu_rv, pu_as, Value.category, pu_bk, pu_kl, List.replicate, pu_wi_1, pu_wi_2, nl_add, nl_ladd, nl_aa, nl_mul, nl_rmul, nl_mm, pu_qe0, pu_qe1, n3]
      all_goals try simp (maxSteps := 400000) (disch := omega) [nl_tle, nl_fle, nl_tlt, nl_flt, nl_teq, nl_feq, nl_sub, nl_ss, nl_lt, nl_llt, nl_ltt, nl_le, nl_lle, nl_lee, nl_eq, nl_leq, nl_ee, nl_div, nl_rem, nl_cl, nl_n1, nl_n2, nl_n3, nl_n4, nl_add, nl_ladd, nl_aa, nl_mul, nl_rmul, nl_mm, pu_wi_1, pu_wi_2, bX11_means_0, bX11_means_14, a_ald, a_cs, a_cv, a_ifeq, a_ifne, a_ild, a_iret, a_push, sh_0, pu_rv, pu_as, Value.category, pu_bk, pu_kl, pu_qe0, pu_qe1, n3]
      all_goals try simp [bX11_means_0, bX11_means_14, a_ald, a_cs, a_cv, a_ifeq, a_ifne, a_ild, a_iret, a_push, sh_0, pu_rv, pu_as, Value.category, pu_bk, pu_kl, List.replicate, pu_wi_1, pu_wi_2, nl_add, nl_ladd, nl_aa, nl_mul, nl_rmul, nl_mm, pu_qe0, pu_qe1, n3]
      all_goals try simp (maxSteps := 400000) (disch := omega) [nl_tle, nl_fle, nl_tlt, nl_flt, nl_teq, nl_feq, nl_sub, nl_ss, nl_lt, nl_llt, nl_ltt, nl_le, nl_lle, nl_lee, nl_eq, nl_leq, nl_ee, nl_div, nl_rem, nl_cl, nl_n1, nl_n2, nl_n3, nl_n4, nl_add, nl_ladd, nl_aa, nl_mul, nl_rmul, nl_mm, pu_wi_1, pu_wi_2, bX11_means_0, bX11_means_14, a_ald, a_cs, a_cv, a_ifeq, a_ifne, a_ild, a_iret, a_push, sh_0, pu_rv, pu_as, Value.category, pu_bk, pu_kl, pu_qe0, pu_qe1, n3]
      all_goals try simp [bX11_means_0, bX11_means_14, a_ald, a_cs, a_cv, a_ifeq, a_ifne, a_ild, a_iret, a_push, sh_0, pu_rv, pu_as, Value.category, pu_bk, pu_kl, List.replicate, pu_wi_1, pu_wi_2, nl_add, nl_ladd, nl_aa, nl_mul, nl_rmul, nl_mm, pu_qe0, pu_qe1, n3]
    · rw [qX12_means]
      simp [a_ent, bX12_means_0, bX12_means_14, a_ald, a_cs, a_cv, a_ifeq, a_ifne, a_ild, a_iret, a_push, sh_71, pu_rv, pu_as, Value.category, pu_bk, pu_kl, List.replicate, pu_wi_1, pu_wi_2, nl_add, nl_ladd, nl_aa, nl_mul, nl_rmul, nl_mm, pu_qe0, pu_qe1, r3]
      all_goals try simp (maxSteps := 400000) (disch := omega) [nl_tle, nl_fle, nl_tlt, nl_flt, nl_teq, nl_feq, nl_sub, nl_ss, nl_lt, nl_llt, nl_ltt, nl_le, nl_lle, nl_lee, nl_eq, nl_leq, nl_ee, nl_div, nl_rem, nl_cl, nl_n1, nl_n2, nl_n3, nl_n4, nl_add, nl_ladd, nl_aa, nl_mul, nl_rmul, nl_mm, pu_wi_1, pu_wi_2, bX12_means_0, bX12_means_14, a_ald, a_cs, a_cv, a_ifeq, a_ifne, a_ild, a_iret, a_push, sh_71, pu_rv, pu_as, Value.category, pu_bk, pu_kl, pu_qe0, pu_qe1, r3]
      all_goals try simp [bX12_means_0, bX12_means_14, a_ald, a_cs, a_cv, a_ifeq, a_ifne, a_ild, a_iret, a_push, sh_71, pu_rv, pu_as, Value.category, pu_bk, pu_kl, List.replicate, pu_wi_1, pu_wi_2, nl_add, nl_ladd, nl_aa, nl_mul, nl_rmul, nl_mm, pu_qe0, pu_qe1, r3]
      all_goals try simp (maxSteps := 400000) (disch := omega) [nl_tle, nl_fle, nl_tlt, nl_flt, nl_teq, nl_feq, nl_sub, nl_ss, nl_lt, nl_llt, nl_ltt, nl_le, nl_lle, nl_lee, nl_eq, nl_leq, nl_ee, nl_div, nl_rem, nl_cl, nl_n1, nl_n2, nl_n3, nl_n4, nl_add, nl_ladd, nl_aa, nl_mul, nl_rmul, nl_mm, pu_wi_1, pu_wi_2, bX12_means_0, bX12_means_14, a_ald, a_cs, a_cv, a_ifeq, a_ifne, a_ild, a_iret, a_push, sh_71, pu_rv, pu_as, Value.category, pu_bk, pu_kl, pu_qe0, pu_qe1, r3]
      all_goals try simp [bX12_means_0, bX12_means_14, a_ald, a_cs, a_cv, a_ifeq, a_ifne, a_ild, a_iret, a_push, sh_71, pu_rv, pu_as, Value.category, pu_bk, pu_kl, List.replicate, pu_wi_1, pu_wi_2, nl_add, nl_ladd, nl_aa, nl_mul, nl_rmul, nl_mm, pu_qe0, pu_qe1, r3]
      all_goals try simp (maxSteps := 400000) (disch := omega) [nl_tle, nl_fle, nl_tlt, nl_flt, nl_teq, nl_feq, nl_sub, nl_ss, nl_lt, nl_llt, nl_ltt, nl_le, nl_lle, nl_lee, nl_eq, nl_leq, nl_ee, nl_div, nl_rem, nl_cl, nl_n1, nl_n2, nl_n3, nl_n4, nl_add, nl_ladd, nl_aa, nl_mul, nl_rmul, nl_mm, pu_wi_1, pu_wi_2, bX12_means_0, bX12_means_14, a_ald, a_cs, a_cv, a_ifeq, a_ifne, a_ild, a_iret, a_push, sh_71, pu_rv, pu_as, Value.category, pu_bk, pu_kl, pu_qe0, pu_qe1, r3]
      all_goals try simp [bX12_means_0, bX12_means_14, a_ald, a_cs, a_cv, a_ifeq, a_ifne, a_ild, a_iret, a_push, sh_71, pu_rv, pu_as, Value.category, pu_bk, pu_kl, List.replicate, pu_wi_1, pu_wi_2, nl_add, nl_ladd, nl_aa, nl_mul, nl_rmul, nl_mm, pu_qe0, pu_qe1, r3]
  have r3q := pu_q1 hok
  rw [r3q] at n3
  have e5 := c_isDay y N
  by_cases hy : ¬ y < 0 ∧ ¬ 109574 < y
  rotate_left
  · obtain ⟨R, r1, r2, r3, hxR, SR⟩ := RG N rfl (fun _ _ _ _ => rfl)
    rw [r3q] at r3
    have e6 := r_isDay y R
    rw [pu_q0 hy] at e5 e6
    refine ⟨-2, N, R, ?_, ?_, ST R r1 SR⟩
    · rw [qX11_means]
      simp [a_ent, bX11_means_0, bX11_means_14, a_ald, a_cs, a_cv, a_ifeq, a_ifne, a_ild, a_iret, a_push, sh_0, pu_rv, pu_as, Value.category, pu_bk, pu_kl, List.replicate, pu_wi_1, pu_wi_2, nl_add, nl_ladd, nl_aa, nl_mul, nl_rmul, nl_mm, pu_qe0, pu_qe1, n3, e5]
      all_goals try simp (maxSteps := 400000) (disch := omega) [nl_tle, nl_fle, nl_tlt, nl_flt, nl_teq, nl_feq, nl_sub, nl_ss, nl_lt, nl_llt, nl_ltt, nl_le, nl_lle, nl_lee, nl_eq, nl_leq, nl_ee, nl_div, nl_rem, nl_cl, nl_n1, nl_n2, nl_n3, nl_n4, nl_add, nl_ladd, nl_aa, nl_mul, nl_rmul, nl_mm, pu_wi_1, pu_wi_2, bX11_means_0, bX11_means_14, a_ald, a_cs, a_cv, a_ifeq, a_ifne, a_ild, a_iret, a_push, sh_0, pu_rv, pu_as, Value.category, pu_bk, pu_kl, pu_qe0, pu_qe1, n3, e5]
      all_goals try simp [bX11_means_0, bX11_means_14, a_ald, a_cs, a_cv, a_ifeq, a_ifne, a_ild, a_iret, a_push, sh_0, pu_rv, pu_as, Value.category, pu_bk, pu_kl, List.replicate, pu_wi_1, pu_wi_2, nl_add, nl_ladd, nl_aa, nl_mul, nl_rmul, nl_mm, pu_qe0, pu_qe1, n3, e5]
      all_goals try simp (maxSteps := 400000) (disch := omega) [nl_tle, nl_fle, nl_tlt, nl_flt, nl_teq, nl_feq, nl_sub, nl_ss, nl_lt, nl_llt, nl_ltt, nl_le, nl_lle, nl_lee, nl_eq, nl_leq, nl_ee, nl_div, nl_rem, nl_cl, nl_n1, nl_n2, nl_n3, nl_n4, nl_add, nl_ladd, nl_aa, nl_mul, nl_rmul, nl_mm, pu_wi_1, pu_wi_2, bX11_means_0, bX11_means_14, a_ald, a_cs, a_cv, a_ifeq, a_ifne, a_ild, a_iret, a_push, sh_0, pu_rv, pu_as, Value.category, pu_bk, pu_kl, pu_qe0, pu_qe1, n3, e5]
      all_goals try simp [bX11_means_0, bX11_means_14, a_ald, a_cs, a_cv, a_ifeq, a_ifne, a_ild, a_iret, a_push, sh_0, pu_rv, pu_as, Value.category, pu_bk, pu_kl, List.replicate, pu_wi_1, pu_wi_2, nl_add, nl_ladd, nl_aa, nl_mul, nl_rmul, nl_mm, pu_qe0, pu_qe1, n3, e5]
      all_goals try simp (maxSteps := 400000) (disch := omega) [nl_tle, nl_fle, nl_tlt, nl_flt, nl_teq, nl_feq, nl_sub, nl_ss, nl_lt, nl_llt, nl_ltt, nl_le, nl_lle, nl_lee, nl_eq, nl_leq, nl_ee, nl_div, nl_rem, nl_cl, nl_n1, nl_n2, nl_n3, nl_n4, nl_add, nl_ladd, nl_aa, nl_mul, nl_rmul, nl_mm, pu_wi_1, pu_wi_2, bX11_means_0, bX11_means_14, a_ald, a_cs, a_cv, a_ifeq, a_ifne, a_ild, a_iret, a_push, sh_0, pu_rv, pu_as, Value.category, pu_bk, pu_kl, pu_qe0, pu_qe1, n3, e5]
      all_goals try simp [bX11_means_0, bX11_means_14, a_ald, a_cs, a_cv, a_ifeq, a_ifne, a_ild, a_iret, a_push, sh_0, pu_rv, pu_as, Value.category, pu_bk, pu_kl, List.replicate, pu_wi_1, pu_wi_2, nl_add, nl_ladd, nl_aa, nl_mul, nl_rmul, nl_mm, pu_qe0, pu_qe1, n3, e5]
    · rw [qX12_means]
      simp [a_ent, bX12_means_0, bX12_means_14, a_ald, a_cs, a_cv, a_ifeq, a_ifne, a_ild, a_iret, a_push, sh_71, pu_rv, pu_as, Value.category, pu_bk, pu_kl, List.replicate, pu_wi_1, pu_wi_2, nl_add, nl_ladd, nl_aa, nl_mul, nl_rmul, nl_mm, pu_qe0, pu_qe1, r3, e6]
      all_goals try simp (maxSteps := 400000) (disch := omega) [nl_tle, nl_fle, nl_tlt, nl_flt, nl_teq, nl_feq, nl_sub, nl_ss, nl_lt, nl_llt, nl_ltt, nl_le, nl_lle, nl_lee, nl_eq, nl_leq, nl_ee, nl_div, nl_rem, nl_cl, nl_n1, nl_n2, nl_n3, nl_n4, nl_add, nl_ladd, nl_aa, nl_mul, nl_rmul, nl_mm, pu_wi_1, pu_wi_2, bX12_means_0, bX12_means_14, a_ald, a_cs, a_cv, a_ifeq, a_ifne, a_ild, a_iret, a_push, sh_71, pu_rv, pu_as, Value.category, pu_bk, pu_kl, pu_qe0, pu_qe1, r3, e6]
      all_goals try simp [bX12_means_0, bX12_means_14, a_ald, a_cs, a_cv, a_ifeq, a_ifne, a_ild, a_iret, a_push, sh_71, pu_rv, pu_as, Value.category, pu_bk, pu_kl, List.replicate, pu_wi_1, pu_wi_2, nl_add, nl_ladd, nl_aa, nl_mul, nl_rmul, nl_mm, pu_qe0, pu_qe1, r3, e6]
      all_goals try simp (maxSteps := 400000) (disch := omega) [nl_tle, nl_fle, nl_tlt, nl_flt, nl_teq, nl_feq, nl_sub, nl_ss, nl_lt, nl_llt, nl_ltt, nl_le, nl_lle, nl_lee, nl_eq, nl_leq, nl_ee, nl_div, nl_rem, nl_cl, nl_n1, nl_n2, nl_n3, nl_n4, nl_add, nl_ladd, nl_aa, nl_mul, nl_rmul, nl_mm, pu_wi_1, pu_wi_2, bX12_means_0, bX12_means_14, a_ald, a_cs, a_cv, a_ifeq, a_ifne, a_ild, a_iret, a_push, sh_71, pu_rv, pu_as, Value.category, pu_bk, pu_kl, pu_qe0, pu_qe1, r3, e6]
      all_goals try simp [bX12_means_0, bX12_means_14, a_ald, a_cs, a_cv, a_ifeq, a_ifne, a_ild, a_iret, a_push, sh_71, pu_rv, pu_as, Value.category, pu_bk, pu_kl, List.replicate, pu_wi_1, pu_wi_2, nl_add, nl_ladd, nl_aa, nl_mul, nl_rmul, nl_mm, pu_qe0, pu_qe1, r3, e6]
      all_goals try simp (maxSteps := 400000) (disch := omega) [nl_tle, nl_fle, nl_tlt, nl_flt, nl_teq, nl_feq, nl_sub, nl_ss, nl_lt, nl_llt, nl_ltt, nl_le, nl_lle, nl_lee, nl_eq, nl_leq, nl_ee, nl_div, nl_rem, nl_cl, nl_n1, nl_n2, nl_n3, nl_n4, nl_add, nl_ladd, nl_aa, nl_mul, nl_rmul, nl_mm, pu_wi_1, pu_wi_2, bX12_means_0, bX12_means_14, a_ald, a_cs, a_cv, a_ifeq, a_ifne, a_ild, a_iret, a_push, sh_71, pu_rv, pu_as, Value.category, pu_bk, pu_kl, pu_qe0, pu_qe1, r3, e6]
      all_goals try simp [bX12_means_0, bX12_means_14, a_ald, a_cs, a_cv, a_ifeq, a_ifne, a_ild, a_iret, a_push, sh_71, pu_rv, pu_as, Value.category, pu_bk, pu_kl, List.replicate, pu_wi_1, pu_wi_2, nl_add, nl_ladd, nl_aa, nl_mul, nl_rmul, nl_mm, pu_qe0, pu_qe1, r3, e6]
  rw [pu_q1 hy] at e5
  obtain ⟨⟨w1, w2, x5, k1⟩, c2, c3, c4, c5, c6⟩ := n2 hok
  obtain ⟨R0, _, _, _, _, S0⟩ := RG N rfl (fun _ _ _ _ => rfl)
  have hwN : pu_WF (pu_si N 5) (pu_sj M 5) := S0.1
  have hIN := pu_ag5 N
  have hLN : pu_al N (pu_sj M 5) := fun a j q1 q2 => by rw [m4 a j (by omega) (by omega)]; exact hL a j q1 q2
  obtain ⟨Q, c, hc, Q2, Qo, Q45, QC, QR⟩ := c_means m6 hIN hLN hwN c5 c6 (by omega) w2 x5 k1 c2 c3 c4 y hy none
  have Qf : ∀ a j, ¬ (5 ≤ a ∧ a < 58) → ¬ (62 ≤ a ∧ a ≤ 68) → Q.1 a j = N.1 a j := fun a j z1 z2 => Qo a j (by omega) (by omega) z2
  obtain ⟨R, r1, r2, r3, hxR, SR⟩ := RG Q Q2 Qf
  rw [r3q] at r3
  have e6 := r_isDay y R
  rw [pu_q1 hy] at e6
  obtain ⟨s1, s2, s3, s4, s5⟩ := r2 hok
  obtain ⟨F, c', hc', F2, Fo, Fr, F11, FC, FR⟩ := r_means hxR SR s4 s5 w2 x5 k1 s1 s2 s3 hy.1 none none none none none
  obtain ⟨ec, eE⟩ := py_CS_un hwN QC FC
  rw [← ec] at F11 FR
  refine ⟨nI c, Q, F, ?_, ?_, ?_⟩
  · generalize nI c = cc at *
    rw [qX11_means]
    simp [a_ent, bX11_means_0, bX11_means_14, a_ald, a_cs, a_cv, a_ifeq, a_ifne, a_ild, a_iret, a_push, sh_0, pu_rv, pu_as, Value.category, pu_bk, pu_kl, List.replicate, pu_wi_1, pu_wi_2, nl_add, nl_ladd, nl_aa, nl_mul, nl_rmul, nl_mm, pu_qe0, pu_qe1, n3, e5, QR]
    all_goals try simp (maxSteps := 400000) (disch := omega) [nl_tle, nl_fle, nl_tlt, nl_flt, nl_teq, nl_feq, nl_sub, nl_ss, nl_lt, nl_llt, nl_ltt, nl_le, nl_lle, nl_lee, nl_eq, nl_leq, nl_ee, nl_div, nl_rem, nl_cl, nl_n1, nl_n2, nl_n3, nl_n4, nl_add, nl_ladd, nl_aa, nl_mul, nl_rmul, nl_mm, pu_wi_1, pu_wi_2, bX11_means_0, bX11_means_14, a_ald, a_cs, a_cv, a_ifeq, a_ifne, a_ild, a_iret, a_push, sh_0, pu_rv, pu_as, Value.category, pu_bk, pu_kl, pu_qe0, pu_qe1, n3, e5, QR]
    all_goals try simp [bX11_means_0, bX11_means_14, a_ald, a_cs, a_cv, a_ifeq, a_ifne, a_ild, a_iret, a_push, sh_0, pu_rv, pu_as, Value.category, pu_bk, pu_kl, List.replicate, pu_wi_1, pu_wi_2, nl_add, nl_ladd, nl_aa, nl_mul, nl_rmul, nl_mm, pu_qe0, pu_qe1, n3, e5, QR]
    all_goals try simp (maxSteps := 400000) (disch := omega) [nl_tle, nl_fle, nl_tlt, nl_flt, nl_teq, nl_feq, nl_sub, nl_ss, nl_lt, nl_llt, nl_ltt, nl_le, nl_lle, nl_lee, nl_eq, nl_leq, nl_ee, nl_div, nl_rem, nl_cl, nl_n1, nl_n2, nl_n3, nl_n4, nl_add, nl_ladd, nl_aa, nl_mul, nl_rmul, nl_mm, pu_wi_1, pu_wi_2, bX11_means_0, bX11_means_14, a_ald, a_cs, a_cv, a_ifeq, a_ifne, a_ild, a_iret, a_push, sh_0, pu_rv, pu_as, Value.category, pu_bk, pu_kl, pu_qe0, pu_qe1, n3, e5, QR]
    all_goals try simp [bX11_means_0, bX11_means_14, a_ald, a_cs, a_cv, a_ifeq, a_ifne, a_ild, a_iret, a_push, sh_0, pu_rv, pu_as, Value.category, pu_bk, pu_kl, List.replicate, pu_wi_1, pu_wi_2, nl_add, nl_ladd, nl_aa, nl_mul, nl_rmul, nl_mm, pu_qe0, pu_qe1, n3, e5, QR]
    all_goals try simp (maxSteps := 400000) (disch := omega) [nl_tle, nl_fle, nl_tlt, nl_flt, nl_teq, nl_feq, nl_sub, nl_ss, nl_lt, nl_llt, nl_ltt, nl_le, nl_lle, nl_lee, nl_eq, nl_leq, nl_ee, nl_div, nl_rem, nl_cl, nl_n1, nl_n2, nl_n3, nl_n4, nl_add, nl_ladd, nl_aa, nl_mul, nl_rmul, nl_mm, pu_wi_1, pu_wi_2, bX11_means_0, bX11_means_14, a_ald, a_cs, a_cv, a_ifeq, a_ifne, a_ild, a_iret, a_push, sh_0, pu_rv, pu_as, Value.category, pu_bk, pu_kl, pu_qe0, pu_qe1, n3, e5, QR]
    all_goals try simp [bX11_means_0, bX11_means_14, a_ald, a_cs, a_cv, a_ifeq, a_ifne, a_ild, a_iret, a_push, sh_0, pu_rv, pu_as, Value.category, pu_bk, pu_kl, List.replicate, pu_wi_1, pu_wi_2, nl_add, nl_ladd, nl_aa, nl_mul, nl_rmul, nl_mm, pu_qe0, pu_qe1, n3, e5, QR]
  · generalize nI c = cc at *
    rw [qX12_means]
    simp [a_ent, bX12_means_0, bX12_means_14, a_ald, a_cs, a_cv, a_ifeq, a_ifne, a_ild, a_iret, a_push, sh_71, pu_rv, pu_as, Value.category, pu_bk, pu_kl, List.replicate, pu_wi_1, pu_wi_2, nl_add, nl_ladd, nl_aa, nl_mul, nl_rmul, nl_mm, pu_qe0, pu_qe1, r3, e6, FR]
    all_goals try simp (maxSteps := 400000) (disch := omega) [nl_tle, nl_fle, nl_tlt, nl_flt, nl_teq, nl_feq, nl_sub, nl_ss, nl_lt, nl_llt, nl_ltt, nl_le, nl_lle, nl_lee, nl_eq, nl_leq, nl_ee, nl_div, nl_rem, nl_cl, nl_n1, nl_n2, nl_n3, nl_n4, nl_add, nl_ladd, nl_aa, nl_mul, nl_rmul, nl_mm, pu_wi_1, pu_wi_2, bX12_means_0, bX12_means_14, a_ald, a_cs, a_cv, a_ifeq, a_ifne, a_ild, a_iret, a_push, sh_71, pu_rv, pu_as, Value.category, pu_bk, pu_kl, pu_qe0, pu_qe1, r3, e6, FR]
    all_goals try simp [bX12_means_0, bX12_means_14, a_ald, a_cs, a_cv, a_ifeq, a_ifne, a_ild, a_iret, a_push, sh_71, pu_rv, pu_as, Value.category, pu_bk, pu_kl, List.replicate, pu_wi_1, pu_wi_2, nl_add, nl_ladd, nl_aa, nl_mul, nl_rmul, nl_mm, pu_qe0, pu_qe1, r3, e6, FR]
    all_goals try simp (maxSteps := 400000) (disch := omega) [nl_tle, nl_fle, nl_tlt, nl_flt, nl_teq, nl_feq, nl_sub, nl_ss, nl_lt, nl_llt, nl_ltt, nl_le, nl_lle, nl_lee, nl_eq, nl_leq, nl_ee, nl_div, nl_rem, nl_cl, nl_n1, nl_n2, nl_n3, nl_n4, nl_add, nl_ladd, nl_aa, nl_mul, nl_rmul, nl_mm, pu_wi_1, pu_wi_2, bX12_means_0, bX12_means_14, a_ald, a_cs, a_cv, a_ifeq, a_ifne, a_ild, a_iret, a_push, sh_71, pu_rv, pu_as, Value.category, pu_bk, pu_kl, pu_qe0, pu_qe1, r3, e6, FR]
    all_goals try simp [bX12_means_0, bX12_means_14, a_ald, a_cs, a_cv, a_ifeq, a_ifne, a_ild, a_iret, a_push, sh_71, pu_rv, pu_as, Value.category, pu_bk, pu_kl, List.replicate, pu_wi_1, pu_wi_2, nl_add, nl_ladd, nl_aa, nl_mul, nl_rmul, nl_mm, pu_qe0, pu_qe1, r3, e6, FR]
    all_goals try simp (maxSteps := 400000) (disch := omega) [nl_tle, nl_fle, nl_tlt, nl_flt, nl_teq, nl_feq, nl_sub, nl_ss, nl_lt, nl_llt, nl_ltt, nl_le, nl_lle, nl_lee, nl_eq, nl_leq, nl_ee, nl_div, nl_rem, nl_cl, nl_n1, nl_n2, nl_n3, nl_n4, nl_add, nl_ladd, nl_aa, nl_mul, nl_rmul, nl_mm, pu_wi_1, pu_wi_2, bX12_means_0, bX12_means_14, a_ald, a_cs, a_cv, a_ifeq, a_ifne, a_ild, a_iret, a_push, sh_71, pu_rv, pu_as, Value.category, pu_bk, pu_kl, pu_qe0, pu_qe1, r3, e6, FR]
    all_goals try simp [bX12_means_0, bX12_means_14, a_ald, a_cs, a_cv, a_ifeq, a_ifne, a_ild, a_iret, a_push, sh_71, pu_rv, pu_as, Value.category, pu_bk, pu_kl, List.replicate, pu_wi_1, pu_wi_2, nl_add, nl_ladd, nl_aa, nl_mul, nl_rmul, nl_mm, pu_qe0, pu_qe1, r3, e6, FR]
  · have FQ : ∀ a j, 5 ≤ a → a < 58 → F.1 a j = Q.1 a j := fun a j h1 h2 => by rw [Fo a j (by omega) (by omega) (by omega) (by omega), r1.2.1 a j (by omega) (by omega) (by omega) (by omega) (by omega)]
    refine py_Inv_ad h n1 Q2 Qf r1 F2 (fun a j z1 z2 z3 => Fo a j z2 (by omega) (by omega) z3) ?_
    rw [show pu_sj F 5 = pu_sj M 5 from pu_sj_eq (fun a j h1 h2 => by rw [F2, r1.1, Q2, m4 a j (by omega) (by omega)])]
    have JQ : ∀ a j, 5 ≤ a → a < 58 → pu_si F 5 a j = Q.1 a j := fun a j z1 z2 => by rw [← pu_ag5 F a j z1 z2]; exact FQ a j z1 z2
    refine St_found SR hc (fun a j z1 z2 => ?_) (by rw [JQ 45 2 (by omega) (by omega)]; exact Q45) Fr F11 (fun j hj => ?_)
    · by_cases z : 5 ≤ a ∧ a < 58
      · rw [JQ a j z.1 z.2, Qo a j z1 z2 (by omega)]
        exact hIN a j z.1 z.2
      · unfold pu_si
        rw [if_neg z, if_neg z]
    · rw [JQ 46 j (by omega) (by omega), JQ 47 j (by omega) (by omega)]
      exact ⟨((eE j hj).1).symm, ((eE j hj).2).symm⟩
