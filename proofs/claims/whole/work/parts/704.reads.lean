/-! names read: the reference -/
def py_tr (M : pu_M) (b : Nat → Nat) (t : Nat) : Prop := M.1 71 6 = nI t ∧ t ≤ 1200 ∧ ∀ j, j < t → M.1 76 j &&& 255 = nI (b j) ∧ b j < 256
section
variable {M : pu_M} {b : Nat → Nat} {t : Nat}
theorem r_here1 (hx : pu_fx M) (h : py_tr M b t) {k : Nat} (hk : k < t) : pu_r 241 [some (.ref 71), some (.int (nI k))] [] M = some (some (.int (nI (b k))), M) := by
  obtain ⟨t1, t2, t3⟩ := h
  obtain ⟨u1, u2⟩ := t3 k hk
  rw [qX12_here]
  simp [a_ent, bX12_here_0, bX12_here_21, bX12_here_22, a_ai, a_ald, a_gi, a_gr, a_iand, a_icge, a_ild, a_iret, a_push, fx_71_5 hx, sh_71, sh_76, pu_rv, pu_as, Value.category, pu_bk, pu_kl, List.replicate, pu_wi_1, pu_wi_2, nl_add, nl_ladd, nl_aa, nl_mul, nl_rmul, nl_mm, pu_qe0, pu_qe1, t1, hk, u1]
  all_goals try simp (maxSteps := 400000) (disch := omega) [nl_tle, nl_fle, nl_tlt, nl_flt, nl_teq, nl_feq, nl_sub, nl_ss, nl_lt, nl_llt, nl_ltt, nl_le, nl_lle, nl_lee, nl_eq, nl_leq, nl_ee, nl_div, nl_rem, nl_cl, nl_n1, nl_n2, nl_n3, nl_n4, nl_add, nl_ladd, nl_aa, nl_mul, nl_rmul, nl_mm, pu_wi_1, pu_wi_2, bX12_here_0, bX12_here_21, bX12_here_22, a_ai, a_ald, a_gi, a_gr, a_iand, a_icge, a_ild, a_iret, a_push, fx_71_5 hx, sh_71, sh_76, pu_rv, pu_as, Value.category, pu_bk, pu_kl, pu_qe0, pu_qe1, t1, hk, u1]
  all_goals try simp [bX12_here_0, bX12_here_21, bX12_here_22, a_ai, a_ald, a_gi, a_gr, a_iand, a_icge, a_ild, a_iret, a_push, fx_71_5 hx, sh_71, sh_76, pu_rv, pu_as, Value.category, pu_bk, pu_kl, List.replicate, pu_wi_1, pu_wi_2, nl_add, nl_ladd, nl_aa, nl_mul, nl_rmul, nl_mm, pu_qe0, pu_qe1, t1, hk, u1]
  all_goals try simp (maxSteps := 400000) (disch := omega) [nl_tle, nl_fle, nl_tlt, nl_flt, nl_teq, nl_feq, nl_sub, nl_ss, nl_lt, nl_llt, nl_ltt, nl_le, nl_lle, nl_lee, nl_eq, nl_leq, nl_ee, nl_div, nl_rem, nl_cl, nl_n1, nl_n2, nl_n3, nl_n4, nl_add, nl_ladd, nl_aa, nl_mul, nl_rmul, nl_mm, pu_wi_1, pu_wi_2, bX12_here_0, bX12_here_21, bX12_here_22, a_ai, a_ald, a_gi, a_gr, a_iand, a_icge, a_ild, a_iret, a_push, fx_71_5 hx, sh_71, sh_76, pu_rv, pu_as, Value.category, pu_bk, pu_kl, pu_qe0, pu_qe1, t1, hk, u1]
theorem r_here0 (hx : pu_fx M) (h : py_tr M b t) {k : Nat} (hk : ¬ k < t) (h2 : k < 3000) : pu_r 241 [some (.ref 71), some (.int (nI k))] [] M = some (some (.int (-1)), M) := by
  obtain ⟨t1, t2, t3⟩ := h
  have hc : nI t ≤ nI k := nI_le (by omega) (by omega)
  rw [qX12_here]
  simp [a_ent, bX12_here_0, bX12_here_21, bX12_here_22, a_ai, a_ald, a_gi, a_gr, a_iand, a_icge, a_ild, a_iret, a_push, fx_71_5 hx, sh_71, sh_76, pu_rv, pu_as, Value.category, pu_bk, pu_kl, List.replicate, pu_wi_1, pu_wi_2, nl_add, nl_ladd, nl_aa, nl_mul, nl_rmul, nl_mm, pu_qe0, pu_qe1, t1, hc]
  all_goals try simp (maxSteps := 400000) (disch := omega) [nl_tle, nl_fle, nl_tlt, nl_flt, nl_teq, nl_feq, nl_sub, nl_ss, nl_lt, nl_llt, nl_ltt, nl_le, nl_lle, nl_lee, nl_eq, nl_leq, nl_ee, nl_div, nl_rem, nl_cl, nl_n1, nl_n2, nl_n3, nl_n4, nl_add, nl_ladd, nl_aa, nl_mul, nl_rmul, nl_mm, pu_wi_1, pu_wi_2, bX12_here_0, bX12_here_21, bX12_here_22, a_ai, a_ald, a_gi, a_gr, a_iand, a_icge, a_ild, a_iret, a_push, fx_71_5 hx, sh_71, sh_76, pu_rv, pu_as, Value.category, pu_bk, pu_kl, pu_qe0, pu_qe1, t1, hc]
  all_goals try simp [bX12_here_0, bX12_here_21, bX12_here_22, a_ai, a_ald, a_gi, a_gr, a_iand, a_icge, a_ild, a_iret, a_push, fx_71_5 hx, sh_71, sh_76, pu_rv, pu_as, Value.category, pu_bk, pu_kl, List.replicate, pu_wi_1, pu_wi_2, nl_add, nl_ladd, nl_aa, nl_mul, nl_rmul, nl_mm, pu_qe0, pu_qe1, t1, hc]
  all_goals try simp (maxSteps := 400000) (disch := omega) [nl_tle, nl_fle, nl_tlt, nl_flt, nl_teq, nl_feq, nl_sub, nl_ss, nl_lt, nl_llt, nl_ltt, nl_le, nl_lle, nl_lee, nl_eq, nl_leq, nl_ee, nl_div, nl_rem, nl_cl, nl_n1, nl_n2, nl_n3, nl_n4, nl_add, nl_ladd, nl_aa, nl_mul, nl_rmul, nl_mm, pu_wi_1, pu_wi_2, bX12_here_0, bX12_here_21, bX12_here_22, a_ai, a_ald, a_gi, a_gr, a_iand, a_icge, a_ild, a_iret, a_push, fx_71_5 hx, sh_71, sh_76, pu_rv, pu_as, Value.category, pu_bk, pu_kl, pu_qe0, pu_qe1, t1, hc]
theorem r_isLetter (c : Nat) (hc : c < 256) (M : pu_M) : pu_r 240 [some (.int (nI c))] [] M = some (some (.int (pu_q (97 ≤ c ∧ c ≤ 122))), M) := by
  by_cases c1 : 97 ≤ c
  · by_cases c2 : c ≤ 122
    · rw [pu_q1 ⟨c1, c2⟩]
      rw [qX12_isLetter]
      simp [a_ent, bX12_isLetter_0, bX12_isLetter_16, bX12_isLetter_17, a_icgt, a_iclt, a_ild, a_push, a_zret, pu_rv, pu_as, Value.category, pu_bk, pu_kl, List.replicate, pu_wi_1, pu_wi_2, nl_add, nl_ladd, nl_aa, nl_mul, nl_rmul, nl_mm, pu_qe0, pu_qe1, c1, c2]
      all_goals try simp (maxSteps := 400000) (disch := omega) [nl_tle, nl_fle, nl_tlt, nl_flt, nl_teq, nl_feq, nl_sub, nl_ss, nl_lt, nl_llt, nl_ltt, nl_le, nl_lle, nl_lee, nl_eq, nl_leq, nl_ee, nl_div, nl_rem, nl_cl, nl_n1, nl_n2, nl_n3, nl_n4, nl_add, nl_ladd, nl_aa, nl_mul, nl_rmul, nl_mm, pu_wi_1, pu_wi_2, bX12_isLetter_0, bX12_isLetter_16, bX12_isLetter_17, a_icgt, a_iclt, a_ild, a_push, a_zret, pu_rv, pu_as, Value.category, pu_bk, pu_kl, pu_qe0, pu_qe1, c1, c2]
      all_goals try simp [bX12_isLetter_0, bX12_isLetter_16, bX12_isLetter_17, a_icgt, a_iclt, a_ild, a_push, a_zret, pu_rv, pu_as, Value.category, pu_bk, pu_kl, List.replicate, pu_wi_1, pu_wi_2, nl_add, nl_ladd, nl_aa, nl_mul, nl_rmul, nl_mm, pu_qe0, pu_qe1, c1, c2]
      all_goals try simp (maxSteps := 400000) (disch := omega) [nl_tle, nl_fle, nl_tlt, nl_flt, nl_teq, nl_feq, nl_sub, nl_ss, nl_lt, nl_llt, nl_ltt, nl_le, nl_lle, nl_lee, nl_eq, nl_leq, nl_ee, nl_div, nl_rem, nl_cl, nl_n1, nl_n2, nl_n3, nl_n4, nl_add, nl_ladd, nl_aa, nl_mul, nl_rmul, nl_mm, pu_wi_1, pu_wi_2, bX12_isLetter_0, bX12_isLetter_16, bX12_isLetter_17, a_icgt, a_iclt, a_ild, a_push, a_zret, pu_rv, pu_as, Value.category, pu_bk, pu_kl, pu_qe0, pu_qe1, c1, c2]
    · rw [pu_q0 (fun z => c2 z.2)]
      rw [qX12_isLetter]
      simp [a_ent, bX12_isLetter_0, bX12_isLetter_16, bX12_isLetter_17, a_icgt, a_iclt, a_ild, a_push, a_zret, pu_rv, pu_as, Value.category, pu_bk, pu_kl, List.replicate, pu_wi_1, pu_wi_2, nl_add, nl_ladd, nl_aa, nl_mul, nl_rmul, nl_mm, pu_qe0, pu_qe1, c1, c2]
      all_goals try simp (maxSteps := 400000) (disch := omega) [nl_tle, nl_fle, nl_tlt, nl_flt, nl_teq, nl_feq, nl_sub, nl_ss, nl_lt, nl_llt, nl_ltt, nl_le, nl_lle, nl_lee, nl_eq, nl_leq, nl_ee, nl_div, nl_rem, nl_cl, nl_n1, nl_n2, nl_n3, nl_n4, nl_add, nl_ladd, nl_aa, nl_mul, nl_rmul, nl_mm, pu_wi_1, pu_wi_2, bX12_isLetter_0, bX12_isLetter_16, bX12_isLetter_17, a_icgt, a_iclt, a_ild, a_push, a_zret, pu_rv, pu_as, Value.category, pu_bk, pu_kl, pu_qe0, pu_qe1, c1, c2]
      all_goals try simp [bX12_isLetter_0, bX12_isLetter_16, bX12_isLetter_17, a_icgt, a_iclt, a_ild, a_push, a_zret, pu_rv, pu_as, Value.category, pu_bk, pu_kl, List.replicate, pu_wi_1, pu_wi_2, nl_add, nl_ladd, nl_aa, nl_mul, nl_rmul, nl_mm, pu_qe0, pu_qe1, c1, c2]
      all_goals try simp (maxSteps := 400000) (disch := omega) [nl_tle, nl_fle, nl_tlt, nl_flt, nl_teq, nl_feq, nl_sub, nl_ss, nl_lt, nl_llt, nl_ltt, nl_le, nl_lle, nl_lee, nl_eq, nl_leq, nl_ee, nl_div, nl_rem, nl_cl, nl_n1, nl_n2, nl_n3, nl_n4, nl_add, nl_ladd, nl_aa, nl_mul, nl_rmul, nl_mm, pu_wi_1, pu_wi_2, bX12_isLetter_0, bX12_isLetter_16, bX12_isLetter_17, a_icgt, a_iclt, a_ild, a_push, a_zret, pu_rv, pu_as, Value.category, pu_bk, pu_kl, pu_qe0, pu_qe1, c1, c2]
  · rw [pu_q0 (fun z => c1 z.1)]
    rw [qX12_isLetter]
    simp [a_ent, bX12_isLetter_0, bX12_isLetter_16, bX12_isLetter_17, a_icgt, a_iclt, a_ild, a_push, a_zret, pu_rv, pu_as, Value.category, pu_bk, pu_kl, List.replicate, pu_wi_1, pu_wi_2, nl_add, nl_ladd, nl_aa, nl_mul, nl_rmul, nl_mm, pu_qe0, pu_qe1, c1]
    all_goals try simp (maxSteps := 400000) (disch := omega) [nl_tle, nl_fle, nl_tlt, nl_flt, nl_teq, nl_feq, nl_sub, nl_ss, nl_lt, nl_llt, nl_ltt, nl_le, nl_lle, nl_lee, nl_eq, nl_leq, nl_ee, nl_div, nl_rem, nl_cl, nl_n1, nl_n2, nl_n3, nl_n4, nl_add, nl_ladd, nl_aa, nl_mul, nl_rmul, nl_mm, pu_wi_1, pu_wi_2, bX12_isLetter_0, bX12_isLetter_16, bX12_isLetter_17, a_icgt, a_iclt, a_ild, a_push, a_zret, pu_rv, pu_as, Value.category, pu_bk, pu_kl, pu_qe0, pu_qe1, c1]
    all_goals try simp [bX12_isLetter_0, bX12_isLetter_16, bX12_isLetter_17, a_icgt, a_iclt, a_ild, a_push, a_zret, pu_rv, pu_as, Value.category, pu_bk, pu_kl, List.replicate, pu_wi_1, pu_wi_2, nl_add, nl_ladd, nl_aa, nl_mul, nl_rmul, nl_mm, pu_qe0, pu_qe1, c1]
    all_goals try simp (maxSteps := 400000) (disch := omega) [nl_tle, nl_fle, nl_tlt, nl_flt, nl_teq, nl_feq, nl_sub, nl_ss, nl_lt, nl_llt, nl_ltt, nl_le, nl_lle, nl_lee, nl_eq, nl_leq, nl_ee, nl_div, nl_rem, nl_cl, nl_n1, nl_n2, nl_n3, nl_n4, nl_add, nl_ladd, nl_aa, nl_mul, nl_rmul, nl_mm, pu_wi_1, pu_wi_2, bX12_isLetter_0, bX12_isLetter_16, bX12_isLetter_17, a_icgt, a_iclt, a_ild, a_push, a_zret, pu_rv, pu_as, Value.category, pu_bk, pu_kl, pu_qe0, pu_qe1, c1]
theorem r_isLetterN (M : pu_M) : pu_r 240 [some (.int (-1))] [] M = some (some (.int 0), M) := by
  rw [qX12_isLetter]
  simp [a_ent, bX12_isLetter_0, bX12_isLetter_16, bX12_isLetter_17, a_icgt, a_iclt, a_ild, a_push, a_zret, pu_rv, pu_as, Value.category, pu_bk, pu_kl, List.replicate, pu_wi_1, pu_wi_2, nl_add, nl_ladd, nl_aa, nl_mul, nl_rmul, nl_mm, pu_qe0, pu_qe1]
  all_goals try simp (maxSteps := 400000) (disch := omega) [nl_tle, nl_fle, nl_tlt, nl_flt, nl_teq, nl_feq, nl_sub, nl_ss, nl_lt, nl_llt, nl_ltt, nl_le, nl_lle, nl_lee, nl_eq, nl_leq, nl_ee, nl_div, nl_rem, nl_cl, nl_n1, nl_n2, nl_n3, nl_n4, nl_add, nl_ladd, nl_aa, nl_mul, nl_rmul, nl_mm, pu_wi_1, pu_wi_2, bX12_isLetter_0, bX12_isLetter_16, bX12_isLetter_17, a_icgt, a_iclt, a_ild, a_push, a_zret, pu_rv, pu_as, Value.category, pu_bk, pu_kl, pu_qe0, pu_qe1]
  all_goals try simp [bX12_isLetter_0, bX12_isLetter_16, bX12_isLetter_17, a_icgt, a_iclt, a_ild, a_push, a_zret, pu_rv, pu_as, Value.category, pu_bk, pu_kl, List.replicate, pu_wi_1, pu_wi_2, nl_add, nl_ladd, nl_aa, nl_mul, nl_rmul, nl_mm, pu_qe0, pu_qe1]
  all_goals try simp (maxSteps := 400000) (disch := omega) [nl_tle, nl_fle, nl_tlt, nl_flt, nl_teq, nl_feq, nl_sub, nl_ss, nl_lt, nl_llt, nl_ltt, nl_le, nl_lle, nl_lee, nl_eq, nl_leq, nl_ee, nl_div, nl_rem, nl_cl, nl_n1, nl_n2, nl_n3, nl_n4, nl_add, nl_ladd, nl_aa, nl_mul, nl_rmul, nl_mm, pu_wi_1, pu_wi_2, bX12_isLetter_0, bX12_isLetter_16, bX12_isLetter_17, a_icgt, a_iclt, a_ild, a_push, a_zret, pu_rv, pu_as, Value.category, pu_bk, pu_kl, pu_qe0, pu_qe1]
theorem py_tr_w (h : py_tr M b t) {a i : Nat} {v : Int32} (ha : a ≠ 76) (hb : ¬ (a = 71 ∧ i = 6)) : py_tr (pu_wi M a i v) b t := ⟨by rw [py_wi_o (by omega)]; exact h.1, h.2.1, fun j hj => by rw [py_wi_o (by omega)]; exact h.2.2 j hj⟩
end
theorem py_lt_c {d : Nat} {ds : List Nat} {i : Nat} : pu_lt (d :: ds) (i + 1) = pu_lt ds i := by
  unfold pu_lt
  simp
theorem py_lt_z {d : Nat} {ds : List Nat} : pu_lt (d :: ds) 0 = nI (97 + d) := by
  unfold pu_lt
  simp
theorem py_lt_n {i : Nat} : pu_lt [] i = 0 := by
  unfold pu_lt
  simp
/-- the letters of a word -/
theorem r_let (b : Nat → Nat) (t w : Nat) (hw : w < 3) (le mo : Int32) : ∀ (m n0 pos : Nat) (M : pu_M) (c : Option Value), pu_fx M → py_tr M b t → n0 + m = 12 → pos ≤ t → (∀ i, n0 ≤ i → i < 12 → M.1 78 (12 * w + i) = 0) → ∃ N u, N.2 = M.2 ∧ (∀ x j, ¬ (x = 78 ∧ 12 * w + n0 ≤ j ∧ j < 12 * w + 12) → N.1 x j = M.1 x j) ∧ (∀ i, n0 + i < 12 → N.1 78 (12 * w + n0 + i) = pu_lt (py_lw b t m pos) i) ∧ pu_r 437 [some (.ref 71), some (.int le), some (.int mo), some (.int (nI w)), some (.int (nI n0)), some (.int (nI pos)), c] [] M = pu_r 437 [some (.ref 71), some (.int le), some (.int mo), some (.int (nI w)), some (.int (nI (n0 + (py_lw b t m pos).length))), some (.int (nI (pos + (py_lw b t m pos).length))), u] [] N
  | 0, n0, pos, M, c, hx, h, hm, hp, hz => ⟨M, c, rfl, fun _ _ _ => rfl, fun i hi => by omega, rfl⟩
  | m + 1, n0, pos, M, c, hx, h, hm, hp, hz => by
    unfold py_lw
    by_cases c0 : pos < t ∧ 97 ≤ b pos ∧ b pos ≤ 122
    · rw [if_pos c0]
      have t1 := h.1
      have t2 := h.2.1
      have e1 := r_here1 hx h c0.1
      have e2 := r_isLetter (b pos) (h.2.2 pos c0.1).2 M
      rw [pu_q1 c0.2] at e2
      have f := fx_71_9 hx
      have hc : ¬ nI t ≤ nI pos := nI_ge (by omega) (by omega)
      have n12 : ¬ nI n0 = 12 := fun z => by
        rw [show (12 : Int32) = nI 12 from rfl, nI_eq (by omega) (by omega)] at z
        omega
      obtain ⟨N, u, a1, a2, a3, a4⟩ := r_let b t w hw le mo m (n0 + 1) (pos + 1) (pu_wi M 78 (12 * w + n0) (nI (b pos))) (some (.int (nI (b pos)))) hx (py_tr_w h (by omega) (by omega)) (by omega) (by omega) (fun i h1 h2 => by rw [py_wi_o (by omega)]; exact hz i (by omega) h2)
      refine ⟨N, u, a1, fun x j hj => ?_, fun i hi => ?_, ?_⟩
      · rw [a2 x j (by omega), py_wi_o (by omega)]
      · by_cases i0 : i = 0
        · subst i0
          rw [py_lt_z, a2 78 _ (by omega), show 12 * w + n0 + 0 = 12 * w + n0 from rfl, show 97 + (b pos - 97) = b pos by omega]
          simp [pu_wi_1]
        · obtain ⟨i', rfl⟩ : ∃ i', i = i' + 1 := ⟨i - 1, by omega⟩
          rw [py_lt_c, show 12 * w + n0 + (i' + 1) = 12 * w + (n0 + 1) + i' by omega]
          exact a3 i' (by omega)
      · rw [List.length_cons, show n0 + ((py_lw b t m (pos + 1)).length + 1) = n0 + 1 + (py_lw b t m (pos + 1)).length by omega, show pos + ((py_lw b t m (pos + 1)).length + 1) = pos + 1 + (py_lw b t m (pos + 1)).length by omega, ← a4]
        rw [qX12_reads_29]
        simp [bX12_reads_29, bX12_reads_116, bX12_reads_132, bX12_reads_133, bX12_reads_83, bX12_reads_102, bX12_reads_104, bX12_reads_110, bX12_reads_63, a_ald, a_cs, a_cv, a_gi, a_gr, a_iadd, a_icge, a_iclt, a_icne, a_ifeq, a_ifle, a_ild, a_imul, a_inc, a_ist, a_push, a_wi, a_zret, sh_71, sh_78, pu_rv, pu_as, Value.category, pu_bk, pu_kl, List.replicate, pu_wi_1, pu_wi_2, nl_add, nl_ladd, nl_aa, nl_mul, nl_rmul, nl_mm, pu_qe0, pu_qe1, t1, hc, e1, e2, n12, f]
        all_goals try simp (maxSteps := 400000) (disch := omega) [nl_tle, nl_fle, nl_tlt, nl_flt, nl_teq, nl_feq, nl_sub, nl_ss, nl_lt, nl_llt, nl_ltt, nl_le, nl_lle, nl_lee, nl_eq, nl_leq, nl_ee, nl_div, nl_rem, nl_cl, nl_n1, nl_n2, nl_n3, nl_n4, nl_add, nl_ladd, nl_aa, nl_mul, nl_rmul, nl_mm, pu_wi_1, pu_wi_2, bX12_reads_29, bX12_reads_116, bX12_reads_132, bX12_reads_133, bX12_reads_83, bX12_reads_102, bX12_reads_104, bX12_reads_110, bX12_reads_63, a_ald, a_cs, a_cv, a_gi, a_gr, a_iadd, a_icge, a_iclt, a_icne, a_ifeq, a_ifle, a_ild, a_imul, a_inc, a_ist, a_push, a_wi, a_zret, sh_71, sh_78, pu_rv, pu_as, Value.category, pu_bk, pu_kl, pu_qe0, pu_qe1, t1, hc, e1, e2, n12, f]
        all_goals try simp [bX12_reads_29, bX12_reads_116, bX12_reads_132, bX12_reads_133, bX12_reads_83, bX12_reads_102, bX12_reads_104, bX12_reads_110, bX12_reads_63, a_ald, a_cs, a_cv, a_gi, a_gr, a_iadd, a_icge, a_iclt, a_icne, a_ifeq, a_ifle, a_ild, a_imul, a_inc, a_ist, a_push, a_wi, a_zret, sh_71, sh_78, pu_rv, pu_as, Value.category, pu_bk, pu_kl, List.replicate, pu_wi_1, pu_wi_2, nl_add, nl_ladd, nl_aa, nl_mul, nl_rmul, nl_mm, pu_qe0, pu_qe1, t1, hc, e1, e2, n12, f]
        all_goals try simp (maxSteps := 400000) (disch := omega) [nl_tle, nl_fle, nl_tlt, nl_flt, nl_teq, nl_feq, nl_sub, nl_ss, nl_lt, nl_llt, nl_ltt, nl_le, nl_lle, nl_lee, nl_eq, nl_leq, nl_ee, nl_div, nl_rem, nl_cl, nl_n1, nl_n2, nl_n3, nl_n4, nl_add, nl_ladd, nl_aa, nl_mul, nl_rmul, nl_mm, pu_wi_1, pu_wi_2, bX12_reads_29, bX12_reads_116, bX12_reads_132, bX12_reads_133, bX12_reads_83, bX12_reads_102, bX12_reads_104, bX12_reads_110, bX12_reads_63, a_ald, a_cs, a_cv, a_gi, a_gr, a_iadd, a_icge, a_iclt, a_icne, a_ifeq, a_ifle, a_ild, a_imul, a_inc, a_ist, a_push, a_wi, a_zret, sh_71, sh_78, pu_rv, pu_as, Value.category, pu_bk, pu_kl, pu_qe0, pu_qe1, t1, hc, e1, e2, n12, f]
    · rw [if_neg c0]
      exact ⟨M, c, rfl, fun _ _ _ => rfl, fun i hi => by rw [py_lt_n, Nat.add_assoc]; exact hz _ (by omega) hi, rfl⟩
theorem r_reads_l (b : Nat → Nat) (t le mo : Nat) (hle : le ≤ 3) (hmo : mo ≤ 3) : ∀ (n w pos : Nat) (M : pu_M) (c : Option Value), pu_fx M → py_tr M b t → w + n = mo → 0 < n → pos ≤ t → (∀ i, 12 * w ≤ i → i < 36 → M.1 78 i = 0) → ∃ N, N.2 = M.2 ∧ (∀ x j, ¬ (x = 78 ∧ 12 * w ≤ j ∧ j < 36) → N.1 x j = M.1 x j) ∧ (∀ l, py_ns b t n pos = some l → ∀ k i, w + k < 3 → i < 12 → N.1 78 (12 * (w + k) + i) = pu_lt (l.getD k []) i) ∧ pu_r 437 [some (.ref 71), some (.int (nI le)), some (.int (nI mo)), some (.int (nI w)), some (.int 0), some (.int (nI pos)), c] [] M = some (some (.int (pu_q (∃ l, py_ns b t n pos = some l ∧ le ≤ w + l.length))), N)
  | 0, w, pos, M, c, hx, h, hn, h0, hp, hz => by omega
  | n + 1, w, pos, M, c, hx, h, hn, h0, hp, hz => by
    obtain ⟨N, u, a1, a2, a3, a4⟩ := r_let b t w (by omega) (nI le) (nI mo) 12 0 pos M c hx h (by omega) hp (fun i _ h2 => hz _ (by omega) (by omega))
    rw [nI_0] at a4
    have hxN : pu_fx N := pz_fx_of hx a1
    have tN : py_tr N b t := ⟨by rw [a2 71 6 (by omega)]; exact h.1, h.2.1, fun j hj => by rw [a2 76 j (by omega)]; exact h.2.2 j hj⟩
    have zN : ∀ i, 12 * (w + 1) ≤ i → i < 36 → N.1 78 i = 0 := fun i h1 h2 => by
      rw [a2 78 i (by omega)]
      exact hz i (by omega) h2
    have q := py_lw_l b t 12 pos hp
    have qe := py_lw_e b t 12 pos
    have t1 := tN.1
    have t2 := tN.2.1
    rw [a4]
    unfold py_ns
    generalize hds : py_lw b t 12 pos = ds at *
    rw [Nat.zero_add]
    have w0 : ∀ i, i < 12 → N.1 78 (12 * w + i) = pu_lt ds i := fun i hi => by
      have := a3 i (by omega)
      rw [Nat.add_zero] at this
      exact this
    have fr : ∀ x j, ¬ (x = 78 ∧ 12 * w ≤ j ∧ j < 36) → N.1 x j = M.1 x j := fun x j hj => a2 x j (by omega)
    by_cases c1 : pos + ds.length = t
    · -- the end
      have hc : nI t ≤ nI (pos + ds.length) := nI_le (by omega) (by omega)
      by_cases c0 : ds = []
      · rw [if_pos c0]
        refine ⟨N, a1, fr, fun l hl => (by cases hl), ?_⟩
        rw [pu_q0 (fun ⟨l, hl, _⟩ => by cases hl)]
        have l0 : nI ds.length = 0 := by rw [c0]; rfl
        rw [qX12_reads_29]
        simp [bX12_reads_29, bX12_reads_116, bX12_reads_132, bX12_reads_133, bX12_reads_83, bX12_reads_102, bX12_reads_104, bX12_reads_110, bX12_reads_63, a_ald, a_cs, a_cv, a_gi, a_gr, a_iadd, a_icge, a_iclt, a_icne, a_ifeq, a_ifle, a_ild, a_imul, a_inc, a_ist, a_push, a_wi, a_zret, sh_71, sh_78, pu_rv, pu_as, Value.category, pu_bk, pu_kl, List.replicate, pu_wi_1, pu_wi_2, nl_add, nl_ladd, nl_aa, nl_mul, nl_rmul, nl_mm, pu_qe0, pu_qe1, t1, hc, l0]
        all_goals try simp (maxSteps := 400000) (disch := omega) [nl_tle, nl_fle, nl_tlt, nl_flt, nl_teq, nl_feq, nl_sub, nl_ss, nl_lt, nl_llt, nl_ltt, nl_le, nl_lle, nl_lee, nl_eq, nl_leq, nl_ee, nl_div, nl_rem, nl_cl, nl_n1, nl_n2, nl_n3, nl_n4, nl_add, nl_ladd, nl_aa, nl_mul, nl_rmul, nl_mm, pu_wi_1, pu_wi_2, bX12_reads_29, bX12_reads_116, bX12_reads_132, bX12_reads_133, bX12_reads_83, bX12_reads_102, bX12_reads_104, bX12_reads_110, bX12_reads_63, a_ald, a_cs, a_cv, a_gi, a_gr, a_iadd, a_icge, a_iclt, a_icne, a_ifeq, a_ifle, a_ild, a_imul, a_inc, a_ist, a_push, a_wi, a_zret, sh_71, sh_78, pu_rv, pu_as, Value.category, pu_bk, pu_kl, pu_qe0, pu_qe1, t1, hc, l0]
        all_goals try simp [bX12_reads_29, bX12_reads_116, bX12_reads_132, bX12_reads_133, bX12_reads_83, bX12_reads_102, bX12_reads_104, bX12_reads_110, bX12_reads_63, a_ald, a_cs, a_cv, a_gi, a_gr, a_iadd, a_icge, a_iclt, a_icne, a_ifeq, a_ifle, a_ild, a_imul, a_inc, a_ist, a_push, a_wi, a_zret, sh_71, sh_78, pu_rv, pu_as, Value.category, pu_bk, pu_kl, List.replicate, pu_wi_1, pu_wi_2, nl_add, nl_ladd, nl_aa, nl_mul, nl_rmul, nl_mm, pu_qe0, pu_qe1, t1, hc, l0]
        all_goals try simp (maxSteps := 400000) (disch := omega) [nl_tle, nl_fle, nl_tlt, nl_flt, nl_teq, nl_feq, nl_sub, nl_ss, nl_lt, nl_llt, nl_ltt, nl_le, nl_lle, nl_lee, nl_eq, nl_leq, nl_ee, nl_div, nl_rem, nl_cl, nl_n1, nl_n2, nl_n3, nl_n4, nl_add, nl_ladd, nl_aa, nl_mul, nl_rmul, nl_mm, pu_wi_1, pu_wi_2, bX12_reads_29, bX12_reads_116, bX12_reads_132, bX12_reads_133, bX12_reads_83, bX12_reads_102, bX12_reads_104, bX12_reads_110, bX12_reads_63, a_ald, a_cs, a_cv, a_gi, a_gr, a_iadd, a_icge, a_iclt, a_icne, a_ifeq, a_ifle, a_ild, a_imul, a_inc, a_ist, a_push, a_wi, a_zret, sh_71, sh_78, pu_rv, pu_as, Value.category, pu_bk, pu_kl, pu_qe0, pu_qe1, t1, hc, l0]
      · rw [if_neg c0, if_pos c1]
        have lp : 0 < ds.length := by
          cases ds with
          | nil => exact absurd rfl c0
          | cons d l => simp
        have l0 : ¬ nI ds.length ≤ 0 := by
          rw [show (0 : Int32) = nI 0 from rfl, nl_lee _ _ (by omega) (by omega)]
          omega
        refine ⟨N, a1, fr, fun l hl k i hk hi => ?_, ?_⟩
        · cases hl
          by_cases k0 : k = 0
          · subst k0
            exact w0 i hi
          · obtain ⟨k', rfl⟩ : ∃ k', k = k' + 1 := ⟨k - 1, by omega⟩
            rw [zN _ (by omega) (by omega)]
            have : ([ds] : List (List Nat)).getD (k' + 1) [] = [] := by simp
            rw [this, py_lt_n]
        · have e5 : (∃ l, some [ds] = some l ∧ le ≤ w + l.length) = (le ≤ w + 1) := by
            apply propext
            constructor
            · rintro ⟨l, hl, g⟩
              cases hl
              exact g
            · intro g
              exact ⟨_, rfl, g⟩
          rw [e5]
          by_cases g : le ≤ w + 1
          · rw [pu_q1 g]
            rw [qX12_reads_29]
            simp [bX12_reads_29, bX12_reads_116, bX12_reads_132, bX12_reads_133, bX12_reads_83, bX12_reads_102, bX12_reads_104, bX12_reads_110, bX12_reads_63, a_ald, a_cs, a_cv, a_gi, a_gr, a_iadd, a_icge, a_iclt, a_icne, a_ifeq, a_ifle, a_ild, a_imul, a_inc, a_ist, a_push, a_wi, a_zret, sh_71, sh_78, pu_rv, pu_as, Value.category, pu_bk, pu_kl, List.replicate, pu_wi_1, pu_wi_2, nl_add, nl_ladd, nl_aa, nl_mul, nl_rmul, nl_mm, pu_qe0, pu_qe1, t1, hc, l0, g]
            all_goals try simp (maxSteps := 400000) (disch := omega) [nl_tle, nl_fle, nl_tlt, nl_flt, nl_teq, nl_feq, nl_sub, nl_ss, nl_lt, nl_llt, nl_ltt, nl_le, nl_lle, nl_lee, nl_eq, nl_leq, nl_ee, nl_div, nl_rem, nl_cl, nl_n1, nl_n2, nl_n3, nl_n4, nl_add, nl_ladd, nl_aa, nl_mul, nl_rmul, nl_mm, pu_wi_1, pu_wi_2, bX12_reads_29, bX12_reads_116, bX12_reads_132, bX12_reads_133, bX12_reads_83, bX12_reads_102, bX12_reads_104, bX12_reads_110, bX12_reads_63, a_ald, a_cs, a_cv, a_gi, a_gr, a_iadd, a_icge, a_iclt, a_icne, a_ifeq, a_ifle, a_ild, a_imul, a_inc, a_ist, a_push, a_wi, a_zret, sh_71, sh_78, pu_rv, pu_as, Value.category, pu_bk, pu_kl, pu_qe0, pu_qe1, t1, hc, l0, g]
            all_goals try simp [bX12_reads_29, bX12_reads_116, bX12_reads_132, bX12_reads_133, bX12_reads_83, bX12_reads_102, bX12_reads_104, bX12_reads_110, bX12_reads_63, a_ald, a_cs, a_cv, a_gi, a_gr, a_iadd, a_icge, a_iclt, a_icne, a_ifeq, a_ifle, a_ild, a_imul, a_inc, a_ist, a_push, a_wi, a_zret, sh_71, sh_78, pu_rv, pu_as, Value.category, pu_bk, pu_kl, List.replicate, pu_wi_1, pu_wi_2, nl_add, nl_ladd, nl_aa, nl_mul, nl_rmul, nl_mm, pu_qe0, pu_qe1, t1, hc, l0, g]
            all_goals try simp (maxSteps := 400000) (disch := omega) [nl_tle, nl_fle, nl_tlt, nl_flt, nl_teq, nl_feq, nl_sub, nl_ss, nl_lt, nl_llt, nl_ltt, nl_le, nl_lle, nl_lee, nl_eq, nl_leq, nl_ee, nl_div, nl_rem, nl_cl, nl_n1, nl_n2, nl_n3, nl_n4, nl_add, nl_ladd, nl_aa, nl_mul, nl_rmul, nl_mm, pu_wi_1, pu_wi_2, bX12_reads_29, bX12_reads_116, bX12_reads_132, bX12_reads_133, bX12_reads_83, bX12_reads_102, bX12_reads_104, bX12_reads_110, bX12_reads_63, a_ald, a_cs, a_cv, a_gi, a_gr, a_iadd, a_icge, a_iclt, a_icne, a_ifeq, a_ifle, a_ild, a_imul, a_inc, a_ist, a_push, a_wi, a_zret, sh_71, sh_78, pu_rv, pu_as, Value.category, pu_bk, pu_kl, pu_qe0, pu_qe1, t1, hc, l0, g]
          · rw [pu_q0 g]
            rw [qX12_reads_29]
            simp [bX12_reads_29, bX12_reads_116, bX12_reads_132, bX12_reads_133, bX12_reads_83, bX12_reads_102, bX12_reads_104, bX12_reads_110, bX12_reads_63, a_ald, a_cs, a_cv, a_gi, a_gr, a_iadd, a_icge, a_iclt, a_icne, a_ifeq, a_ifle, a_ild, a_imul, a_inc, a_ist, a_push, a_wi, a_zret, sh_71, sh_78, pu_rv, pu_as, Value.category, pu_bk, pu_kl, List.replicate, pu_wi_1, pu_wi_2, nl_add, nl_ladd, nl_aa, nl_mul, nl_rmul, nl_mm, pu_qe0, pu_qe1, t1, hc, l0, g]
            all_goals try simp (maxSteps := 400000) (disch := omega) [nl_tle, nl_fle, nl_tlt, nl_flt, nl_teq, nl_feq, nl_sub, nl_ss, nl_lt, nl_llt, nl_ltt, nl_le, nl_lle, nl_lee, nl_eq, nl_leq, nl_ee, nl_div, nl_rem, nl_cl, nl_n1, nl_n2, nl_n3, nl_n4, nl_add, nl_ladd, nl_aa, nl_mul, nl_rmul, nl_mm, pu_wi_1, pu_wi_2, bX12_reads_29, bX12_reads_116, bX12_reads_132, bX12_reads_133, bX12_reads_83, bX12_reads_102, bX12_reads_104, bX12_reads_110, bX12_reads_63, a_ald, a_cs, a_cv, a_gi, a_gr, a_iadd, a_icge, a_iclt, a_icne, a_ifeq, a_ifle, a_ild, a_imul, a_inc, a_ist, a_push, a_wi, a_zret, sh_71, sh_78, pu_rv, pu_as, Value.category, pu_bk, pu_kl, pu_qe0, pu_qe1, t1, hc, l0, g]
            all_goals try simp [bX12_reads_29, bX12_reads_116, bX12_reads_132, bX12_reads_133, bX12_reads_83, bX12_reads_102, bX12_reads_104, bX12_reads_110, bX12_reads_63, a_ald, a_cs, a_cv, a_gi, a_gr, a_iadd, a_icge, a_iclt, a_icne, a_ifeq, a_ifle, a_ild, a_imul, a_inc, a_ist, a_push, a_wi, a_zret, sh_71, sh_78, pu_rv, pu_as, Value.category, pu_bk, pu_kl, List.replicate, pu_wi_1, pu_wi_2, nl_add, nl_ladd, nl_aa, nl_mul, nl_rmul, nl_mm, pu_qe0, pu_qe1, t1, hc, l0, g]
            all_goals try simp (maxSteps := 400000) (disch := omega) [nl_tle, nl_fle, nl_tlt, nl_flt, nl_teq, nl_feq, nl_sub, nl_ss, nl_lt, nl_llt, nl_ltt, nl_le, nl_lle, nl_lee, nl_eq, nl_leq, nl_ee, nl_div, nl_rem, nl_cl, nl_n1, nl_n2, nl_n3, nl_n4, nl_add, nl_ladd, nl_aa, nl_mul, nl_rmul, nl_mm, pu_wi_1, pu_wi_2, bX12_reads_29, bX12_reads_116, bX12_reads_132, bX12_reads_133, bX12_reads_83, bX12_reads_102, bX12_reads_104, bX12_reads_110, bX12_reads_63, a_ald, a_cs, a_cv, a_gi, a_gr, a_iadd, a_icge, a_iclt, a_icne, a_ifeq, a_ifle, a_ild, a_imul, a_inc, a_ist, a_push, a_wi, a_zret, sh_71, sh_78, pu_rv, pu_as, Value.category, pu_bk, pu_kl, pu_qe0, pu_qe1, t1, hc, l0, g]
    · have pl : pos + ds.length < t := by omega
      have hc : ¬ nI t ≤ nI (pos + ds.length) := nI_ge (by omega) (by omega)
      have e1 := r_here1 hxN tN pl
      have e2 := r_isLetter (b (pos + ds.length)) (tN.2.2 _ pl).2 N
      by_cases cl : 97 ≤ b (pos + ds.length) ∧ b (pos + ds.length) ≤ 122
      · -- a thirteenth letter
        rw [pu_q1 cl] at e2
        have l12 : ds.length = 12 := by
          rcases qe with z | z
          · exact z
          · exact absurd ⟨pl, cl⟩ z
        have c0 : ¬ ds = [] := fun z => by
          rw [z] at l12
          cases l12
        have ll : nI ds.length = 12 := by rw [l12]; rfl
        have bn : ¬ b (pos + ds.length) = 32 := by omega
        refine ⟨N, a1, fr, fun l hl => ?_, ?_⟩
        · rw [if_neg c0, if_neg c1] at hl
          by_cases c2 : n = 0
          · rw [if_pos c2] at hl
            cases hl
          · rw [if_neg c2, if_neg bn] at hl
            cases hl
        · rw [pu_q0 (fun ⟨l, hl, _⟩ => by
            rw [if_neg c0, if_neg c1] at hl
            by_cases c2 : n = 0
            · rw [if_pos c2] at hl
              cases hl
            · rw [if_neg c2, if_neg bn] at hl
              cases hl)]
          rw [qX12_reads_29]
          simp [bX12_reads_29, bX12_reads_116, bX12_reads_132, bX12_reads_133, bX12_reads_83, bX12_reads_102, bX12_reads_104, bX12_reads_110, bX12_reads_63, a_ald, a_cs, a_cv, a_gi, a_gr, a_iadd, a_icge, a_iclt, a_icne, a_ifeq, a_ifle, a_ild, a_imul, a_inc, a_ist, a_push, a_wi, a_zret, sh_71, sh_78, pu_rv, pu_as, Value.category, pu_bk, pu_kl, List.replicate, pu_wi_1, pu_wi_2, nl_add, nl_ladd, nl_aa, nl_mul, nl_rmul, nl_mm, pu_qe0, pu_qe1, t1, hc, e1, e2, ll]
          all_goals try simp (maxSteps := 400000) (disch := omega) [nl_tle, nl_fle, nl_tlt, nl_flt, nl_teq, nl_feq, nl_sub, nl_ss, nl_lt, nl_llt, nl_ltt, nl_le, nl_lle, nl_lee, nl_eq, nl_leq, nl_ee, nl_div, nl_rem, nl_cl, nl_n1, nl_n2, nl_n3, nl_n4, nl_add, nl_ladd, nl_aa, nl_mul, nl_rmul, nl_mm, pu_wi_1, pu_wi_2, bX12_reads_29, bX12_reads_116, bX12_reads_132, bX12_reads_133, bX12_reads_83, bX12_reads_102, bX12_reads_104, bX12_reads_110, bX12_reads_63, a_ald, a_cs, a_cv, a_gi, a_gr, a_iadd, a_icge, a_iclt, a_icne, a_ifeq, a_ifle, a_ild, a_imul, a_inc, a_ist, a_push, a_wi, a_zret, sh_71, sh_78, pu_rv, pu_as, Value.category, pu_bk, pu_kl, pu_qe0, pu_qe1, t1, hc, e1, e2, ll]
          all_goals try simp [bX12_reads_29, bX12_reads_116, bX12_reads_132, bX12_reads_133, bX12_reads_83, bX12_reads_102, bX12_reads_104, bX12_reads_110, bX12_reads_63, a_ald, a_cs, a_cv, a_gi, a_gr, a_iadd, a_icge, a_iclt, a_icne, a_ifeq, a_ifle, a_ild, a_imul, a_inc, a_ist, a_push, a_wi, a_zret, sh_71, sh_78, pu_rv, pu_as, Value.category, pu_bk, pu_kl, List.replicate, pu_wi_1, pu_wi_2, nl_add, nl_ladd, nl_aa, nl_mul, nl_rmul, nl_mm, pu_qe0, pu_qe1, t1, hc, e1, e2, ll]
          all_goals try simp (maxSteps := 400000) (disch := omega) [nl_tle, nl_fle, nl_tlt, nl_flt, nl_teq, nl_feq, nl_sub, nl_ss, nl_lt, nl_llt, nl_ltt, nl_le, nl_lle, nl_lee, nl_eq, nl_leq, nl_ee, nl_div, nl_rem, nl_cl, nl_n1, nl_n2, nl_n3, nl_n4, nl_add, nl_ladd, nl_aa, nl_mul, nl_rmul, nl_mm, pu_wi_1, pu_wi_2, bX12_reads_29, bX12_reads_116, bX12_reads_132, bX12_reads_133, bX12_reads_83, bX12_reads_102, bX12_reads_104, bX12_reads_110, bX12_reads_63, a_ald, a_cs, a_cv, a_gi, a_gr, a_iadd, a_icge, a_iclt, a_icne, a_ifeq, a_ifle, a_ild, a_imul, a_inc, a_ist, a_push, a_wi, a_zret, sh_71, sh_78, pu_rv, pu_as, Value.category, pu_bk, pu_kl, pu_qe0, pu_qe1, t1, hc, e1, e2, ll]
      · rw [pu_q0 cl] at e2
        by_cases c3 : b (pos + ds.length) = 32
        rotate_left
        · have b3 : ¬ nI (b (pos + ds.length)) = 32 := fun z => by
            rw [show (32 : Int32) = nI 32 from rfl, nI_eq (by have := (tN.2.2 _ pl).2; omega) (by omega)] at z
            exact c3 z
          have no : ∀ l, ¬ ((if ds = [] then none else if pos + ds.length = t then some [ds] else if n = 0 then none else if b (pos + ds.length) = 32 then (py_ns b t n (pos + ds.length + 1)).map (fun l => ds :: l) else none) = some l) := fun l hl => by
            by_cases c0 : ds = []
            · rw [if_pos c0] at hl
              cases hl
            · rw [if_neg c0, if_neg c1] at hl
              by_cases c2 : n = 0
              · rw [if_pos c2] at hl
                cases hl
              · rw [if_neg c2, if_neg c3] at hl
                cases hl
          refine ⟨N, a1, fr, fun l hl => absurd hl (no l), ?_⟩
          rw [pu_q0 (fun ⟨l, hl, _⟩ => no l hl)]
          rw [qX12_reads_29]
          simp [bX12_reads_29, bX12_reads_116, bX12_reads_132, bX12_reads_133, bX12_reads_83, bX12_reads_102, bX12_reads_104, bX12_reads_110, bX12_reads_63, a_ald, a_cs, a_cv, a_gi, a_gr, a_iadd, a_icge, a_iclt, a_icne, a_ifeq, a_ifle, a_ild, a_imul, a_inc, a_ist, a_push, a_wi, a_zret, sh_71, sh_78, pu_rv, pu_as, Value.category, pu_bk, pu_kl, List.replicate, pu_wi_1, pu_wi_2, nl_add, nl_ladd, nl_aa, nl_mul, nl_rmul, nl_mm, pu_qe0, pu_qe1, t1, hc, e1, e2, b3]
          all_goals try simp (maxSteps := 400000) (disch := omega) [nl_tle, nl_fle, nl_tlt, nl_flt, nl_teq, nl_feq, nl_sub, nl_ss, nl_lt, nl_llt, nl_ltt, nl_le, nl_lle, nl_lee, nl_eq, nl_leq, nl_ee, nl_div, nl_rem, nl_cl, nl_n1, nl_n2, nl_n3, nl_n4, nl_add, nl_ladd, nl_aa, nl_mul, nl_rmul, nl_mm, pu_wi_1, pu_wi_2, bX12_reads_29, bX12_reads_116, bX12_reads_132, bX12_reads_133, bX12_reads_83, bX12_reads_102, bX12_reads_104, bX12_reads_110, bX12_reads_63, a_ald, a_cs, a_cv, a_gi, a_gr, a_iadd, a_icge, a_iclt, a_icne, a_ifeq, a_ifle, a_ild, a_imul, a_inc, a_ist, a_push, a_wi, a_zret, sh_71, sh_78, pu_rv, pu_as, Value.category, pu_bk, pu_kl, pu_qe0, pu_qe1, t1, hc, e1, e2, b3]
          all_goals try simp [bX12_reads_29, bX12_reads_116, bX12_reads_132, bX12_reads_133, bX12_reads_83, bX12_reads_102, bX12_reads_104, bX12_reads_110, bX12_reads_63, a_ald, a_cs, a_cv, a_gi, a_gr, a_iadd, a_icge, a_iclt, a_icne, a_ifeq, a_ifle, a_ild, a_imul, a_inc, a_ist, a_push, a_wi, a_zret, sh_71, sh_78, pu_rv, pu_as, Value.category, pu_bk, pu_kl, List.replicate, pu_wi_1, pu_wi_2, nl_add, nl_ladd, nl_aa, nl_mul, nl_rmul, nl_mm, pu_qe0, pu_qe1, t1, hc, e1, e2, b3]
          all_goals try simp (maxSteps := 400000) (disch := omega) [nl_tle, nl_fle, nl_tlt, nl_flt, nl_teq, nl_feq, nl_sub, nl_ss, nl_lt, nl_llt, nl_ltt, nl_le, nl_lle, nl_lee, nl_eq, nl_leq, nl_ee, nl_div, nl_rem, nl_cl, nl_n1, nl_n2, nl_n3, nl_n4, nl_add, nl_ladd, nl_aa, nl_mul, nl_rmul, nl_mm, pu_wi_1, pu_wi_2, bX12_reads_29, bX12_reads_116, bX12_reads_132, bX12_reads_133, bX12_reads_83, bX12_reads_102, bX12_reads_104, bX12_reads_110, bX12_reads_63, a_ald, a_cs, a_cv, a_gi, a_gr, a_iadd, a_icge, a_iclt, a_icne, a_ifeq, a_ifle, a_ild, a_imul, a_inc, a_ist, a_push, a_wi, a_zret, sh_71, sh_78, pu_rv, pu_as, Value.category, pu_bk, pu_kl, pu_qe0, pu_qe1, t1, hc, e1, e2, b3]
        · rw [c3, show nI 32 = (32 : Int32) from rfl] at e1
          rw [c3, show nI 32 = (32 : Int32) from rfl] at e2
          by_cases c0 : ds = []
          · rw [if_pos c0]
            refine ⟨N, a1, fr, fun l hl => (by cases hl), ?_⟩
            rw [pu_q0 (fun ⟨l, hl, _⟩ => by cases hl)]
            have l0 : nI ds.length = 0 := by rw [c0]; rfl
            rw [qX12_reads_29]
            simp [bX12_reads_29, bX12_reads_116, bX12_reads_132, bX12_reads_133, bX12_reads_83, bX12_reads_102, bX12_reads_104, bX12_reads_110, bX12_reads_63, a_ald, a_cs, a_cv, a_gi, a_gr, a_iadd, a_icge, a_iclt, a_icne, a_ifeq, a_ifle, a_ild, a_imul, a_inc, a_ist, a_push, a_wi, a_zret, sh_71, sh_78, pu_rv, pu_as, Value.category, pu_bk, pu_kl, List.replicate, pu_wi_1, pu_wi_2, nl_add, nl_ladd, nl_aa, nl_mul, nl_rmul, nl_mm, pu_qe0, pu_qe1, t1, hc, e1, e2, l0]
            all_goals try simp (maxSteps := 400000) (disch := omega) [nl_tle, nl_fle, nl_tlt, nl_flt, nl_teq, nl_feq, nl_sub, nl_ss, nl_lt, nl_llt, nl_ltt, nl_le, nl_lle, nl_lee, nl_eq, nl_leq, nl_ee, nl_div, nl_rem, nl_cl, nl_n1, nl_n2, nl_n3, nl_n4, nl_add, nl_ladd, nl_aa, nl_mul, nl_rmul, nl_mm, pu_wi_1, pu_wi_2, bX12_reads_29, bX12_reads_116, bX12_reads_132, bX12_reads_133, bX12_reads_83, bX12_reads_102, bX12_reads_104, bX12_reads_110, bX12_reads_63, a_ald, a_cs, a_cv, a_gi, a_gr, a_iadd, a_icge, a_iclt, a_icne, a_ifeq, a_ifle, a_ild, a_imul, a_inc, a_ist, a_push, a_wi, a_zret, sh_71, sh_78, pu_rv, pu_as, Value.category, pu_bk, pu_kl, pu_qe0, pu_qe1, t1, hc, e1, e2, l0]
            all_goals try simp [bX12_reads_29, bX12_reads_116, bX12_reads_132, bX12_reads_133, bX12_reads_83, bX12_reads_102, bX12_reads_104, bX12_reads_110, bX12_reads_63, a_ald, a_cs, a_cv, a_gi, a_gr, a_iadd, a_icge, a_iclt, a_icne, a_ifeq, a_ifle, a_ild, a_imul, a_inc, a_ist, a_push, a_wi, a_zret, sh_71, sh_78, pu_rv, pu_as, Value.category, pu_bk, pu_kl, List.replicate, pu_wi_1, pu_wi_2, nl_add, nl_ladd, nl_aa, nl_mul, nl_rmul, nl_mm, pu_qe0, pu_qe1, t1, hc, e1, e2, l0]
            all_goals try simp (maxSteps := 400000) (disch := omega) [nl_tle, nl_fle, nl_tlt, nl_flt, nl_teq, nl_feq, nl_sub, nl_ss, nl_lt, nl_llt, nl_ltt, nl_le, nl_lle, nl_lee, nl_eq, nl_leq, nl_ee, nl_div, nl_rem, nl_cl, nl_n1, nl_n2, nl_n3, nl_n4, nl_add, nl_ladd, nl_aa, nl_mul, nl_rmul, nl_mm, pu_wi_1, pu_wi_2, bX12_reads_29, bX12_reads_116, bX12_reads_132, bX12_reads_133, bX12_reads_83, bX12_reads_102, bX12_reads_104, bX12_reads_110, bX12_reads_63, a_ald, a_cs, a_cv, a_gi, a_gr, a_iadd, a_icge, a_iclt, a_icne, a_ifeq, a_ifle, a_ild, a_imul, a_inc, a_ist, a_push, a_wi, a_zret, sh_71, sh_78, pu_rv, pu_as, Value.category, pu_bk, pu_kl, pu_qe0, pu_qe1, t1, hc, e1, e2, l0]
          · rw [if_neg c0, if_neg c1]
            have lp : 0 < ds.length := by
              cases ds with
              | nil => exact absurd rfl c0
              | cons d l => simp
            have l0 : ¬ nI ds.length = 0 := fun z => by
              rw [show (0 : Int32) = nI 0 from rfl, nI_eq (by omega) (by omega)] at z
              omega
            by_cases c2 : n = 0
            · rw [if_pos c2]
              refine ⟨N, a1, fr, fun l hl => (by cases hl), ?_⟩
              rw [pu_q0 (fun ⟨l, hl, _⟩ => by cases hl)]
              have wm : nI (w + 1) = nI mo := by rw [show w + 1 = mo by omega]
              rw [qX12_reads_29]
              simp [bX12_reads_29, bX12_reads_116, bX12_reads_132, bX12_reads_133, bX12_reads_83, bX12_reads_102, bX12_reads_104, bX12_reads_110, bX12_reads_63, a_ald, a_cs, a_cv, a_gi, a_gr, a_iadd, a_icge, a_iclt, a_icne, a_ifeq, a_ifle, a_ild, a_imul, a_inc, a_ist, a_push, a_wi, a_zret, sh_71, sh_78, pu_rv, pu_as, Value.category, pu_bk, pu_kl, List.replicate, pu_wi_1, pu_wi_2, nl_add, nl_ladd, nl_aa, nl_mul, nl_rmul, nl_mm, pu_qe0, pu_qe1, t1, hc, e1, e2, l0, wm]
              all_goals try simp (maxSteps := 400000) (disch := omega) [nl_tle, nl_fle, nl_tlt, nl_flt, nl_teq, nl_feq, nl_sub, nl_ss, nl_lt, nl_llt, nl_ltt, nl_le, nl_lle, nl_lee, nl_eq, nl_leq, nl_ee, nl_div, nl_rem, nl_cl, nl_n1, nl_n2, nl_n3, nl_n4, nl_add, nl_ladd, nl_aa, nl_mul, nl_rmul, nl_mm, pu_wi_1, pu_wi_2, bX12_reads_29, bX12_reads_116, bX12_reads_132, bX12_reads_133, bX12_reads_83, bX12_reads_102, bX12_reads_104, bX12_reads_110, bX12_reads_63, a_ald, a_cs, a_cv, a_gi, a_gr, a_iadd, a_icge, a_iclt, a_icne, a_ifeq, a_ifle, a_ild, a_imul, a_inc, a_ist, a_push, a_wi, a_zret, sh_71, sh_78, pu_rv, pu_as, Value.category, pu_bk, pu_kl, pu_qe0, pu_qe1, t1, hc, e1, e2, l0, wm]
              all_goals try simp [bX12_reads_29, bX12_reads_116, bX12_reads_132, bX12_reads_133, bX12_reads_83, bX12_reads_102, bX12_reads_104, bX12_reads_110, bX12_reads_63, a_ald, a_cs, a_cv, a_gi, a_gr, a_iadd, a_icge, a_iclt, a_icne, a_ifeq, a_ifle, a_ild, a_imul, a_inc, a_ist, a_push, a_wi, a_zret, sh_71, sh_78, pu_rv, pu_as, Value.category, pu_bk, pu_kl, List.replicate, pu_wi_1, pu_wi_2, nl_add, nl_ladd, nl_aa, nl_mul, nl_rmul, nl_mm, pu_qe0, pu_qe1, t1, hc, e1, e2, l0, wm]
              all_goals try simp (maxSteps := 400000) (disch := omega) [nl_tle, nl_fle, nl_tlt, nl_flt, nl_teq, nl_feq, nl_sub, nl_ss, nl_lt, nl_llt, nl_ltt, nl_le, nl_lle, nl_lee, nl_eq, nl_leq, nl_ee, nl_div, nl_rem, nl_cl, nl_n1, nl_n2, nl_n3, nl_n4, nl_add, nl_ladd, nl_aa, nl_mul, nl_rmul, nl_mm, pu_wi_1, pu_wi_2, bX12_reads_29, bX12_reads_116, bX12_reads_132, bX12_reads_133, bX12_reads_83, bX12_reads_102, bX12_reads_104, bX12_reads_110, bX12_reads_63, a_ald, a_cs, a_cv, a_gi, a_gr, a_iadd, a_icge, a_iclt, a_icne, a_ifeq, a_ifle, a_ild, a_imul, a_inc, a_ist, a_push, a_wi, a_zret, sh_71, sh_78, pu_rv, pu_as, Value.category, pu_bk, pu_kl, pu_qe0, pu_qe1, t1, hc, e1, e2, l0, wm]
            · rw [if_neg c2, if_pos c3]
              have wm : ¬ nI (w + 1) = nI mo := fun z => by
                rw [nI_eq (by omega) (by omega)] at z
                omega
              obtain ⟨F, f1, f2, f3, f4⟩ := r_reads_l b t le mo hle hmo n (w + 1) (pos + ds.length + 1) N (some (.int 32)) hxN tN (by omega) (by omega) (by omega) zN
              refine ⟨F, f1.trans a1, fun x j hj => by rw [f2 x j (by omega)]; exact fr x j hj, fun l hl k i hk hi => ?_, ?_⟩
              · rw [Option.map_eq_some_iff] at hl
                obtain ⟨l2, h1, h2⟩ := hl
                rw [← h2]
                by_cases k0 : k = 0
                · subst k0
                  rw [f2 78 _ (by omega)]
                  exact w0 i hi
                · obtain ⟨k', rfl⟩ : ∃ k', k = k' + 1 := ⟨k - 1, by omega⟩
                  have := f3 l2 h1 k' i (by omega) hi
                  rw [show w + (k' + 1) = w + 1 + k' by omega, this]
                  rfl
              · have e5 : (∃ l, (py_ns b t n (pos + ds.length + 1)).map (fun l => ds :: l) = some l ∧ le ≤ w + l.length) = (∃ l, py_ns b t n (pos + ds.length + 1) = some l ∧ le ≤ w + 1 + l.length) := by
                  apply propext
                  constructor
                  · rintro ⟨l, hl, g⟩
                    rw [Option.map_eq_some_iff] at hl
                    obtain ⟨l2, h1, h2⟩ := hl
                    refine ⟨l2, h1, ?_⟩
                    rw [← h2, List.length_cons] at g
                    omega
                  · rintro ⟨l, hl, g⟩
                    refine ⟨ds :: l, by rw [hl]; rfl, ?_⟩
                    rw [List.length_cons]
                    omega
                rw [e5]
                rw [qX12_reads_29]
                simp [bX12_reads_29, bX12_reads_116, bX12_reads_132, bX12_reads_133, bX12_reads_83, bX12_reads_102, bX12_reads_104, bX12_reads_110, bX12_reads_63, a_ald, a_cs, a_cv, a_gi, a_gr, a_iadd, a_icge, a_iclt, a_icne, a_ifeq, a_ifle, a_ild, a_imul, a_inc, a_ist, a_push, a_wi, a_zret, sh_71, sh_78, pu_rv, pu_as, Value.category, pu_bk, pu_kl, List.replicate, pu_wi_1, pu_wi_2, nl_add, nl_ladd, nl_aa, nl_mul, nl_rmul, nl_mm, pu_qe0, pu_qe1, t1, hc, e1, e2, l0, wm, f4]
                all_goals try simp (maxSteps := 400000) (disch := omega) [nl_tle, nl_fle, nl_tlt, nl_flt, nl_teq, nl_feq, nl_sub, nl_ss, nl_lt, nl_llt, nl_ltt, nl_le, nl_lle, nl_lee, nl_eq, nl_leq, nl_ee, nl_div, nl_rem, nl_cl, nl_n1, nl_n2, nl_n3, nl_n4, nl_add, nl_ladd, nl_aa, nl_mul, nl_rmul, nl_mm, pu_wi_1, pu_wi_2, bX12_reads_29, bX12_reads_116, bX12_reads_132, bX12_reads_133, bX12_reads_83, bX12_reads_102, bX12_reads_104, bX12_reads_110, bX12_reads_63, a_ald, a_cs, a_cv, a_gi, a_gr, a_iadd, a_icge, a_iclt, a_icne, a_ifeq, a_ifle, a_ild, a_imul, a_inc, a_ist, a_push, a_wi, a_zret, sh_71, sh_78, pu_rv, pu_as, Value.category, pu_bk, pu_kl, pu_qe0, pu_qe1, t1, hc, e1, e2, l0, wm, f4]
                all_goals try simp [bX12_reads_29, bX12_reads_116, bX12_reads_132, bX12_reads_133, bX12_reads_83, bX12_reads_102, bX12_reads_104, bX12_reads_110, bX12_reads_63, a_ald, a_cs, a_cv, a_gi, a_gr, a_iadd, a_icge, a_iclt, a_icne, a_ifeq, a_ifle, a_ild, a_imul, a_inc, a_ist, a_push, a_wi, a_zret, sh_71, sh_78, pu_rv, pu_as, Value.category, pu_bk, pu_kl, List.replicate, pu_wi_1, pu_wi_2, nl_add, nl_ladd, nl_aa, nl_mul, nl_rmul, nl_mm, pu_qe0, pu_qe1, t1, hc, e1, e2, l0, wm, f4]
                all_goals try simp (maxSteps := 400000) (disch := omega) [nl_tle, nl_fle, nl_tlt, nl_flt, nl_teq, nl_feq, nl_sub, nl_ss, nl_lt, nl_llt, nl_ltt, nl_le, nl_lle, nl_lee, nl_eq, nl_leq, nl_ee, nl_div, nl_rem, nl_cl, nl_n1, nl_n2, nl_n3, nl_n4, nl_add, nl_ladd, nl_aa, nl_mul, nl_rmul, nl_mm, pu_wi_1, pu_wi_2, bX12_reads_29, bX12_reads_116, bX12_reads_132, bX12_reads_133, bX12_reads_83, bX12_reads_102, bX12_reads_104, bX12_reads_110, bX12_reads_63, a_ald, a_cs, a_cv, a_gi, a_gr, a_iadd, a_icge, a_iclt, a_icne, a_ifeq, a_ifle, a_ild, a_imul, a_inc, a_ist, a_push, a_wi, a_zret, sh_71, sh_78, pu_rv, pu_as, Value.category, pu_bk, pu_kl, pu_qe0, pu_qe1, t1, hc, e1, e2, l0, wm, f4]
/-- the row of letters made 0 -/
def py_z36 (M : pu_M) (i : Nat) : pu_M := (fun a j => if a = 78 ∧ j < i then 0 else M.1 a j, M.2)
theorem py_z36_s (M : pu_M) (i : Nat) : pu_wi (py_z36 M i) 78 i 0 = py_z36 M (i + 1) := by
  unfold pu_wi py_z36
  congr 1
  funext a j
  by_cases e : a = 78
  · by_cases f : j = i
    · simp only [e, f, if_true]
      rw [if_pos ⟨trivial, by omega⟩]
    · simp only [e, f, if_true, if_false]
      by_cases g : j < i
      · rw [if_pos ⟨trivial, g⟩, if_pos ⟨trivial, by omega⟩]
      · rw [if_neg (fun q => g q.2), if_neg (fun q => g (by omega))]
  · simp [e]
theorem r_clear_l {M : pu_M} (hx : pu_fx M) (le mo : Int32) (t4 t5 t6 : Option Value) : ∀ m i, i + m = 36 → pu_r 436 [some (.ref 71), some (.int le), some (.int mo), some (.int (nI i)), t4, t5, t6] [] (py_z36 M i) = pu_r 437 [some (.ref 71), some (.int le), some (.int mo), some (.int 0), some (.int 0), some (.int 0), t6] [] (py_z36 M 36)
  | 0, i, h => by
    have e : i = 36 := by omega
    subst e
    have hc : 36 ≤ nI 36 := by decide
    generalize py_z36 M 36 = N at *
    rw [qX12_reads_2]
    simp [bX12_reads_2, bX12_reads_21, a_ald, a_gr, a_icge, a_ild, a_inc, a_ist, a_push, a_wi, sh_71, sh_78, pu_rv, pu_as, Value.category, pu_bk, pu_kl, List.replicate, pu_wi_1, pu_wi_2, nl_add, nl_ladd, nl_aa, nl_mul, nl_rmul, nl_mm, pu_qe0, pu_qe1, hc]
    all_goals try simp (maxSteps := 400000) (disch := omega) [nl_tle, nl_fle, nl_tlt, nl_flt, nl_teq, nl_feq, nl_sub, nl_ss, nl_lt, nl_llt, nl_ltt, nl_le, nl_lle, nl_lee, nl_eq, nl_leq, nl_ee, nl_div, nl_rem, nl_cl, nl_n1, nl_n2, nl_n3, nl_n4, nl_add, nl_ladd, nl_aa, nl_mul, nl_rmul, nl_mm, pu_wi_1, pu_wi_2, bX12_reads_2, bX12_reads_21, a_ald, a_gr, a_icge, a_ild, a_inc, a_ist, a_push, a_wi, sh_71, sh_78, pu_rv, pu_as, Value.category, pu_bk, pu_kl, pu_qe0, pu_qe1, hc]
    all_goals try simp [bX12_reads_2, bX12_reads_21, a_ald, a_gr, a_icge, a_ild, a_inc, a_ist, a_push, a_wi, sh_71, sh_78, pu_rv, pu_as, Value.category, pu_bk, pu_kl, List.replicate, pu_wi_1, pu_wi_2, nl_add, nl_ladd, nl_aa, nl_mul, nl_rmul, nl_mm, pu_qe0, pu_qe1, hc]
    all_goals try simp (maxSteps := 400000) (disch := omega) [nl_tle, nl_fle, nl_tlt, nl_flt, nl_teq, nl_feq, nl_sub, nl_ss, nl_lt, nl_llt, nl_ltt, nl_le, nl_lle, nl_lee, nl_eq, nl_leq, nl_ee, nl_div, nl_rem, nl_cl, nl_n1, nl_n2, nl_n3, nl_n4, nl_add, nl_ladd, nl_aa, nl_mul, nl_rmul, nl_mm, pu_wi_1, pu_wi_2, bX12_reads_2, bX12_reads_21, a_ald, a_gr, a_icge, a_ild, a_inc, a_ist, a_push, a_wi, sh_71, sh_78, pu_rv, pu_as, Value.category, pu_bk, pu_kl, pu_qe0, pu_qe1, hc]
  | m + 1, i, h => by
    have hc : ¬ 36 ≤ nI i := nI_ge (b := 36) (by omega) (by omega)
    have ih := r_clear_l hx le mo t4 t5 t6 m (i + 1) (by omega)
    rw [← py_z36_s] at ih
    have f : (py_z36 M i).2.2.1 71 9 = some 78 := fx_71_9 hx
    rw [← ih]
    generalize py_z36 M i = N at *
    rw [qX12_reads_2]
    simp [bX12_reads_2, bX12_reads_21, a_ald, a_gr, a_icge, a_ild, a_inc, a_ist, a_push, a_wi, sh_71, sh_78, pu_rv, pu_as, Value.category, pu_bk, pu_kl, List.replicate, pu_wi_1, pu_wi_2, nl_add, nl_ladd, nl_aa, nl_mul, nl_rmul, nl_mm, pu_qe0, pu_qe1, hc, f]
    all_goals try simp (maxSteps := 400000) (disch := omega) [nl_tle, nl_fle, nl_tlt, nl_flt, nl_teq, nl_feq, nl_sub, nl_ss, nl_lt, nl_llt, nl_ltt, nl_le, nl_lle, nl_lee, nl_eq, nl_leq, nl_ee, nl_div, nl_rem, nl_cl, nl_n1, nl_n2, nl_n3, nl_n4, nl_add, nl_ladd, nl_aa, nl_mul, nl_rmul, nl_mm, pu_wi_1, pu_wi_2, bX12_reads_2, bX12_reads_21, a_ald, a_gr, a_icge, a_ild, a_inc, a_ist, a_push, a_wi, sh_71, sh_78, pu_rv, pu_as, Value.category, pu_bk, pu_kl, pu_qe0, pu_qe1, hc, f]
    all_goals try simp [bX12_reads_2, bX12_reads_21, a_ald, a_gr, a_icge, a_ild, a_inc, a_ist, a_push, a_wi, sh_71, sh_78, pu_rv, pu_as, Value.category, pu_bk, pu_kl, List.replicate, pu_wi_1, pu_wi_2, nl_add, nl_ladd, nl_aa, nl_mul, nl_rmul, nl_mm, pu_qe0, pu_qe1, hc, f]
    all_goals try simp (maxSteps := 400000) (disch := omega) [nl_tle, nl_fle, nl_tlt, nl_flt, nl_teq, nl_feq, nl_sub, nl_ss, nl_lt, nl_llt, nl_ltt, nl_le, nl_lle, nl_lee, nl_eq, nl_leq, nl_ee, nl_div, nl_rem, nl_cl, nl_n1, nl_n2, nl_n3, nl_n4, nl_add, nl_ladd, nl_aa, nl_mul, nl_rmul, nl_mm, pu_wi_1, pu_wi_2, bX12_reads_2, bX12_reads_21, a_ald, a_gr, a_icge, a_ild, a_inc, a_ist, a_push, a_wi, sh_71, sh_78, pu_rv, pu_as, Value.category, pu_bk, pu_kl, pu_qe0, pu_qe1, hc, f]
theorem r_reads {M : pu_M} (b : Nat → Nat) (t le mo : Nat) (hle : le ≤ 3) (hmo : mo ≤ 3) (h0 : 0 < mo) (hx : pu_fx M) (h : py_tr M b t) : ∃ N, N.2 = M.2 ∧ (∀ x j, x ≠ 78 → N.1 x j = M.1 x j) ∧ (∀ l, py_ns b t mo 0 = some l → ∀ k i, k < 3 → i < 12 → N.1 78 (12 * k + i) = pu_lt (l.getD k []) i) ∧ pu_r 243 [some (.ref 71), some (.int (nI le)), some (.int (nI mo))] [] M = some (some (.int (pu_q (∃ l, py_ns b t mo 0 = some l ∧ le ≤ l.length))), N) := by
  have Z : py_z36 M 0 = M := by
    unfold py_z36
    have : (fun a j => if a = 78 ∧ j < 0 then 0 else M.1 a j) = M.1 := by
      funext a j
      rw [if_neg (by omega)]
    rw [this]
  have e := r_clear_l hx (nI le) (nI mo) none none none 36 0 (by omega)
  rw [Z, nI_0] at e
  have zo : ∀ a j, a ≠ 78 → (py_z36 M 36).1 a j = M.1 a j := fun a j ha => if_neg (fun q => ha q.1)
  obtain ⟨N, n1, n2, n3, n4⟩ := r_reads_l b t le mo hle hmo mo 0 0 (py_z36 M 36) none hx ⟨by rw [zo 71 6 (by omega)]; exact h.1, h.2.1, fun j hj => by rw [zo 76 j (by omega)]; exact h.2.2 j hj⟩ (by omega) h0 (by omega) (fun i _ h2 => if_pos ⟨rfl, h2⟩)
  refine ⟨N, n1, fun x j hj => by rw [n2 x j (by omega), zo x j hj], fun l hl k i hk hi => ?_, ?_⟩
  · have := n3 l hl k i (by omega) hi
    rw [Nat.zero_add] at this
    exact this
  · rw [nI_0, ← e] at n4
    simp only [Nat.zero_add] at n4
    rw [qX12_reads]
    simp [a_ent, bX12_reads_0, a_ist, a_push, pu_rv, pu_as, Value.category, pu_bk, pu_kl, List.replicate, pu_wi_1, pu_wi_2, nl_add, nl_ladd, nl_aa, nl_mul, nl_rmul, nl_mm, pu_qe0, pu_qe1, n4]
    all_goals try simp (maxSteps := 400000) (disch := omega) [nl_tle, nl_fle, nl_tlt, nl_flt, nl_teq, nl_feq, nl_sub, nl_ss, nl_lt, nl_llt, nl_ltt, nl_le, nl_lle, nl_lee, nl_eq, nl_leq, nl_ee, nl_div, nl_rem, nl_cl, nl_n1, nl_n2, nl_n3, nl_n4, nl_add, nl_ladd, nl_aa, nl_mul, nl_rmul, nl_mm, pu_wi_1, pu_wi_2, bX12_reads_0, a_ist, a_push, pu_rv, pu_as, Value.category, pu_bk, pu_kl, pu_qe0, pu_qe1, n4]
    all_goals try simp [bX12_reads_0, a_ist, a_push, pu_rv, pu_as, Value.category, pu_bk, pu_kl, List.replicate, pu_wi_1, pu_wi_2, nl_add, nl_ladd, nl_aa, nl_mul, nl_rmul, nl_mm, pu_qe0, pu_qe1, n4]
    all_goals try simp (maxSteps := 400000) (disch := omega) [nl_tle, nl_fle, nl_tlt, nl_flt, nl_teq, nl_feq, nl_sub, nl_ss, nl_lt, nl_llt, nl_ltt, nl_le, nl_lle, nl_lee, nl_eq, nl_leq, nl_ee, nl_div, nl_rem, nl_cl, nl_n1, nl_n2, nl_n3, nl_n4, nl_add, nl_ladd, nl_aa, nl_mul, nl_rmul, nl_mm, pu_wi_1, pu_wi_2, bX12_reads_0, a_ist, a_push, pu_rv, pu_as, Value.category, pu_bk, pu_kl, pu_qe0, pu_qe1, n4]
