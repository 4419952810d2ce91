/-! shorten, both sides -/
section
variable {M : pu_M} {I : Nat → Nat → Int32} {L : Nat → Nat → Int64}
theorem r_sh5 (hx : pu_fx M) (hr : pu_Rel I L (M.1 72)) (hw : pu_WF I L) (x : Int64) (hd : pu_Wd (M.1 78) 0 x) (nt : ¬ ∃ k, k < 3 * cT I ∧ L 26 k = x) (nn : ¬ ∃ k, k < 3 * cN I ∧ L 24 k = x) : (py_fi I L x = -1 → ¬ cF I < 20 → pu_r 445 [some (.ref 71), some (.int 0), none, none] [] M = some (some (.int (-6)), M)) ∧ (py_fi I L x = -1 → cF I < 20 → pu_r 445 [some (.ref 71), some (.int 0), none, none] [] M = some (some (.int (nI (cF I + 1))), pu_wi (py_sc M (cF I) 24) 72 8 (nI (cF I + 1)))) ∧ (∀ k, py_fi I L x = nI k → k < cF I → pu_r 445 [some (.ref 71), some (.int 0), none, none] [] M = some (some (.int (nI (cF I))), py_sc M k 24)) := by
  have bF := wx_bF hw
  have h8 := rl_h8 hr
  have s1 := (r_sh1 hx hr hw x hd none none (cT I) 0 (by omega)).2 (fun ⟨k, _, k2, w, w1, w2⟩ => nt ⟨3 * k + w, by omega, w2⟩)
  have s2 := (r_sh2 hx hr hw x hd none none (cN I) 0 (by omega)).2 (fun ⟨_, _, _, k, k2, _, w, w1, w2⟩ => nn ⟨3 * k + w, by omega, w2⟩)
  obtain ⟨s3, s4⟩ := r_sh3 hx hr hw x hd (cF I) 0 none (by omega)
  rw [nI_0] at s1 s2 s3 s4
  have ff : ∀ k, (py_sc M k 24).2.2.1 71 0 = some 72 := fun k => fx_71_0 hx
  have f8 : ∀ k, (py_sc M k 24).1 72 8 = nI (cF I) := fun k => by rw [py_sc_o (by omega)]; exact h8
  rw [s1, s2]
  rcases py_fi_s hw x with ⟨a, b⟩ | ⟨j, k1, k2, k3, k4⟩
  · obtain ⟨u, hu⟩ := s3 (fun k _ hk => b k hk)
    rw [hu]
    refine ⟨fun _ c => ?_, fun _ c => ?_, fun k hk hk2 => ?_⟩
    · have e : nI (cF I) = 20 := by rw [show cF I = 20 by omega]; rfl
      rw [e]
      simp [bX12_shorten_167, bX12_shorten_176, a_icne, a_ild, a_iret, a_ist, a_push, pu_rv, pu_as, Value.category, pu_bk, pu_kl, List.replicate, pu_wi_1, pu_wi_2, nl_add, nl_ladd, nl_aa, nl_mul, nl_rmul, nl_mm, pu_qe0, pu_qe1]
      all_goals try simp (maxSteps := 400000) (disch := omega) [nl_tle, nl_fle, nl_tlt, nl_flt, nl_teq, nl_feq, nl_sub, nl_ss, nl_lt, nl_llt, nl_ltt, nl_le, nl_lle, nl_lee, nl_eq, nl_leq, nl_ee, nl_div, nl_rem, nl_cl, nl_n1, nl_n2, nl_n3, nl_n4, nl_add, nl_ladd, nl_aa, nl_mul, nl_rmul, nl_mm, pu_wi_1, pu_wi_2, bX12_shorten_167, bX12_shorten_176, a_icne, a_ild, a_iret, a_ist, a_push, pu_rv, pu_as, Value.category, pu_bk, pu_kl, pu_qe0, pu_qe1]
      all_goals try simp [bX12_shorten_167, bX12_shorten_176, a_icne, a_ild, a_iret, a_ist, a_push, pu_rv, pu_as, Value.category, pu_bk, pu_kl, List.replicate, pu_wi_1, pu_wi_2, nl_add, nl_ladd, nl_aa, nl_mul, nl_rmul, nl_mm, pu_qe0, pu_qe1]
      all_goals try simp (maxSteps := 400000) (disch := omega) [nl_tle, nl_fle, nl_tlt, nl_flt, nl_teq, nl_feq, nl_sub, nl_ss, nl_lt, nl_llt, nl_ltt, nl_le, nl_lle, nl_lee, nl_eq, nl_leq, nl_ee, nl_div, nl_rem, nl_cl, nl_n1, nl_n2, nl_n3, nl_n4, nl_add, nl_ladd, nl_aa, nl_mul, nl_rmul, nl_mm, pu_wi_1, pu_wi_2, bX12_shorten_167, bX12_shorten_176, a_icne, a_ild, a_iret, a_ist, a_push, pu_rv, pu_as, Value.category, pu_bk, pu_kl, pu_qe0, pu_qe1]
      all_goals try simp [bX12_shorten_167, bX12_shorten_176, a_icne, a_ild, a_iret, a_ist, a_push, pu_rv, pu_as, Value.category, pu_bk, pu_kl, List.replicate, pu_wi_1, pu_wi_2, nl_add, nl_ladd, nl_aa, nl_mul, nl_rmul, nl_mm, pu_qe0, pu_qe1]
      all_goals try simp (maxSteps := 400000) (disch := omega) [nl_tle, nl_fle, nl_tlt, nl_flt, nl_teq, nl_feq, nl_sub, nl_ss, nl_lt, nl_llt, nl_ltt, nl_le, nl_lle, nl_lee, nl_eq, nl_leq, nl_ee, nl_div, nl_rem, nl_cl, nl_n1, nl_n2, nl_n3, nl_n4, nl_add, nl_ladd, nl_aa, nl_mul, nl_rmul, nl_mm, pu_wi_1, pu_wi_2, bX12_shorten_167, bX12_shorten_176, a_icne, a_ild, a_iret, a_ist, a_push, pu_rv, pu_as, Value.category, pu_bk, pu_kl, pu_qe0, pu_qe1]
      all_goals try simp [bX12_shorten_167, bX12_shorten_176, a_icne, a_ild, a_iret, a_ist, a_push, pu_rv, pu_as, Value.category, pu_bk, pu_kl, List.replicate, pu_wi_1, pu_wi_2, nl_add, nl_ladd, nl_aa, nl_mul, nl_rmul, nl_mm, pu_qe0, pu_qe1]
    · have e : ¬ nI (cF I) = 20 := fun z => by
        rw [show (20 : Int32) = nI 20 from rfl, nI_eq (by omega) (by omega)] at z
        omega
      have s5 := r_sh4 hx (cF I) c 0 24 0 (by omega)
      rw [py_sc_0, nI_0] at s5
      have st : kX12_shorten_167 pu_r [some (.ref 71), some (.int (nI (cF I))), some (.int 0), u] [] M = pu_r 449 [some (.ref 71), some (.int (nI (cF I))), some (.int 0), some (.int 0)] [] M := by
        simp [bX12_shorten_167, bX12_shorten_176, a_icne, a_ild, a_iret, a_ist, a_push, pu_rv, pu_as, Value.category, pu_bk, pu_kl, List.replicate, pu_wi_1, pu_wi_2, nl_add, nl_ladd, nl_aa, nl_mul, nl_rmul, nl_mm, pu_qe0, pu_qe1, e]
        all_goals try simp (maxSteps := 400000) (disch := omega) [nl_tle, nl_fle, nl_tlt, nl_flt, nl_teq, nl_feq, nl_sub, nl_ss, nl_lt, nl_llt, nl_ltt, nl_le, nl_lle, nl_lee, nl_eq, nl_leq, nl_ee, nl_div, nl_rem, nl_cl, nl_n1, nl_n2, nl_n3, nl_n4, nl_add, nl_ladd, nl_aa, nl_mul, nl_rmul, nl_mm, pu_wi_1, pu_wi_2, bX12_shorten_167, bX12_shorten_176, a_icne, a_ild, a_iret, a_ist, a_push, pu_rv, pu_as, Value.category, pu_bk, pu_kl, pu_qe0, pu_qe1, e]
        all_goals try simp [bX12_shorten_167, bX12_shorten_176, a_icne, a_ild, a_iret, a_ist, a_push, pu_rv, pu_as, Value.category, pu_bk, pu_kl, List.replicate, pu_wi_1, pu_wi_2, nl_add, nl_ladd, nl_aa, nl_mul, nl_rmul, nl_mm, pu_qe0, pu_qe1, e]
        all_goals try simp (maxSteps := 400000) (disch := omega) [nl_tle, nl_fle, nl_tlt, nl_flt, nl_teq, nl_feq, nl_sub, nl_ss, nl_lt, nl_llt, nl_ltt, nl_le, nl_lle, nl_lee, nl_eq, nl_leq, nl_ee, nl_div, nl_rem, nl_cl, nl_n1, nl_n2, nl_n3, nl_n4, nl_add, nl_ladd, nl_aa, nl_mul, nl_rmul, nl_mm, pu_wi_1, pu_wi_2, bX12_shorten_167, bX12_shorten_176, a_icne, a_ild, a_iret, a_ist, a_push, pu_rv, pu_as, Value.category, pu_bk, pu_kl, pu_qe0, pu_qe1, e]
        all_goals try simp [bX12_shorten_167, bX12_shorten_176, a_icne, a_ild, a_iret, a_ist, a_push, pu_rv, pu_as, Value.category, pu_bk, pu_kl, List.replicate, pu_wi_1, pu_wi_2, nl_add, nl_ladd, nl_aa, nl_mul, nl_rmul, nl_mm, pu_qe0, pu_qe1, e]
        all_goals try simp (maxSteps := 400000) (disch := omega) [nl_tle, nl_fle, nl_tlt, nl_flt, nl_teq, nl_feq, nl_sub, nl_ss, nl_lt, nl_llt, nl_ltt, nl_le, nl_lle, nl_lee, nl_eq, nl_leq, nl_ee, nl_div, nl_rem, nl_cl, nl_n1, nl_n2, nl_n3, nl_n4, nl_add, nl_ladd, nl_aa, nl_mul, nl_rmul, nl_mm, pu_wi_1, pu_wi_2, bX12_shorten_167, bX12_shorten_176, a_icne, a_ild, a_iret, a_ist, a_push, pu_rv, pu_as, Value.category, pu_bk, pu_kl, pu_qe0, pu_qe1, e]
        all_goals try simp [bX12_shorten_167, bX12_shorten_176, a_icne, a_ild, a_iret, a_ist, a_push, pu_rv, pu_as, Value.category, pu_bk, pu_kl, List.replicate, pu_wi_1, pu_wi_2, nl_add, nl_ladd, nl_aa, nl_mul, nl_rmul, nl_mm, pu_qe0, pu_qe1, e]
      rw [st, s5]
      have f1 := ff (cF I)
      have f2 := f8 (cF I)
      generalize py_sc M (cF I) 24 = N at *
      simp [bX12_shorten_211, bX12_shorten_226, a_ai, a_ald, a_dup2, a_gr, a_iadd, a_ifne, a_ild, a_iret, a_push, a_wi, sh_71, sh_72, pu_rv, pu_as, Value.category, pu_bk, pu_kl, List.replicate, pu_wi_1, pu_wi_2, nl_add, nl_ladd, nl_aa, nl_mul, nl_rmul, nl_mm, pu_qe0, pu_qe1, f1, f2]
      all_goals try simp (maxSteps := 400000) (disch := omega) [nl_tle, nl_fle, nl_tlt, nl_flt, nl_teq, nl_feq, nl_sub, nl_ss, nl_lt, nl_llt, nl_ltt, nl_le, nl_lle, nl_lee, nl_eq, nl_leq, nl_ee, nl_div, nl_rem, nl_cl, nl_n1, nl_n2, nl_n3, nl_n4, nl_add, nl_ladd, nl_aa, nl_mul, nl_rmul, nl_mm, pu_wi_1, pu_wi_2, bX12_shorten_211, bX12_shorten_226, a_ai, a_ald, a_dup2, a_gr, a_iadd, a_ifne, a_ild, a_iret, a_push, a_wi, sh_71, sh_72, pu_rv, pu_as, Value.category, pu_bk, pu_kl, pu_qe0, pu_qe1, f1, f2]
      all_goals try simp [bX12_shorten_211, bX12_shorten_226, a_ai, a_ald, a_dup2, a_gr, a_iadd, a_ifne, a_ild, a_iret, a_push, a_wi, sh_71, sh_72, pu_rv, pu_as, Value.category, pu_bk, pu_kl, List.replicate, pu_wi_1, pu_wi_2, nl_add, nl_ladd, nl_aa, nl_mul, nl_rmul, nl_mm, pu_qe0, pu_qe1, f1, f2]
      all_goals try simp (maxSteps := 400000) (disch := omega) [nl_tle, nl_fle, nl_tlt, nl_flt, nl_teq, nl_feq, nl_sub, nl_ss, nl_lt, nl_llt, nl_ltt, nl_le, nl_lle, nl_lee, nl_eq, nl_leq, nl_ee, nl_div, nl_rem, nl_cl, nl_n1, nl_n2, nl_n3, nl_n4, nl_add, nl_ladd, nl_aa, nl_mul, nl_rmul, nl_mm, pu_wi_1, pu_wi_2, bX12_shorten_211, bX12_shorten_226, a_ai, a_ald, a_dup2, a_gr, a_iadd, a_ifne, a_ild, a_iret, a_push, a_wi, sh_71, sh_72, pu_rv, pu_as, Value.category, pu_bk, pu_kl, pu_qe0, pu_qe1, f1, f2]
      all_goals try simp [bX12_shorten_211, bX12_shorten_226, a_ai, a_ald, a_dup2, a_gr, a_iadd, a_ifne, a_ild, a_iret, a_push, a_wi, sh_71, sh_72, pu_rv, pu_as, Value.category, pu_bk, pu_kl, List.replicate, pu_wi_1, pu_wi_2, nl_add, nl_ladd, nl_aa, nl_mul, nl_rmul, nl_mm, pu_qe0, pu_qe1, f1, f2]
      all_goals try simp (maxSteps := 400000) (disch := omega) [nl_tle, nl_fle, nl_tlt, nl_flt, nl_teq, nl_feq, nl_sub, nl_ss, nl_lt, nl_llt, nl_ltt, nl_le, nl_lle, nl_lee, nl_eq, nl_leq, nl_ee, nl_div, nl_rem, nl_cl, nl_n1, nl_n2, nl_n3, nl_n4, nl_add, nl_ladd, nl_aa, nl_mul, nl_rmul, nl_mm, pu_wi_1, pu_wi_2, bX12_shorten_211, bX12_shorten_226, a_ai, a_ald, a_dup2, a_gr, a_iadd, a_ifne, a_ild, a_iret, a_push, a_wi, sh_71, sh_72, pu_rv, pu_as, Value.category, pu_bk, pu_kl, pu_qe0, pu_qe1, f1, f2]
      all_goals try simp [bX12_shorten_211, bX12_shorten_226, a_ai, a_ald, a_dup2, a_gr, a_iadd, a_ifne, a_ild, a_iret, a_push, a_wi, sh_71, sh_72, pu_rv, pu_as, Value.category, pu_bk, pu_kl, List.replicate, pu_wi_1, pu_wi_2, nl_add, nl_ladd, nl_aa, nl_mul, nl_rmul, nl_mm, pu_qe0, pu_qe1, f1, f2]
    · exfalso
      rw [a] at hk
      rw [eq_comm, nl_n1 _ (by omega)] at hk
      exact hk
  · obtain ⟨u, hu⟩ := s4 j (by omega) k1 k3 (fun l _ hl => k4 l hl)
    rw [hu]
    have ne : ¬ nI j = -1 := fun q => by rw [nl_n1 _ (by omega)] at q; exact q
    refine ⟨fun z => absurd (k2.symm.trans z) ne, fun z => absurd (k2.symm.trans z) ne, fun k hk hk2 => ?_⟩
    have kj : j = k := by
      rw [k2, nI_eq (by omega) (by omega)] at hk
      exact hk
    subst kj
    have e : ¬ nI j = 20 := fun z => by
      rw [show (20 : Int32) = nI 20 from rfl, nI_eq (by omega) (by omega)] at z
      omega
    have s5 := r_sh4 hx j (by omega) 1 24 0 (by omega)
    rw [py_sc_0, nI_0] at s5
    have st : kX12_shorten_167 pu_r [some (.ref 71), some (.int (nI j)), some (.int 1), u] [] M = pu_r 449 [some (.ref 71), some (.int (nI j)), some (.int 1), some (.int 0)] [] M := by
      simp [bX12_shorten_167, bX12_shorten_176, a_icne, a_ild, a_iret, a_ist, a_push, pu_rv, pu_as, Value.category, pu_bk, pu_kl, List.replicate, pu_wi_1, pu_wi_2, nl_add, nl_ladd, nl_aa, nl_mul, nl_rmul, nl_mm, pu_qe0, pu_qe1, e]
      all_goals try simp (maxSteps := 400000) (disch := omega) [nl_tle, nl_fle, nl_tlt, nl_flt, nl_teq, nl_feq, nl_sub, nl_ss, nl_lt, nl_llt, nl_ltt, nl_le, nl_lle, nl_lee, nl_eq, nl_leq, nl_ee, nl_div, nl_rem, nl_cl, nl_n1, nl_n2, nl_n3, nl_n4, nl_add, nl_ladd, nl_aa, nl_mul, nl_rmul, nl_mm, pu_wi_1, pu_wi_2, bX12_shorten_167, bX12_shorten_176, a_icne, a_ild, a_iret, a_ist, a_push, pu_rv, pu_as, Value.category, pu_bk, pu_kl, pu_qe0, pu_qe1, e]
      all_goals try simp [bX12_shorten_167, bX12_shorten_176, a_icne, a_ild, a_iret, a_ist, a_push, pu_rv, pu_as, Value.category, pu_bk, pu_kl, List.replicate, pu_wi_1, pu_wi_2, nl_add, nl_ladd, nl_aa, nl_mul, nl_rmul, nl_mm, pu_qe0, pu_qe1, e]
      all_goals try simp (maxSteps := 400000) (disch := omega) [nl_tle, nl_fle, nl_tlt, nl_flt, nl_teq, nl_feq, nl_sub, nl_ss, nl_lt, nl_llt, nl_ltt, nl_le, nl_lle, nl_lee, nl_eq, nl_leq, nl_ee, nl_div, nl_rem, nl_cl, nl_n1, nl_n2, nl_n3, nl_n4, nl_add, nl_ladd, nl_aa, nl_mul, nl_rmul, nl_mm, pu_wi_1, pu_wi_2, bX12_shorten_167, bX12_shorten_176, a_icne, a_ild, a_iret, a_ist, a_push, pu_rv, pu_as, Value.category, pu_bk, pu_kl, pu_qe0, pu_qe1, e]
      all_goals try simp [bX12_shorten_167, bX12_shorten_176, a_icne, a_ild, a_iret, a_ist, a_push, pu_rv, pu_as, Value.category, pu_bk, pu_kl, List.replicate, pu_wi_1, pu_wi_2, nl_add, nl_ladd, nl_aa, nl_mul, nl_rmul, nl_mm, pu_qe0, pu_qe1, e]
      all_goals try simp (maxSteps := 400000) (disch := omega) [nl_tle, nl_fle, nl_tlt, nl_flt, nl_teq, nl_feq, nl_sub, nl_ss, nl_lt, nl_llt, nl_ltt, nl_le, nl_lle, nl_lee, nl_eq, nl_leq, nl_ee, nl_div, nl_rem, nl_cl, nl_n1, nl_n2, nl_n3, nl_n4, nl_add, nl_ladd, nl_aa, nl_mul, nl_rmul, nl_mm, pu_wi_1, pu_wi_2, bX12_shorten_167, bX12_shorten_176, a_icne, a_ild, a_iret, a_ist, a_push, pu_rv, pu_as, Value.category, pu_bk, pu_kl, pu_qe0, pu_qe1, e]
      all_goals try simp [bX12_shorten_167, bX12_shorten_176, a_icne, a_ild, a_iret, a_ist, a_push, pu_rv, pu_as, Value.category, pu_bk, pu_kl, List.replicate, pu_wi_1, pu_wi_2, nl_add, nl_ladd, nl_aa, nl_mul, nl_rmul, nl_mm, pu_qe0, pu_qe1, e]
    rw [st, s5]
    have f1 := ff j
    have f2 := f8 j
    generalize py_sc M j 24 = N at *
    simp [bX12_shorten_211, bX12_shorten_226, a_ai, a_ald, a_dup2, a_gr, a_iadd, a_ifne, a_ild, a_iret, a_push, a_wi, sh_71, sh_72, pu_rv, pu_as, Value.category, pu_bk, pu_kl, List.replicate, pu_wi_1, pu_wi_2, nl_add, nl_ladd, nl_aa, nl_mul, nl_rmul, nl_mm, pu_qe0, pu_qe1, f1, f2]
    all_goals try simp (maxSteps := 400000) (disch := omega) [nl_tle, nl_fle, nl_tlt, nl_flt, nl_teq, nl_feq, nl_sub, nl_ss, nl_lt, nl_llt, nl_ltt, nl_le, nl_lle, nl_lee, nl_eq, nl_leq, nl_ee, nl_div, nl_rem, nl_cl, nl_n1, nl_n2, nl_n3, nl_n4, nl_add, nl_ladd, nl_aa, nl_mul, nl_rmul, nl_mm, pu_wi_1, pu_wi_2, bX12_shorten_211, bX12_shorten_226, a_ai, a_ald, a_dup2, a_gr, a_iadd, a_ifne, a_ild, a_iret, a_push, a_wi, sh_71, sh_72, pu_rv, pu_as, Value.category, pu_bk, pu_kl, pu_qe0, pu_qe1, f1, f2]
    all_goals try simp [bX12_shorten_211, bX12_shorten_226, a_ai, a_ald, a_dup2, a_gr, a_iadd, a_ifne, a_ild, a_iret, a_push, a_wi, sh_71, sh_72, pu_rv, pu_as, Value.category, pu_bk, pu_kl, List.replicate, pu_wi_1, pu_wi_2, nl_add, nl_ladd, nl_aa, nl_mul, nl_rmul, nl_mm, pu_qe0, pu_qe1, f1, f2]
    all_goals try simp (maxSteps := 400000) (disch := omega) [nl_tle, nl_fle, nl_tlt, nl_flt, nl_teq, nl_feq, nl_sub, nl_ss, nl_lt, nl_llt, nl_ltt, nl_le, nl_lle, nl_lee, nl_eq, nl_leq, nl_ee, nl_div, nl_rem, nl_cl, nl_n1, nl_n2, nl_n3, nl_n4, nl_add, nl_ladd, nl_aa, nl_mul, nl_rmul, nl_mm, pu_wi_1, pu_wi_2, bX12_shorten_211, bX12_shorten_226, a_ai, a_ald, a_dup2, a_gr, a_iadd, a_ifne, a_ild, a_iret, a_push, a_wi, sh_71, sh_72, pu_rv, pu_as, Value.category, pu_bk, pu_kl, pu_qe0, pu_qe1, f1, f2]
    all_goals try simp [bX12_shorten_211, bX12_shorten_226, a_ai, a_ald, a_dup2, a_gr, a_iadd, a_ifne, a_ild, a_iret, a_push, a_wi, sh_71, sh_72, pu_rv, pu_as, Value.category, pu_bk, pu_kl, List.replicate, pu_wi_1, pu_wi_2, nl_add, nl_ladd, nl_aa, nl_mul, nl_rmul, nl_mm, pu_qe0, pu_qe1, f1, f2]
    all_goals try simp (maxSteps := 400000) (disch := omega) [nl_tle, nl_fle, nl_tlt, nl_flt, nl_teq, nl_feq, nl_sub, nl_ss, nl_lt, nl_llt, nl_ltt, nl_le, nl_lle, nl_lee, nl_eq, nl_leq, nl_ee, nl_div, nl_rem, nl_cl, nl_n1, nl_n2, nl_n3, nl_n4, nl_add, nl_ladd, nl_aa, nl_mul, nl_rmul, nl_mm, pu_wi_1, pu_wi_2, bX12_shorten_211, bX12_shorten_226, a_ai, a_ald, a_dup2, a_gr, a_iadd, a_ifne, a_ild, a_iret, a_push, a_wi, sh_71, sh_72, pu_rv, pu_as, Value.category, pu_bk, pu_kl, pu_qe0, pu_qe1, f1, f2]
    all_goals try simp [bX12_shorten_211, bX12_shorten_226, a_ai, a_ald, a_dup2, a_gr, a_iadd, a_ifne, a_ild, a_iret, a_push, a_wi, sh_71, sh_72, pu_rv, pu_as, Value.category, pu_bk, pu_kl, List.replicate, pu_wi_1, pu_wi_2, nl_add, nl_ladd, nl_aa, nl_mul, nl_rmul, nl_mm, pu_qe0, pu_qe1, f1, f2]
end
set_option maxRecDepth 8000 in
theorem op_shorten : pu_op pu_Inv 40 250 [] := by
  intro M h
  have hx := h.1
  have hI := pu_ag5 M
  have hL := pu_al5 M
  have hr := pu_hR h
  have hw := pu_hS h
  have bF := wx_bF hw
  have bN := wx_bN hw
  obtain ⟨t, t1, t2, t3, t4⟩ := h.2.1
  obtain ⟨N0, n1, n2, n3, n4, n5, n6, n7⟩ := c_readPair hx (b := py_by M) t1 t2 (fun j hj => ⟨(t4 j hj).trans (py_by_b M j).1, (py_by_b M j).2⟩)
  have RF : ∀ Q : pu_M, pu_fx Q → Q.1 72 = M.1 72 → Q.1 71 4 = M.1 71 4 → (∀ j, Q.1 75 j = M.1 75 j) → ∃ T R, py_cq Q R ∧ ((∃ l, py_ns (py_by M) t 2 0 = some l ∧ 2 ≤ l.length) → pu_Wd (R.1 78) 0 (lN (pu_wv (py_lw (py_by M) t 12 0))) ∧ pu_Wd (R.1 78) 12 (lN (pu_wv (py_lw (py_by M) t 12 ((py_lw (py_by M) t 12 0).length + 1))))) ∧ pu_r 233 [some (.ref 71)] [] Q = some (none, T) ∧ pu_r 243 [some (.ref 71), some (.int 2), some (.int 2)] [] T = some (some (.int (pu_q (∃ l, py_ns (py_by M) t 2 0 = some l ∧ 2 ≤ l.length))), R) ∧ pu_fx R ∧ R.1 72 = M.1 72 ∧ pu_Rel (pu_si M 5) (pu_sj M 5) (R.1 72) := fun Q q1 q2 q3 q4 => by
    have h4 : Q.1 71 4 = nI t := by rw [q3]; exact t3
    have tk := e_X12_takes q1 (w := t) h4 t1
    have hxT : pu_fx (pu_tk Q t) := pz_fx_of q1 rfl
    have T4 : (pu_tk Q t).1 71 4 = 0 := by simp [pu_tk, pu_wi_1]
    have TR : py_tr (pu_tk Q t) (py_by M) t := ⟨pz_tk_6, t1, fun j hj => ⟨by rw [pz_tk_b hj, q4]; exact (py_by_b M j).1, (py_by_b M j).2⟩⟩
    obtain ⟨R, r1, r2, r3, r4⟩ := r_reads (M := pu_tk Q t) (py_by M) t 2 2 (by omega) (by omega) (by omega) hxT TR
    rw [show nI 2 = (2 : Int32) from rfl] at r4
    have oR : ∀ a j, ¬ (a = 71 ∧ (j = 4 ∨ j = 6)) → a ≠ 76 → a ≠ 78 → R.1 a j = Q.1 a j := fun a j q1 q2 q3 => by
      rw [r2 a j q3, pz_tk_o (by omega) q2]
    have e72 : R.1 72 = M.1 72 := funext (fun j => by rw [oR 72 j (by omega) (by omega) (by omega), q2])
    refine ⟨pu_tk Q t, R, ⟨r1, oR, by rw [r2 71 4 (by omega)]; exact T4⟩, fun g => ?_, tk, r4, pz_fx_of q1 r1, e72, by rw [e72]; exact hr⟩
    have gg := (py_n2 _ _).mp g
    have l0 := py_lw_l (py_by M) t 12 0 (by omega)
    have l1 := py_lw_l (py_by M) t 12 ((py_lw (py_by M) t 12 0).length + 1) (by omega)
    have v := r3 _ gg.2
    refine ⟨⟨_, l0.1, l0.2.2, fun i hi => ?_, rfl⟩, ⟨_, l1.1, l1.2.2, fun i hi => ?_, rfl⟩⟩
    · have := v 0 i (by omega) hi
      rw [show 12 * 0 + i = 0 + i by omega] at this
      exact this
    · have := v 1 i (by omega) hi
      rw [show 12 * 1 + i = 12 + i by omega] at this
      exact this
  have cr : py_cr M (pu_wi N0 1 0 0) := ⟨n1, n2, fun a j a1 a2 => by rw [py_wi_o a2, n3 a j a1], fun a j a1 _ => n4 a j a1, by simp [pu_wi_1], n5⟩
  have x0 : (∃ l, py_ns (py_by M) t 2 0 = some l ∧ 2 ≤ l.length) → lN (pu_wv (py_lw (py_by M) t 12 0)) ≠ 0 := fun g z => by
    rw [py_lw0 (by omega)] at z
    exact ((py_n2 _ _).mp g).1.1 z
  generalize (∃ l, py_ns (py_by M) t 2 0 = some l ∧ 2 ≤ l.length) = g at *
  generalize lN (pu_wv (py_lw (py_by M) t 12 0)) = x at *
  generalize lN (pu_wv (py_lw (py_by M) t 12 ((py_lw (py_by M) t 12 0).length + 1))) = y at *
  have f04 : M.2.2.1 0 4 = some 59 := fx_0_4 hx
  have f00 : M.2.2.1 0 0 = some 1 := fx_0_0 hx
  have f00' : N0.2.2.1 0 0 = some 1 := by rw [n2 0 0 (by omega)]; exact f00
  have N60 : (pu_wi N0 1 0 0).2.1 60 = N0.2.1 60 := rfl
  generalize hN : pu_wi N0 1 0 0 = N at *
  obtain ⟨m1, m2, m3, m4, m5, m6⟩ := id cr
  have N72 : N.1 72 = M.1 72 := funext (fun j => m3 72 j (by omega) (by omega))
  have f2 : N.2.2.1 0 2 = some 5 := by rw [m2 0 2 (by omega)]; exact fx_0_2 hx
  have f4 : N.2.2.1 0 4 = some 59 := by rw [m2 0 4 (by omega)]; exact f04
  have f53 := fx_5_3 m6
  have f52 := fx_5_2 m6
  have f55 := fx_5_5 m6
  have f59 := fx_59_0 m6
  have hIN : pu_ag N (pu_si M 5) := fun a j q1 q2 => by rw [m3 a j (by omega) (by omega)]; exact hI a j q1 q2
  have hLN : pu_al N (pu_sj M 5) := fun a j q1 q2 => by rw [m4 a j (by omega) (by omega)]; exact hL a j q1 q2
  obtain ⟨T, R, r1, r2, r3, r4, hxR, R72, hrR⟩ := RF N m6 N72 (m3 71 4 (by omega) (by omega)) (fun j => m3 75 j (by omega) (by omega))
  have IR := py_Inv_rd h cr r1
  by_cases hg : g
  rotate_left
  · rw [pu_q0 hg] at n7 r4
    refine ⟨-2, N, R, ?_, ?_, IR⟩
    · rw [qX11_shorten]
      simp [a_ent, bX11_shorten_0, bX11_shorten_27, bX11_shorten_65, bX11_shorten_68, bX11_shorten_94, a_al, a_ald, a_cv, a_gi, a_gr, a_ifeq, a_ifne, a_ild, a_iret, a_ist, a_lld, a_lst, a_pi, a_push, sh_0, sh_1, sh_19, sh_25, sh_3, sh_42, sh_5, sh_59, sh_60, pu_rv, pu_as, Value.category, pu_bk, pu_kl, List.replicate, pu_wi_1, pu_wi_2, nl_add, nl_ladd, nl_aa, nl_mul, nl_rmul, nl_mm, pu_qe0, pu_qe1, f04, f00, n7, f00', hN]
      all_goals try simp (maxSteps := 400000) (disch := omega) [nl_tle, nl_fle, nl_tlt, nl_flt, nl_teq, nl_feq, nl_sub, nl_ss, nl_lt, nl_llt, nl_ltt, nl_le, nl_lle, nl_lee, nl_eq, nl_leq, nl_ee, nl_div, nl_rem, nl_cl, nl_n1, nl_n2, nl_n3, nl_n4, nl_add, nl_ladd, nl_aa, nl_mul, nl_rmul, nl_mm, pu_wi_1, pu_wi_2, bX11_shorten_0, bX11_shorten_27, bX11_shorten_65, bX11_shorten_68, bX11_shorten_94, a_al, a_ald, a_cv, a_gi, a_gr, a_ifeq, a_ifne, a_ild, a_iret, a_ist, a_lld, a_lst, a_pi, a_push, sh_0, sh_1, sh_19, sh_25, sh_3, sh_42, sh_5, sh_59, sh_60, pu_rv, pu_as, Value.category, pu_bk, pu_kl, pu_qe0, pu_qe1, f04, f00, n7, f00', hN]
      all_goals try simp [bX11_shorten_0, bX11_shorten_27, bX11_shorten_65, bX11_shorten_68, bX11_shorten_94, a_al, a_ald, a_cv, a_gi, a_gr, a_ifeq, a_ifne, a_ild, a_iret, a_ist, a_lld, a_lst, a_pi, a_push, sh_0, sh_1, sh_19, sh_25, sh_3, sh_42, sh_5, sh_59, sh_60, pu_rv, pu_as, Value.category, pu_bk, pu_kl, List.replicate, pu_wi_1, pu_wi_2, nl_add, nl_ladd, nl_aa, nl_mul, nl_rmul, nl_mm, pu_qe0, pu_qe1, f04, f00, n7, f00', hN]
      all_goals try simp (maxSteps := 400000) (disch := omega) [nl_tle, nl_fle, nl_tlt, nl_flt, nl_teq, nl_feq, nl_sub, nl_ss, nl_lt, nl_llt, nl_ltt, nl_le, nl_lle, nl_lee, nl_eq, nl_leq, nl_ee, nl_div, nl_rem, nl_cl, nl_n1, nl_n2, nl_n3, nl_n4, nl_add, nl_ladd, nl_aa, nl_mul, nl_rmul, nl_mm, pu_wi_1, pu_wi_2, bX11_shorten_0, bX11_shorten_27, bX11_shorten_65, bX11_shorten_68, bX11_shorten_94, a_al, a_ald, a_cv, a_gi, a_gr, a_ifeq, a_ifne, a_ild, a_iret, a_ist, a_lld, a_lst, a_pi, a_push, sh_0, sh_1, sh_19, sh_25, sh_3, sh_42, sh_5, sh_59, sh_60, pu_rv, pu_as, Value.category, pu_bk, pu_kl, pu_qe0, pu_qe1, f04, f00, n7, f00', hN]
      all_goals try simp [bX11_shorten_0, bX11_shorten_27, bX11_shorten_65, bX11_shorten_68, bX11_shorten_94, a_al, a_ald, a_cv, a_gi, a_gr, a_ifeq, a_ifne, a_ild, a_iret, a_ist, a_lld, a_lst, a_pi, a_push, sh_0, sh_1, sh_19, sh_25, sh_3, sh_42, sh_5, sh_59, sh_60, pu_rv, pu_as, Value.category, pu_bk, pu_kl, List.replicate, pu_wi_1, pu_wi_2, nl_add, nl_ladd, nl_aa, nl_mul, nl_rmul, nl_mm, pu_qe0, pu_qe1, f04, f00, n7, f00', hN]
      all_goals try simp (maxSteps := 400000) (disch := omega) [nl_tle, nl_fle, nl_tlt, nl_flt, nl_teq, nl_feq, nl_sub, nl_ss, nl_lt, nl_llt, nl_ltt, nl_le, nl_lle, nl_lee, nl_eq, nl_leq, nl_ee, nl_div, nl_rem, nl_cl, nl_n1, nl_n2, nl_n3, nl_n4, nl_add, nl_ladd, nl_aa, nl_mul, nl_rmul, nl_mm, pu_wi_1, pu_wi_2, bX11_shorten_0, bX11_shorten_27, bX11_shorten_65, bX11_shorten_68, bX11_shorten_94, a_al, a_ald, a_cv, a_gi, a_gr, a_ifeq, a_ifne, a_ild, a_iret, a_ist, a_lld, a_lst, a_pi, a_push, sh_0, sh_1, sh_19, sh_25, sh_3, sh_42, sh_5, sh_59, sh_60, pu_rv, pu_as, Value.category, pu_bk, pu_kl, pu_qe0, pu_qe1, f04, f00, n7, f00', hN]
      all_goals try simp [bX11_shorten_0, bX11_shorten_27, bX11_shorten_65, bX11_shorten_68, bX11_shorten_94, a_al, a_ald, a_cv, a_gi, a_gr, a_ifeq, a_ifne, a_ild, a_iret, a_ist, a_lld, a_lst, a_pi, a_push, sh_0, sh_1, sh_19, sh_25, sh_3, sh_42, sh_5, sh_59, sh_60, pu_rv, pu_as, Value.category, pu_bk, pu_kl, List.replicate, pu_wi_1, pu_wi_2, nl_add, nl_ladd, nl_aa, nl_mul, nl_rmul, nl_mm, pu_qe0, pu_qe1, f04, f00, n7, f00', hN]
    · rw [qX12_shorten]
      simp [a_ent, bX12_shorten_0, bX12_shorten_16, a_ald, a_cv, a_ifne, a_iret, a_ist, a_push, sh_71, pu_rv, pu_as, Value.category, pu_bk, pu_kl, List.replicate, pu_wi_1, pu_wi_2, nl_add, nl_ladd, nl_aa, nl_mul, nl_rmul, nl_mm, pu_qe0, pu_qe1, r3, r4]
      all_goals try simp (maxSteps := 400000) (disch := omega) [nl_tle, nl_fle, nl_tlt, nl_flt, nl_teq, nl_feq, nl_sub, nl_ss, nl_lt, nl_llt, nl_ltt, nl_le, nl_lle, nl_lee, nl_eq, nl_leq, nl_ee, nl_div, nl_rem, nl_cl, nl_n1, nl_n2, nl_n3, nl_n4, nl_add, nl_ladd, nl_aa, nl_mul, nl_rmul, nl_mm, pu_wi_1, pu_wi_2, bX12_shorten_0, bX12_shorten_16, a_ald, a_cv, a_ifne, a_iret, a_ist, a_push, sh_71, pu_rv, pu_as, Value.category, pu_bk, pu_kl, pu_qe0, pu_qe1, r3, r4]
      all_goals try simp [bX12_shorten_0, bX12_shorten_16, a_ald, a_cv, a_ifne, a_iret, a_ist, a_push, sh_71, pu_rv, pu_as, Value.category, pu_bk, pu_kl, List.replicate, pu_wi_1, pu_wi_2, nl_add, nl_ladd, nl_aa, nl_mul, nl_rmul, nl_mm, pu_qe0, pu_qe1, r3, r4]
      all_goals try simp (maxSteps := 400000) (disch := omega) [nl_tle, nl_fle, nl_tlt, nl_flt, nl_teq, nl_feq, nl_sub, nl_ss, nl_lt, nl_llt, nl_ltt, nl_le, nl_lle, nl_lee, nl_eq, nl_leq, nl_ee, nl_div, nl_rem, nl_cl, nl_n1, nl_n2, nl_n3, nl_n4, nl_add, nl_ladd, nl_aa, nl_mul, nl_rmul, nl_mm, pu_wi_1, pu_wi_2, bX12_shorten_0, bX12_shorten_16, a_ald, a_cv, a_ifne, a_iret, a_ist, a_push, sh_71, pu_rv, pu_as, Value.category, pu_bk, pu_kl, pu_qe0, pu_qe1, r3, r4]
      all_goals try simp [bX12_shorten_0, bX12_shorten_16, a_ald, a_cv, a_ifne, a_iret, a_ist, a_push, sh_71, pu_rv, pu_as, Value.category, pu_bk, pu_kl, List.replicate, pu_wi_1, pu_wi_2, nl_add, nl_ladd, nl_aa, nl_mul, nl_rmul, nl_mm, pu_qe0, pu_qe1, r3, r4]
      all_goals try simp (maxSteps := 400000) (disch := omega) [nl_tle, nl_fle, nl_tlt, nl_flt, nl_teq, nl_feq, nl_sub, nl_ss, nl_lt, nl_llt, nl_ltt, nl_le, nl_lle, nl_lee, nl_eq, nl_leq, nl_ee, nl_div, nl_rem, nl_cl, nl_n1, nl_n2, nl_n3, nl_n4, nl_add, nl_ladd, nl_aa, nl_mul, nl_rmul, nl_mm, pu_wi_1, pu_wi_2, bX12_shorten_0, bX12_shorten_16, a_ald, a_cv, a_ifne, a_iret, a_ist, a_push, sh_71, pu_rv, pu_as, Value.category, pu_bk, pu_kl, pu_qe0, pu_qe1, r3, r4]
      all_goals try simp [bX12_shorten_0, bX12_shorten_16, a_ald, a_cv, a_ifne, a_iret, a_ist, a_push, sh_71, pu_rv, pu_as, Value.category, pu_bk, pu_kl, List.replicate, pu_wi_1, pu_wi_2, nl_add, nl_ladd, nl_aa, nl_mul, nl_rmul, nl_mm, pu_qe0, pu_qe1, r3, r4]
  have RF2 := RF
  rw [pu_q1 hg] at n7 r4 RF2
  obtain ⟨w0, w1⟩ := n6 hg
  rw [← N60] at w0 w1
  have e1 := c_wordT m6 hIN hLN hw x
  have e2 := c_wordN m6 hIN hLN hw x
  have s1 := r_sh1 hxR hrR hw x (r2 hg).1 none none (cT (pu_si M 5)) 0 (by omega)
  have s2 := r_sh2 hxR hrR hw x (r2 hg).1 none none (cN (pu_si M 5)) 0 (by omega)
  rw [nI_0] at s1 s2
  by_cases nt : ∃ k, k < 3 * cT (pu_si M 5) ∧ pu_sj M 5 26 k = x
  · rw [pu_q1 nt] at e1
    have q := s1.1 (by
      obtain ⟨k, k1, k2⟩ := nt
      exact ⟨k / 3, by omega, by omega, k % 3, by omega, by rw [show 3 * (k / 3) + k % 3 = k by omega]; exact k2⟩)
    refine ⟨-5, N, R, ?_, ?_, IR⟩
    · rw [qX11_shorten]
      simp [a_ent, bX11_shorten_0, bX11_shorten_27, bX11_shorten_65, bX11_shorten_68, bX11_shorten_94, a_al, a_ald, a_cv, a_gi, a_gr, a_ifeq, a_ifne, a_ild, a_iret, a_ist, a_lld, a_lst, a_pi, a_push, sh_0, sh_1, sh_19, sh_25, sh_3, sh_42, sh_5, sh_59, sh_60, pu_rv, pu_as, Value.category, pu_bk, pu_kl, List.replicate, pu_wi_1, pu_wi_2, nl_add, nl_ladd, nl_aa, nl_mul, nl_rmul, nl_mm, pu_qe0, pu_qe1, f04, f00, n7, f00', hN, f4, f59, w0, f2, f53, e1]
      all_goals try simp (maxSteps := 400000) (disch := omega) [nl_tle, nl_fle, nl_tlt, nl_flt, nl_teq, nl_feq, nl_sub, nl_ss, nl_lt, nl_llt, nl_ltt, nl_le, nl_lle, nl_lee, nl_eq, nl_leq, nl_ee, nl_div, nl_rem, nl_cl, nl_n1, nl_n2, nl_n3, nl_n4, nl_add, nl_ladd, nl_aa, nl_mul, nl_rmul, nl_mm, pu_wi_1, pu_wi_2, bX11_shorten_0, bX11_shorten_27, bX11_shorten_65, bX11_shorten_68, bX11_shorten_94, a_al, a_ald, a_cv, a_gi, a_gr, a_ifeq, a_ifne, a_ild, a_iret, a_ist, a_lld, a_lst, a_pi, a_push, sh_0, sh_1, sh_19, sh_25, sh_3, sh_42, sh_5, sh_59, sh_60, pu_rv, pu_as, Value.category, pu_bk, pu_kl, pu_qe0, pu_qe1, f04, f00, n7, f00', hN, f4, f59, w0, f2, f53, e1]
      all_goals try simp [bX11_shorten_0, bX11_shorten_27, bX11_shorten_65, bX11_shorten_68, bX11_shorten_94, a_al, a_ald, a_cv, a_gi, a_gr, a_ifeq, a_ifne, a_ild, a_iret, a_ist, a_lld, a_lst, a_pi, a_push, sh_0, sh_1, sh_19, sh_25, sh_3, sh_42, sh_5, sh_59, sh_60, pu_rv, pu_as, Value.category, pu_bk, pu_kl, List.replicate, pu_wi_1, pu_wi_2, nl_add, nl_ladd, nl_aa, nl_mul, nl_rmul, nl_mm, pu_qe0, pu_qe1, f04, f00, n7, f00', hN, f4, f59, w0, f2, f53, e1]
      all_goals try simp (maxSteps := 400000) (disch := omega) [nl_tle, nl_fle, nl_tlt, nl_flt, nl_teq, nl_feq, nl_sub, nl_ss, nl_lt, nl_llt, nl_ltt, nl_le, nl_lle, nl_lee, nl_eq, nl_leq, nl_ee, nl_div, nl_rem, nl_cl, nl_n1, nl_n2, nl_n3, nl_n4, nl_add, nl_ladd, nl_aa, nl_mul, nl_rmul, nl_mm, pu_wi_1, pu_wi_2, bX11_shorten_0, bX11_shorten_27, bX11_shorten_65, bX11_shorten_68, bX11_shorten_94, a_al, a_ald, a_cv, a_gi, a_gr, a_ifeq, a_ifne, a_ild, a_iret, a_ist, a_lld, a_lst, a_pi, a_push, sh_0, sh_1, sh_19, sh_25, sh_3, sh_42, sh_5, sh_59, sh_60, pu_rv, pu_as, Value.category, pu_bk, pu_kl, pu_qe0, pu_qe1, f04, f00, n7, f00', hN, f4, f59, w0, f2, f53, e1]
      all_goals try simp [bX11_shorten_0, bX11_shorten_27, bX11_shorten_65, bX11_shorten_68, bX11_shorten_94, a_al, a_ald, a_cv, a_gi, a_gr, a_ifeq, a_ifne, a_ild, a_iret, a_ist, a_lld, a_lst, a_pi, a_push, sh_0, sh_1, sh_19, sh_25, sh_3, sh_42, sh_5, sh_59, sh_60, pu_rv, pu_as, Value.category, pu_bk, pu_kl, List.replicate, pu_wi_1, pu_wi_2, nl_add, nl_ladd, nl_aa, nl_mul, nl_rmul, nl_mm, pu_qe0, pu_qe1, f04, f00, n7, f00', hN, f4, f59, w0, f2, f53, e1]
      all_goals try simp (maxSteps := 400000) (disch := omega) [nl_tle, nl_fle, nl_tlt, nl_flt, nl_teq, nl_feq, nl_sub, nl_ss, nl_lt, nl_llt, nl_ltt, nl_le, nl_lle, nl_lee, nl_eq, nl_leq, nl_ee, nl_div, nl_rem, nl_cl, nl_n1, nl_n2, nl_n3, nl_n4, nl_add, nl_ladd, nl_aa, nl_mul, nl_rmul, nl_mm, pu_wi_1, pu_wi_2, bX11_shorten_0, bX11_shorten_27, bX11_shorten_65, bX11_shorten_68, bX11_shorten_94, a_al, a_ald, a_cv, a_gi, a_gr, a_ifeq, a_ifne, a_ild, a_iret, a_ist, a_lld, a_lst, a_pi, a_push, sh_0, sh_1, sh_19, sh_25, sh_3, sh_42, sh_5, sh_59, sh_60, pu_rv, pu_as, Value.category, pu_bk, pu_kl, pu_qe0, pu_qe1, f04, f00, n7, f00', hN, f4, f59, w0, f2, f53, e1]
      all_goals try simp [bX11_shorten_0, bX11_shorten_27, bX11_shorten_65, bX11_shorten_68, bX11_shorten_94, a_al, a_ald, a_cv, a_gi, a_gr, a_ifeq, a_ifne, a_ild, a_iret, a_ist, a_lld, a_lst, a_pi, a_push, sh_0, sh_1, sh_19, sh_25, sh_3, sh_42, sh_5, sh_59, sh_60, pu_rv, pu_as, Value.category, pu_bk, pu_kl, List.replicate, pu_wi_1, pu_wi_2, nl_add, nl_ladd, nl_aa, nl_mul, nl_rmul, nl_mm, pu_qe0, pu_qe1, f04, f00, n7, f00', hN, f4, f59, w0, f2, f53, e1]
    · rw [qX12_shorten]
      simp [a_ent, bX12_shorten_0, bX12_shorten_16, a_ald, a_cv, a_ifne, a_iret, a_ist, a_push, sh_71, pu_rv, pu_as, Value.category, pu_bk, pu_kl, List.replicate, pu_wi_1, pu_wi_2, nl_add, nl_ladd, nl_aa, nl_mul, nl_rmul, nl_mm, pu_qe0, pu_qe1, r3, r4, q]
      all_goals try simp (maxSteps := 400000) (disch := omega) [nl_tle, nl_fle, nl_tlt, nl_flt, nl_teq, nl_feq, nl_sub, nl_ss, nl_lt, nl_llt, nl_ltt, nl_le, nl_lle, nl_lee, nl_eq, nl_leq, nl_ee, nl_div, nl_rem, nl_cl, nl_n1, nl_n2, nl_n3, nl_n4, nl_add, nl_ladd, nl_aa, nl_mul, nl_rmul, nl_mm, pu_wi_1, pu_wi_2, bX12_shorten_0, bX12_shorten_16, a_ald, a_cv, a_ifne, a_iret, a_ist, a_push, sh_71, pu_rv, pu_as, Value.category, pu_bk, pu_kl, pu_qe0, pu_qe1, r3, r4, q]
      all_goals try simp [bX12_shorten_0, bX12_shorten_16, a_ald, a_cv, a_ifne, a_iret, a_ist, a_push, sh_71, pu_rv, pu_as, Value.category, pu_bk, pu_kl, List.replicate, pu_wi_1, pu_wi_2, nl_add, nl_ladd, nl_aa, nl_mul, nl_rmul, nl_mm, pu_qe0, pu_qe1, r3, r4, q]
      all_goals try simp (maxSteps := 400000) (disch := omega) [nl_tle, nl_fle, nl_tlt, nl_flt, nl_teq, nl_feq, nl_sub, nl_ss, nl_lt, nl_llt, nl_ltt, nl_le, nl_lle, nl_lee, nl_eq, nl_leq, nl_ee, nl_div, nl_rem, nl_cl, nl_n1, nl_n2, nl_n3, nl_n4, nl_add, nl_ladd, nl_aa, nl_mul, nl_rmul, nl_mm, pu_wi_1, pu_wi_2, bX12_shorten_0, bX12_shorten_16, a_ald, a_cv, a_ifne, a_iret, a_ist, a_push, sh_71, pu_rv, pu_as, Value.category, pu_bk, pu_kl, pu_qe0, pu_qe1, r3, r4, q]
      all_goals try simp [bX12_shorten_0, bX12_shorten_16, a_ald, a_cv, a_ifne, a_iret, a_ist, a_push, sh_71, pu_rv, pu_as, Value.category, pu_bk, pu_kl, List.replicate, pu_wi_1, pu_wi_2, nl_add, nl_ladd, nl_aa, nl_mul, nl_rmul, nl_mm, pu_qe0, pu_qe1, r3, r4, q]
      all_goals try simp (maxSteps := 400000) (disch := omega) [nl_tle, nl_fle, nl_tlt, nl_flt, nl_teq, nl_feq, nl_sub, nl_ss, nl_lt, nl_llt, nl_ltt, nl_le, nl_lle, nl_lee, nl_eq, nl_leq, nl_ee, nl_div, nl_rem, nl_cl, nl_n1, nl_n2, nl_n3, nl_n4, nl_add, nl_ladd, nl_aa, nl_mul, nl_rmul, nl_mm, pu_wi_1, pu_wi_2, bX12_shorten_0, bX12_shorten_16, a_ald, a_cv, a_ifne, a_iret, a_ist, a_push, sh_71, pu_rv, pu_as, Value.category, pu_bk, pu_kl, pu_qe0, pu_qe1, r3, r4, q]
      all_goals try simp [bX12_shorten_0, bX12_shorten_16, a_ald, a_cv, a_ifne, a_iret, a_ist, a_push, sh_71, pu_rv, pu_as, Value.category, pu_bk, pu_kl, List.replicate, pu_wi_1, pu_wi_2, nl_add, nl_ladd, nl_aa, nl_mul, nl_rmul, nl_mm, pu_qe0, pu_qe1, r3, r4, q]
  rw [pu_q0 nt] at e1
  have q1 := s1.2 (fun ⟨k, _, k2, w, w1, w2⟩ => nt ⟨3 * k + w, by omega, w2⟩)
  by_cases nn : ∃ k, k < 3 * cN (pu_si M 5) ∧ pu_sj M 5 24 k = x
  · rw [pu_q1 nn] at e2
    have q := s2.1 (by
      obtain ⟨k, k1, k2⟩ := nn
      obtain ⟨j, j1, j2⟩ := rl_na hrR (k / 3) (by omega)
      exact ⟨j, by omega, j1, k / 3, by omega, j2, k % 3, by omega, by rw [show 3 * (k / 3) + k % 3 = k by omega]; exact k2⟩)
    rw [q] at q1
    refine ⟨-5, N, R, ?_, ?_, IR⟩
    · rw [qX11_shorten]
      simp [a_ent, bX11_shorten_0, bX11_shorten_27, bX11_shorten_65, bX11_shorten_68, bX11_shorten_94, a_al, a_ald, a_cv, a_gi, a_gr, a_ifeq, a_ifne, a_ild, a_iret, a_ist, a_lld, a_lst, a_pi, a_push, sh_0, sh_1, sh_19, sh_25, sh_3, sh_42, sh_5, sh_59, sh_60, pu_rv, pu_as, Value.category, pu_bk, pu_kl, List.replicate, pu_wi_1, pu_wi_2, nl_add, nl_ladd, nl_aa, nl_mul, nl_rmul, nl_mm, pu_qe0, pu_qe1, f04, f00, n7, f00', hN, f4, f59, w0, f2, f53, f52, e1, e2]
      all_goals try simp (maxSteps := 400000) (disch := omega) [nl_tle, nl_fle, nl_tlt, nl_flt, nl_teq, nl_feq, nl_sub, nl_ss, nl_lt, nl_llt, nl_ltt, nl_le, nl_lle, nl_lee, nl_eq, nl_leq, nl_ee, nl_div, nl_rem, nl_cl, nl_n1, nl_n2, nl_n3, nl_n4, nl_add, nl_ladd, nl_aa, nl_mul, nl_rmul, nl_mm, pu_wi_1, pu_wi_2, bX11_shorten_0, bX11_shorten_27, bX11_shorten_65, bX11_shorten_68, bX11_shorten_94, a_al, a_ald, a_cv, a_gi, a_gr, a_ifeq, a_ifne, a_ild, a_iret, a_ist, a_lld, a_lst, a_pi, a_push, sh_0, sh_1, sh_19, sh_25, sh_3, sh_42, sh_5, sh_59, sh_60, pu_rv, pu_as, Value.category, pu_bk, pu_kl, pu_qe0, pu_qe1, f04, f00, n7, f00', hN, f4, f59, w0, f2, f53, f52, e1, e2]
      all_goals try simp [bX11_shorten_0, bX11_shorten_27, bX11_shorten_65, bX11_shorten_68, bX11_shorten_94, a_al, a_ald, a_cv, a_gi, a_gr, a_ifeq, a_ifne, a_ild, a_iret, a_ist, a_lld, a_lst, a_pi, a_push, sh_0, sh_1, sh_19, sh_25, sh_3, sh_42, sh_5, sh_59, sh_60, pu_rv, pu_as, Value.category, pu_bk, pu_kl, List.replicate, pu_wi_1, pu_wi_2, nl_add, nl_ladd, nl_aa, nl_mul, nl_rmul, nl_mm, pu_qe0, pu_qe1, f04, f00, n7, f00', hN, f4, f59, w0, f2, f53, f52, e1, e2]
      all_goals try simp (maxSteps := 400000) (disch := omega) [nl_tle, nl_fle, nl_tlt, nl_flt, nl_teq, nl_feq, nl_sub, nl_ss, nl_lt, nl_llt, nl_ltt, nl_le, nl_lle, nl_lee, nl_eq, nl_leq, nl_ee, nl_div, nl_rem, nl_cl, nl_n1, nl_n2, nl_n3, nl_n4, nl_add, nl_ladd, nl_aa, nl_mul, nl_rmul, nl_mm, pu_wi_1, pu_wi_2, bX11_shorten_0, bX11_shorten_27, bX11_shorten_65, bX11_shorten_68, bX11_shorten_94, a_al, a_ald, a_cv, a_gi, a_gr, a_ifeq, a_ifne, a_ild, a_iret, a_ist, a_lld, a_lst, a_pi, a_push, sh_0, sh_1, sh_19, sh_25, sh_3, sh_42, sh_5, sh_59, sh_60, pu_rv, pu_as, Value.category, pu_bk, pu_kl, pu_qe0, pu_qe1, f04, f00, n7, f00', hN, f4, f59, w0, f2, f53, f52, e1, e2]
      all_goals try simp [bX11_shorten_0, bX11_shorten_27, bX11_shorten_65, bX11_shorten_68, bX11_shorten_94, a_al, a_ald, a_cv, a_gi, a_gr, a_ifeq, a_ifne, a_ild, a_iret, a_ist, a_lld, a_lst, a_pi, a_push, sh_0, sh_1, sh_19, sh_25, sh_3, sh_42, sh_5, sh_59, sh_60, pu_rv, pu_as, Value.category, pu_bk, pu_kl, List.replicate, pu_wi_1, pu_wi_2, nl_add, nl_ladd, nl_aa, nl_mul, nl_rmul, nl_mm, pu_qe0, pu_qe1, f04, f00, n7, f00', hN, f4, f59, w0, f2, f53, f52, e1, e2]
      all_goals try simp (maxSteps := 400000) (disch := omega) [nl_tle, nl_fle, nl_tlt, nl_flt, nl_teq, nl_feq, nl_sub, nl_ss, nl_lt, nl_llt, nl_ltt, nl_le, nl_lle, nl_lee, nl_eq, nl_leq, nl_ee, nl_div, nl_rem, nl_cl, nl_n1, nl_n2, nl_n3, nl_n4, nl_add, nl_ladd, nl_aa, nl_mul, nl_rmul, nl_mm, pu_wi_1, pu_wi_2, bX11_shorten_0, bX11_shorten_27, bX11_shorten_65, bX11_shorten_68, bX11_shorten_94, a_al, a_ald, a_cv, a_gi, a_gr, a_ifeq, a_ifne, a_ild, a_iret, a_ist, a_lld, a_lst, a_pi, a_push, sh_0, sh_1, sh_19, sh_25, sh_3, sh_42, sh_5, sh_59, sh_60, pu_rv, pu_as, Value.category, pu_bk, pu_kl, pu_qe0, pu_qe1, f04, f00, n7, f00', hN, f4, f59, w0, f2, f53, f52, e1, e2]
      all_goals try simp [bX11_shorten_0, bX11_shorten_27, bX11_shorten_65, bX11_shorten_68, bX11_shorten_94, a_al, a_ald, a_cv, a_gi, a_gr, a_ifeq, a_ifne, a_ild, a_iret, a_ist, a_lld, a_lst, a_pi, a_push, sh_0, sh_1, sh_19, sh_25, sh_3, sh_42, sh_5, sh_59, sh_60, pu_rv, pu_as, Value.category, pu_bk, pu_kl, List.replicate, pu_wi_1, pu_wi_2, nl_add, nl_ladd, nl_aa, nl_mul, nl_rmul, nl_mm, pu_qe0, pu_qe1, f04, f00, n7, f00', hN, f4, f59, w0, f2, f53, f52, e1, e2]
    · rw [qX12_shorten]
      simp [a_ent, bX12_shorten_0, bX12_shorten_16, a_ald, a_cv, a_ifne, a_iret, a_ist, a_push, sh_71, pu_rv, pu_as, Value.category, pu_bk, pu_kl, List.replicate, pu_wi_1, pu_wi_2, nl_add, nl_ladd, nl_aa, nl_mul, nl_rmul, nl_mm, pu_qe0, pu_qe1, r3, r4, q1]
      all_goals try simp (maxSteps := 400000) (disch := omega) [nl_tle, nl_fle, nl_tlt, nl_flt, nl_teq, nl_feq, nl_sub, nl_ss, nl_lt, nl_llt, nl_ltt, nl_le, nl_lle, nl_lee, nl_eq, nl_leq, nl_ee, nl_div, nl_rem, nl_cl, nl_n1, nl_n2, nl_n3, nl_n4, nl_add, nl_ladd, nl_aa, nl_mul, nl_rmul, nl_mm, pu_wi_1, pu_wi_2, bX12_shorten_0, bX12_shorten_16, a_ald, a_cv, a_ifne, a_iret, a_ist, a_push, sh_71, pu_rv, pu_as, Value.category, pu_bk, pu_kl, pu_qe0, pu_qe1, r3, r4, q1]
      all_goals try simp [bX12_shorten_0, bX12_shorten_16, a_ald, a_cv, a_ifne, a_iret, a_ist, a_push, sh_71, pu_rv, pu_as, Value.category, pu_bk, pu_kl, List.replicate, pu_wi_1, pu_wi_2, nl_add, nl_ladd, nl_aa, nl_mul, nl_rmul, nl_mm, pu_qe0, pu_qe1, r3, r4, q1]
      all_goals try simp (maxSteps := 400000) (disch := omega) [nl_tle, nl_fle, nl_tlt, nl_flt, nl_teq, nl_feq, nl_sub, nl_ss, nl_lt, nl_llt, nl_ltt, nl_le, nl_lle, nl_lee, nl_eq, nl_leq, nl_ee, nl_div, nl_rem, nl_cl, nl_n1, nl_n2, nl_n3, nl_n4, nl_add, nl_ladd, nl_aa, nl_mul, nl_rmul, nl_mm, pu_wi_1, pu_wi_2, bX12_shorten_0, bX12_shorten_16, a_ald, a_cv, a_ifne, a_iret, a_ist, a_push, sh_71, pu_rv, pu_as, Value.category, pu_bk, pu_kl, pu_qe0, pu_qe1, r3, r4, q1]
      all_goals try simp [bX12_shorten_0, bX12_shorten_16, a_ald, a_cv, a_ifne, a_iret, a_ist, a_push, sh_71, pu_rv, pu_as, Value.category, pu_bk, pu_kl, List.replicate, pu_wi_1, pu_wi_2, nl_add, nl_ladd, nl_aa, nl_mul, nl_rmul, nl_mm, pu_qe0, pu_qe1, r3, r4, q1]
      all_goals try simp (maxSteps := 400000) (disch := omega) [nl_tle, nl_fle, nl_tlt, nl_flt, nl_teq, nl_feq, nl_sub, nl_ss, nl_lt, nl_llt, nl_ltt, nl_le, nl_lle, nl_lee, nl_eq, nl_leq, nl_ee, nl_div, nl_rem, nl_cl, nl_n1, nl_n2, nl_n3, nl_n4, nl_add, nl_ladd, nl_aa, nl_mul, nl_rmul, nl_mm, pu_wi_1, pu_wi_2, bX12_shorten_0, bX12_shorten_16, a_ald, a_cv, a_ifne, a_iret, a_ist, a_push, sh_71, pu_rv, pu_as, Value.category, pu_bk, pu_kl, pu_qe0, pu_qe1, r3, r4, q1]
      all_goals try simp [bX12_shorten_0, bX12_shorten_16, a_ald, a_cv, a_ifne, a_iret, a_ist, a_push, sh_71, pu_rv, pu_as, Value.category, pu_bk, pu_kl, List.replicate, pu_wi_1, pu_wi_2, nl_add, nl_ladd, nl_aa, nl_mul, nl_rmul, nl_mm, pu_qe0, pu_qe1, r3, r4, q1]
  rw [pu_q0 nn] at e2
  clear q1 s1 s2
  -- what is left of it when the form is written at place k
  have FIN : ∀ (k n' : Nat) (Q : pu_M), ((n' = cF (pu_si M 5) ∧ k < cF (pu_si M 5)) ∨ (n' = cF (pu_si M 5) + 1 ∧ k = cF (pu_si M 5) ∧ cF (pu_si M 5) < 20)) → Q.2.2 = N.2.2 → (∀ a j, ¬ (a = 42 ∧ j = 0) → Q.1 a j = N.1 a j) → Q.1 42 0 = nI n' → (∀ a j, ¬ ((a = 43 ∨ a = 44) ∧ j = k) → Q.2.1 a j = N.2.1 a j) → Q.2.1 43 k = x → Q.2.1 44 k = y → ∀ (R F : pu_M), py_cq Q R → pu_Wd (R.1 78) 0 x → pu_Wd (R.1 78) 12 y → F.2 = R.2 → (∀ a j, ¬ (a = 72 ∧ (j = 8 ∨ (30152 + 24 * k ≤ j ∧ j < 30152 + 24 * k + 24))) → F.1 a j = R.1 a j) → F.1 72 8 = nI n' → (∀ i, i < 24 → F.1 72 (30152 + 24 * k + i) = R.1 78 i) → pu_Inv F := by
    intro k n' Q hn a1 a2 a3 a4 a5 a6 R F b1 b2 b3 c1 c2 c3 c4
    have hxQ : pu_fx Q := fun a k r q => by
      rw [a1]
      exact m6 a k r q
    have FQ : ∀ a j, a ≠ 72 → ¬ (a = 71 ∧ (j = 4 ∨ j = 6)) → a ≠ 76 → a ≠ 78 → F.1 a j = Q.1 a j := fun a j d1 d2 d3 d4 => by
      rw [c2 a j (by omega), b1.2.1 a j d2 d3 d4]
    have F2 : F.2 = Q.2 := c1.trans b1.1
    refine py_Inv_tk h (pz_fx_of hxQ F2) (by rw [F2, a1, m1]) (fun a j ha => by rw [F2, a1, m2 a j (by omega)]) (fun a j ha => by rw [F2, a4 a j (by omega), m4 a j (by omega) (by omega)]) (by rw [FQ 1 0 (by omega) (by omega) (by omega) (by omega), a2 1 0 (by omega)]; exact m5) (by rw [c2 71 4 (by omega)]; exact b1.2.2) (fun a j ha => ?_) ?_
    · rw [FQ a j (by omega) (by omega) (by omega) (by omega), a2 a j (by omega), m3 a j (by omega) (by omega)]
    · refine St_short (I := pu_si M 5) (L := pu_sj M 5) (s := M.1 72) (k := k) (n' := n') (x := x) (y := y) h.2.2.2.1 hn (x0 hg) (fun z j hz => ?_) ?_ (fun z j hz => ?_) ⟨?_, ?_⟩ (fun j d1 d2 => ?_) c3 ⟨?_, ?_⟩
      · by_cases v : 5 ≤ z ∧ z < 58
        · rw [← pu_ag5 F z j v.1 v.2, FQ z j (by omega) (by omega) (by omega) (by omega), a2 z j hz]
          exact hIN z j v.1 v.2
        · unfold pu_si
          rw [if_neg v, if_neg v]
      · rw [← pu_ag5 F 42 0 (by omega) (by omega), FQ 42 0 (by omega) (by omega) (by omega) (by omega)]
        exact a3
      · by_cases v : 5 ≤ z ∧ z < 58
        · rw [← pu_al5 F z j v.1 v.2, F2, a4 z j hz]
          exact hLN z j v.1 v.2
        · unfold pu_sj
          rw [if_neg v, if_neg v]
      · rw [← pu_al5 F 43 k (by omega) (by omega), F2]; exact a5
      · rw [← pu_al5 F 44 k (by omega) (by omega), F2]; exact a6
      · rw [c2 72 j (by omega), b1.2.1 72 j (by omega) (by omega) (by omega), a2 72 j (by omega), N72]
      · exact pu_Wd_fr2 b2 (fun i hi => by rw [c4 i (by omega), Nat.zero_add])
      · exact pu_Wd_fr2 b3 (fun i hi => by rw [Nat.add_assoc, c4 (12 + i) (by omega)])
  have N42 : N.1 42 0 = nI (cF (pu_si M 5)) := by rw [hIN 42 0 (by omega) (by omega)]; exact wx_cF hw
  rcases c_keep m6 hIN hLN hw x y with ⟨a, b, c⟩ | ⟨a, b, c⟩ | ⟨k, a, b, c⟩
  · have q := (r_sh5 hxR hrR hw x (r2 hg).1 nt nn).1 a b
    refine ⟨-6, N, R, ?_, ?_, IR⟩
    · rw [qX11_shorten]
      simp [a_ent, bX11_shorten_0, bX11_shorten_27, bX11_shorten_65, bX11_shorten_68, bX11_shorten_94, a_al, a_ald, a_cv, a_gi, a_gr, a_ifeq, a_ifne, a_ild, a_iret, a_ist, a_lld, a_lst, a_pi, a_push, sh_0, sh_1, sh_19, sh_25, sh_3, sh_42, sh_5, sh_59, sh_60, pu_rv, pu_as, Value.category, pu_bk, pu_kl, List.replicate, pu_wi_1, pu_wi_2, nl_add, nl_ladd, nl_aa, nl_mul, nl_rmul, nl_mm, pu_qe0, pu_qe1, f04, f00, n7, f00', hN, f4, f59, w0, w1, f2, f53, f52, f55, e1, e2, c]
      all_goals try simp (maxSteps := 400000) (disch := omega) [nl_tle, nl_fle, nl_tlt, nl_flt, nl_teq, nl_feq, nl_sub, nl_ss, nl_lt, nl_llt, nl_ltt, nl_le, nl_lle, nl_lee, nl_eq, nl_leq, nl_ee, nl_div, nl_rem, nl_cl, nl_n1, nl_n2, nl_n3, nl_n4, nl_add, nl_ladd, nl_aa, nl_mul, nl_rmul, nl_mm, pu_wi_1, pu_wi_2, bX11_shorten_0, bX11_shorten_27, bX11_shorten_65, bX11_shorten_68, bX11_shorten_94, a_al, a_ald, a_cv, a_gi, a_gr, a_ifeq, a_ifne, a_ild, a_iret, a_ist, a_lld, a_lst, a_pi, a_push, sh_0, sh_1, sh_19, sh_25, sh_3, sh_42, sh_5, sh_59, sh_60, pu_rv, pu_as, Value.category, pu_bk, pu_kl, pu_qe0, pu_qe1, f04, f00, n7, f00', hN, f4, f59, w0, w1, f2, f53, f52, f55, e1, e2, c]
      all_goals try simp [bX11_shorten_0, bX11_shorten_27, bX11_shorten_65, bX11_shorten_68, bX11_shorten_94, a_al, a_ald, a_cv, a_gi, a_gr, a_ifeq, a_ifne, a_ild, a_iret, a_ist, a_lld, a_lst, a_pi, a_push, sh_0, sh_1, sh_19, sh_25, sh_3, sh_42, sh_5, sh_59, sh_60, pu_rv, pu_as, Value.category, pu_bk, pu_kl, List.replicate, pu_wi_1, pu_wi_2, nl_add, nl_ladd, nl_aa, nl_mul, nl_rmul, nl_mm, pu_qe0, pu_qe1, f04, f00, n7, f00', hN, f4, f59, w0, w1, f2, f53, f52, f55, e1, e2, c]
      all_goals try simp (maxSteps := 400000) (disch := omega) [nl_tle, nl_fle, nl_tlt, nl_flt, nl_teq, nl_feq, nl_sub, nl_ss, nl_lt, nl_llt, nl_ltt, nl_le, nl_lle, nl_lee, nl_eq, nl_leq, nl_ee, nl_div, nl_rem, nl_cl, nl_n1, nl_n2, nl_n3, nl_n4, nl_add, nl_ladd, nl_aa, nl_mul, nl_rmul, nl_mm, pu_wi_1, pu_wi_2, bX11_shorten_0, bX11_shorten_27, bX11_shorten_65, bX11_shorten_68, bX11_shorten_94, a_al, a_ald, a_cv, a_gi, a_gr, a_ifeq, a_ifne, a_ild, a_iret, a_ist, a_lld, a_lst, a_pi, a_push, sh_0, sh_1, sh_19, sh_25, sh_3, sh_42, sh_5, sh_59, sh_60, pu_rv, pu_as, Value.category, pu_bk, pu_kl, pu_qe0, pu_qe1, f04, f00, n7, f00', hN, f4, f59, w0, w1, f2, f53, f52, f55, e1, e2, c]
      all_goals try simp [bX11_shorten_0, bX11_shorten_27, bX11_shorten_65, bX11_shorten_68, bX11_shorten_94, a_al, a_ald, a_cv, a_gi, a_gr, a_ifeq, a_ifne, a_ild, a_iret, a_ist, a_lld, a_lst, a_pi, a_push, sh_0, sh_1, sh_19, sh_25, sh_3, sh_42, sh_5, sh_59, sh_60, pu_rv, pu_as, Value.category, pu_bk, pu_kl, List.replicate, pu_wi_1, pu_wi_2, nl_add, nl_ladd, nl_aa, nl_mul, nl_rmul, nl_mm, pu_qe0, pu_qe1, f04, f00, n7, f00', hN, f4, f59, w0, w1, f2, f53, f52, f55, e1, e2, c]
      all_goals try simp (maxSteps := 400000) (disch := omega) [nl_tle, nl_fle, nl_tlt, nl_flt, nl_teq, nl_feq, nl_sub, nl_ss, nl_lt, nl_llt, nl_ltt, nl_le, nl_lle, nl_lee, nl_eq, nl_leq, nl_ee, nl_div, nl_rem, nl_cl, nl_n1, nl_n2, nl_n3, nl_n4, nl_add, nl_ladd, nl_aa, nl_mul, nl_rmul, nl_mm, pu_wi_1, pu_wi_2, bX11_shorten_0, bX11_shorten_27, bX11_shorten_65, bX11_shorten_68, bX11_shorten_94, a_al, a_ald, a_cv, a_gi, a_gr, a_ifeq, a_ifne, a_ild, a_iret, a_ist, a_lld, a_lst, a_pi, a_push, sh_0, sh_1, sh_19, sh_25, sh_3, sh_42, sh_5, sh_59, sh_60, pu_rv, pu_as, Value.category, pu_bk, pu_kl, pu_qe0, pu_qe1, f04, f00, n7, f00', hN, f4, f59, w0, w1, f2, f53, f52, f55, e1, e2, c]
      all_goals try simp [bX11_shorten_0, bX11_shorten_27, bX11_shorten_65, bX11_shorten_68, bX11_shorten_94, a_al, a_ald, a_cv, a_gi, a_gr, a_ifeq, a_ifne, a_ild, a_iret, a_ist, a_lld, a_lst, a_pi, a_push, sh_0, sh_1, sh_19, sh_25, sh_3, sh_42, sh_5, sh_59, sh_60, pu_rv, pu_as, Value.category, pu_bk, pu_kl, List.replicate, pu_wi_1, pu_wi_2, nl_add, nl_ladd, nl_aa, nl_mul, nl_rmul, nl_mm, pu_qe0, pu_qe1, f04, f00, n7, f00', hN, f4, f59, w0, w1, f2, f53, f52, f55, e1, e2, c]
    · rw [qX12_shorten]
      simp [a_ent, bX12_shorten_0, bX12_shorten_16, a_ald, a_cv, a_ifne, a_iret, a_ist, a_push, sh_71, pu_rv, pu_as, Value.category, pu_bk, pu_kl, List.replicate, pu_wi_1, pu_wi_2, nl_add, nl_ladd, nl_aa, nl_mul, nl_rmul, nl_mm, pu_qe0, pu_qe1, r3, r4, q]
      all_goals try simp (maxSteps := 400000) (disch := omega) [nl_tle, nl_fle, nl_tlt, nl_flt, nl_teq, nl_feq, nl_sub, nl_ss, nl_lt, nl_llt, nl_ltt, nl_le, nl_lle, nl_lee, nl_eq, nl_leq, nl_ee, nl_div, nl_rem, nl_cl, nl_n1, nl_n2, nl_n3, nl_n4, nl_add, nl_ladd, nl_aa, nl_mul, nl_rmul, nl_mm, pu_wi_1, pu_wi_2, bX12_shorten_0, bX12_shorten_16, a_ald, a_cv, a_ifne, a_iret, a_ist, a_push, sh_71, pu_rv, pu_as, Value.category, pu_bk, pu_kl, pu_qe0, pu_qe1, r3, r4, q]
      all_goals try simp [bX12_shorten_0, bX12_shorten_16, a_ald, a_cv, a_ifne, a_iret, a_ist, a_push, sh_71, pu_rv, pu_as, Value.category, pu_bk, pu_kl, List.replicate, pu_wi_1, pu_wi_2, nl_add, nl_ladd, nl_aa, nl_mul, nl_rmul, nl_mm, pu_qe0, pu_qe1, r3, r4, q]
      all_goals try simp (maxSteps := 400000) (disch := omega) [nl_tle, nl_fle, nl_tlt, nl_flt, nl_teq, nl_feq, nl_sub, nl_ss, nl_lt, nl_llt, nl_ltt, nl_le, nl_lle, nl_lee, nl_eq, nl_leq, nl_ee, nl_div, nl_rem, nl_cl, nl_n1, nl_n2, nl_n3, nl_n4, nl_add, nl_ladd, nl_aa, nl_mul, nl_rmul, nl_mm, pu_wi_1, pu_wi_2, bX12_shorten_0, bX12_shorten_16, a_ald, a_cv, a_ifne, a_iret, a_ist, a_push, sh_71, pu_rv, pu_as, Value.category, pu_bk, pu_kl, pu_qe0, pu_qe1, r3, r4, q]
      all_goals try simp [bX12_shorten_0, bX12_shorten_16, a_ald, a_cv, a_ifne, a_iret, a_ist, a_push, sh_71, pu_rv, pu_as, Value.category, pu_bk, pu_kl, List.replicate, pu_wi_1, pu_wi_2, nl_add, nl_ladd, nl_aa, nl_mul, nl_rmul, nl_mm, pu_qe0, pu_qe1, r3, r4, q]
      all_goals try simp (maxSteps := 400000) (disch := omega) [nl_tle, nl_fle, nl_tlt, nl_flt, nl_teq, nl_feq, nl_sub, nl_ss, nl_lt, nl_llt, nl_ltt, nl_le, nl_lle, nl_lee, nl_eq, nl_leq, nl_ee, nl_div, nl_rem, nl_cl, nl_n1, nl_n2, nl_n3, nl_n4, nl_add, nl_ladd, nl_aa, nl_mul, nl_rmul, nl_mm, pu_wi_1, pu_wi_2, bX12_shorten_0, bX12_shorten_16, a_ald, a_cv, a_ifne, a_iret, a_ist, a_push, sh_71, pu_rv, pu_as, Value.category, pu_bk, pu_kl, pu_qe0, pu_qe1, r3, r4, q]
      all_goals try simp [bX12_shorten_0, bX12_shorten_16, a_ald, a_cv, a_ifne, a_iret, a_ist, a_push, sh_71, pu_rv, pu_as, Value.category, pu_bk, pu_kl, List.replicate, pu_wi_1, pu_wi_2, nl_add, nl_ladd, nl_aa, nl_mul, nl_rmul, nl_mm, pu_qe0, pu_qe1, r3, r4, q]
  · have Q1 : ∀ a j, ¬ (a = 42 ∧ j = 0) → (py_ke N (cF (pu_si M 5)) (nI (cF (pu_si M 5) + 1)) x y).1 a j = N.1 a j := fun a j ha => py_wi_o ha
    have Q0 : (py_ke N (cF (pu_si M 5)) (nI (cF (pu_si M 5) + 1)) x y).1 42 0 = nI (cF (pu_si M 5) + 1) := by
      unfold py_ke
      rw [py_wl_1, py_wl_1]
      simp [pu_wi_1]
    have Q2 : (py_ke N (cF (pu_si M 5)) (nI (cF (pu_si M 5) + 1)) x y).2.2 = N.2.2 := rfl
    have Q3 : ∀ a j, ¬ ((a = 43 ∨ a = 44) ∧ j = cF (pu_si M 5)) → (py_ke N (cF (pu_si M 5)) (nI (cF (pu_si M 5) + 1)) x y).2.1 a j = N.2.1 a j := fun a j ha => by
      unfold py_ke
      rw [py_wl_o (by omega), py_wl_o (by omega)]
      rfl
    have Q4 : (py_ke N (cF (pu_si M 5)) (nI (cF (pu_si M 5) + 1)) x y).2.1 43 (cF (pu_si M 5)) = x := by
      unfold py_ke
      rw [py_wl_o (by omega), py_wl_3, if_pos rfl, if_pos rfl]
    have Q5 : (py_ke N (cF (pu_si M 5)) (nI (cF (pu_si M 5) + 1)) x y).2.1 44 (cF (pu_si M 5)) = y := by
      unfold py_ke
      rw [py_wl_3, if_pos rfl, if_pos rfl]
    generalize py_ke N (cF (pu_si M 5)) (nI (cF (pu_si M 5) + 1)) x y = Q at *
    have hxQ : pu_fx Q := fun a k r q => by
      rw [Q2]
      exact m6 a k r q
    have g2 : Q.2.2.1 0 2 = some 5 := by rw [Q2]; exact f2
    have g5 := fx_5_5 hxQ
    obtain ⟨T', R', p1, p2, p3, p4, p5, p6, p7⟩ := RF2 Q hxQ (funext (fun j => by rw [Q1 72 j (by omega), N72])) (by rw [Q1 71 4 (by omega)]; exact m3 71 4 (by omega) (by omega)) (fun j => by rw [Q1 75 j (by omega)]; exact m3 75 j (by omega) (by omega))
    have q := (r_sh5 p5 p7 hw x (p2 hg).1 nt nn).2.1 a b
    refine ⟨nI (cF (pu_si M 5) + 1), Q, pu_wi (py_sc R' (cF (pu_si M 5)) 24) 72 8 (nI (cF (pu_si M 5) + 1)), ?_, ?_, ?_⟩
    · rw [qX11_shorten]
      simp [a_ent, bX11_shorten_0, bX11_shorten_27, bX11_shorten_65, bX11_shorten_68, bX11_shorten_94, a_al, a_ald, a_cv, a_gi, a_gr, a_ifeq, a_ifne, a_ild, a_iret, a_ist, a_lld, a_lst, a_pi, a_push, sh_0, sh_1, sh_19, sh_25, sh_3, sh_42, sh_5, sh_59, sh_60, pu_rv, pu_as, Value.category, pu_bk, pu_kl, List.replicate, pu_wi_1, pu_wi_2, nl_add, nl_ladd, nl_aa, nl_mul, nl_rmul, nl_mm, pu_qe0, pu_qe1, f04, f00, n7, f00', hN, f4, f59, w0, w1, f2, f53, f52, f55, e1, e2, c, g2, g5, Q0]
      all_goals try simp (maxSteps := 400000) (disch := omega) [nl_tle, nl_fle, nl_tlt, nl_flt, nl_teq, nl_feq, nl_sub, nl_ss, nl_lt, nl_llt, nl_ltt, nl_le, nl_lle, nl_lee, nl_eq, nl_leq, nl_ee, nl_div, nl_rem, nl_cl, nl_n1, nl_n2, nl_n3, nl_n4, nl_add, nl_ladd, nl_aa, nl_mul, nl_rmul, nl_mm, pu_wi_1, pu_wi_2, bX11_shorten_0, bX11_shorten_27, bX11_shorten_65, bX11_shorten_68, bX11_shorten_94, a_al, a_ald, a_cv, a_gi, a_gr, a_ifeq, a_ifne, a_ild, a_iret, a_ist, a_lld, a_lst, a_pi, a_push, sh_0, sh_1, sh_19, sh_25, sh_3, sh_42, sh_5, sh_59, sh_60, pu_rv, pu_as, Value.category, pu_bk, pu_kl, pu_qe0, pu_qe1, f04, f00, n7, f00', hN, f4, f59, w0, w1, f2, f53, f52, f55, e1, e2, c, g2, g5, Q0]
      all_goals try simp [bX11_shorten_0, bX11_shorten_27, bX11_shorten_65, bX11_shorten_68, bX11_shorten_94, a_al, a_ald, a_cv, a_gi, a_gr, a_ifeq, a_ifne, a_ild, a_iret, a_ist, a_lld, a_lst, a_pi, a_push, sh_0, sh_1, sh_19, sh_25, sh_3, sh_42, sh_5, sh_59, sh_60, pu_rv, pu_as, Value.category, pu_bk, pu_kl, List.replicate, pu_wi_1, pu_wi_2, nl_add, nl_ladd, nl_aa, nl_mul, nl_rmul, nl_mm, pu_qe0, pu_qe1, f04, f00, n7, f00', hN, f4, f59, w0, w1, f2, f53, f52, f55, e1, e2, c, g2, g5, Q0]
      all_goals try simp (maxSteps := 400000) (disch := omega) [nl_tle, nl_fle, nl_tlt, nl_flt, nl_teq, nl_feq, nl_sub, nl_ss, nl_lt, nl_llt, nl_ltt, nl_le, nl_lle, nl_lee, nl_eq, nl_leq, nl_ee, nl_div, nl_rem, nl_cl, nl_n1, nl_n2, nl_n3, nl_n4, nl_add, nl_ladd, nl_aa, nl_mul, nl_rmul, nl_mm, pu_wi_1, pu_wi_2, bX11_shorten_0, bX11_shorten_27, bX11_shorten_65, bX11_shorten_68, bX11_shorten_94, a_al, a_ald, a_cv, a_gi, a_gr, a_ifeq, a_ifne, a_ild, a_iret, a_ist, a_lld, a_lst, a_pi, a_push, sh_0, sh_1, sh_19, sh_25, sh_3, sh_42, sh_5, sh_59, sh_60, pu_rv, pu_as, Value.category, pu_bk, pu_kl, pu_qe0, pu_qe1, f04, f00, n7, f00', hN, f4, f59, w0, w1, f2, f53, f52, f55, e1, e2, c, g2, g5, Q0]
      all_goals try simp [bX11_shorten_0, bX11_shorten_27, bX11_shorten_65, bX11_shorten_68, bX11_shorten_94, a_al, a_ald, a_cv, a_gi, a_gr, a_ifeq, a_ifne, a_ild, a_iret, a_ist, a_lld, a_lst, a_pi, a_push, sh_0, sh_1, sh_19, sh_25, sh_3, sh_42, sh_5, sh_59, sh_60, pu_rv, pu_as, Value.category, pu_bk, pu_kl, List.replicate, pu_wi_1, pu_wi_2, nl_add, nl_ladd, nl_aa, nl_mul, nl_rmul, nl_mm, pu_qe0, pu_qe1, f04, f00, n7, f00', hN, f4, f59, w0, w1, f2, f53, f52, f55, e1, e2, c, g2, g5, Q0]
      all_goals try simp (maxSteps := 400000) (disch := omega) [nl_tle, nl_fle, nl_tlt, nl_flt, nl_teq, nl_feq, nl_sub, nl_ss, nl_lt, nl_llt, nl_ltt, nl_le, nl_lle, nl_lee, nl_eq, nl_leq, nl_ee, nl_div, nl_rem, nl_cl, nl_n1, nl_n2, nl_n3, nl_n4, nl_add, nl_ladd, nl_aa, nl_mul, nl_rmul, nl_mm, pu_wi_1, pu_wi_2, bX11_shorten_0, bX11_shorten_27, bX11_shorten_65, bX11_shorten_68, bX11_shorten_94, a_al, a_ald, a_cv, a_gi, a_gr, a_ifeq, a_ifne, a_ild, a_iret, a_ist, a_lld, a_lst, a_pi, a_push, sh_0, sh_1, sh_19, sh_25, sh_3, sh_42, sh_5, sh_59, sh_60, pu_rv, pu_as, Value.category, pu_bk, pu_kl, pu_qe0, pu_qe1, f04, f00, n7, f00', hN, f4, f59, w0, w1, f2, f53, f52, f55, e1, e2, c, g2, g5, Q0]
      all_goals try simp [bX11_shorten_0, bX11_shorten_27, bX11_shorten_65, bX11_shorten_68, bX11_shorten_94, a_al, a_ald, a_cv, a_gi, a_gr, a_ifeq, a_ifne, a_ild, a_iret, a_ist, a_lld, a_lst, a_pi, a_push, sh_0, sh_1, sh_19, sh_25, sh_3, sh_42, sh_5, sh_59, sh_60, pu_rv, pu_as, Value.category, pu_bk, pu_kl, List.replicate, pu_wi_1, pu_wi_2, nl_add, nl_ladd, nl_aa, nl_mul, nl_rmul, nl_mm, pu_qe0, pu_qe1, f04, f00, n7, f00', hN, f4, f59, w0, w1, f2, f53, f52, f55, e1, e2, c, g2, g5, Q0]
    · rw [qX12_shorten]
      simp [a_ent, bX12_shorten_0, bX12_shorten_16, a_ald, a_cv, a_ifne, a_iret, a_ist, a_push, sh_71, pu_rv, pu_as, Value.category, pu_bk, pu_kl, List.replicate, pu_wi_1, pu_wi_2, nl_add, nl_ladd, nl_aa, nl_mul, nl_rmul, nl_mm, pu_qe0, pu_qe1, p3, p4, q]
      all_goals try simp (maxSteps := 400000) (disch := omega) [nl_tle, nl_fle, nl_tlt, nl_flt, nl_teq, nl_feq, nl_sub, nl_ss, nl_lt, nl_llt, nl_ltt, nl_le, nl_lle, nl_lee, nl_eq, nl_leq, nl_ee, nl_div, nl_rem, nl_cl, nl_n1, nl_n2, nl_n3, nl_n4, nl_add, nl_ladd, nl_aa, nl_mul, nl_rmul, nl_mm, pu_wi_1, pu_wi_2, bX12_shorten_0, bX12_shorten_16, a_ald, a_cv, a_ifne, a_iret, a_ist, a_push, sh_71, pu_rv, pu_as, Value.category, pu_bk, pu_kl, pu_qe0, pu_qe1, p3, p4, q]
      all_goals try simp [bX12_shorten_0, bX12_shorten_16, a_ald, a_cv, a_ifne, a_iret, a_ist, a_push, sh_71, pu_rv, pu_as, Value.category, pu_bk, pu_kl, List.replicate, pu_wi_1, pu_wi_2, nl_add, nl_ladd, nl_aa, nl_mul, nl_rmul, nl_mm, pu_qe0, pu_qe1, p3, p4, q]
      all_goals try simp (maxSteps := 400000) (disch := omega) [nl_tle, nl_fle, nl_tlt, nl_flt, nl_teq, nl_feq, nl_sub, nl_ss, nl_lt, nl_llt, nl_ltt, nl_le, nl_lle, nl_lee, nl_eq, nl_leq, nl_ee, nl_div, nl_rem, nl_cl, nl_n1, nl_n2, nl_n3, nl_n4, nl_add, nl_ladd, nl_aa, nl_mul, nl_rmul, nl_mm, pu_wi_1, pu_wi_2, bX12_shorten_0, bX12_shorten_16, a_ald, a_cv, a_ifne, a_iret, a_ist, a_push, sh_71, pu_rv, pu_as, Value.category, pu_bk, pu_kl, pu_qe0, pu_qe1, p3, p4, q]
      all_goals try simp [bX12_shorten_0, bX12_shorten_16, a_ald, a_cv, a_ifne, a_iret, a_ist, a_push, sh_71, pu_rv, pu_as, Value.category, pu_bk, pu_kl, List.replicate, pu_wi_1, pu_wi_2, nl_add, nl_ladd, nl_aa, nl_mul, nl_rmul, nl_mm, pu_qe0, pu_qe1, p3, p4, q]
      all_goals try simp (maxSteps := 400000) (disch := omega) [nl_tle, nl_fle, nl_tlt, nl_flt, nl_teq, nl_feq, nl_sub, nl_ss, nl_lt, nl_llt, nl_ltt, nl_le, nl_lle, nl_lee, nl_eq, nl_leq, nl_ee, nl_div, nl_rem, nl_cl, nl_n1, nl_n2, nl_n3, nl_n4, nl_add, nl_ladd, nl_aa, nl_mul, nl_rmul, nl_mm, pu_wi_1, pu_wi_2, bX12_shorten_0, bX12_shorten_16, a_ald, a_cv, a_ifne, a_iret, a_ist, a_push, sh_71, pu_rv, pu_as, Value.category, pu_bk, pu_kl, pu_qe0, pu_qe1, p3, p4, q]
      all_goals try simp [bX12_shorten_0, bX12_shorten_16, a_ald, a_cv, a_ifne, a_iret, a_ist, a_push, sh_71, pu_rv, pu_as, Value.category, pu_bk, pu_kl, List.replicate, pu_wi_1, pu_wi_2, nl_add, nl_ladd, nl_aa, nl_mul, nl_rmul, nl_mm, pu_qe0, pu_qe1, p3, p4, q]
    · refine FIN (cF (pu_si M 5)) (cF (pu_si M 5) + 1) Q (Or.inr ⟨rfl, rfl, b⟩) Q2 Q1 Q0 Q3 Q4 Q5 R' _ p1 (p2 hg).1 (p2 hg).2 rfl (fun a j ha => ?_) (by simp [pu_wi_1]) (fun i hi => ?_)
      · rw [py_wi_o (by omega), py_sc_o (by omega)]
      · rw [py_wi_o (by omega), py_sc_v hi]
  · have Q1 : ∀ a j, (pu_wl (pu_wl N 43 k x) 44 k y).1 a j = N.1 a j := fun a j => rfl
    have Q2 : (pu_wl (pu_wl N 43 k x) 44 k y).2.2 = N.2.2 := rfl
    have Q3 : ∀ a j, ¬ ((a = 43 ∨ a = 44) ∧ j = k) → (pu_wl (pu_wl N 43 k x) 44 k y).2.1 a j = N.2.1 a j := fun a j ha => by
      rw [py_wl_o (by omega), py_wl_o (by omega)]
    have Q4 : (pu_wl (pu_wl N 43 k x) 44 k y).2.1 43 k = x := by
      rw [py_wl_o (by omega), py_wl_3, if_pos rfl, if_pos rfl]
    have Q5 : (pu_wl (pu_wl N 43 k x) 44 k y).2.1 44 k = y := by
      rw [py_wl_3, if_pos rfl, if_pos rfl]
    generalize pu_wl (pu_wl N 43 k x) 44 k y = Q at *
    have Q0 : Q.1 42 0 = nI (cF (pu_si M 5)) := by rw [Q1]; exact N42
    have hxQ : pu_fx Q := fun a k r q => by
      rw [Q2]
      exact m6 a k r q
    have g2 : Q.2.2.1 0 2 = some 5 := by rw [Q2]; exact f2
    have g5 := fx_5_5 hxQ
    obtain ⟨T', R', p1, p2, p3, p4, p5, p6, p7⟩ := RF2 Q hxQ (funext (fun j => by rw [Q1, N72])) (by rw [Q1]; exact m3 71 4 (by omega) (by omega)) (fun j => by rw [Q1]; exact m3 75 j (by omega) (by omega))
    have q := (r_sh5 p5 p7 hw x (p2 hg).1 nt nn).2.2 k a b
    refine ⟨nI (cF (pu_si M 5)), Q, py_sc R' k 24, ?_, ?_, ?_⟩
    · rw [qX11_shorten]
      simp [a_ent, bX11_shorten_0, bX11_shorten_27, bX11_shorten_65, bX11_shorten_68, bX11_shorten_94, a_al, a_ald, a_cv, a_gi, a_gr, a_ifeq, a_ifne, a_ild, a_iret, a_ist, a_lld, a_lst, a_pi, a_push, sh_0, sh_1, sh_19, sh_25, sh_3, sh_42, sh_5, sh_59, sh_60, pu_rv, pu_as, Value.category, pu_bk, pu_kl, List.replicate, pu_wi_1, pu_wi_2, nl_add, nl_ladd, nl_aa, nl_mul, nl_rmul, nl_mm, pu_qe0, pu_qe1, f04, f00, n7, f00', hN, f4, f59, w0, w1, f2, f53, f52, f55, e1, e2, c, g2, g5, Q0]
      all_goals try simp (maxSteps := 400000) (disch := omega) [nl_tle, nl_fle, nl_tlt, nl_flt, nl_teq, nl_feq, nl_sub, nl_ss, nl_lt, nl_llt, nl_ltt, nl_le, nl_lle, nl_lee, nl_eq, nl_leq, nl_ee, nl_div, nl_rem, nl_cl, nl_n1, nl_n2, nl_n3, nl_n4, nl_add, nl_ladd, nl_aa, nl_mul, nl_rmul, nl_mm, pu_wi_1, pu_wi_2, bX11_shorten_0, bX11_shorten_27, bX11_shorten_65, bX11_shorten_68, bX11_shorten_94, a_al, a_ald, a_cv, a_gi, a_gr, a_ifeq, a_ifne, a_ild, a_iret, a_ist, a_lld, a_lst, a_pi, a_push, sh_0, sh_1, sh_19, sh_25, sh_3, sh_42, sh_5, sh_59, sh_60, pu_rv, pu_as, Value.category, pu_bk, pu_kl, pu_qe0, pu_qe1, f04, f00, n7, f00', hN, f4, f59, w0, w1, f2, f53, f52, f55, e1, e2, c, g2, g5, Q0]
      all_goals try simp [bX11_shorten_0, bX11_shorten_27, bX11_shorten_65, bX11_shorten_68, bX11_shorten_94, a_al, a_ald, a_cv, a_gi, a_gr, a_ifeq, a_ifne, a_ild, a_iret, a_ist, a_lld, a_lst, a_pi, a_push, sh_0, sh_1, sh_19, sh_25, sh_3, sh_42, sh_5, sh_59, sh_60, pu_rv, pu_as, Value.category, pu_bk, pu_kl, List.replicate, pu_wi_1, pu_wi_2, nl_add, nl_ladd, nl_aa, nl_mul, nl_rmul, nl_mm, pu_qe0, pu_qe1, f04, f00, n7, f00', hN, f4, f59, w0, w1, f2, f53, f52, f55, e1, e2, c, g2, g5, Q0]
      all_goals try simp (maxSteps := 400000) (disch := omega) [nl_tle, nl_fle, nl_tlt, nl_flt, nl_teq, nl_feq, nl_sub, nl_ss, nl_lt, nl_llt, nl_ltt, nl_le, nl_lle, nl_lee, nl_eq, nl_leq, nl_ee, nl_div, nl_rem, nl_cl, nl_n1, nl_n2, nl_n3, nl_n4, nl_add, nl_ladd, nl_aa, nl_mul, nl_rmul, nl_mm, pu_wi_1, pu_wi_2, bX11_shorten_0, bX11_shorten_27, bX11_shorten_65, bX11_shorten_68, bX11_shorten_94, a_al, a_ald, a_cv, a_gi, a_gr, a_ifeq, a_ifne, a_ild, a_iret, a_ist, a_lld, a_lst, a_pi, a_push, sh_0, sh_1, sh_19, sh_25, sh_3, sh_42, sh_5, sh_59, sh_60, pu_rv, pu_as, Value.category, pu_bk, pu_kl, pu_qe0, pu_qe1, f04, f00, n7, f00', hN, f4, f59, w0, w1, f2, f53, f52, f55, e1, e2, c, g2, g5, Q0]
      all_goals try simp [bX11_shorten_0, bX11_shorten_27, bX11_shorten_65, bX11_shorten_68, bX11_shorten_94, a_al, a_ald, a_cv, a_gi, a_gr, a_ifeq, a_ifne, a_ild, a_iret, a_ist, a_lld, a_lst, a_pi, a_push, sh_0, sh_1, sh_19, sh_25, sh_3, sh_42, sh_5, sh_59, sh_60, pu_rv, pu_as, Value.category, pu_bk, pu_kl, List.replicate, pu_wi_1, pu_wi_2, nl_add, nl_ladd, nl_aa, nl_mul, nl_rmul, nl_mm, pu_qe0, pu_qe1, f04, f00, n7, f00', hN, f4, f59, w0, w1, f2, f53, f52, f55, e1, e2, c, g2, g5, Q0]
      all_goals try simp (maxSteps := 400000) (disch := omega) [nl_tle, nl_fle, nl_tlt, nl_flt, nl_teq, nl_feq, nl_sub, nl_ss, nl_lt, nl_llt, nl_ltt, nl_le, nl_lle, nl_lee, nl_eq, nl_leq, nl_ee, nl_div, nl_rem, nl_cl, nl_n1, nl_n2, nl_n3, nl_n4, nl_add, nl_ladd, nl_aa, nl_mul, nl_rmul, nl_mm, pu_wi_1, pu_wi_2, bX11_shorten_0, bX11_shorten_27, bX11_shorten_65, bX11_shorten_68, bX11_shorten_94, a_al, a_ald, a_cv, a_gi, a_gr, a_ifeq, a_ifne, a_ild, a_iret, a_ist, a_lld, a_lst, a_pi, a_push, sh_0, sh_1, sh_19, sh_25, sh_3, sh_42, sh_5, sh_59, sh_60, pu_rv, pu_as, Value.category, pu_bk, pu_kl, pu_qe0, pu_qe1, f04, f00, n7, f00', hN, f4, f59, w0, w1, f2, f53, f52, f55, e1, e2, c, g2, g5, Q0]
      all_goals try simp [bX11_shorten_0, bX11_shorten_27, bX11_shorten_65, bX11_shorten_68, bX11_shorten_94, a_al, a_ald, a_cv, a_gi, a_gr, a_ifeq, a_ifne, a_ild, a_iret, a_ist, a_lld, a_lst, a_pi, a_push, sh_0, sh_1, sh_19, sh_25, sh_3, sh_42, sh_5, sh_59, sh_60, pu_rv, pu_as, Value.category, pu_bk, pu_kl, List.replicate, pu_wi_1, pu_wi_2, nl_add, nl_ladd, nl_aa, nl_mul, nl_rmul, nl_mm, pu_qe0, pu_qe1, f04, f00, n7, f00', hN, f4, f59, w0, w1, f2, f53, f52, f55, e1, e2, c, g2, g5, Q0]
    · rw [qX12_shorten]
      simp [a_ent, bX12_shorten_0, bX12_shorten_16, a_ald, a_cv, a_ifne, a_iret, a_ist, a_push, sh_71, pu_rv, pu_as, Value.category, pu_bk, pu_kl, List.replicate, pu_wi_1, pu_wi_2, nl_add, nl_ladd, nl_aa, nl_mul, nl_rmul, nl_mm, pu_qe0, pu_qe1, p3, p4, q]
      all_goals try simp (maxSteps := 400000) (disch := omega) [nl_tle, nl_fle, nl_tlt, nl_flt, nl_teq, nl_feq, nl_sub, nl_ss, nl_lt, nl_llt, nl_ltt, nl_le, nl_lle, nl_lee, nl_eq, nl_leq, nl_ee, nl_div, nl_rem, nl_cl, nl_n1, nl_n2, nl_n3, nl_n4, nl_add, nl_ladd, nl_aa, nl_mul, nl_rmul, nl_mm, pu_wi_1, pu_wi_2, bX12_shorten_0, bX12_shorten_16, a_ald, a_cv, a_ifne, a_iret, a_ist, a_push, sh_71, pu_rv, pu_as, Value.category, pu_bk, pu_kl, pu_qe0, pu_qe1, p3, p4, q]
      all_goals try simp [bX12_shorten_0, bX12_shorten_16, a_ald, a_cv, a_ifne, a_iret, a_ist, a_push, sh_71, pu_rv, pu_as, Value.category, pu_bk, pu_kl, List.replicate, pu_wi_1, pu_wi_2, nl_add, nl_ladd, nl_aa, nl_mul, nl_rmul, nl_mm, pu_qe0, pu_qe1, p3, p4, q]
      all_goals try simp (maxSteps := 400000) (disch := omega) [nl_tle, nl_fle, nl_tlt, nl_flt, nl_teq, nl_feq, nl_sub, nl_ss, nl_lt, nl_llt, nl_ltt, nl_le, nl_lle, nl_lee, nl_eq, nl_leq, nl_ee, nl_div, nl_rem, nl_cl, nl_n1, nl_n2, nl_n3, nl_n4, nl_add, nl_ladd, nl_aa, nl_mul, nl_rmul, nl_mm, pu_wi_1, pu_wi_2, bX12_shorten_0, bX12_shorten_16, a_ald, a_cv, a_ifne, a_iret, a_ist, a_push, sh_71, pu_rv, pu_as, Value.category, pu_bk, pu_kl, pu_qe0, pu_qe1, p3, p4, q]
      all_goals try simp [bX12_shorten_0, bX12_shorten_16, a_ald, a_cv, a_ifne, a_iret, a_ist, a_push, sh_71, pu_rv, pu_as, Value.category, pu_bk, pu_kl, List.replicate, pu_wi_1, pu_wi_2, nl_add, nl_ladd, nl_aa, nl_mul, nl_rmul, nl_mm, pu_qe0, pu_qe1, p3, p4, q]
      all_goals try simp (maxSteps := 400000) (disch := omega) [nl_tle, nl_fle, nl_tlt, nl_flt, nl_teq, nl_feq, nl_sub, nl_ss, nl_lt, nl_llt, nl_ltt, nl_le, nl_lle, nl_lee, nl_eq, nl_leq, nl_ee, nl_div, nl_rem, nl_cl, nl_n1, nl_n2, nl_n3, nl_n4, nl_add, nl_ladd, nl_aa, nl_mul, nl_rmul, nl_mm, pu_wi_1, pu_wi_2, bX12_shorten_0, bX12_shorten_16, a_ald, a_cv, a_ifne, a_iret, a_ist, a_push, sh_71, pu_rv, pu_as, Value.category, pu_bk, pu_kl, pu_qe0, pu_qe1, p3, p4, q]
      all_goals try simp [bX12_shorten_0, bX12_shorten_16, a_ald, a_cv, a_ifne, a_iret, a_ist, a_push, sh_71, pu_rv, pu_as, Value.category, pu_bk, pu_kl, List.replicate, pu_wi_1, pu_wi_2, nl_add, nl_ladd, nl_aa, nl_mul, nl_rmul, nl_mm, pu_qe0, pu_qe1, p3, p4, q]
    · refine FIN k (cF (pu_si M 5)) Q (Or.inl ⟨rfl, b⟩) Q2 (fun a j _ => Q1 a j) Q0 Q3 Q4 Q5 R' _ p1 (p2 hg).1 (p2 hg).2 rfl (fun a j ha => ?_) ?_ (fun i hi => ?_)
      · rw [py_sc_o (by omega)]
      · rw [py_sc_o (by omega), p6]
        exact rl_h8 hr
      · rw [py_sc_v hi]
