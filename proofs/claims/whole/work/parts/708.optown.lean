/-! town, both sides -/
theorem pu_Wd_fr2 {s s' : Nat → Int32} {a a' : Nat} {x : Int64} (h : pu_Wd s a x) (e : ∀ i, i < 12 → s' (a' + i) = s (a + i)) : pu_Wd s' a' x := by
  obtain ⟨ds, a1, a2, a3, a4⟩ := h
  exact ⟨ds, a1, a2, fun i hi => by rw [e i hi]; exact a3 i hi, a4⟩
/-- the tape taken, the office changed -/
theorem py_Inv_tk {M F : pu_M} (h : pu_Inv M) (hfx : pu_fx F) (e1 : F.2.2.2 = M.2.2.2) (e2 : ∀ a j, a = 58 ∨ 86 ≤ a → F.2.2.1 a j = M.2.2.1 a j) (hl : ∀ a j, 86 ≤ a → F.2.1 a j = M.2.1 a j) (h0 : F.1 1 0 = 0) (h4 : F.1 71 4 = 0) (h1 : ∀ a j, a = 3 ∨ a = 4 ∨ (a = 71 ∧ j = 8) ∨ a = 73 ∨ a = 74 ∨ a = 77 ∨ 86 ≤ a → F.1 a j = M.1 a j) (hS : pu_St (pu_si F 5) (pu_sj F 5) (F.1 72)) : pu_Inv F :=
  pu_Inv_of h hfx e1 e2 (fun a j q => h1 a j (by omega)) hl (fun j => h1 _ j (by omega)) (fun j => h1 _ j (by omega)) ⟨0, by omega, h0, h4, fun j hj => by omega⟩ (pu_ou_fr h.2.2.1 (h1 _ _ (by omega)) (h1 _ _ (by omega)) (fun j => h1 _ _ (by omega)) (fun j => h1 _ _ (by omega))) hS
theorem py_Inv_rd {M N R : pu_M} (h : pu_Inv M) (n : py_cr M N) (q : py_cq N R) : pu_Inv R := by
  obtain ⟨n1, n2, n3, n4, n5, n6⟩ := n
  obtain ⟨q1, q2, q3⟩ := q
  refine py_Inv_tk h (pz_fx_of n6 q1) (by rw [q1, n1]) (fun a j ha => by rw [q1, n2 a j (by omega)]) (fun a j ha => by rw [q1, n4 a j (by omega) (by omega)]) (by rw [q2 1 0 (by omega) (by omega) (by omega)]; exact n5) q3 (fun a j ha => by rw [q2 a j (by omega) (by omega) (by omega), n3 a j (by omega) (by omega)]) ?_
  rw [pu_si_eq (M := M) (fun a j h1 h2 => by rw [q2 a j (by omega) (by omega) (by omega), n3 a j (by omega) (by omega)]), pu_sj_eq (M := M) (fun a j h1 h2 => by rw [q1, n4 a j (by omega) (by omega)]), show R.1 72 = M.1 72 from funext (fun j => by rw [q2 72 j (by omega) (by omega) (by omega), n3 72 j (by omega) (by omega)])]
  exact h.2.2.2.1
set_option maxRecDepth 8000 in
theorem op_town : pu_op pu_Inv 35 248 [] := by
  intro M h
  have hx := h.1
  have hI := pu_ag5 M
  have hL := pu_al5 M
  have hr := pu_hR h
  have hw := pu_hS h
  have bT := wx_bT hw
  obtain ⟨t, t1, t2, t3, t4⟩ := h.2.1
  obtain ⟨N, n1, n2, n3⟩ := c_readName h t1 t2 t4
  obtain ⟨m1, m2, m3, m4, m5, m6⟩ := id n1
  have RF : ∀ Q : pu_M, pu_fx Q → Q.1 72 = M.1 72 → Q.1 71 4 = M.1 71 4 → (∀ j, Q.1 75 j = M.1 75 j) → ∃ R, py_cq Q R ∧ (∀ l, py_ns (py_by M) t 3 0 = some l → ∀ k, k < 3 → pu_Wd (R.1 78) (12 * k) (py_fu (pu_si M 5) (pu_sj M 5) (lN (pu_wv (l.getD k []))))) ∧ pu_r 244 [some (.ref 71)] [] Q = some (some (.int (pu_q (py_ns (py_by M) t 3 0 ≠ none))), R) := fun Q q1 q2 q3 q4 =>
    r_readsName q1 (by rw [q2]; exact hr) hw t1 (by rw [q3]; exact t3) (fun j hj => by rw [q4]; exact py_by_b M j)
  have N72 : N.1 72 = M.1 72 := funext (fun j => m3 72 j (by omega) (by omega))
  have f2 : N.2.2.1 0 2 = some 5 := by rw [m2 0 2 (by omega)]; exact fx_0_2 hx
  have f4 : N.2.2.1 0 4 = some 59 := by rw [m2 0 4 (by omega)]; exact fx_0_4 hx
  have f53 := fx_5_3 m6
  have f59 := fx_59_0 m6
  by_cases g : py_ns (py_by M) t 3 0 ≠ none
  rotate_left
  · rw [pu_q0 g] at n3
    obtain ⟨R, r1, r2, r3⟩ := RF N m6 N72 (m3 71 4 (by omega) (by omega)) (fun j => m3 75 j (by omega) (by omega))
    rw [pu_q0 g] at r3
    refine ⟨-2, N, R, ?_, ?_, py_Inv_rd h n1 r1⟩
    · rw [qX11_town]
      simp [a_ent, bX11_town_0, bX11_town_10, bX11_town_34, bX11_town_52, a_ald, a_cv, a_gi, a_gr, a_iceq, a_iclt, a_ifne, a_iret, a_push, fx_0_2 hx, fx_0_4 hx, fx_59_0 hx, fx_5_3 hx, sh_0, sh_25, sh_5, sh_59, sh_60, pu_rv, pu_as, Value.category, pu_bk, pu_kl, List.replicate, pu_wi_1, pu_wi_2, nl_add, nl_ladd, nl_aa, nl_mul, nl_rmul, nl_mm, pu_qe0, pu_qe1, n3]
      all_goals try simp (maxSteps := 400000) (disch := omega) [nl_tle, nl_fle, nl_tlt, nl_flt, nl_teq, nl_feq, nl_sub, nl_ss, nl_lt, nl_llt, nl_ltt, nl_le, nl_lle, nl_lee, nl_eq, nl_leq, nl_ee, nl_div, nl_rem, nl_cl, nl_n1, nl_n2, nl_n3, nl_n4, nl_add, nl_ladd, nl_aa, nl_mul, nl_rmul, nl_mm, pu_wi_1, pu_wi_2, bX11_town_0, bX11_town_10, bX11_town_34, bX11_town_52, a_ald, a_cv, a_gi, a_gr, a_iceq, a_iclt, a_ifne, a_iret, a_push, fx_0_2 hx, fx_0_4 hx, fx_59_0 hx, fx_5_3 hx, sh_0, sh_25, sh_5, sh_59, sh_60, pu_rv, pu_as, Value.category, pu_bk, pu_kl, pu_qe0, pu_qe1, n3]
      all_goals try simp [bX11_town_0, bX11_town_10, bX11_town_34, bX11_town_52, a_ald, a_cv, a_gi, a_gr, a_iceq, a_iclt, a_ifne, a_iret, a_push, fx_0_2 hx, fx_0_4 hx, fx_59_0 hx, fx_5_3 hx, sh_0, sh_25, sh_5, sh_59, sh_60, pu_rv, pu_as, Value.category, pu_bk, pu_kl, List.replicate, pu_wi_1, pu_wi_2, nl_add, nl_ladd, nl_aa, nl_mul, nl_rmul, nl_mm, pu_qe0, pu_qe1, n3]
      all_goals try simp (maxSteps := 400000) (disch := omega) [nl_tle, nl_fle, nl_tlt, nl_flt, nl_teq, nl_feq, nl_sub, nl_ss, nl_lt, nl_llt, nl_ltt, nl_le, nl_lle, nl_lee, nl_eq, nl_leq, nl_ee, nl_div, nl_rem, nl_cl, nl_n1, nl_n2, nl_n3, nl_n4, nl_add, nl_ladd, nl_aa, nl_mul, nl_rmul, nl_mm, pu_wi_1, pu_wi_2, bX11_town_0, bX11_town_10, bX11_town_34, bX11_town_52, a_ald, a_cv, a_gi, a_gr, a_iceq, a_iclt, a_ifne, a_iret, a_push, fx_0_2 hx, fx_0_4 hx, fx_59_0 hx, fx_5_3 hx, sh_0, sh_25, sh_5, sh_59, sh_60, pu_rv, pu_as, Value.category, pu_bk, pu_kl, pu_qe0, pu_qe1, n3]
    · rw [qX12_town]
      simp [a_ent, bX12_town_0, bX12_town_10, a_ald, a_cv, a_ifne, a_iret, a_ist, a_push, sh_71, pu_rv, pu_as, Value.category, pu_bk, pu_kl, List.replicate, pu_wi_1, pu_wi_2, nl_add, nl_ladd, nl_aa, nl_mul, nl_rmul, nl_mm, pu_qe0, pu_qe1, r3]
      all_goals try simp (maxSteps := 400000) (disch := omega) [nl_tle, nl_fle, nl_tlt, nl_flt, nl_teq, nl_feq, nl_sub, nl_ss, nl_lt, nl_llt, nl_ltt, nl_le, nl_lle, nl_lee, nl_eq, nl_leq, nl_ee, nl_div, nl_rem, nl_cl, nl_n1, nl_n2, nl_n3, nl_n4, nl_add, nl_ladd, nl_aa, nl_mul, nl_rmul, nl_mm, pu_wi_1, pu_wi_2, bX12_town_0, bX12_town_10, a_ald, a_cv, a_ifne, a_iret, a_ist, a_push, sh_71, pu_rv, pu_as, Value.category, pu_bk, pu_kl, pu_qe0, pu_qe1, r3]
      all_goals try simp [bX12_town_0, bX12_town_10, a_ald, a_cv, a_ifne, a_iret, a_ist, a_push, sh_71, pu_rv, pu_as, Value.category, pu_bk, pu_kl, List.replicate, pu_wi_1, pu_wi_2, nl_add, nl_ladd, nl_aa, nl_mul, nl_rmul, nl_mm, pu_qe0, pu_qe1, r3]
      all_goals try simp (maxSteps := 400000) (disch := omega) [nl_tle, nl_fle, nl_tlt, nl_flt, nl_teq, nl_feq, nl_sub, nl_ss, nl_lt, nl_llt, nl_ltt, nl_le, nl_lle, nl_lee, nl_eq, nl_leq, nl_ee, nl_div, nl_rem, nl_cl, nl_n1, nl_n2, nl_n3, nl_n4, nl_add, nl_ladd, nl_aa, nl_mul, nl_rmul, nl_mm, pu_wi_1, pu_wi_2, bX12_town_0, bX12_town_10, a_ald, a_cv, a_ifne, a_iret, a_ist, a_push, sh_71, pu_rv, pu_as, Value.category, pu_bk, pu_kl, pu_qe0, pu_qe1, r3]
  rw [pu_q1 g] at n3
  obtain ⟨l, hl⟩ : ∃ l, py_ns (py_by M) t 3 0 = some l := by
    cases hl : py_ns (py_by M) t 3 0 with
    | none => exact absurd hl g
    | some l => exact ⟨l, rfl⟩
  have w60 := n2 l hl
  have hIN : pu_ag N (pu_si M 5) := fun a j q1 q2 => by rw [m3 a j (by omega) (by omega)]; exact hI a j q1 q2
  have c26 : N.2.1 26 = pu_sj M 5 26 := funext (fun j => by rw [m4 26 j (by omega) (by omega)]; exact hL 26 j (by omega) (by omega))
  have tn := c_townNamed m6 hIN hw 60 sh_60
  rw [c26] at tn
  have n25 : N.1 25 0 = nI (cT (pu_si M 5)) := by rw [hIN 25 0 (by omega) (by omega)]; exact wx_cT hw
  -- what the reference's loop finds, from a memory that it has read in
  have LP : ∀ (R : pu_M), pu_fx R → R.1 72 = M.1 72 → (∀ k, k < 3 → pu_Wd (R.1 78) (12 * k) (N.2.1 60 k)) → ∀ m i, i + m = cT (pu_si M 5) → ((∃ k, i ≤ k ∧ k < cT (pu_si M 5) ∧ py_lk (pu_sj M 5 26) (N.2.1 60) (3 * k) 0) → pu_r 442 [some (.ref 71), some (.int (nI i))] [] R = some (some (.int (-5)), R)) ∧ (¬ (∃ k, i ≤ k ∧ k < cT (pu_si M 5) ∧ py_lk (pu_sj M 5 26) (N.2.1 60) (3 * k) 0) → pu_r 442 [some (.ref 71), some (.int (nI i))] [] R = kX12_town_43 pu_r [some (.ref 71), some (.int (nI (cT (pu_si M 5))))] [] R) := by
    intro R hxR R72 RW m
    have hrR : pu_Rel (pu_si M 5) (pu_sj M 5) (R.1 72) := by rw [R72]; exact hr
    have ff := fx_71_0 hxR
    have f9 := fx_71_9 hxR
    have h2 := rl_h2 hrR
    induction m with
    | zero =>
      intro i hi
      refine ⟨fun ⟨k, k1, k2, _⟩ => by omega, fun _ => ?_⟩
      have e : i = cT (pu_si M 5) := by omega
      subst e
      have hc : nI (cT (pu_si M 5)) ≤ nI (cT (pu_si M 5)) := nI_le (by omega) (by omega)
      rw [qX12_town_12]
      simp [bX12_town_12, a_ild, a_ald, a_gr, a_push, a_ai, a_icge, sh_71, sh_72, ff, h2, hc, pu_rv]
    | succ m ih =>
      intro i hi
      have hc : ¬ nI (cT (pu_si M 5)) ≤ nI i := nI_ge (by omega) (by omega)
      have e := r_isName hxR 78 36 sh_78 (by omega) (by omega) i (by omega)
      have eq : (∀ j, j < 36 → R.1 78 j = R.1 72 (32 + 36 * i + j)) ↔ py_lk (pu_sj M 5 26) (N.2.1 60) (3 * i) 0 := by
        have q := py_row3 (r := R.1 72) (r' := R.1 78) (a := 32 + 36 * i) (a' := 0) (f := pu_sj M 5 26) (g := N.2.1 60) (x := 3 * i) (y := 0) (fun w hw2 => rl_tw hrR i (by omega) w hw2) (fun w hw2 => by rw [Nat.zero_add, Nat.zero_add]; exact RW w hw2)
        rw [← q]
        constructor
        · intro z j hj
          rw [Nat.zero_add]
          exact (z j hj).symm
        · intro z j hj
          have := z j hj
          rw [Nat.zero_add] at this
          exact this.symm
      obtain ⟨ih1, ih2⟩ := ih (i + 1) (by omega)
      by_cases c : py_lk (pu_sj M 5 26) (N.2.1 60) (3 * i) 0
      · rw [pu_q1 (eq.mpr c)] at e
        refine ⟨fun _ => ?_, fun z => absurd ⟨i, by omega, by omega, c⟩ z⟩
        rw [qX12_town_12]
        simp [bX12_town_12, bX12_town_43, bX12_town_57, bX12_town_91, bX12_town_37, a_ai, a_ald, a_cv, a_dup2, a_gr, a_iadd, a_icge, a_icne, a_ifeq, a_ild, a_inc, a_iret, a_ist, a_push, a_wi, sh_71, sh_72, sh_78, pu_rv, pu_as, Value.category, pu_bk, pu_kl, List.replicate, pu_wi_1, pu_wi_2, nl_add, nl_ladd, nl_aa, nl_mul, nl_rmul, nl_mm, pu_qe0, pu_qe1, ff, f9, h2, hc, e]
        all_goals try simp (maxSteps := 400000) (disch := omega) [nl_tle, nl_fle, nl_tlt, nl_flt, nl_teq, nl_feq, nl_sub, nl_ss, nl_lt, nl_llt, nl_ltt, nl_le, nl_lle, nl_lee, nl_eq, nl_leq, nl_ee, nl_div, nl_rem, nl_cl, nl_n1, nl_n2, nl_n3, nl_n4, nl_add, nl_ladd, nl_aa, nl_mul, nl_rmul, nl_mm, pu_wi_1, pu_wi_2, bX12_town_12, bX12_town_43, bX12_town_57, bX12_town_91, bX12_town_37, a_ai, a_ald, a_cv, a_dup2, a_gr, a_iadd, a_icge, a_icne, a_ifeq, a_ild, a_inc, a_iret, a_ist, a_push, a_wi, sh_71, sh_72, sh_78, pu_rv, pu_as, Value.category, pu_bk, pu_kl, pu_qe0, pu_qe1, ff, f9, h2, hc, e]
        all_goals try simp [bX12_town_12, bX12_town_43, bX12_town_57, bX12_town_91, bX12_town_37, a_ai, a_ald, a_cv, a_dup2, a_gr, a_iadd, a_icge, a_icne, a_ifeq, a_ild, a_inc, a_iret, a_ist, a_push, a_wi, sh_71, sh_72, sh_78, pu_rv, pu_as, Value.category, pu_bk, pu_kl, List.replicate, pu_wi_1, pu_wi_2, nl_add, nl_ladd, nl_aa, nl_mul, nl_rmul, nl_mm, pu_qe0, pu_qe1, ff, f9, h2, hc, e]
        all_goals try simp (maxSteps := 400000) (disch := omega) [nl_tle, nl_fle, nl_tlt, nl_flt, nl_teq, nl_feq, nl_sub, nl_ss, nl_lt, nl_llt, nl_ltt, nl_le, nl_lle, nl_lee, nl_eq, nl_leq, nl_ee, nl_div, nl_rem, nl_cl, nl_n1, nl_n2, nl_n3, nl_n4, nl_add, nl_ladd, nl_aa, nl_mul, nl_rmul, nl_mm, pu_wi_1, pu_wi_2, bX12_town_12, bX12_town_43, bX12_town_57, bX12_town_91, bX12_town_37, a_ai, a_ald, a_cv, a_dup2, a_gr, a_iadd, a_icge, a_icne, a_ifeq, a_ild, a_inc, a_iret, a_ist, a_push, a_wi, sh_71, sh_72, sh_78, pu_rv, pu_as, Value.category, pu_bk, pu_kl, pu_qe0, pu_qe1, ff, f9, h2, hc, e]
      · rw [pu_q0 (fun z => c (eq.mp z))] at e
        have st : pu_r 442 [some (.ref 71), some (.int (nI i))] [] R = pu_r 442 [some (.ref 71), some (.int (nI (i + 1)))] [] R := by
          rw [qX12_town_12]
          simp [bX12_town_12, bX12_town_43, bX12_town_57, bX12_town_91, bX12_town_37, a_ai, a_ald, a_cv, a_dup2, a_gr, a_iadd, a_icge, a_icne, a_ifeq, a_ild, a_inc, a_iret, a_ist, a_push, a_wi, sh_71, sh_72, sh_78, pu_rv, pu_as, Value.category, pu_bk, pu_kl, List.replicate, pu_wi_1, pu_wi_2, nl_add, nl_ladd, nl_aa, nl_mul, nl_rmul, nl_mm, pu_qe0, pu_qe1, ff, f9, h2, hc, e]
          all_goals try simp (maxSteps := 400000) (disch := omega) [nl_tle, nl_fle, nl_tlt, nl_flt, nl_teq, nl_feq, nl_sub, nl_ss, nl_lt, nl_llt, nl_ltt, nl_le, nl_lle, nl_lee, nl_eq, nl_leq, nl_ee, nl_div, nl_rem, nl_cl, nl_n1, nl_n2, nl_n3, nl_n4, nl_add, nl_ladd, nl_aa, nl_mul, nl_rmul, nl_mm, pu_wi_1, pu_wi_2, bX12_town_12, bX12_town_43, bX12_town_57, bX12_town_91, bX12_town_37, a_ai, a_ald, a_cv, a_dup2, a_gr, a_iadd, a_icge, a_icne, a_ifeq, a_ild, a_inc, a_iret, a_ist, a_push, a_wi, sh_71, sh_72, sh_78, pu_rv, pu_as, Value.category, pu_bk, pu_kl, pu_qe0, pu_qe1, ff, f9, h2, hc, e]
          all_goals try simp [bX12_town_12, bX12_town_43, bX12_town_57, bX12_town_91, bX12_town_37, a_ai, a_ald, a_cv, a_dup2, a_gr, a_iadd, a_icge, a_icne, a_ifeq, a_ild, a_inc, a_iret, a_ist, a_push, a_wi, sh_71, sh_72, sh_78, pu_rv, pu_as, Value.category, pu_bk, pu_kl, List.replicate, pu_wi_1, pu_wi_2, nl_add, nl_ladd, nl_aa, nl_mul, nl_rmul, nl_mm, pu_qe0, pu_qe1, ff, f9, h2, hc, e]
          all_goals try simp (maxSteps := 400000) (disch := omega) [nl_tle, nl_fle, nl_tlt, nl_flt, nl_teq, nl_feq, nl_sub, nl_ss, nl_lt, nl_llt, nl_ltt, nl_le, nl_lle, nl_lee, nl_eq, nl_leq, nl_ee, nl_div, nl_rem, nl_cl, nl_n1, nl_n2, nl_n3, nl_n4, nl_add, nl_ladd, nl_aa, nl_mul, nl_rmul, nl_mm, pu_wi_1, pu_wi_2, bX12_town_12, bX12_town_43, bX12_town_57, bX12_town_91, bX12_town_37, a_ai, a_ald, a_cv, a_dup2, a_gr, a_iadd, a_icge, a_icne, a_ifeq, a_ild, a_inc, a_iret, a_ist, a_push, a_wi, sh_71, sh_72, sh_78, pu_rv, pu_as, Value.category, pu_bk, pu_kl, pu_qe0, pu_qe1, ff, f9, h2, hc, e]
        rw [st]
        refine ⟨fun ⟨k, k1, k2, k3⟩ => ih1 ⟨k, ?_, k2, k3⟩, fun z => ih2 (fun ⟨k, k1, k2, k3⟩ => z ⟨k, by omega, k2, k3⟩)⟩
        have : k ≠ i := fun q => c (by rw [← q]; exact k3)
        omega
  by_cases ex : ∃ k, 0 ≤ k ∧ k < cT (pu_si M 5) ∧ py_lk (pu_sj M 5 26) (N.2.1 60) (3 * k) 0
  · obtain ⟨R, r1, r2, r3⟩ := RF N m6 N72 (m3 71 4 (by omega) (by omega)) (fun j => m3 75 j (by omega) (by omega))
    rw [pu_q1 g] at r3
    have q := (LP R (pz_fx_of m6 r1.1) (funext (fun j => by rw [r1.2.1 72 j (by omega) (by omega) (by omega), N72])) (fun k hk => by rw [w60 k hk]; exact r2 l hl k hk) (cT (pu_si M 5)) 0 (by omega)).1 ex
    rw [nI_0] at q
    have ne : ¬ pu_f1 (fun i => py_lk (pu_sj M 5 26) (N.2.1 60) (3 * i) 0) (cT (pu_si M 5)) 0 = -1 := by
      rcases pu_f1_spec (fun i => py_lk (pu_sj M 5 26) (N.2.1 60) (3 * i) 0) (cT (pu_si M 5)) 0 with ⟨_, b⟩ | ⟨j, _, j2, j3, _, _⟩
      · obtain ⟨k, k1, k2, k3⟩ := ex
        exact absurd k3 (b k (by omega) (by omega))
      · rw [j3]
        intro z
        rw [nl_n1 _ (by omega)] at z
        exact z
    refine ⟨-5, N, R, ?_, ?_, py_Inv_rd h n1 r1⟩
    · rw [qX11_town]
      simp [a_ent, bX11_town_0, bX11_town_10, bX11_town_34, bX11_town_52, a_ald, a_cv, a_gi, a_gr, a_iceq, a_iclt, a_ifne, a_iret, a_push, fx_0_2 hx, fx_0_4 hx, fx_59_0 hx, fx_5_3 hx, sh_0, sh_25, sh_5, sh_59, sh_60, pu_rv, pu_as, Value.category, pu_bk, pu_kl, List.replicate, pu_wi_1, pu_wi_2, nl_add, nl_ladd, nl_aa, nl_mul, nl_rmul, nl_mm, pu_qe0, pu_qe1, n3, f2, f4, f53, f59, tn, ne]
      all_goals try simp (maxSteps := 400000) (disch := omega) [nl_tle, nl_fle, nl_tlt, nl_flt, nl_teq, nl_feq, nl_sub, nl_ss, nl_lt, nl_llt, nl_ltt, nl_le, nl_lle, nl_lee, nl_eq, nl_leq, nl_ee, nl_div, nl_rem, nl_cl, nl_n1, nl_n2, nl_n3, nl_n4, nl_add, nl_ladd, nl_aa, nl_mul, nl_rmul, nl_mm, pu_wi_1, pu_wi_2, bX11_town_0, bX11_town_10, bX11_town_34, bX11_town_52, a_ald, a_cv, a_gi, a_gr, a_iceq, a_iclt, a_ifne, a_iret, a_push, fx_0_2 hx, fx_0_4 hx, fx_59_0 hx, fx_5_3 hx, sh_0, sh_25, sh_5, sh_59, sh_60, pu_rv, pu_as, Value.category, pu_bk, pu_kl, pu_qe0, pu_qe1, n3, f2, f4, f53, f59, tn, ne]
      all_goals try simp [bX11_town_0, bX11_town_10, bX11_town_34, bX11_town_52, a_ald, a_cv, a_gi, a_gr, a_iceq, a_iclt, a_ifne, a_iret, a_push, fx_0_2 hx, fx_0_4 hx, fx_59_0 hx, fx_5_3 hx, sh_0, sh_25, sh_5, sh_59, sh_60, pu_rv, pu_as, Value.category, pu_bk, pu_kl, List.replicate, pu_wi_1, pu_wi_2, nl_add, nl_ladd, nl_aa, nl_mul, nl_rmul, nl_mm, pu_qe0, pu_qe1, n3, f2, f4, f53, f59, tn, ne]
      all_goals try simp (maxSteps := 400000) (disch := omega) [nl_tle, nl_fle, nl_tlt, nl_flt, nl_teq, nl_feq, nl_sub, nl_ss, nl_lt, nl_llt, nl_ltt, nl_le, nl_lle, nl_lee, nl_eq, nl_leq, nl_ee, nl_div, nl_rem, nl_cl, nl_n1, nl_n2, nl_n3, nl_n4, nl_add, nl_ladd, nl_aa, nl_mul, nl_rmul, nl_mm, pu_wi_1, pu_wi_2, bX11_town_0, bX11_town_10, bX11_town_34, bX11_town_52, a_ald, a_cv, a_gi, a_gr, a_iceq, a_iclt, a_ifne, a_iret, a_push, fx_0_2 hx, fx_0_4 hx, fx_59_0 hx, fx_5_3 hx, sh_0, sh_25, sh_5, sh_59, sh_60, pu_rv, pu_as, Value.category, pu_bk, pu_kl, pu_qe0, pu_qe1, n3, f2, f4, f53, f59, tn, ne]
    · rw [qX12_town]
      simp [a_ent, bX12_town_0, bX12_town_10, a_ald, a_cv, a_ifne, a_iret, a_ist, a_push, sh_71, pu_rv, pu_as, Value.category, pu_bk, pu_kl, List.replicate, pu_wi_1, pu_wi_2, nl_add, nl_ladd, nl_aa, nl_mul, nl_rmul, nl_mm, pu_qe0, pu_qe1, r3, q]
      all_goals try simp (maxSteps := 400000) (disch := omega) [nl_tle, nl_fle, nl_tlt, nl_flt, nl_teq, nl_feq, nl_sub, nl_ss, nl_lt, nl_llt, nl_ltt, nl_le, nl_lle, nl_lee, nl_eq, nl_leq, nl_ee, nl_div, nl_rem, nl_cl, nl_n1, nl_n2, nl_n3, nl_n4, nl_add, nl_ladd, nl_aa, nl_mul, nl_rmul, nl_mm, pu_wi_1, pu_wi_2, bX12_town_0, bX12_town_10, a_ald, a_cv, a_ifne, a_iret, a_ist, a_push, sh_71, pu_rv, pu_as, Value.category, pu_bk, pu_kl, pu_qe0, pu_qe1, r3, q]
      all_goals try simp [bX12_town_0, bX12_town_10, a_ald, a_cv, a_ifne, a_iret, a_ist, a_push, sh_71, pu_rv, pu_as, Value.category, pu_bk, pu_kl, List.replicate, pu_wi_1, pu_wi_2, nl_add, nl_ladd, nl_aa, nl_mul, nl_rmul, nl_mm, pu_qe0, pu_qe1, r3, q]
      all_goals try simp (maxSteps := 400000) (disch := omega) [nl_tle, nl_fle, nl_tlt, nl_flt, nl_teq, nl_feq, nl_sub, nl_ss, nl_lt, nl_llt, nl_ltt, nl_le, nl_lle, nl_lee, nl_eq, nl_leq, nl_ee, nl_div, nl_rem, nl_cl, nl_n1, nl_n2, nl_n3, nl_n4, nl_add, nl_ladd, nl_aa, nl_mul, nl_rmul, nl_mm, pu_wi_1, pu_wi_2, bX12_town_0, bX12_town_10, a_ald, a_cv, a_ifne, a_iret, a_ist, a_push, sh_71, pu_rv, pu_as, Value.category, pu_bk, pu_kl, pu_qe0, pu_qe1, r3, q]
  have no : pu_f1 (fun i => py_lk (pu_sj M 5 26) (N.2.1 60) (3 * i) 0) (cT (pu_si M 5)) 0 = -1 := pu_f1_none _ _ (fun j h1 h2 z => ex ⟨j, h1, by omega, z⟩)
  rw [no] at tn
  by_cases room : cT (pu_si M 5) < 8
  rotate_left
  · have c8 : cT (pu_si M 5) = 8 := by omega
    obtain ⟨R, r1, r2, r3⟩ := RF N m6 N72 (m3 71 4 (by omega) (by omega)) (fun j => m3 75 j (by omega) (by omega))
    rw [pu_q1 g] at r3
    have R72 : R.1 72 = M.1 72 := funext (fun j => by rw [r1.2.1 72 j (by omega) (by omega) (by omega), N72])
    have q := (LP R (pz_fx_of m6 r1.1) R72 (fun k hk => by rw [w60 k hk]; exact r2 l hl k hk) (cT (pu_si M 5)) 0 (by omega)).2 ex
    rw [nI_0] at q
    have ff := fx_71_0 (pz_fx_of m6 r1.1)
    have h2 : R.1 72 2 = 8 := by rw [R72, rl_h2 hr, c8]; rfl
    have q2 : kX12_town_43 pu_r [some (.ref 71), some (.int (nI (cT (pu_si M 5))))] [] R = some (some (.int (-6)), R) := by
      simp [bX12_town_43, bX12_town_57, bX12_town_91, a_ai, a_ald, a_cv, a_dup2, a_gr, a_iadd, a_icne, a_ild, a_iret, a_ist, a_push, a_wi, sh_71, sh_72, pu_rv, pu_as, Value.category, pu_bk, pu_kl, List.replicate, pu_wi_1, pu_wi_2, nl_add, nl_ladd, nl_aa, nl_mul, nl_rmul, nl_mm, pu_qe0, pu_qe1, ff, h2]
      all_goals try simp (maxSteps := 400000) (disch := omega) [nl_tle, nl_fle, nl_tlt, nl_flt, nl_teq, nl_feq, nl_sub, nl_ss, nl_lt, nl_llt, nl_ltt, nl_le, nl_lle, nl_lee, nl_eq, nl_leq, nl_ee, nl_div, nl_rem, nl_cl, nl_n1, nl_n2, nl_n3, nl_n4, nl_add, nl_ladd, nl_aa, nl_mul, nl_rmul, nl_mm, pu_wi_1, pu_wi_2, bX12_town_43, bX12_town_57, bX12_town_91, a_ai, a_ald, a_cv, a_dup2, a_gr, a_iadd, a_icne, a_ild, a_iret, a_ist, a_push, a_wi, sh_71, sh_72, pu_rv, pu_as, Value.category, pu_bk, pu_kl, pu_qe0, pu_qe1, ff, h2]
      all_goals try simp [bX12_town_43, bX12_town_57, bX12_town_91, a_ai, a_ald, a_cv, a_dup2, a_gr, a_iadd, a_icne, a_ild, a_iret, a_ist, a_push, a_wi, sh_71, sh_72, pu_rv, pu_as, Value.category, pu_bk, pu_kl, List.replicate, pu_wi_1, pu_wi_2, nl_add, nl_ladd, nl_aa, nl_mul, nl_rmul, nl_mm, pu_qe0, pu_qe1, ff, h2]
      all_goals try simp (maxSteps := 400000) (disch := omega) [nl_tle, nl_fle, nl_tlt, nl_flt, nl_teq, nl_feq, nl_sub, nl_ss, nl_lt, nl_llt, nl_ltt, nl_le, nl_lle, nl_lee, nl_eq, nl_leq, nl_ee, nl_div, nl_rem, nl_cl, nl_n1, nl_n2, nl_n3, nl_n4, nl_add, nl_ladd, nl_aa, nl_mul, nl_rmul, nl_mm, pu_wi_1, pu_wi_2, bX12_town_43, bX12_town_57, bX12_town_91, a_ai, a_ald, a_cv, a_dup2, a_gr, a_iadd, a_icne, a_ild, a_iret, a_ist, a_push, a_wi, sh_71, sh_72, pu_rv, pu_as, Value.category, pu_bk, pu_kl, pu_qe0, pu_qe1, ff, h2]
    rw [q2] at q
    rw [c8] at n25
    have e8 : ¬ nI 8 < 8 := by decide
    refine ⟨-6, N, R, ?_, ?_, py_Inv_rd h n1 r1⟩
    · rw [qX11_town]
      simp [a_ent, bX11_town_0, bX11_town_10, bX11_town_34, bX11_town_52, a_ald, a_cv, a_gi, a_gr, a_iceq, a_iclt, a_ifne, a_iret, a_push, fx_0_2 hx, fx_0_4 hx, fx_59_0 hx, fx_5_3 hx, sh_0, sh_25, sh_5, sh_59, sh_60, pu_rv, pu_as, Value.category, pu_bk, pu_kl, List.replicate, pu_wi_1, pu_wi_2, nl_add, nl_ladd, nl_aa, nl_mul, nl_rmul, nl_mm, pu_qe0, pu_qe1, n3, f2, f4, f53, f59, tn, n25, e8]
      all_goals try simp (maxSteps := 400000) (disch := omega) [nl_tle, nl_fle, nl_tlt, nl_flt, nl_teq, nl_feq, nl_sub, nl_ss, nl_lt, nl_llt, nl_ltt, nl_le, nl_lle, nl_lee, nl_eq, nl_leq, nl_ee, nl_div, nl_rem, nl_cl, nl_n1, nl_n2, nl_n3, nl_n4, nl_add, nl_ladd, nl_aa, nl_mul, nl_rmul, nl_mm, pu_wi_1, pu_wi_2, bX11_town_0, bX11_town_10, bX11_town_34, bX11_town_52, a_ald, a_cv, a_gi, a_gr, a_iceq, a_iclt, a_ifne, a_iret, a_push, fx_0_2 hx, fx_0_4 hx, fx_59_0 hx, fx_5_3 hx, sh_0, sh_25, sh_5, sh_59, sh_60, pu_rv, pu_as, Value.category, pu_bk, pu_kl, pu_qe0, pu_qe1, n3, f2, f4, f53, f59, tn, n25, e8]
      all_goals try simp [bX11_town_0, bX11_town_10, bX11_town_34, bX11_town_52, a_ald, a_cv, a_gi, a_gr, a_iceq, a_iclt, a_ifne, a_iret, a_push, fx_0_2 hx, fx_0_4 hx, fx_59_0 hx, fx_5_3 hx, sh_0, sh_25, sh_5, sh_59, sh_60, pu_rv, pu_as, Value.category, pu_bk, pu_kl, List.replicate, pu_wi_1, pu_wi_2, nl_add, nl_ladd, nl_aa, nl_mul, nl_rmul, nl_mm, pu_qe0, pu_qe1, n3, f2, f4, f53, f59, tn, n25, e8]
      all_goals try simp (maxSteps := 400000) (disch := omega) [nl_tle, nl_fle, nl_tlt, nl_flt, nl_teq, nl_feq, nl_sub, nl_ss, nl_lt, nl_llt, nl_ltt, nl_le, nl_lle, nl_lee, nl_eq, nl_leq, nl_ee, nl_div, nl_rem, nl_cl, nl_n1, nl_n2, nl_n3, nl_n4, nl_add, nl_ladd, nl_aa, nl_mul, nl_rmul, nl_mm, pu_wi_1, pu_wi_2, bX11_town_0, bX11_town_10, bX11_town_34, bX11_town_52, a_ald, a_cv, a_gi, a_gr, a_iceq, a_iclt, a_ifne, a_iret, a_push, fx_0_2 hx, fx_0_4 hx, fx_59_0 hx, fx_5_3 hx, sh_0, sh_25, sh_5, sh_59, sh_60, pu_rv, pu_as, Value.category, pu_bk, pu_kl, pu_qe0, pu_qe1, n3, f2, f4, f53, f59, tn, n25, e8]
    · rw [qX12_town]
      simp [a_ent, bX12_town_0, bX12_town_10, a_ald, a_cv, a_ifne, a_iret, a_ist, a_push, sh_71, pu_rv, pu_as, Value.category, pu_bk, pu_kl, List.replicate, pu_wi_1, pu_wi_2, nl_add, nl_ladd, nl_aa, nl_mul, nl_rmul, nl_mm, pu_qe0, pu_qe1, r3, q]
      all_goals try simp (maxSteps := 400000) (disch := omega) [nl_tle, nl_fle, nl_tlt, nl_flt, nl_teq, nl_feq, nl_sub, nl_ss, nl_lt, nl_llt, nl_ltt, nl_le, nl_lle, nl_lee, nl_eq, nl_leq, nl_ee, nl_div, nl_rem, nl_cl, nl_n1, nl_n2, nl_n3, nl_n4, nl_add, nl_ladd, nl_aa, nl_mul, nl_rmul, nl_mm, pu_wi_1, pu_wi_2, bX12_town_0, bX12_town_10, a_ald, a_cv, a_ifne, a_iret, a_ist, a_push, sh_71, pu_rv, pu_as, Value.category, pu_bk, pu_kl, pu_qe0, pu_qe1, r3, q]
      all_goals try simp [bX12_town_0, bX12_town_10, a_ald, a_cv, a_ifne, a_iret, a_ist, a_push, sh_71, pu_rv, pu_as, Value.category, pu_bk, pu_kl, List.replicate, pu_wi_1, pu_wi_2, nl_add, nl_ladd, nl_aa, nl_mul, nl_rmul, nl_mm, pu_qe0, pu_qe1, r3, q]
      all_goals try simp (maxSteps := 400000) (disch := omega) [nl_tle, nl_fle, nl_tlt, nl_flt, nl_teq, nl_feq, nl_sub, nl_ss, nl_lt, nl_llt, nl_ltt, nl_le, nl_lle, nl_lee, nl_eq, nl_leq, nl_ee, nl_div, nl_rem, nl_cl, nl_n1, nl_n2, nl_n3, nl_n4, nl_add, nl_ladd, nl_aa, nl_mul, nl_rmul, nl_mm, pu_wi_1, pu_wi_2, bX12_town_0, bX12_town_10, a_ald, a_cv, a_ifne, a_iret, a_ist, a_push, sh_71, pu_rv, pu_as, Value.category, pu_bk, pu_kl, pu_qe0, pu_qe1, r3, q]
  have ad := c_addTown m6 (cT (pu_si M 5)) n25 room 60 sh_60
  generalize hQ : pu_wi (pu_cl N 60 0 26 (3 * cT (pu_si M 5)) 3) 25 0 (nI (cT (pu_si M 5) + 1)) = Q at *
  have Q1 : ∀ a j, ¬ (a = 25 ∧ j = 0) → Q.1 a j = N.1 a j := fun a j ha => by rw [← hQ, py_wi_o ha, pu_cl_1]
  have Q2 : Q.2.2 = N.2.2 := by rw [← hQ]; rfl
  have Q3 : ∀ a j, ¬ (a = 26 ∧ 3 * cT (pu_si M 5) ≤ j) → Q.2.1 a j = N.2.1 a j := fun a j ha => by
    rw [← hQ]
    show (pu_cl N 60 0 26 (3 * cT (pu_si M 5)) 3).2.1 a j = _
    rw [pu_cl_3]
    by_cases c : a = 26
    · rw [if_pos c, if_neg (by omega)]
    · rw [if_neg c]
  have Q4 : ∀ w, w < 3 → Q.2.1 26 (3 * cT (pu_si M 5) + w) = N.2.1 60 w := fun w hw2 => by
    rw [← hQ]
    show (pu_cl N 60 0 26 (3 * cT (pu_si M 5)) 3).2.1 26 _ = _
    rw [pu_cl_3, if_pos rfl, if_pos (by omega), show 0 + (3 * cT (pu_si M 5) + w - 3 * cT (pu_si M 5)) = w by omega]
  have Q5 : Q.1 25 0 = nI (cT (pu_si M 5) + 1) := by rw [← hQ]; simp [pu_wi_1]
  have hxQ : pu_fx Q := fun a k r q => by
    rw [Q2]
    exact m6 a k r q
  have Q72 : Q.1 72 = M.1 72 := funext (fun j => by rw [Q1 72 j (by omega), N72])
  obtain ⟨R, r1, r2, r3⟩ := RF Q hxQ Q72 (by rw [Q1 71 4 (by omega)]; exact m3 71 4 (by omega) (by omega)) (fun j => by rw [Q1 75 j (by omega)]; exact m3 75 j (by omega) (by omega))
  rw [pu_q1 g] at r3
  have hxR : pu_fx R := pz_fx_of hxQ r1.1
  have R72 : R.1 72 = M.1 72 := funext (fun j => by rw [r1.2.1 72 j (by omega) (by omega) (by omega), Q72])
  have RW : ∀ k, k < 3 → pu_Wd (R.1 78) (12 * k) (N.2.1 60 k) := fun k hk => by rw [w60 k hk]; exact r2 l hl k hk
  have q := (LP R hxR R72 RW (cT (pu_si M 5)) 0 (by omega)).2 ex
  rw [nI_0] at q
  have ff := fx_71_0 hxR
  have h2 : R.1 72 2 = nI (cT (pu_si M 5)) := by rw [R72]; exact rl_h2 hr
  have n8 : ¬ nI (cT (pu_si M 5)) = 8 := fun z => by
    rw [show (8 : Int32) = nI 8 from rfl, nI_eq (by omega) (by omega)] at z
    omega
  have kp := r_keepName hxR (cT (pu_si M 5)) (by omega)
  have fK : (py_kn R (cT (pu_si M 5)) 36).2.2.1 71 0 = some 72 := ff
  have h2K : (py_kn R (cT (pu_si M 5)) 36).1 72 2 = nI (cT (pu_si M 5)) := by rw [py_kn_o (by omega)]; exact h2
  have KO : ∀ a j, ¬ (a = 72 ∧ 32 + 36 * cT (pu_si M 5) ≤ j ∧ j < 32 + 36 * cT (pu_si M 5) + 36) → (py_kn R (cT (pu_si M 5)) 36).1 a j = R.1 a j := fun a j ha => py_kn_o ha
  have KV : ∀ i, i < 36 → (py_kn R (cT (pu_si M 5)) 36).1 72 (32 + 36 * cT (pu_si M 5) + i) = R.1 78 i := fun i hi => py_kn_v hi
  have K2 : (py_kn R (cT (pu_si M 5)) 36).2 = R.2 := rfl
  generalize hK : py_kn R (cT (pu_si M 5)) 36 = K at *
  have q2 : kX12_town_43 pu_r [some (.ref 71), some (.int (nI (cT (pu_si M 5))))] [] R = some (some (.int (nI (cT (pu_si M 5)))), pu_wi (pu_wi K 72 (7520 + cT (pu_si M 5)) (-1)) 72 2 (nI (cT (pu_si M 5) + 1))) := by
    simp [bX12_town_43, bX12_town_57, bX12_town_91, a_ai, a_ald, a_cv, a_dup2, a_gr, a_iadd, a_icne, a_ild, a_iret, a_ist, a_push, a_wi, sh_71, sh_72, pu_rv, pu_as, Value.category, pu_bk, pu_kl, List.replicate, pu_wi_1, pu_wi_2, nl_add, nl_ladd, nl_aa, nl_mul, nl_rmul, nl_mm, pu_qe0, pu_qe1, ff, h2, n8, kp, fK, h2K]
    all_goals try simp (maxSteps := 400000) (disch := omega) [nl_tle, nl_fle, nl_tlt, nl_flt, nl_teq, nl_feq, nl_sub, nl_ss, nl_lt, nl_llt, nl_ltt, nl_le, nl_lle, nl_lee, nl_eq, nl_leq, nl_ee, nl_div, nl_rem, nl_cl, nl_n1, nl_n2, nl_n3, nl_n4, nl_add, nl_ladd, nl_aa, nl_mul, nl_rmul, nl_mm, pu_wi_1, pu_wi_2, bX12_town_43, bX12_town_57, bX12_town_91, a_ai, a_ald, a_cv, a_dup2, a_gr, a_iadd, a_icne, a_ild, a_iret, a_ist, a_push, a_wi, sh_71, sh_72, pu_rv, pu_as, Value.category, pu_bk, pu_kl, pu_qe0, pu_qe1, ff, h2, n8, kp, fK, h2K]
    all_goals try simp [bX12_town_43, bX12_town_57, bX12_town_91, a_ai, a_ald, a_cv, a_dup2, a_gr, a_iadd, a_icne, a_ild, a_iret, a_ist, a_push, a_wi, sh_71, sh_72, pu_rv, pu_as, Value.category, pu_bk, pu_kl, List.replicate, pu_wi_1, pu_wi_2, nl_add, nl_ladd, nl_aa, nl_mul, nl_rmul, nl_mm, pu_qe0, pu_qe1, ff, h2, n8, kp, fK, h2K]
    all_goals try simp (maxSteps := 400000) (disch := omega) [nl_tle, nl_fle, nl_tlt, nl_flt, nl_teq, nl_feq, nl_sub, nl_ss, nl_lt, nl_llt, nl_ltt, nl_le, nl_lle, nl_lee, nl_eq, nl_leq, nl_ee, nl_div, nl_rem, nl_cl, nl_n1, nl_n2, nl_n3, nl_n4, nl_add, nl_ladd, nl_aa, nl_mul, nl_rmul, nl_mm, pu_wi_1, pu_wi_2, bX12_town_43, bX12_town_57, bX12_town_91, a_ai, a_ald, a_cv, a_dup2, a_gr, a_iadd, a_icne, a_ild, a_iret, a_ist, a_push, a_wi, sh_71, sh_72, pu_rv, pu_as, Value.category, pu_bk, pu_kl, pu_qe0, pu_qe1, ff, h2, n8, kp, fK, h2K]
  rw [q2] at q
  have lt8 : nI (cT (pu_si M 5)) < 8 := by
    rw [show (8 : Int32) = nI 8 from rfl, nl_ltt _ _ (by omega) (by omega)]
    exact room
  refine ⟨nI (cT (pu_si M 5)), Q, pu_wi (pu_wi K 72 (7520 + cT (pu_si M 5)) (-1)) 72 2 (nI (cT (pu_si M 5) + 1)), ?_, ?_, ?_⟩
  · rw [qX11_town]
    simp [a_ent, bX11_town_0, bX11_town_10, bX11_town_34, bX11_town_52, a_ald, a_cv, a_gi, a_gr, a_iceq, a_iclt, a_ifne, a_iret, a_push, fx_0_2 hx, fx_0_4 hx, fx_59_0 hx, fx_5_3 hx, sh_0, sh_25, sh_5, sh_59, sh_60, pu_rv, pu_as, Value.category, pu_bk, pu_kl, List.replicate, pu_wi_1, pu_wi_2, nl_add, nl_ladd, nl_aa, nl_mul, nl_rmul, nl_mm, pu_qe0, pu_qe1, n3, f2, f4, f53, f59, tn, n25, lt8, ad]
    all_goals try simp (maxSteps := 400000) (disch := omega) [nl_tle, nl_fle, nl_tlt, nl_flt, nl_teq, nl_feq, nl_sub, nl_ss, nl_lt, nl_llt, nl_ltt, nl_le, nl_lle, nl_lee, nl_eq, nl_leq, nl_ee, nl_div, nl_rem, nl_cl, nl_n1, nl_n2, nl_n3, nl_n4, nl_add, nl_ladd, nl_aa, nl_mul, nl_rmul, nl_mm, pu_wi_1, pu_wi_2, bX11_town_0, bX11_town_10, bX11_town_34, bX11_town_52, a_ald, a_cv, a_gi, a_gr, a_iceq, a_iclt, a_ifne, a_iret, a_push, fx_0_2 hx, fx_0_4 hx, fx_59_0 hx, fx_5_3 hx, sh_0, sh_25, sh_5, sh_59, sh_60, pu_rv, pu_as, Value.category, pu_bk, pu_kl, pu_qe0, pu_qe1, n3, f2, f4, f53, f59, tn, n25, lt8, ad]
    all_goals try simp [bX11_town_0, bX11_town_10, bX11_town_34, bX11_town_52, a_ald, a_cv, a_gi, a_gr, a_iceq, a_iclt, a_ifne, a_iret, a_push, fx_0_2 hx, fx_0_4 hx, fx_59_0 hx, fx_5_3 hx, sh_0, sh_25, sh_5, sh_59, sh_60, pu_rv, pu_as, Value.category, pu_bk, pu_kl, List.replicate, pu_wi_1, pu_wi_2, nl_add, nl_ladd, nl_aa, nl_mul, nl_rmul, nl_mm, pu_qe0, pu_qe1, n3, f2, f4, f53, f59, tn, n25, lt8, ad]
    all_goals try simp (maxSteps := 400000) (disch := omega) [nl_tle, nl_fle, nl_tlt, nl_flt, nl_teq, nl_feq, nl_sub, nl_ss, nl_lt, nl_llt, nl_ltt, nl_le, nl_lle, nl_lee, nl_eq, nl_leq, nl_ee, nl_div, nl_rem, nl_cl, nl_n1, nl_n2, nl_n3, nl_n4, nl_add, nl_ladd, nl_aa, nl_mul, nl_rmul, nl_mm, pu_wi_1, pu_wi_2, bX11_town_0, bX11_town_10, bX11_town_34, bX11_town_52, a_ald, a_cv, a_gi, a_gr, a_iceq, a_iclt, a_ifne, a_iret, a_push, fx_0_2 hx, fx_0_4 hx, fx_59_0 hx, fx_5_3 hx, sh_0, sh_25, sh_5, sh_59, sh_60, pu_rv, pu_as, Value.category, pu_bk, pu_kl, pu_qe0, pu_qe1, n3, f2, f4, f53, f59, tn, n25, lt8, ad]
  · rw [qX12_town]
    simp [a_ent, bX12_town_0, bX12_town_10, a_ald, a_cv, a_ifne, a_iret, a_ist, a_push, sh_71, pu_rv, pu_as, Value.category, pu_bk, pu_kl, List.replicate, pu_wi_1, pu_wi_2, nl_add, nl_ladd, nl_aa, nl_mul, nl_rmul, nl_mm, pu_qe0, pu_qe1, r3, q]
    all_goals try simp (maxSteps := 400000) (disch := omega) [nl_tle, nl_fle, nl_tlt, nl_flt, nl_teq, nl_feq, nl_sub, nl_ss, nl_lt, nl_llt, nl_ltt, nl_le, nl_lle, nl_lee, nl_eq, nl_leq, nl_ee, nl_div, nl_rem, nl_cl, nl_n1, nl_n2, nl_n3, nl_n4, nl_add, nl_ladd, nl_aa, nl_mul, nl_rmul, nl_mm, pu_wi_1, pu_wi_2, bX12_town_0, bX12_town_10, a_ald, a_cv, a_ifne, a_iret, a_ist, a_push, sh_71, pu_rv, pu_as, Value.category, pu_bk, pu_kl, pu_qe0, pu_qe1, r3, q]
    all_goals try simp [bX12_town_0, bX12_town_10, a_ald, a_cv, a_ifne, a_iret, a_ist, a_push, sh_71, pu_rv, pu_as, Value.category, pu_bk, pu_kl, List.replicate, pu_wi_1, pu_wi_2, nl_add, nl_ladd, nl_aa, nl_mul, nl_rmul, nl_mm, pu_qe0, pu_qe1, r3, q]
    all_goals try simp (maxSteps := 400000) (disch := omega) [nl_tle, nl_fle, nl_tlt, nl_flt, nl_teq, nl_feq, nl_sub, nl_ss, nl_lt, nl_llt, nl_ltt, nl_le, nl_lle, nl_lee, nl_eq, nl_leq, nl_ee, nl_div, nl_rem, nl_cl, nl_n1, nl_n2, nl_n3, nl_n4, nl_add, nl_ladd, nl_aa, nl_mul, nl_rmul, nl_mm, pu_wi_1, pu_wi_2, bX12_town_0, bX12_town_10, a_ald, a_cv, a_ifne, a_iret, a_ist, a_push, sh_71, pu_rv, pu_as, Value.category, pu_bk, pu_kl, pu_qe0, pu_qe1, r3, q]
  · generalize hF : pu_wi (pu_wi K 72 (7520 + cT (pu_si M 5)) (-1)) 72 2 (nI (cT (pu_si M 5) + 1)) = F at *
    have F2 : F.2 = Q.2 := by rw [← hF]; exact K2.trans r1.1
    have FO : ∀ a j, a ≠ 72 → F.1 a j = R.1 a j := fun a j ha => by
      rw [← hF, py_wi_o (by omega), py_wi_o (by omega), KO a j (by omega)]
    have FN : ∀ a j, a ≠ 72 → ¬ (a = 71 ∧ (j = 4 ∨ j = 6)) → a ≠ 76 → a ≠ 78 → ¬ (a = 25 ∧ j = 0) → a ≠ 59 → ¬ (a = 1 ∧ j = 0) → F.1 a j = M.1 a j := fun a j a1 a2 a3 a4 a5 a6 a7 => by
      rw [FO a j a1, r1.2.1 a j a2 a3 a4, Q1 a j a5, m3 a j a6 a7]
    refine py_Inv_tk h (pz_fx_of hxQ F2) (by rw [F2, Q2, m1]) (fun a j ha => by rw [F2, Q2, m2 a j (by omega)]) (fun a j ha => by rw [F2, Q3 a j (by omega), m4 a j (by omega) (by omega)]) (by rw [FO 1 0 (by omega), r1.2.1 1 0 (by omega) (by omega) (by omega), Q1 1 0 (by omega)]; exact m5) (by rw [FO 71 4 (by omega)]; exact r1.2.2) (fun a j ha => FN a j (by omega) (by omega) (by omega) (by omega) (by omega) (by omega) (by omega)) ?_
    have F72 : ∀ j, j ≠ 2 → ¬ (32 + 36 * cT (pu_si M 5) ≤ j ∧ j < 32 + 36 * cT (pu_si M 5) + 36) → j ≠ 7520 + cT (pu_si M 5) → F.1 72 j = M.1 72 j := fun j a1 a2 a3 => by
      rw [← hF, py_wi_o (by omega), py_wi_o (by omega), KO 72 j (by omega), R72]
    have FK : ∀ j, j ≠ 2 → j ≠ 7520 + cT (pu_si M 5) → F.1 72 j = K.1 72 j := fun j a1 a2 => by
      rw [← hF, py_wi_o (by omega), py_wi_o (by omega)]
    refine St_town (I := pu_si M 5) (L := pu_sj M 5) (s := M.1 72) h.2.2.2.1 room (fun x j hxj => ?_) ?_ (fun x j hxj => ?_) (fun k hk z => ex ⟨k, by omega, hk, fun w hw2 => ?_⟩) (fun w hw2 => ?_) F72 ?_ ?_
    · by_cases y : 5 ≤ x ∧ x < 58
      · rw [← pu_ag5 F x j y.1 y.2, FN x j (by omega) (by omega) (by omega) (by omega) hxj (by omega) (by omega)]
        exact hI x j y.1 y.2
      · unfold pu_si
        rw [if_neg y, if_neg y]
    · rw [← pu_ag5 F 25 0 (by omega) (by omega), FO 25 0 (by omega), r1.2.1 25 0 (by omega) (by omega) (by omega)]
      exact Q5
    · by_cases y : 5 ≤ x ∧ x < 58
      · rw [← pu_al5 F x j y.1 y.2, F2, Q3 x j hxj, m4 x j (by omega) (by omega)]
        exact hL x j y.1 y.2
      · unfold pu_sj
        rw [if_neg y, if_neg y]
    · have := z w hw2
      rw [← pu_al5 F 26 _ (by omega) (by omega), F2, Q4 w hw2] at this
      rw [Nat.zero_add]
      exact this
    · rw [← pu_al5 F 26 _ (by omega) (by omega), F2, Q4 w hw2]
      refine pu_Wd_fr2 (RW w hw2) (fun i hi => ?_)
      rw [FK _ (by omega) (by omega), Nat.add_assoc, KV _ (by omega)]
    · rw [← hF]
      simp [pu_wi_1]
    · rw [← hF, py_wi_o (by omega)]
      simp [pu_wi_1]
