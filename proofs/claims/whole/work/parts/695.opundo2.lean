/-! undo, both sides -/
theorem py_ne_lt {x : Int32} {P : Nat} (hP : P < 200) (h : x.toInt < P + 1) : (x.toInt < P) ↔ x ≠ nI P := by
  have tP := nl_n0 (a := P) (by omega)
  constructor
  · intro z q
    rw [q] at z
    omega
  · intro z
    have : x.toInt ≠ P := fun q => z (Int32.toInt_inj.mp (by rw [tP]; exact q))
    omega
theorem py_rz_c {a : Nat → Nat} {r r2 : Nat → Int32} {p : Int32} {i : Nat} (hi : ∀ k l, a k = a l → k = l) (h : py_rz a r r2 p i) {k : Nat} (hk : k < i) : (r (a k) = p ∧ r2 (a k) = -1) ∨ (r (a k) ≠ p ∧ r2 (a k) = r (a k)) := by
  by_cases c : r (a k) = p
  · exact Or.inl ⟨c, h.1 k hk c⟩
  · refine Or.inr ⟨c, h.2 _ (fun l hl hc q => c ?_)⟩
    rw [hi _ _ q]
    exact hc
set_option maxRecDepth 8000 in
theorem op_undo : pu_op pu_Inv 133 301 [] := by
  intro M h
  have hx := h.1
  have hI := pu_ag5 M
  have hr := pu_hR h
  have hw := pu_hS h
  have St0 := h.2.2.2.1
  generalize hIe : pu_si M 5 = I at *
  generalize hLe : pu_sj M 5 = L at *
  have bP := wx_bP hw
  have bU := wx_bU hw
  have bN := wx_bN hw
  have bK := wx_bK hw
  have bD := wx_bD hw
  have bT := wx_bT hw
  have n6 : M.1 6 2 = nI (cP I) := by rw [hI 6 2 (by omega) (by omega)]; exact wx_cP hw
  have h5 := rl_h5 hr
  have ff := fx_71_0 hx
  by_cases z : cP I = 0
  · rw [z, nI_0] at n6 h5
    have e1 : pu_r 132 [some (.ref 5)] [] M = some (some (.int (-1)), M) := by
      rw [qX5_takeBackLatest]
      simp [a_ent, bX5_takeBackLatest_0, bX5_takeBackLatest_16, bX5_takeBackLatest_54, a_ai, a_ald, a_cv, a_gi, a_gr, a_iceq, a_ifge, a_ild, a_iret, a_ist, a_isub, a_pi, a_push, fx_5_0 hx, fx_5_1 hx, fx_5_2 hx, fx_5_3 hx, fx_5_4 hx, fx_6_5 hx, fx_6_9 hx, sh_13, sh_14, sh_19, sh_25, sh_31, sh_5, sh_6, sh_9, pu_rv, pu_as, Value.category, pu_bk, pu_kl, List.replicate, pu_wi_1, pu_wi_2, nl_add, nl_ladd, nl_aa, nl_mul, nl_rmul, nl_mm, pu_qe0, pu_qe1, n6]
      all_goals try simp (maxSteps := 400000) (disch := omega) [nl_tle, nl_fle, nl_tlt, nl_flt, nl_teq, nl_feq, nl_sub, nl_ss, nl_lt, nl_llt, nl_ltt, nl_le, nl_lle, nl_lee, nl_eq, nl_leq, nl_ee, nl_div, nl_rem, nl_cl, nl_n1, nl_n2, nl_n3, nl_n4, nl_add, nl_ladd, nl_aa, nl_mul, nl_rmul, nl_mm, pu_wi_1, pu_wi_2, bX5_takeBackLatest_0, bX5_takeBackLatest_16, bX5_takeBackLatest_54, a_ai, a_ald, a_cv, a_gi, a_gr, a_iceq, a_ifge, a_ild, a_iret, a_ist, a_isub, a_pi, a_push, fx_5_0 hx, fx_5_1 hx, fx_5_2 hx, fx_5_3 hx, fx_5_4 hx, fx_6_5 hx, fx_6_9 hx, sh_13, sh_14, sh_19, sh_25, sh_31, sh_5, sh_6, sh_9, pu_rv, pu_as, Value.category, pu_bk, pu_kl, pu_qe0, pu_qe1, n6]
      all_goals try simp [bX5_takeBackLatest_0, bX5_takeBackLatest_16, bX5_takeBackLatest_54, a_ai, a_ald, a_cv, a_gi, a_gr, a_iceq, a_ifge, a_ild, a_iret, a_ist, a_isub, a_pi, a_push, fx_5_0 hx, fx_5_1 hx, fx_5_2 hx, fx_5_3 hx, fx_5_4 hx, fx_6_5 hx, fx_6_9 hx, sh_13, sh_14, sh_19, sh_25, sh_31, sh_5, sh_6, sh_9, pu_rv, pu_as, Value.category, pu_bk, pu_kl, List.replicate, pu_wi_1, pu_wi_2, nl_add, nl_ladd, nl_aa, nl_mul, nl_rmul, nl_mm, pu_qe0, pu_qe1, n6]
      all_goals try simp (maxSteps := 400000) (disch := omega) [nl_tle, nl_fle, nl_tlt, nl_flt, nl_teq, nl_feq, nl_sub, nl_ss, nl_lt, nl_llt, nl_ltt, nl_le, nl_lle, nl_lee, nl_eq, nl_leq, nl_ee, nl_div, nl_rem, nl_cl, nl_n1, nl_n2, nl_n3, nl_n4, nl_add, nl_ladd, nl_aa, nl_mul, nl_rmul, nl_mm, pu_wi_1, pu_wi_2, bX5_takeBackLatest_0, bX5_takeBackLatest_16, bX5_takeBackLatest_54, a_ai, a_ald, a_cv, a_gi, a_gr, a_iceq, a_ifge, a_ild, a_iret, a_ist, a_isub, a_pi, a_push, fx_5_0 hx, fx_5_1 hx, fx_5_2 hx, fx_5_3 hx, fx_5_4 hx, fx_6_5 hx, fx_6_9 hx, sh_13, sh_14, sh_19, sh_25, sh_31, sh_5, sh_6, sh_9, pu_rv, pu_as, Value.category, pu_bk, pu_kl, pu_qe0, pu_qe1, n6]
    refine ⟨-1, M, M, ?_, ?_, h⟩
    · rw [qX11_undo]
      simp [a_ent, bX11_undo_0, a_ald, a_cv, a_gr, a_iret, fx_0_2 hx, sh_0, sh_5, pu_rv, pu_as, Value.category, pu_bk, pu_kl, List.replicate, pu_wi_1, pu_wi_2, nl_add, nl_ladd, nl_aa, nl_mul, nl_rmul, nl_mm, pu_qe0, pu_qe1, e1]
      all_goals try simp (maxSteps := 400000) (disch := omega) [nl_tle, nl_fle, nl_tlt, nl_flt, nl_teq, nl_feq, nl_sub, nl_ss, nl_lt, nl_llt, nl_ltt, nl_le, nl_lle, nl_lee, nl_eq, nl_leq, nl_ee, nl_div, nl_rem, nl_cl, nl_n1, nl_n2, nl_n3, nl_n4, nl_add, nl_ladd, nl_aa, nl_mul, nl_rmul, nl_mm, pu_wi_1, pu_wi_2, bX11_undo_0, a_ald, a_cv, a_gr, a_iret, fx_0_2 hx, sh_0, sh_5, pu_rv, pu_as, Value.category, pu_bk, pu_kl, pu_qe0, pu_qe1, e1]
      all_goals try simp [bX11_undo_0, a_ald, a_cv, a_gr, a_iret, fx_0_2 hx, sh_0, sh_5, pu_rv, pu_as, Value.category, pu_bk, pu_kl, List.replicate, pu_wi_1, pu_wi_2, nl_add, nl_ladd, nl_aa, nl_mul, nl_rmul, nl_mm, pu_qe0, pu_qe1, e1]
      all_goals try simp (maxSteps := 400000) (disch := omega) [nl_tle, nl_fle, nl_tlt, nl_flt, nl_teq, nl_feq, nl_sub, nl_ss, nl_lt, nl_llt, nl_ltt, nl_le, nl_lle, nl_lee, nl_eq, nl_leq, nl_ee, nl_div, nl_rem, nl_cl, nl_n1, nl_n2, nl_n3, nl_n4, nl_add, nl_ladd, nl_aa, nl_mul, nl_rmul, nl_mm, pu_wi_1, pu_wi_2, bX11_undo_0, a_ald, a_cv, a_gr, a_iret, fx_0_2 hx, sh_0, sh_5, pu_rv, pu_as, Value.category, pu_bk, pu_kl, pu_qe0, pu_qe1, e1]
    · rw [qX12_undo]
      simp [a_ent, bX12_undo_0, bX12_undo_11, a_ai, a_ald, a_gr, a_iadd, a_ifne, a_ild, a_imul, a_iret, a_ist, a_isub, a_push, sh_71, sh_72, pu_rv, pu_as, Value.category, pu_bk, pu_kl, List.replicate, pu_wi_1, pu_wi_2, nl_add, nl_ladd, nl_aa, nl_mul, nl_rmul, nl_mm, pu_qe0, pu_qe1, ff, h5]
      all_goals try simp (maxSteps := 400000) (disch := omega) [nl_tle, nl_fle, nl_tlt, nl_flt, nl_teq, nl_feq, nl_sub, nl_ss, nl_lt, nl_llt, nl_ltt, nl_le, nl_lle, nl_lee, nl_eq, nl_leq, nl_ee, nl_div, nl_rem, nl_cl, nl_n1, nl_n2, nl_n3, nl_n4, nl_add, nl_ladd, nl_aa, nl_mul, nl_rmul, nl_mm, pu_wi_1, pu_wi_2, bX12_undo_0, bX12_undo_11, a_ai, a_ald, a_gr, a_iadd, a_ifne, a_ild, a_imul, a_iret, a_ist, a_isub, a_push, sh_71, sh_72, pu_rv, pu_as, Value.category, pu_bk, pu_kl, pu_qe0, pu_qe1, ff, h5]
      all_goals try simp [bX12_undo_0, bX12_undo_11, a_ai, a_ald, a_gr, a_iadd, a_ifne, a_ild, a_imul, a_iret, a_ist, a_isub, a_push, sh_71, sh_72, pu_rv, pu_as, Value.category, pu_bk, pu_kl, List.replicate, pu_wi_1, pu_wi_2, nl_add, nl_ladd, nl_aa, nl_mul, nl_rmul, nl_mm, pu_qe0, pu_qe1, ff, h5]
      all_goals try simp (maxSteps := 400000) (disch := omega) [nl_tle, nl_fle, nl_tlt, nl_flt, nl_teq, nl_feq, nl_sub, nl_ss, nl_lt, nl_llt, nl_ltt, nl_le, nl_lle, nl_lee, nl_eq, nl_leq, nl_ee, nl_div, nl_rem, nl_cl, nl_n1, nl_n2, nl_n3, nl_n4, nl_add, nl_ladd, nl_aa, nl_mul, nl_rmul, nl_mm, pu_wi_1, pu_wi_2, bX12_undo_0, bX12_undo_11, a_ai, a_ald, a_gr, a_iadd, a_ifne, a_ild, a_imul, a_iret, a_ist, a_isub, a_push, sh_71, sh_72, pu_rv, pu_as, Value.category, pu_bk, pu_kl, pu_qe0, pu_qe1, ff, h5]
  obtain ⟨P, hP⟩ : ∃ P, cP I = P + 1 := ⟨cP I - 1, by omega⟩
  have P2 : P < 200 := by omega
  have tP := nl_n0 (a := P) (by omega)
  have pp : nI (P + 1) - 1 = nI P := nI_pred P
  have nP : ¬ nI P = -1 := fun q => by rw [nl_n1 _ (by omega)] at q; exact q
  have nP0 : ¬ nI P < 0 := nI_pos (by omega)
  have nP0' : 0 ≤ nI P := Int32.not_lt.mp nP0
  rw [hP] at n6 h5
  obtain ⟨U, U1, U2⟩ := py_pref (o := I 17) (P := P) (cU I) (wx_um hw)
  obtain ⟨N, N1, N2⟩ := py_pref (o := I 22) (P := P) (cN I) (wx_nm hw)
  obtain ⟨K, K1, K2⟩ := py_pref (o := I 28) (P := P) (cK I) (fun k l a b => by
    by_cases q : k = l
    · rw [q]; exact Int.le_refl _
    · have := wx_km hw k l (by omega) b; omega)
  obtain ⟨D, D1, D2⟩ := py_pref (o := I 36) (P := P) (cD I) (fun k l a b => by
    by_cases q : k = l
    · rw [q]; exact Int.le_refl _
    · have := wx_dm hw k l (by omega) b; omega)
  have KK : K = cK I ∨ K + 1 = cK I := by
    by_cases q : K = cK I
    · exact Or.inl q
    · right
      apply Classical.byContradiction
      intro q2
      have a := wx_km hw K (K + 1) (by omega) (by omega)
      have b := wx_ko hw (K + 1) (by omega)
      have c : ¬ (I 28 K).toInt < P := fun y => by
        have := (K2 K (by omega)).mpr y
        omega
      omega
  have U3 : ∀ k, k < cU I → (k < U ↔ I 17 k ≠ nI P) := fun k hk => (U2 k hk).trans (py_ne_lt P2 (by have := wx_uo hw k hk; omega))
  have N3 : ∀ k, k < cN I → (k < N ↔ I 22 k ≠ nI P) := fun k hk => (N2 k hk).trans (py_ne_lt P2 (by have := wx_no hw k hk; omega))
  have K3 : ∀ k, k < cK I → (k < K ↔ I 28 k ≠ nI P) := fun k hk => (K2 k hk).trans (py_ne_lt P2 (by have := wx_ko hw k hk; omega))
  have D3 : ∀ k, k < cD I → (k < D ↔ I 36 k ≠ nI P) := fun k hk => (D2 k hk).trans (py_ne_lt P2 (by have := wx_do hw k hk; omega))
  -- the rule
  have RU : I 13 P = -1 ∨ ∃ k, k < cK I ∧ I 9 P = nI k ∧ I 13 P ≠ -1 := by
    by_cases q : I 13 P = -1
    · exact Or.inl q
    · have y := (wx_pr hw P (by omega)).2.2 q
      have x := pu_on (x := I 9 P) (n := cK I) ⟨y, (wx_pa hw P (by omega)).2⟩
      exact Or.inr ⟨_, x.2, x.1, q⟩
  obtain ⟨Q0, q0a, q0b, q0c, q0d⟩ : ∃ Q0 : pu_M, Q0.2 = M.2 ∧ (∀ x j, x ≠ 27 → Q0.1 x j = M.1 x j) ∧ ((I 13 P = -1 ∧ ∀ j, Q0.1 27 j = M.1 27 j) ∨ ∃ k, k < cK I ∧ I 9 P = nI k ∧ I 13 P ≠ -1 ∧ Q0 = pu_wi M 27 k (I 13 P)) ∧ pu_r 132 [some (.ref 5)] [] M = kX5_takeBackLatest_54 pu_r [some (.ref 5), some (.int (nI P))] [] Q0 := by
    have g0 := fx_5_0 hx
    have a13 := hI 13 P (by omega) (by omega)
    have a9 := hI 9 P (by omega) (by omega)
    rcases RU with c | ⟨k, k1, k2, c⟩
    · refine ⟨M, rfl, fun _ _ _ => rfl, Or.inl ⟨c, fun _ => rfl⟩, ?_⟩
      rw [c] at a13
      rw [qX5_takeBackLatest]
      simp [a_ent, bX5_takeBackLatest_0, bX5_takeBackLatest_16, a_ald, a_gr, a_gi, a_push, a_isub, a_ist, a_ild, a_ifge, a_ai, a_iceq, sh_5, sh_6, g0, n6, pp, nP0, nP0', fx_6_9 hx, sh_13, P2, pu_rv, pu_as, Value.category, pu_bk, pu_kl, List.replicate]
      simp (disch := omega) [nl_cl, nl_lle, nl_lt, nl_tlt, nl_tle, a13]
    · have sr := c_setRule hx hI hw k1 (I 13 P)
      refine ⟨pu_wi M 27 k (I 13 P), rfl, fun x j hxj => py_wi_o (by omega), Or.inr ⟨k, k1, k2, c, rfl⟩, ?_⟩
      rw [k2] at a9
      have c2 : ¬ M.1 13 P = -1 := by rw [a13]; exact c
      rw [qX5_takeBackLatest]
      simp [a_ent, bX5_takeBackLatest_0, bX5_takeBackLatest_16, a_ald, a_gr, a_gi, a_push, a_isub, a_ist, a_ild, a_ifge, a_ai, a_iceq, a_cv, sh_5, sh_6, sh_25, g0, n6, pp, nP0, nP0', fx_6_9 hx, fx_6_5 hx, fx_5_3 hx, sh_13, sh_9, P2, pu_rv, pu_as, Value.category, pu_bk, pu_kl, List.replicate]
      simp (disch := omega) [nl_cl, nl_lle, nl_lt, nl_tlt, nl_tle, a13, a9, c, c2, sr, pu_rv, pu_as, Value.category, pu_bk, pu_kl]
  have x0 : pu_fx Q0 := pz_fx_of hx q0a
  obtain ⟨F1, f1, f2⟩ := c_tb4 x0 (nI P) (cU I) U bU (by rw [q0b 14 0 (by omega), hI 14 0 (by omega) (by omega)]; exact wx_cU hw) U1 (fun k hk => by rw [q0b 17 k (by omega), hI 17 k (by omega) (by omega)]; exact U3 k hk)
  have m1 : (pu_wi F1 14 0 (nI U)).2 = M.2 := f1.1.trans q0a
  have o1 : ∀ x k, x ≠ 18 → x ≠ 27 → ¬ (x = 14 ∧ k = 0) → (pu_wi F1 14 0 (nI U)).1 x k = M.1 x k := fun x k a b c => by
    rw [py_wi_o c, f1.2.1 x k a, q0b x k b]
  obtain ⟨F2, f3, f4⟩ := c_tb3 (M := pu_wi F1 14 0 (nI U)) (pz_fx_of hx m1) (nI P) (cN I) N bN (by rw [o1 19 0 (by omega) (by omega) (by omega), hI 19 0 (by omega) (by omega)]; exact wx_cN hw) N1 (fun k hk => by rw [o1 22 k (by omega) (by omega) (by omega), hI 22 k (by omega) (by omega)]; exact N3 k hk)
  have m2 : (pu_wi F2 19 0 (nI N)).2 = M.2 := f3.1.trans m1
  have o2 : ∀ x k, x ≠ 18 → x ≠ 27 → x ≠ 23 → ¬ (x = 14 ∧ k = 0) → ¬ (x = 19 ∧ k = 0) → (pu_wi F2 19 0 (nI N)).1 x k = M.1 x k := fun x k a b c d e => by
    rw [py_wi_o e, f3.2.1 x k c, o1 x k a b d]
  obtain ⟨F3, f5, f6, f7, f8⟩ := c_tb10 (M := pu_wi F2 19 0 (nI N)) (pz_fx_of hx m2) (nI P) (cK I) K bK (by rw [o2 25 1 (by omega) (by omega) (by omega) (by omega) (by omega), hI 25 1 (by omega) (by omega)]; exact wx_cK hw) KK (fun k hk => by rw [o2 28 k (by omega) (by omega) (by omega) (by omega) (by omega), hI 28 k (by omega) (by omega)]; exact K3 k hk)
  have m3 : F3.2 = M.2 := f5.trans m2
  have o3 : ∀ x k, x ≠ 18 → x ≠ 27 → x ≠ 23 → ¬ (x = 14 ∧ k = 0) → ¬ (x = 19 ∧ k = 0) → ¬ (x = 25 ∧ k = 1) → F3.1 x k = M.1 x k := fun x k a b c d e f => by
    rw [f6 x k f, o2 x k a b c d e]
  obtain ⟨F4, F5, f9, f10, f11⟩ := c_tb2 (M := F3) (pz_fx_of hx m3) (nI P) (cD I) D bD (by rw [o3 31 0 (by omega) (by omega) (by omega) (by omega) (by omega) (by omega), hI 31 0 (by omega) (by omega)]; exact wx_cD hw) D1 (fun k hk => by rw [o3 36 k (by omega) (by omega) (by omega) (by omega) (by omega) (by omega), hI 36 k (by omega) (by omega)]; exact D3 k hk)
  have m5 : F5.2 = M.2 := f10.1.trans (f9.1.trans m3)
  have o5 : ∀ x k, x ≠ 18 → x ≠ 27 → x ≠ 23 → x ≠ 37 → x ≠ 38 → ¬ (39 ≤ x ∧ x ≤ 41) → ¬ (x = 14 ∧ k = 0) → ¬ (x = 19 ∧ k = 0) → ¬ (x = 25 ∧ k = 1) → ¬ (x = 31 ∧ k = 0) → F5.1 x k = M.1 x k := fun x k a b c d e f g i j l => by
    rw [f10.2.1 x k e f, py_wi_o l, f9.2.1 x k d, o3 x k a b c g i j]
  generalize hQ5 : pu_wi F5 6 2 (nI P) = Q5 at *
  have m6 : Q5.2 = M.2 := by rw [← hQ5]; exact m5
  have o6 : ∀ x k, ¬ (x = 6 ∧ k = 2) → Q5.1 x k = F5.1 x k := fun x k a => by rw [← hQ5, py_wi_o a]
  have x5 : pu_fx Q5 := pz_fx_of hx m6
  have o7 : ∀ x k, ¬ (x = 6 ∧ k = 2) → x ≠ 18 → x ≠ 27 → x ≠ 23 → x ≠ 37 → x ≠ 38 → ¬ (39 ≤ x ∧ x ≤ 41) → ¬ (x = 14 ∧ k = 0) → ¬ (x = 19 ∧ k = 0) → ¬ (x = 25 ∧ k = 1) → ¬ (x = 31 ∧ k = 0) → Q5.1 x k = M.1 x k := fun x k y a b c d e f g i j l => by
    rw [o6 x k y, o5 x k a b c d e f g i j l]
  have Q72 : Q5.1 72 = M.1 72 := funext (fun j => o7 72 j (by omega) (by omega) (by omega) (by omega) (by omega) (by omega) (by omega) (by omega) (by omega) (by omega) (by omega))
  have CL : pu_r 133 [some (.ref 0)] [] M = some (some (.int (nI P)), Q5) := by
    have e1 : pu_r 132 [some (.ref 5)] [] M = some (some (.int (nI P)), Q5) := by
      rw [q0d]
      have g1 := fx_5_1 hx
      have g2 := fx_5_2 hx
      have g3 := fx_5_3 hx
      have g4 := fx_5_4 hx
      have g0 := fx_5_0 hx
      have y1 : F1.2 = M.2 := m1
      have y2 : F2.2 = M.2 := m2
      simp [bX5_takeBackLatest_54, a_ald, a_cv, a_gr, a_ild, a_iret, a_pi, sh_14, sh_19, sh_25, sh_31, sh_5, sh_6, pu_rv, pu_as, Value.category, pu_bk, pu_kl, List.replicate, pu_wi_1, pu_wi_2, nl_add, nl_ladd, nl_aa, nl_mul, nl_rmul, nl_mm, pu_qe0, pu_qe1, q0a, y1, y2, m3, m5, g0, g1, g2, g3, g4, f2, f4, f8, f11, hQ5]
      all_goals try simp (maxSteps := 400000) (disch := omega) [nl_tle, nl_fle, nl_tlt, nl_flt, nl_teq, nl_feq, nl_sub, nl_ss, nl_lt, nl_llt, nl_ltt, nl_le, nl_lle, nl_lee, nl_eq, nl_leq, nl_ee, nl_div, nl_rem, nl_cl, nl_n1, nl_n2, nl_n3, nl_n4, nl_add, nl_ladd, nl_aa, nl_mul, nl_rmul, nl_mm, pu_wi_1, pu_wi_2, bX5_takeBackLatest_54, a_ald, a_cv, a_gr, a_ild, a_iret, a_pi, sh_14, sh_19, sh_25, sh_31, sh_5, sh_6, pu_rv, pu_as, Value.category, pu_bk, pu_kl, pu_qe0, pu_qe1, q0a, y1, y2, m3, m5, g0, g1, g2, g3, g4, f2, f4, f8, f11, hQ5]
      all_goals try simp [bX5_takeBackLatest_54, a_ald, a_cv, a_gr, a_ild, a_iret, a_pi, sh_14, sh_19, sh_25, sh_31, sh_5, sh_6, pu_rv, pu_as, Value.category, pu_bk, pu_kl, List.replicate, pu_wi_1, pu_wi_2, nl_add, nl_ladd, nl_aa, nl_mul, nl_rmul, nl_mm, pu_qe0, pu_qe1, q0a, y1, y2, m3, m5, g0, g1, g2, g3, g4, f2, f4, f8, f11, hQ5]
      all_goals try simp (maxSteps := 400000) (disch := omega) [nl_tle, nl_fle, nl_tlt, nl_flt, nl_teq, nl_feq, nl_sub, nl_ss, nl_lt, nl_llt, nl_ltt, nl_le, nl_lle, nl_lee, nl_eq, nl_leq, nl_ee, nl_div, nl_rem, nl_cl, nl_n1, nl_n2, nl_n3, nl_n4, nl_add, nl_ladd, nl_aa, nl_mul, nl_rmul, nl_mm, pu_wi_1, pu_wi_2, bX5_takeBackLatest_54, a_ald, a_cv, a_gr, a_ild, a_iret, a_pi, sh_14, sh_19, sh_25, sh_31, sh_5, sh_6, pu_rv, pu_as, Value.category, pu_bk, pu_kl, pu_qe0, pu_qe1, q0a, y1, y2, m3, m5, g0, g1, g2, g3, g4, f2, f4, f8, f11, hQ5]
    rw [qX11_undo]
    simp [a_ent, bX11_undo_0, a_ald, a_cv, a_gr, a_iret, fx_0_2 hx, sh_0, sh_5, pu_rv, pu_as, Value.category, pu_bk, pu_kl, List.replicate, pu_wi_1, pu_wi_2, nl_add, nl_ladd, nl_aa, nl_mul, nl_rmul, nl_mm, pu_qe0, pu_qe1, e1]
    all_goals try simp (maxSteps := 400000) (disch := omega) [nl_tle, nl_fle, nl_tlt, nl_flt, nl_teq, nl_feq, nl_sub, nl_ss, nl_lt, nl_llt, nl_ltt, nl_le, nl_lle, nl_lee, nl_eq, nl_leq, nl_ee, nl_div, nl_rem, nl_cl, nl_n1, nl_n2, nl_n3, nl_n4, nl_add, nl_ladd, nl_aa, nl_mul, nl_rmul, nl_mm, pu_wi_1, pu_wi_2, bX11_undo_0, a_ald, a_cv, a_gr, a_iret, fx_0_2 hx, sh_0, sh_5, pu_rv, pu_as, Value.category, pu_bk, pu_kl, pu_qe0, pu_qe1, e1]
    all_goals try simp [bX11_undo_0, a_ald, a_cv, a_gr, a_iret, fx_0_2 hx, sh_0, sh_5, pu_rv, pu_as, Value.category, pu_bk, pu_kl, List.replicate, pu_wi_1, pu_wi_2, nl_add, nl_ladd, nl_aa, nl_mul, nl_rmul, nl_mm, pu_qe0, pu_qe1, e1]
    all_goals try simp (maxSteps := 400000) (disch := omega) [nl_tle, nl_fle, nl_tlt, nl_flt, nl_teq, nl_feq, nl_sub, nl_ss, nl_lt, nl_llt, nl_ltt, nl_le, nl_lle, nl_lee, nl_eq, nl_leq, nl_ee, nl_div, nl_rem, nl_cl, nl_n1, nl_n2, nl_n3, nl_n4, nl_add, nl_ladd, nl_aa, nl_mul, nl_rmul, nl_mm, pu_wi_1, pu_wi_2, bX11_undo_0, a_ald, a_cv, a_gr, a_iret, fx_0_2 hx, sh_0, sh_5, pu_rv, pu_as, Value.category, pu_bk, pu_kl, pu_qe0, pu_qe1, e1]
  -- the reference
  have ff5 := fx_71_0 x5
  generalize hs : M.1 72 = s at *
  have ca := r_undoA (M := Q5) (nI P) (nI (28752 + 7 * P)) x5 U (cU I - U) (cU I) s none (by omega) bU (rl_h6 hr) (fun k hk => by rw [rl_u4 hr k hk]; exact U3 k hk)
  generalize hr1 : pu_us s 6 (nI U) = r1 at *
  have R1 : ∀ j, j ≠ 6 → r1 j = s j := fun j hj => by rw [← hr1, py_us_o hj]
  have r16 : r1 6 = nI U := by rw [← hr1, py_us_v]
  obtain ⟨r2, b1, b2⟩ := r_undoB (M := Q5) (nI P) (nI (28752 + 7 * P)) x5 U (by omega) r1 r16 U 0 r1 (by omega) ⟨fun k hk _ => by omega, fun j _ => rfl⟩
  have R2 : ∀ j, ¬ (∃ k, k < U ∧ j = 10752 + 6 * k + 5) → r2 j = r1 j := fun j hj => b1.2 j (fun k hk _ q => hj ⟨k, hk, q⟩)
  have cc := r_undoC (M := Q5) (nI P) (nI (28752 + 7 * P)) x5 N (cN I - N) (cN I) r2 (some (.int (nI U))) (by omega) bN (by rw [R2 7 (fun ⟨k, _, q⟩ => by omega), R1 7 (by omega)]; exact rl_h7 hr) (fun k hk => by rw [R2 _ (fun ⟨l, _, q⟩ => by omega), R1 _ (by omega), rl_n3 hr k hk]; exact N3 k hk)
  generalize hr3 : pu_us r2 7 (nI N) = r3 at *
  have R3 : ∀ j, j ≠ 7 → r3 j = r2 j := fun j hj => by rw [← hr3, py_us_o hj]
  have r37 : r3 7 = nI N := by rw [← hr3, py_us_v]
  obtain ⟨r4, d1, d2⟩ := r_undoD (M := Q5) (nI P) (nI (28752 + 7 * P)) x5 N (by omega) r3 r37 N 0 r3 (by omega) ⟨fun k hk _ => by omega, fun j _ => rfl⟩
  have R4 : ∀ j, ¬ (∃ k, k < N ∧ j = 7552 + 5 * k + 4) → r4 j = r3 j := fun j hj => d1.2 j (fun k hk _ q => hj ⟨k, hk, q⟩)
  -- below: rows that nothing of this touches
  have S4 : ∀ j, j ≠ 6 → j ≠ 7 → ¬ (∃ k, k < U ∧ j = 10752 + 6 * k + 5) → ¬ (∃ k, k < N ∧ j = 7552 + 5 * k + 4) → r4 j = s j := fun j a b c d => by
    rw [R4 j d, R3 j b, R2 j c, R1 j a]
  have ce := r_undoE (M := Q5) (nI P) (nI (28752 + 7 * P)) x5 D (cD I - D) (cD I) r4 (some (.int (nI N))) (by omega) bD (by rw [S4 4 (by omega) (by omega) (fun ⟨k, _, q⟩ => by omega) (fun ⟨k, _, q⟩ => by omega)]; exact rl_h4 hr) (fun k hk => by rw [S4 _ (by omega) (by omega) (fun ⟨k, _, q⟩ => by omega) (fun ⟨k, _, q⟩ => by omega), rl_d9 hr k hk]; exact D3 k hk)
  generalize hr5 : pu_us r4 4 (nI D) = r5 at *
  have R5 : ∀ j, j ≠ 4 → r5 j = r4 j := fun j hj => by rw [← hr5, py_us_o hj]
  have r54 : r5 4 = nI D := by rw [← hr5, py_us_v]
  obtain ⟨r6, e1, e2⟩ := r_undoF (M := Q5) (nI P) (nI (28752 + 7 * P)) x5 D (by omega) r5 r54 D 0 r5 (by omega) ⟨fun j _ => rfl, fun d hd => by omega⟩
  have S6 : ∀ j, j ≠ 4 → j ≠ 6 → j ≠ 7 → ¬ (∃ k, k < U ∧ j = 10752 + 6 * k + 5) → ¬ (∃ k, k < N ∧ j = 7552 + 5 * k + 4) → ¬ (9552 ≤ j ∧ j < 9552 + 12 * D) → r6 j = s j := fun j y a b c d e => by
    rw [e1.1 j e, R5 j y, S4 j a b c d]
  obtain ⟨r7, g1, g2⟩ := r_undoG (M := Q5) (nI P) (nI (28752 + 7 * P)) x5 (cT I) bT r6 (by rw [S6 2 (by omega) (by omega) (by omega) (fun ⟨k, _, q⟩ => by omega) (fun ⟨k, _, q⟩ => by omega) (by omega)]; exact rl_h2 hr) (cT I) 0 r6 (by omega) ⟨fun k hk _ => by omega, fun j _ => rfl⟩
  have R7 : ∀ j, ¬ (7520 ≤ j ∧ j < 7528) → r7 j = r6 j := fun j hj => g1.2 j (fun k hk _ (q : j = 7520 + k) => by omega)
  have S7 : ∀ j, j ≠ 4 → j ≠ 6 → j ≠ 7 → ¬ (∃ k, k < U ∧ j = 10752 + 6 * k + 5) → ¬ (∃ k, k < N ∧ j = 7552 + 5 * k + 4) → ¬ (9552 ≤ j ∧ j < 9552 + 12 * D) → ¬ (7520 ≤ j ∧ j < 7528) → r7 j = s j := fun j y a b c d e f => by
    rw [R7 j f, S6 j y a b c d e]
  have p6 : r7 (28752 + 7 * P + 6) = I 13 P := by rw [S7 _ (by omega) (by omega) (by omega) (fun ⟨k, _, q⟩ => by omega) (fun ⟨k, _, q⟩ => by omega) (by omega) (by omega)]; exact rl_p6 hr P (by omega)
  have p2 : r7 (28752 + 7 * P + 2) = I 9 P := by rw [S7 _ (by omega) (by omega) (by omega) (fun ⟨k, _, q⟩ => by omega) (fun ⟨k, _, q⟩ => by omega) (by omega) (by omega)]; exact rl_p2 hr P (by omega)
  obtain ⟨r8, i1, i2⟩ := r_undoR (M := Q5) (nI P) x5 P P2 r7 (some (.int (nI (cT I)))) (by
    rw [p6, p2]
    rcases RU with c | ⟨k, k1, k2, c⟩
    · exact Or.inl c
    · exact Or.inr ⟨k, by omega, k2, c⟩)
  rw [p6, p2] at i1
  have R8 : ∀ j, ¬ (7528 ≤ j ∧ j < 7552) → r8 j = r7 j := fun j hj => by
    rcases i1 with ⟨_, c⟩ | ⟨k, k1, k2, k3, c⟩
    · rw [c]
    · rw [c, py_us_o (by omega)]
  have S8 : ∀ j, j ≠ 4 → j ≠ 6 → j ≠ 7 → ¬ (∃ k, k < U ∧ j = 10752 + 6 * k + 5) → ¬ (∃ k, k < N ∧ j = 7552 + 5 * k + 4) → ¬ (9552 ≤ j ∧ j < 9552 + 12 * D) → ¬ (7520 ≤ j ∧ j < 7552) → r8 j = s j := fun j y a b c d e f => by
    rw [R8 j (by omega), S7 j y a b c d e (by omega)]
  have n8 : ∀ k, k < N → (s (7552 + 5 * k + 4) = nI P ∧ r8 (7552 + 5 * k + 4) = -1) ∨ (s (7552 + 5 * k + 4) ≠ nI P ∧ r8 (7552 + 5 * k + 4) = s (7552 + 5 * k + 4)) := fun k hk => by
    have a := py_rz_c (a := fun k => 7552 + 5 * k + 4) (fun k l (q : 7552 + 5 * k + 4 = 7552 + 5 * l + 4) => by omega) d1 hk
    have b : r3 (7552 + 5 * k + 4) = s (7552 + 5 * k + 4) := by
      rw [R3 _ (by omega), R2 _ (fun ⟨k, _, q⟩ => by omega), R1 _ (by omega)]
    have c : r8 (7552 + 5 * k + 4) = r4 (7552 + 5 * k + 4) := by
      rw [R8 _ (by omega), R7 _ (by omega), e1.1 _ (by omega), R5 _ (by omega)]
    rw [c, ← b]
    exact a
  have rn : ∀ j k, j < cN I → pz_nr I L s j k → I 22 k = I 22 j := fun j k hj q => by rw [← q.2.2.1, rl_n3 hr j hj]
  have j1 := r_undoH (M := Q5) (nI P) (nI (28752 + 7 * P)) x5 r8 N (by omega) (by rw [R8 7 (by omega), R7 7 (by omega), e1.1 7 (by omega), R5 7 (by omega), R4 7 (fun ⟨k, _, q⟩ => by omega)]; exact r37) P P2 (by rw [S8 5 (by omega) (by omega) (by omega) (fun ⟨k, _, q⟩ => by omega) (fun ⟨k, _, q⟩ => by omega) (by omega) (by omega)]; exact h5) K (cK I) bK KK (by rw [S8 3 (by omega) (by omega) (by omega) (fun ⟨k, _, q⟩ => by omega) (fun ⟨k, _, q⟩ => by omega) (by omega) (by omega)]; exact rl_h3 hr) (some (.int (nI (cT I)))) (fun k hk => by
    constructor
    · intro y
      obtain ⟨l, l1, l2, l3⟩ := wx_n3 hw P k (by omega) hk ((K2 k hk).mp y)
      obtain ⟨j, a1, a2⟩ := rl_na hr l l1
      have jN : j < N := (N2 j a1).mpr (by rw [← rn j l a1 a2]; exact l2.1)
      refine ⟨j, jN, ?_, ?_⟩
      · rw [S8 _ (by omega) (by omega) (by omega) (fun ⟨k, _, q⟩ => by omega) (fun ⟨k, _, q⟩ => by omega) (by omega) (by omega), a2.1]
        exact l3
      · rcases n8 j jN with v | v
        · exact v.2
        · rw [v.2, a2.2.2.2.1]
          rcases l2.2 with w | w
          · exact w
          · exfalso
            apply v.1
            rw [a2.2.2.2.1]
            have := (wx_nc hw l l1).2.1
            exact Int32.toInt_inj.mp (by rw [tP]; omega)
    · rintro ⟨j, j1, j2, j3⟩
      obtain ⟨l, l1, l2⟩ := rl_nb hr j (by omega)
      rw [S8 _ (by omega) (by omega) (by omega) (fun ⟨k, _, q⟩ => by omega) (fun ⟨k, _, q⟩ => by omega) (by omega) (by omega), l2.1] at j2
      have a := (wx_no hw l l1).2.2.1
      have b := (N2 j (by omega)).mp j1
      rw [← rn j l (by omega) l2] at b
      rw [j2, nl_cl _ (by omega)] at a
      exact (K2 k hk).mpr (by omega))
  generalize hr9 : pu_us (pu_us r8 3 (nI K)) 5 (nI P) = r9 at *
  have R9 : ∀ j, j ≠ 3 → j ≠ 5 → r9 j = r8 j := fun j a b => by rw [← hr9, py_us_o b, py_us_o a]
  have RE : pu_r 301 [some (.ref 71)] [] Q5 = some (some (.int (nI P)), py_mr Q5 r9) := by
    have e0 : Q5 = py_mr Q5 s := by
      rw [← Q72]
      exact (py_mr_i Q5).symm
    have h5' : Q5.1 72 5 = nI (P + 1) := by rw [Q72]; exact h5
    have ne : ¬ nI (P + 1) = 0 := by
      rw [show (0 : Int32) = nI 0 from rfl, nI_eq (by omega) (by omega)]
      omega
    rw [nI_0] at b2 d2 e2 g2
    rw [← e0] at ca
    rw [b2, cc, d2, ce, e2, g2, i2, j1] at ca
    rw [qX12_undo]
    simp [a_ent, bX12_undo_0, bX12_undo_11, a_ai, a_ald, a_gr, a_iadd, a_ifne, a_ild, a_imul, a_iret, a_ist, a_isub, a_push, sh_71, sh_72, pu_rv, pu_as, Value.category, pu_bk, pu_kl, List.replicate, pu_wi_1, pu_wi_2, nl_add, nl_ladd, nl_aa, nl_mul, nl_rmul, nl_mm, pu_qe0, pu_qe1, ff5, h5', ne, pp, ca]
    all_goals try simp (maxSteps := 400000) (disch := omega) [nl_tle, nl_fle, nl_tlt, nl_flt, nl_teq, nl_feq, nl_sub, nl_ss, nl_lt, nl_llt, nl_ltt, nl_le, nl_lle, nl_lee, nl_eq, nl_leq, nl_ee, nl_div, nl_rem, nl_cl, nl_n1, nl_n2, nl_n3, nl_n4, nl_add, nl_ladd, nl_aa, nl_mul, nl_rmul, nl_mm, pu_wi_1, pu_wi_2, bX12_undo_0, bX12_undo_11, a_ai, a_ald, a_gr, a_iadd, a_ifne, a_ild, a_imul, a_iret, a_ist, a_isub, a_push, sh_71, sh_72, pu_rv, pu_as, Value.category, pu_bk, pu_kl, pu_qe0, pu_qe1, ff5, h5', ne, pp, ca]
    all_goals try simp [bX12_undo_0, bX12_undo_11, a_ai, a_ald, a_gr, a_iadd, a_ifne, a_ild, a_imul, a_iret, a_ist, a_isub, a_push, sh_71, sh_72, pu_rv, pu_as, Value.category, pu_bk, pu_kl, List.replicate, pu_wi_1, pu_wi_2, nl_add, nl_ladd, nl_aa, nl_mul, nl_rmul, nl_mm, pu_qe0, pu_qe1, ff5, h5', ne, pp, ca]
    all_goals try simp (maxSteps := 400000) (disch := omega) [nl_tle, nl_fle, nl_tlt, nl_flt, nl_teq, nl_feq, nl_sub, nl_ss, nl_lt, nl_llt, nl_ltt, nl_le, nl_lle, nl_lee, nl_eq, nl_leq, nl_ee, nl_div, nl_rem, nl_cl, nl_n1, nl_n2, nl_n3, nl_n4, nl_add, nl_ladd, nl_aa, nl_mul, nl_rmul, nl_mm, pu_wi_1, pu_wi_2, bX12_undo_0, bX12_undo_11, a_ai, a_ald, a_gr, a_iadd, a_ifne, a_ild, a_imul, a_iret, a_ist, a_isub, a_push, sh_71, sh_72, pu_rv, pu_as, Value.category, pu_bk, pu_kl, pu_qe0, pu_qe1, ff5, h5', ne, pp, ca]
  refine ⟨nI P, Q5, py_mr Q5 r9, CL, RE, ?_⟩
  have JQ : ∀ y j, 5 ≤ y → y < 58 → pu_si (py_mr Q5 r9) 5 y j = Q5.1 y j := fun y j a1 a2 => by
    rw [← pu_ag5 (py_mr Q5 r9) y j a1 a2, py_mr_o Q5 r9 (by omega)]
  have eL : pu_sj (py_mr Q5 r9) 5 = L := by
    rw [← hLe]
    exact pu_sj_eq (fun a j _ _ => by rw [py_mr_2, m6])
  refine pu_Inv_all h (by rw [py_mr_2, m6]) (fun a j _ => by rw [py_mr_2, m6]) (fun a j q => ?_) ?_
  · rw [py_mr_o Q5 r9 (by omega)]
    exact o7 a j (by omega) (by omega) (by omega) (by omega) (by omega) (by omega) (by omega) (by omega) (by omega) (by omega) (by omega)
  rw [eL, show (py_mr Q5 r9).1 72 = r9 from rfl]
  generalize hJ : pu_si (py_mr Q5 r9) 5 = J at *
  have JI : ∀ x j, ¬ (x = 6 ∧ j = 2) → ¬ (x = 14 ∧ j = 0) → ¬ (x = 19 ∧ j = 0) → ¬ (x = 25 ∧ j = 1) → ¬ (x = 31 ∧ j = 0) → x ≠ 18 → x ≠ 23 → x ≠ 27 → x ≠ 37 → x ≠ 38 → ¬ (39 ≤ x ∧ x ≤ 41) → J x j = I x j := fun x j a1 a2 a3 a4 a5 a6 a7 a8 a9 a10 a11 => by
    by_cases y : 5 ≤ x ∧ x < 58
    · rw [JQ x j y.1 y.2, o7 x j a1 a6 a8 a7 a9 a10 a11 a2 a3 a4 a5]
      exact hI x j y.1 y.2
    · rw [← hJ, ← hIe]
      unfold pu_si
      rw [if_neg y, if_neg y]
  have j62 : J 6 2 = nI P := by
    rw [JQ 6 2 (by omega) (by omega), ← hQ5]
    simp [pu_wi_1]
  have j14 : J 14 0 = nI U := by
    rw [JQ 14 0 (by omega) (by omega), o6 14 0 (by omega), f10.2.1 14 0 (by omega) (by omega), py_wi_o (by omega), f9.2.1 14 0 (by omega), f6 14 0 (by omega), py_wi_o (by omega), f3.2.1 14 0 (by omega)]
    simp [pu_wi_1]
  have j19 : J 19 0 = nI N := by
    rw [JQ 19 0 (by omega) (by omega), o6 19 0 (by omega), f10.2.1 19 0 (by omega) (by omega), py_wi_o (by omega), f9.2.1 19 0 (by omega), f6 19 0 (by omega)]
    simp [pu_wi_1]
  have j25 : J 25 1 = nI K := by
    rw [JQ 25 1 (by omega) (by omega), o6 25 1 (by omega), f10.2.1 25 1 (by omega) (by omega), py_wi_o (by omega), f9.2.1 25 1 (by omega)]
    exact f7
  have j31 : J 31 0 = nI D := by
    rw [JQ 31 0 (by omega) (by omega), o6 31 0 (by omega), f10.2.1 31 0 (by omega) (by omega)]
    simp [pu_wi_1]
  have cUJ : cU J = U := pz_cc j14 (by omega)
  have cNJ : cN J = N := pz_cc j19 (by omega)
  have cKJ : cK J = K := pz_cc j25 (by omega)
  have cDJ : cD J = D := pz_cc j31 (by omega)
  have cPJ : cP J = P := pz_cc j62 (by omega)
  have ub : py_ub I J P := by
    refine ⟨fun k => ?_, fun k => ?_, fun k => ?_, fun k => ?_⟩
    · rw [cUJ]
      exact ⟨fun y => ⟨by omega, (U2 k (by omega)).mp y⟩, fun y => (U2 k y.1).mpr y.2⟩
    · rw [cNJ]
      exact ⟨fun y => ⟨by omega, (N2 k (by omega)).mp y⟩, fun y => (N2 k y.1).mpr y.2⟩
    · rw [cKJ]
      exact ⟨fun y => ⟨by omega, (K2 k (by omega)).mp y⟩, fun y => (K2 k y.1).mpr y.2⟩
    · rw [cDJ]
      exact ⟨fun y => ⟨by omega, (D2 k (by omega)).mp y⟩, fun y => (D2 k y.1).mpr y.2⟩
  have uc : py_uc I J P := by
    refine ⟨fun k hk => ?_, fun k hk => ?_, fun d hd => ?_, fun d hd => ?_, fun x d h1 h2 hd => ?_⟩
    · rw [cUJ] at hk
      have a : J 18 k = F1.1 18 k := by
        rw [JQ 18 k (by omega) (by omega), o6 18 k (by omega), f10.2.1 18 k (by omega) (by omega), py_wi_o (by omega), f9.2.1 18 k (by omega), f6 18 k (by omega), py_wi_o (by omega), f3.2.1 18 k (by omega), py_wi_o (by omega)]
      have b : Q0.1 18 k = I 18 k := by rw [q0b 18 k (by omega)]; exact hI 18 k (by omega) (by omega)
      rw [a]
      by_cases c : I 18 k = nI P
      · exact Or.inl ⟨c, (f1.2.2 k).1 ⟨by omega, by rw [b]; exact c⟩⟩
      · exact Or.inr ⟨c, by rw [(f1.2.2 k).2 (fun y => c (by rw [← b]; exact y.2))]; exact b⟩
    · rw [cNJ] at hk
      have a : J 23 k = F2.1 23 k := by
        rw [JQ 23 k (by omega) (by omega), o6 23 k (by omega), f10.2.1 23 k (by omega) (by omega), py_wi_o (by omega), f9.2.1 23 k (by omega), f6 23 k (by omega), py_wi_o (by omega)]
      have b : (pu_wi F1 14 0 (nI U)).1 23 k = I 23 k := by rw [o1 23 k (by omega) (by omega) (by omega)]; exact hI 23 k (by omega) (by omega)
      rw [a]
      by_cases c : I 23 k = nI P
      · exact Or.inl ⟨c, (f3.2.2 k).1 ⟨by omega, by rw [b]; exact c⟩⟩
      · exact Or.inr ⟨c, by rw [(f3.2.2 k).2 (fun y => c (by rw [← b]; exact y.2))]; exact b⟩
    · rw [cDJ] at hd
      have a : J 37 d = F4.1 37 d := by
        rw [JQ 37 d (by omega) (by omega), o6 37 d (by omega), f10.2.1 37 d (by omega) (by omega), py_wi_o (by omega)]
      have b : F3.1 37 d = I 37 d := by rw [o3 37 d (by omega) (by omega) (by omega) (by omega) (by omega) (by omega)]; exact hI 37 d (by omega) (by omega)
      rw [a]
      by_cases c : I 37 d = nI P
      · exact Or.inl ⟨c, (f9.2.2 d).1 ⟨by omega, by rw [b]; exact c⟩⟩
      · exact Or.inr ⟨c, by rw [(f9.2.2 d).2 (fun y => c (by rw [← b]; exact y.2))]; exact b⟩
    · rw [cDJ] at hd
      have b : ∀ x k, x = 38 ∨ (39 ≤ x ∧ x ≤ 41) → (pu_wi F4 31 0 (nI D)).1 x k = I x k := fun x k hxk => by
        rw [py_wi_o (by omega), f9.2.1 x k (by omega), o3 x k (by omega) (by omega) (by omega) (by omega) (by omega) (by omega)]
        exact hI x k (by omega) (by omega)
      rw [JQ 38 d (by omega) (by omega), o6 38 d (by omega), JQ 39 _ (by omega) (by omega), o6 39 _ (by omega), JQ 40 _ (by omega) (by omega), o6 40 _ (by omega), JQ 41 _ (by omega) (by omega), o6 41 _ (by omega)]
      by_cases c : I 38 d = nI P
      · exact Or.inl ⟨c, (f10.2.2.1 d).1 ⟨by omega, by rw [b 38 d (Or.inl rfl)]; exact c⟩⟩
      · have y := (f10.2.2.1 d).2 (fun y => c (by rw [← b 38 d (Or.inl rfl)]; exact y.2))
        refine Or.inr ⟨c, by rw [y.1]; exact b 38 d (Or.inl rfl), fun x h1 h2 => ?_⟩
        rw [JQ x _ (by omega) (by omega), o6 x _ (by omega), y.2 x h1 h2]
        exact b x _ (Or.inr ⟨h1, h2⟩)
    · rw [JQ x _ (by omega) (by omega), o6 x _ (by omega), f10.2.2.2 x d h1 h2, py_wi_o (by omega), f9.2.1 x _ (by omega), o3 x _ (by omega) (by omega) (by omega) (by omega) (by omega) (by omega)]
      exact hI x _ (by omega) (by omega)
  have j27 : ∀ k, J 27 k = Q0.1 27 k := fun k => by
    rw [JQ 27 k (by omega) (by omega), o6 27 k (by omega), f10.2.1 27 k (by omega) (by omega), py_wi_o (by omega), f9.2.1 27 k (by omega), f6 27 k (by omega), py_wi_o (by omega), f3.2.1 27 k (by omega), py_wi_o (by omega), f1.2.1 27 k (by omega)]
  have rul : ∀ k, k < cK J → (0 ≤ (J 27 k).toInt ∧ (J 27 k).toInt ≤ 3) ∧ r9 (7528 + k) = J 27 k := fun k hk => by
    rw [cKJ] at hk
    have a := wx_kr hw k (by omega)
    have b := rl_k0 hr k (by omega)
    have c := hI 27 k (by omega) (by omega)
    have e : r7 (7528 + k) = s (7528 + k) := S7 _ (by omega) (by omega) (by omega) (fun ⟨k, _, q⟩ => by omega) (fun ⟨k, _, q⟩ => by omega) (by omega) (by omega)
    rw [j27, R9 _ (by omega) (by omega)]
    rcases q0c with ⟨c1, c2⟩ | ⟨l, l1, l2, l3, l4⟩
    · rw [c2, c]
      refine ⟨a, ?_⟩
      rcases i1 with ⟨_, y⟩ | ⟨_, _, _, y, _⟩
      · rw [y, e]; exact b
      · exact absurd c1 y
    · rcases i1 with ⟨y, _⟩ | ⟨m, m1, m2, m3, m4⟩
      · exact absurd y l3
      · have lm : l = m := by
          rw [l2, nI_eq (by omega) (by omega)] at m2
          exact m2
        subst lm
        rw [l4, m4]
        by_cases y : k = l
        · subst y
          rw [py_us_v]
          have w := wx_pr hw P (by omega)
          have w0 := pu_ne1 w.1 l3
          refine ⟨?_, ?_⟩
          · simp only [pu_wi_1]
            simp
            exact ⟨w0, w.2.1⟩
          · simp [pu_wi_1]
        · rw [py_wi_o (by omega), py_us_o (by omega), c, e]
          exact ⟨a, b⟩
  have wf : pu_WF J L := WF_undo hw hP ub uc JI (fun k hk => (rul k hk).1) ⟨j62, by rw [cUJ]; exact j14, by rw [cNJ]; exact j19, by rw [cKJ]; exact j25, by rw [cDJ]; exact j31⟩
  refine ⟨wf, Rel_undo hw hr hP ub uc JI cPJ ⟨?_, ?_, ?_, ?_, ?_⟩ (fun k hk => ?_) (fun k hk => ?_) (fun d hd => ?_) (fun k hk => ?_) (fun k hk => (rul k hk).2) (fun j a1 a2 a3 a4 a5 => ?_)⟩
  · rw [cKJ, ← hr9, py_us_o (by omega), py_us_v]
  · rw [cDJ, R9 4 (by omega) (by omega), R8 4 (by omega), R7 4 (by omega), e1.1 4 (by omega)]; exact r54
  · rw [← hr9, py_us_v]
  · rw [cUJ, R9 6 (by omega) (by omega), R8 6 (by omega), R7 6 (by omega), e1.1 6 (by omega), R5 6 (by omega), R4 6 (fun ⟨k, _, q⟩ => by omega), R3 6 (by omega), R2 6 (fun ⟨k, _, q⟩ => by omega)]; exact r16
  · rw [cNJ, R9 7 (by omega) (by omega), R8 7 (by omega), R7 7 (by omega), e1.1 7 (by omega), R5 7 (by omega), R4 7 (fun ⟨k, _, q⟩ => by omega)]; exact r37
  · rw [cUJ] at hk
    have a := py_rz_c (a := fun k => 10752 + 6 * k + 5) (fun k l (q : 10752 + 6 * k + 5 = 10752 + 6 * l + 5) => by omega) b1 hk
    have b : r1 (10752 + 6 * k + 5) = s (10752 + 6 * k + 5) := R1 _ (by omega)
    have c : r9 (10752 + 6 * k + 5) = r2 (10752 + 6 * k + 5) := by
      rw [R9 _ (by omega) (by omega), R8 _ (by omega), R7 _ (by omega), e1.1 _ (by omega), R5 _ (by omega), R4 _ (fun ⟨k, _, q⟩ => by omega), R3 _ (by omega)]
    rw [c, ← b]
    exact a
  · rw [cNJ] at hk
    rw [R9 _ (by omega) (by omega)]
    exact n8 k hk
  · rw [cDJ] at hd
    obtain ⟨q, v1, v2, v3⟩ := e1.2 d hd
    have se : ∀ j, 9552 + 12 * d ≤ j → j < 9552 + 12 * d + 12 → r5 j = s j := fun j y1 y2 => by
      rw [R5 j (by omega)]
      exact S4 j (by omega) (by omega) (fun ⟨k, _, q⟩ => by omega) (fun ⟨k, _, q⟩ => by omega)
    obtain ⟨t, t1, t2⟩ : ∃ t : Nat → Int32, (∀ j, 9552 + 12 * d ≤ j → j < 9552 + 12 * d + 12 → t j = q j) ∧ (∀ j, ¬ (9552 + 12 * d ≤ j ∧ j < 9552 + 12 * d + 12) → t j = s j) := ⟨fun j => if 9552 + 12 * d ≤ j ∧ j < 9552 + 12 * d + 12 then q j else s j, fun j a b => if_pos ⟨a, b⟩, fun j a => if_neg a⟩
    obtain ⟨u1, u2, u3, u4⟩ := v3
    refine ⟨t, fun j y1 y2 => ?_, t2, fun i hi => ?_, ?_, ?_⟩
    · rw [t1 j y1 y2, v1 j y1 y2, R9 j (by omega) (by omega), R8 j (by omega), R7 j (by omega)]
    · rw [t1 _ (by omega) (by omega), u2 i hi, se _ (by omega) (by omega)]
    · rw [t1 _ (by omega) (by omega), ← se _ (by omega) (by omega)]
      exact u3
    · rw [t1 _ (by omega) (by omega), t1 (9552 + 12 * d + 11) (by omega) (by omega), t1 (9552 + 12 * d + 4) (by omega) (by omega), t1 (9552 + 12 * d + 5) (by omega) (by omega), t1 (9552 + 12 * d + 6) (by omega) (by omega), ← se (9552 + 12 * d + 11) (by omega) (by omega), ← se (9552 + 12 * d) (by omega) (by omega)]
      rcases u4 with v | v
      · exact Or.inl v
      · refine Or.inr ⟨v.1, v.2.1, fun j hj => ?_⟩
        rw [t1 _ (by omega) (by omega), ← se _ (by omega) (by omega)]
        exact v.2.2 j hj
  · have a := py_rz_c (a := fun k => 7520 + k) (fun k l (q : 7520 + k = 7520 + l) => by omega) g1 hk
    have b : r6 (7520 + k) = s (7520 + k) := S6 _ (by omega) (by omega) (by omega) (fun ⟨k, _, q⟩ => by omega) (fun ⟨k, _, q⟩ => by omega) (by omega)
    have c : r9 (7520 + k) = r7 (7520 + k) := by
      rw [R9 _ (by omega) (by omega), R8 _ (by omega)]
    rw [c, ← b]
    exact a
  · rw [cUJ] at a2
    rw [cNJ] at a3
    rw [R9 j (by omega) (by omega), S8 j (by omega) (by omega) (by omega) a2 a3 (by omega) (by omega)]
