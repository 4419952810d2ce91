/-! join: the reference moves the names -/
section
variable {I : Nat → Nat → Int32} {L : Nat → Nat → Int64}
/-- the reference's span j is street st's open one -/
def py_os (I : Nat → Nat → Int32) (L : Nat → Nat → Int64) (s : Nat → Int32) (st j : Nat) : Prop := j < cN I ∧ ∃ k, pu_no I st k ∧ pz_nr I L s j k
theorem py_os_ex {s : Nat → Int32} (hw : pu_WF I L) (hn : rl_n I L s) {st : Nat} (h : st < cK I) : ∃ j, py_os I L s st j := by
  obtain ⟨k, hk⟩ := pu_no_ex hw h
  obtain ⟨j, j1, j2⟩ := hn.1 k hk.1
  exact ⟨j, j1, k, hk, j2⟩
theorem py_os_un {s : Nat → Int32} (hw : pu_WF I L) (hn : rl_n I L s) {st j l : Nat} (h1 : py_os I L s st j) (h2 : py_os I L s st l) : j = l := by
  obtain ⟨a1, k, a2, a3⟩ := h1
  obtain ⟨b1, k', b2, b3⟩ := h2
  have e := pu_no_un hw a2 b2
  subst e
  exact hn.2.2.2 j l a1 b1 (a3.1.trans b3.1.symm) (a3.2.2.1.trans b3.2.2.1.symm)
theorem py_os_st {s : Nat → Int32} {st j : Nat} (h : py_os I L s st j) : s (7552 + 5 * j) = nI st ∧ s (7552 + 5 * j + 4) = -1 := by
  obtain ⟨a1, k, a2, a3⟩ := h
  exact ⟨a3.1.trans a2.2.1, a3.2.2.2.1.trans a2.2.2⟩
/-- the streets before i have been looked at -/
def py_rv (I : Nat → Nat → Int32) (L : Nat → Nat → Int64) (R N : pu_M) (a b p : Int32) (i : Nat) : Prop :=
  N.2 = R.2 ∧ N.1 72 7 = nI (cN I + py_mc (py_in I b) i) ∧
  (∀ st j, st < i → py_in I b st → py_os I L (R.1 72) st j → N.1 72 (7552 + 5 * j + 4) = p ∧ N.1 72 (7552 + 5 * (cN I + py_mc (py_in I b) st)) = nI st ∧ N.1 72 (7552 + 5 * (cN I + py_mc (py_in I b) st) + 1) = a ∧ N.1 72 (7552 + 5 * (cN I + py_mc (py_in I b) st) + 2) = R.1 72 (7552 + 5 * j + 2) ∧ N.1 72 (7552 + 5 * (cN I + py_mc (py_in I b) st) + 3) = p ∧ N.1 72 (7552 + 5 * (cN I + py_mc (py_in I b) st) + 4) = -1) ∧
  (∀ y j, y ≠ 72 → N.1 y j = R.1 y j) ∧
  (∀ j, j ≠ 7 → ¬ (7552 + 5 * cN I ≤ j ∧ j < 9552) → (∀ st l, st < i → py_in I b st → py_os I L (R.1 72) st l → j ≠ 7552 + 5 * l + 4) → N.1 72 j = R.1 72 j)
theorem py_rv_u {R N : pu_M} {a b p : Int32} {i : Nat} (hw : pu_WF I L) (hn : rl_n I L (R.1 72)) (hi : i < cK I) (hb : cN I + py_mc (py_in I b) i ≤ 400) (S : py_rv I L R N a b p i) {j0 : Nat} (hj : py_os I L (R.1 72) i j0) : ∀ j, j < cN I + py_mc (py_in I b) i → (N.1 72 (7552 + 5 * j) = nI i ∧ N.1 72 (7552 + 5 * j + 4) = -1 ↔ j = j0) := by
  obtain ⟨s1, s2, s3, s4, s5⟩ := S
  have bK := wx_bK hw
  have jn := hj.1
  intro j hj2
  by_cases z : j < cN I
  · have g0 : N.1 72 (7552 + 5 * j) = R.1 72 (7552 + 5 * j) := s5 _ (by omega) (by omega) (fun st l _ _ _ => by omega)
    have g4 : R.1 72 (7552 + 5 * j) = nI i → N.1 72 (7552 + 5 * j + 4) = R.1 72 (7552 + 5 * j + 4) := fun q => s5 _ (by omega) (by omega) (fun st l a1 a2 a3 e => by
      have e2 : l = j := by omega
      subst e2
      have := (py_os_st a3).1
      rw [q, nI_eq (by omega) (by omega)] at this
      omega)
    constructor
    · rintro ⟨q1, q2⟩
      rw [g0] at q1
      rw [g4 q1] at q2
      obtain ⟨k, k1, k2⟩ := hn.2.1 j z
      exact py_os_un hw hn ⟨z, k, ⟨k1, k2.1.symm.trans q1, k2.2.2.2.1.symm.trans q2⟩, k2⟩ hj
    · intro q
      subst q
      have y := py_os_st hj
      exact ⟨g0.trans y.1, (g4 y.1).trans y.2⟩
  · constructor
    · rintro ⟨q1, _⟩
      obtain ⟨st, t1, t2, t3⟩ := py_mc_on (P := py_in I b) (n := i) (c := j - cN I) (by omega)
      obtain ⟨l, hl⟩ := py_os_ex hw hn (st := st) (by omega)
      have y := (s3 st l t1 t2 hl).2.1
      rw [t3, show cN I + (j - cN I) = j by omega, q1, nI_eq (by omega) (by omega)] at y
      omega
    · intro q
      omega
theorem r_move {R : pu_M} (hxR : pu_fx R) (hw : pu_WF I L) (hn : rl_n I L (R.1 72)) (h3 : R.1 72 3 = nI (cK I)) {a b f e c sm p : Int32} (hp : p ≠ -1) (hb : cN I + py_mc (py_in I b) (cK I) ≤ 400) : ∀ m i (N : pu_M) (t9 : Option Value), i + m = cK I → py_rv I L R N a b p i → ∃ F, py_rv I L R F a b p (cK I) ∧ pu_r 455 [some (.ref 71), some (.int a), some (.int b), some (.int f), some (.int e), some (.int c), some (.int sm), some (.int p), some (.int (nI i)), t9] [] N = some (some (.int c), F)
  | 0, i, N, t9, h, S => by
    have bK := wx_bK hw
    have ei : i = cK I := by omega
    subst ei
    refine ⟨N, S, ?_⟩
    obtain ⟨s1, s2, s3, s4, s5⟩ := S
    have hx : pu_fx N := pz_fx_of hxR s1
    have ff := fx_71_0 hx
    have g3 : N.1 72 3 = nI (cK I) := by rw [s5 3 (by omega) (by omega) (fun _ _ _ _ _ => by omega)]; exact h3
    have hc : nI (cK I) ≤ nI (cK I) := nI_le (by omega) (by omega)
    rw [qX12_join_316]
    simp [bX12_join_316, bX12_join_395, bX12_join_340, bX12_join_380, bX12_join_389, a_ai, a_ald, a_cv, a_gr, a_iadd, a_iceq, a_icge, a_ild, a_imul, a_inc, a_iret, a_ist, a_push, a_wi, sh_71, sh_72, pu_rv, pu_as, Value.category, pu_bk, pu_kl, List.replicate, pu_wi_1, pu_wi_2, nl_add, nl_ladd, nl_aa, nl_mul, nl_rmul, nl_mm, pu_qe0, pu_qe1, ff, g3, hc]
    all_goals try simp (maxSteps := 400000) (disch := omega) [nl_tle, nl_fle, nl_tlt, nl_flt, nl_teq, nl_feq, nl_sub, nl_ss, nl_lt, nl_llt, nl_ltt, nl_le, nl_lle, nl_lee, nl_eq, nl_leq, nl_ee, nl_div, nl_rem, nl_cl, nl_n1, nl_n2, nl_n3, nl_n4, nl_add, nl_ladd, nl_aa, nl_mul, nl_rmul, nl_mm, pu_wi_1, pu_wi_2, bX12_join_316, bX12_join_395, bX12_join_340, bX12_join_380, bX12_join_389, a_ai, a_ald, a_cv, a_gr, a_iadd, a_iceq, a_icge, a_ild, a_imul, a_inc, a_iret, a_ist, a_push, a_wi, sh_71, sh_72, pu_rv, pu_as, Value.category, pu_bk, pu_kl, pu_qe0, pu_qe1, ff, g3, hc]
    all_goals try simp [bX12_join_316, bX12_join_395, bX12_join_340, bX12_join_380, bX12_join_389, a_ai, a_ald, a_cv, a_gr, a_iadd, a_iceq, a_icge, a_ild, a_imul, a_inc, a_iret, a_ist, a_push, a_wi, sh_71, sh_72, pu_rv, pu_as, Value.category, pu_bk, pu_kl, List.replicate, pu_wi_1, pu_wi_2, nl_add, nl_ladd, nl_aa, nl_mul, nl_rmul, nl_mm, pu_qe0, pu_qe1, ff, g3, hc]
    all_goals try simp (maxSteps := 400000) (disch := omega) [nl_tle, nl_fle, nl_tlt, nl_flt, nl_teq, nl_feq, nl_sub, nl_ss, nl_lt, nl_llt, nl_ltt, nl_le, nl_lle, nl_lee, nl_eq, nl_leq, nl_ee, nl_div, nl_rem, nl_cl, nl_n1, nl_n2, nl_n3, nl_n4, nl_add, nl_ladd, nl_aa, nl_mul, nl_rmul, nl_mm, pu_wi_1, pu_wi_2, bX12_join_316, bX12_join_395, bX12_join_340, bX12_join_380, bX12_join_389, a_ai, a_ald, a_cv, a_gr, a_iadd, a_iceq, a_icge, a_ild, a_imul, a_inc, a_iret, a_ist, a_push, a_wi, sh_71, sh_72, pu_rv, pu_as, Value.category, pu_bk, pu_kl, pu_qe0, pu_qe1, ff, g3, hc]
    all_goals try simp [bX12_join_316, bX12_join_395, bX12_join_340, bX12_join_380, bX12_join_389, a_ai, a_ald, a_cv, a_gr, a_iadd, a_iceq, a_icge, a_ild, a_imul, a_inc, a_iret, a_ist, a_push, a_wi, sh_71, sh_72, pu_rv, pu_as, Value.category, pu_bk, pu_kl, List.replicate, pu_wi_1, pu_wi_2, nl_add, nl_ladd, nl_aa, nl_mul, nl_rmul, nl_mm, pu_qe0, pu_qe1, ff, g3, hc]
    all_goals try simp (maxSteps := 400000) (disch := omega) [nl_tle, nl_fle, nl_tlt, nl_flt, nl_teq, nl_feq, nl_sub, nl_ss, nl_lt, nl_llt, nl_ltt, nl_le, nl_lle, nl_lee, nl_eq, nl_leq, nl_ee, nl_div, nl_rem, nl_cl, nl_n1, nl_n2, nl_n3, nl_n4, nl_add, nl_ladd, nl_aa, nl_mul, nl_rmul, nl_mm, pu_wi_1, pu_wi_2, bX12_join_316, bX12_join_395, bX12_join_340, bX12_join_380, bX12_join_389, a_ai, a_ald, a_cv, a_gr, a_iadd, a_iceq, a_icge, a_ild, a_imul, a_inc, a_iret, a_ist, a_push, a_wi, sh_71, sh_72, pu_rv, pu_as, Value.category, pu_bk, pu_kl, pu_qe0, pu_qe1, ff, g3, hc]
    all_goals try simp [bX12_join_316, bX12_join_395, bX12_join_340, bX12_join_380, bX12_join_389, a_ai, a_ald, a_cv, a_gr, a_iadd, a_iceq, a_icge, a_ild, a_imul, a_inc, a_iret, a_ist, a_push, a_wi, sh_71, sh_72, pu_rv, pu_as, Value.category, pu_bk, pu_kl, List.replicate, pu_wi_1, pu_wi_2, nl_add, nl_ladd, nl_aa, nl_mul, nl_rmul, nl_mm, pu_qe0, pu_qe1, ff, g3, hc]
  | m + 1, i, N, t9, h, S => by
    have bK := wx_bK hw
    obtain ⟨s1, s2, s3, s4, s5⟩ := id S
    have hx : pu_fx N := pz_fx_of hxR s1
    have ff := fx_71_0 hx
    have hi : i < cK I := by omega
    have g3 : N.1 72 3 = nI (cK I) := by rw [s5 3 (by omega) (by omega) (fun _ _ _ _ _ => by omega)]; exact h3
    have hc : ¬ nI (cK I) ≤ nI i := nI_ge (by omega) (by omega)
    have mm := py_mc_m (P := py_in I b) (i := i) (j := cK I) (by omega)
    obtain ⟨j0, hj⟩ := py_os_ex hw hn hi
    have hu := py_rv_u hw hn hi (by omega) S hj
    have jn := hj.1
    have e1 := r_townOfH hx (cN I + py_mc (py_in I b) i) s2 (by omega) (st := i) (l := j0) (by omega) hu
    have e2 := r_openNameH hx (cN I + py_mc (py_in I b) i) s2 (by omega) (st := i) (l := j0) (by omega) hu
    have g1 : N.1 72 (7552 + 5 * j0 + 1) = R.1 72 (7552 + 5 * j0 + 1) := s5 _ (by omega) (by omega) (fun st l _ _ _ => by omega)
    have g2 : N.1 72 (7552 + 5 * j0 + 2) = R.1 72 (7552 + 5 * j0 + 2) := s5 _ (by omega) (by omega) (fun st l _ _ _ => by omega)
    obtain ⟨_, k0, hk, hjk⟩ := id hj
    have t1 : R.1 72 (7552 + 5 * j0 + 1) = I 21 k0 := hjk.2.1
    have inn : py_in I b i ↔ I 21 k0 = b := ⟨fun ⟨l, l1, l2⟩ => by rw [pu_no_un hw hk l1]; exact l2, fun z => ⟨k0, hk, z⟩⟩
    rw [g1, t1] at e1
    by_cases cb : I 21 k0 = b
    · have pin := inn.mpr cb
      have ct := py_mc_t (P := py_in I b) (i := i) pin
      have cl := py_mc_l (P := py_in I b) (i := i) (j := cK I) hi pin
      have e5 := r_nopen (M := pu_wi N 72 (7552 + 5 * j0 + 4) p) (pz_fx_of hx rfl) (cN I + py_mc (py_in I b) i) (by rw [py_wi_o (by omega)]; exact s2) (by omega) (nI i) a (R.1 72 (7552 + 5 * j0 + 2)) p
      have v := py_rn1_v (M := pu_wi N 72 (7552 + 5 * j0 + 4) p) (n := cN I + py_mc (py_in I b) i) (st := nI i) (tn := a) (nm := R.1 72 (7552 + 5 * j0 + 2)) (p := p)
      have o : ∀ y j, ¬ (y = 72 ∧ j = 7) → ¬ (y = 72 ∧ 7552 + 5 * (cN I + py_mc (py_in I b) i) ≤ j ∧ j < 7552 + 5 * (cN I + py_mc (py_in I b) i) + 5) → ¬ (y = 72 ∧ j = 7552 + 5 * j0 + 4) → (py_rn1 (pu_wi N 72 (7552 + 5 * j0 + 4) p) (cN I + py_mc (py_in I b) i) (nI i) a (R.1 72 (7552 + 5 * j0 + 2)) p).1 y j = N.1 y j := fun y j a1 a2 a3 => by rw [py_rn1_o a1 a2, py_wi_o a3]
      have o4 : (py_rn1 (pu_wi N 72 (7552 + 5 * j0 + 4) p) (cN I + py_mc (py_in I b) i) (nI i) a (R.1 72 (7552 + 5 * j0 + 2)) p).1 72 (7552 + 5 * j0 + 4) = p := by
        rw [py_rn1_o (by omega) (by omega)]
        simp [pu_wi_1]
      have o2 : (py_rn1 (pu_wi N 72 (7552 + 5 * j0 + 4) p) (cN I + py_mc (py_in I b) i) (nI i) a (R.1 72 (7552 + 5 * j0 + 2)) p).2 = N.2 := rfl
      have g2' : (pu_wi N 72 (7552 + 5 * j0 + 4) p).1 72 (7552 + 5 * j0 + 2) = R.1 72 (7552 + 5 * j0 + 2) := by rw [py_wi_o (by omega)]; exact g2
      generalize hN' : py_rn1 (pu_wi N 72 (7552 + 5 * j0 + 4) p) (cN I + py_mc (py_in I b) i) (nI i) a (R.1 72 (7552 + 5 * j0 + 2)) p = N' at *
      have S' : py_rv I L R N' a b p (i + 1) := by
        refine ⟨o2.trans s1, by rw [v.1, ct, Nat.add_assoc], fun st j q1 q2 q3 => ?_, fun y j q => ?_, fun j q1 q2 q3 => ?_⟩
        · by_cases z : st = i
          · subst z
            have := py_os_un hw hn q3 hj
            subst this
            exact ⟨o4, v.2.1, v.2.2.1, v.2.2.2.1, v.2.2.2.2.1, v.2.2.2.2.2⟩
          · have si : st < i := by omega
            have cj := py_mc_l (P := py_in I b) (i := st) (j := i) si q2
            have jl := q3.1
            have jj : j ≠ j0 := fun q => by
              subst q
              have y1 := (py_os_st q3).1
              rw [(py_os_st hj).1, nI_eq (by omega) (by omega)] at y1
              omega
            obtain ⟨y1, y2, y3, y4, y5, y6⟩ := s3 st j si q2 q3
            refine ⟨by rw [o 72 _ (by omega) (by omega) (by omega)]; exact y1, by rw [o 72 _ (by omega) (by omega) (by omega)]; exact y2, by rw [o 72 _ (by omega) (by omega) (by omega)]; exact y3, by rw [o 72 _ (by omega) (by omega) (by omega)]; exact y4, by rw [o 72 _ (by omega) (by omega) (by omega)]; exact y5, by rw [o 72 _ (by omega) (by omega) (by omega)]; exact y6⟩
        · rw [o y j (by omega) (by omega) (by omega)]
          exact s4 y j q
        · rw [o 72 j (by omega) (by omega) (fun z => q3 i j0 (by omega) pin hj z.2)]
          exact s5 j q1 q2 (fun st l r1 r2 r3 => q3 st l (by omega) r2 r3)
      obtain ⟨F, F1, F2⟩ := r_move hxR hw hn h3 (f := f) (e := e) (sm := sm) hp hb m (i + 1) N' (some (.int (nI j0))) (by omega) S'
      refine ⟨F, F1, ?_⟩
      rw [← F2]
      have l4 : j0 < 400 := by omega
      have f2 : (pu_wi N 72 (7552 + 5 * j0 + 4) p).2.2.1 71 0 = some 72 := ff
      rw [qX12_join_316]
      simp [bX12_join_316, bX12_join_395, bX12_join_340, bX12_join_380, bX12_join_389, a_ai, a_ald, a_cv, a_gr, a_iadd, a_iceq, a_icge, a_ild, a_imul, a_inc, a_iret, a_ist, a_push, a_wi, sh_71, sh_72, pu_rv, pu_as, Value.category, pu_bk, pu_kl, List.replicate, pu_wi_1, pu_wi_2, nl_add, nl_ladd, nl_aa, nl_mul, nl_rmul, nl_mm, pu_qe0, pu_qe1, ff, g3, hc, e1, cb, e2, l4, f2, g2', g2, e5]
      all_goals try simp (maxSteps := 400000) (disch := omega) [nl_tle, nl_fle, nl_tlt, nl_flt, nl_teq, nl_feq, nl_sub, nl_ss, nl_lt, nl_llt, nl_ltt, nl_le, nl_lle, nl_lee, nl_eq, nl_leq, nl_ee, nl_div, nl_rem, nl_cl, nl_n1, nl_n2, nl_n3, nl_n4, nl_add, nl_ladd, nl_aa, nl_mul, nl_rmul, nl_mm, pu_wi_1, pu_wi_2, bX12_join_316, bX12_join_395, bX12_join_340, bX12_join_380, bX12_join_389, a_ai, a_ald, a_cv, a_gr, a_iadd, a_iceq, a_icge, a_ild, a_imul, a_inc, a_iret, a_ist, a_push, a_wi, sh_71, sh_72, pu_rv, pu_as, Value.category, pu_bk, pu_kl, pu_qe0, pu_qe1, ff, g3, hc, e1, cb, e2, l4, f2, g2', g2, e5]
      all_goals try simp [bX12_join_316, bX12_join_395, bX12_join_340, bX12_join_380, bX12_join_389, a_ai, a_ald, a_cv, a_gr, a_iadd, a_iceq, a_icge, a_ild, a_imul, a_inc, a_iret, a_ist, a_push, a_wi, sh_71, sh_72, pu_rv, pu_as, Value.category, pu_bk, pu_kl, List.replicate, pu_wi_1, pu_wi_2, nl_add, nl_ladd, nl_aa, nl_mul, nl_rmul, nl_mm, pu_qe0, pu_qe1, ff, g3, hc, e1, cb, e2, l4, f2, g2', g2, e5]
      all_goals try simp (maxSteps := 400000) (disch := omega) [nl_tle, nl_fle, nl_tlt, nl_flt, nl_teq, nl_feq, nl_sub, nl_ss, nl_lt, nl_llt, nl_ltt, nl_le, nl_lle, nl_lee, nl_eq, nl_leq, nl_ee, nl_div, nl_rem, nl_cl, nl_n1, nl_n2, nl_n3, nl_n4, nl_add, nl_ladd, nl_aa, nl_mul, nl_rmul, nl_mm, pu_wi_1, pu_wi_2, bX12_join_316, bX12_join_395, bX12_join_340, bX12_join_380, bX12_join_389, a_ai, a_ald, a_cv, a_gr, a_iadd, a_iceq, a_icge, a_ild, a_imul, a_inc, a_iret, a_ist, a_push, a_wi, sh_71, sh_72, pu_rv, pu_as, Value.category, pu_bk, pu_kl, pu_qe0, pu_qe1, ff, g3, hc, e1, cb, e2, l4, f2, g2', g2, e5]
      all_goals try simp [bX12_join_316, bX12_join_395, bX12_join_340, bX12_join_380, bX12_join_389, a_ai, a_ald, a_cv, a_gr, a_iadd, a_iceq, a_icge, a_ild, a_imul, a_inc, a_iret, a_ist, a_push, a_wi, sh_71, sh_72, pu_rv, pu_as, Value.category, pu_bk, pu_kl, List.replicate, pu_wi_1, pu_wi_2, nl_add, nl_ladd, nl_aa, nl_mul, nl_rmul, nl_mm, pu_qe0, pu_qe1, ff, g3, hc, e1, cb, e2, l4, f2, g2', g2, e5]
      all_goals try simp (maxSteps := 400000) (disch := omega) [nl_tle, nl_fle, nl_tlt, nl_flt, nl_teq, nl_feq, nl_sub, nl_ss, nl_lt, nl_llt, nl_ltt, nl_le, nl_lle, nl_lee, nl_eq, nl_leq, nl_ee, nl_div, nl_rem, nl_cl, nl_n1, nl_n2, nl_n3, nl_n4, nl_add, nl_ladd, nl_aa, nl_mul, nl_rmul, nl_mm, pu_wi_1, pu_wi_2, bX12_join_316, bX12_join_395, bX12_join_340, bX12_join_380, bX12_join_389, a_ai, a_ald, a_cv, a_gr, a_iadd, a_iceq, a_icge, a_ild, a_imul, a_inc, a_iret, a_ist, a_push, a_wi, sh_71, sh_72, pu_rv, pu_as, Value.category, pu_bk, pu_kl, pu_qe0, pu_qe1, ff, g3, hc, e1, cb, e2, l4, f2, g2', g2, e5]
      all_goals try simp [bX12_join_316, bX12_join_395, bX12_join_340, bX12_join_380, bX12_join_389, a_ai, a_ald, a_cv, a_gr, a_iadd, a_iceq, a_icge, a_ild, a_imul, a_inc, a_iret, a_ist, a_push, a_wi, sh_71, sh_72, pu_rv, pu_as, Value.category, pu_bk, pu_kl, List.replicate, pu_wi_1, pu_wi_2, nl_add, nl_ladd, nl_aa, nl_mul, nl_rmul, nl_mm, pu_qe0, pu_qe1, ff, g3, hc, e1, cb, e2, l4, f2, g2', g2, e5]
    · have ct := py_mc_f (P := py_in I b) (i := i) (fun z => cb (inn.mp z))
      have S' : py_rv I L R N a b p (i + 1) := by
        refine ⟨s1, by rw [ct]; exact s2, fun st j q1 q2 q3 => ?_, s4, fun j q1 q2 q3 => ?_⟩
        · have : st ≠ i := fun q => cb (inn.mp (by rw [← q]; exact q2))
          exact s3 st j (by omega) q2 q3
        · exact s5 j q1 q2 (fun st l r1 r2 r3 => q3 st l (by omega) r2 r3)
      obtain ⟨F, F1, F2⟩ := r_move hxR hw hn h3 (f := f) (e := e) (sm := sm) hp hb m (i + 1) N t9 (by omega) S'
      refine ⟨F, F1, ?_⟩
      rw [← F2]
      rw [qX12_join_316]
      simp [bX12_join_316, bX12_join_395, bX12_join_340, bX12_join_380, bX12_join_389, a_ai, a_ald, a_cv, a_gr, a_iadd, a_iceq, a_icge, a_ild, a_imul, a_inc, a_iret, a_ist, a_push, a_wi, sh_71, sh_72, pu_rv, pu_as, Value.category, pu_bk, pu_kl, List.replicate, pu_wi_1, pu_wi_2, nl_add, nl_ladd, nl_aa, nl_mul, nl_rmul, nl_mm, pu_qe0, pu_qe1, ff, g3, hc, e1, cb]
      all_goals try simp (maxSteps := 400000) (disch := omega) [nl_tle, nl_fle, nl_tlt, nl_flt, nl_teq, nl_feq, nl_sub, nl_ss, nl_lt, nl_llt, nl_ltt, nl_le, nl_lle, nl_lee, nl_eq, nl_leq, nl_ee, nl_div, nl_rem, nl_cl, nl_n1, nl_n2, nl_n3, nl_n4, nl_add, nl_ladd, nl_aa, nl_mul, nl_rmul, nl_mm, pu_wi_1, pu_wi_2, bX12_join_316, bX12_join_395, bX12_join_340, bX12_join_380, bX12_join_389, a_ai, a_ald, a_cv, a_gr, a_iadd, a_iceq, a_icge, a_ild, a_imul, a_inc, a_iret, a_ist, a_push, a_wi, sh_71, sh_72, pu_rv, pu_as, Value.category, pu_bk, pu_kl, pu_qe0, pu_qe1, ff, g3, hc, e1, cb]
      all_goals try simp [bX12_join_316, bX12_join_395, bX12_join_340, bX12_join_380, bX12_join_389, a_ai, a_ald, a_cv, a_gr, a_iadd, a_iceq, a_icge, a_ild, a_imul, a_inc, a_iret, a_ist, a_push, a_wi, sh_71, sh_72, pu_rv, pu_as, Value.category, pu_bk, pu_kl, List.replicate, pu_wi_1, pu_wi_2, nl_add, nl_ladd, nl_aa, nl_mul, nl_rmul, nl_mm, pu_qe0, pu_qe1, ff, g3, hc, e1, cb]
      all_goals try simp (maxSteps := 400000) (disch := omega) [nl_tle, nl_fle, nl_tlt, nl_flt, nl_teq, nl_feq, nl_sub, nl_ss, nl_lt, nl_llt, nl_ltt, nl_le, nl_lle, nl_lee, nl_eq, nl_leq, nl_ee, nl_div, nl_rem, nl_cl, nl_n1, nl_n2, nl_n3, nl_n4, nl_add, nl_ladd, nl_aa, nl_mul, nl_rmul, nl_mm, pu_wi_1, pu_wi_2, bX12_join_316, bX12_join_395, bX12_join_340, bX12_join_380, bX12_join_389, a_ai, a_ald, a_cv, a_gr, a_iadd, a_iceq, a_icge, a_ild, a_imul, a_inc, a_iret, a_ist, a_push, a_wi, sh_71, sh_72, pu_rv, pu_as, Value.category, pu_bk, pu_kl, pu_qe0, pu_qe1, ff, g3, hc, e1, cb]
      all_goals try simp [bX12_join_316, bX12_join_395, bX12_join_340, bX12_join_380, bX12_join_389, a_ai, a_ald, a_cv, a_gr, a_iadd, a_iceq, a_icge, a_ild, a_imul, a_inc, a_iret, a_ist, a_push, a_wi, sh_71, sh_72, pu_rv, pu_as, Value.category, pu_bk, pu_kl, List.replicate, pu_wi_1, pu_wi_2, nl_add, nl_ladd, nl_aa, nl_mul, nl_rmul, nl_mm, pu_qe0, pu_qe1, ff, g3, hc, e1, cb]
      all_goals try simp (maxSteps := 400000) (disch := omega) [nl_tle, nl_fle, nl_tlt, nl_flt, nl_teq, nl_feq, nl_sub, nl_ss, nl_lt, nl_llt, nl_ltt, nl_le, nl_lle, nl_lee, nl_eq, nl_leq, nl_ee, nl_div, nl_rem, nl_cl, nl_n1, nl_n2, nl_n3, nl_n4, nl_add, nl_ladd, nl_aa, nl_mul, nl_rmul, nl_mm, pu_wi_1, pu_wi_2, bX12_join_316, bX12_join_395, bX12_join_340, bX12_join_380, bX12_join_389, a_ai, a_ald, a_cv, a_gr, a_iadd, a_iceq, a_icge, a_ild, a_imul, a_inc, a_iret, a_ist, a_push, a_wi, sh_71, sh_72, pu_rv, pu_as, Value.category, pu_bk, pu_kl, pu_qe0, pu_qe1, ff, g3, hc, e1, cb]
      all_goals try simp [bX12_join_316, bX12_join_395, bX12_join_340, bX12_join_380, bX12_join_389, a_ai, a_ald, a_cv, a_gr, a_iadd, a_iceq, a_icge, a_ild, a_imul, a_inc, a_iret, a_ist, a_push, a_wi, sh_71, sh_72, pu_rv, pu_as, Value.category, pu_bk, pu_kl, List.replicate, pu_wi_1, pu_wi_2, nl_add, nl_ladd, nl_aa, nl_mul, nl_rmul, nl_mm, pu_qe0, pu_qe1, ff, g3, hc, e1, cb]
end
