/-! the invariant holds behind the two constructors -/
theorem pz_y0 : (∀ q ∈ [(((6, 0), (0)) : (Nat × Nat) × Int32), (((6, 1), (-1)) : (Nat × Nat) × Int32), (((6, 2), (0)) : (Nat × Nat) × Int32), (((14, 0), (0)) : (Nat × Nat) × Int32), (((19, 0), (0)) : (Nat × Nat) × Int32), (((25, 0), (0)) : (Nat × Nat) × Int32), (((25, 1), (0)) : (Nat × Nat) × Int32), (((31, 0), (0)) : (Nat × Nat) × Int32), (((42, 0), (0)) : (Nat × Nat) × Int32), (((45, 0), (-1)) : (Nat × Nat) × Int32), (((45, 1), (-1)) : (Nat × Nat) × Int32), (((45, 2), (0)) : (Nat × Nat) × Int32), (((45, 3), (0)) : (Nat × Nat) × Int32), (((45, 4), (0)) : (Nat × Nat) × Int32), (((45, 5), (0)) : (Nat × Nat) × Int32), (((45, 6), (0)) : (Nat × Nat) × Int32), (((45, 7), (0)) : (Nat × Nat) × Int32)], pu_y.1 q.1.1 q.1.2 = q.2) ∧ (∀ q ∈ [((0, (0)) : Nat × Int32), ((1, (-1)) : Nat × Int32), ((2, (0)) : Nat × Int32), ((3, (0)) : Nat × Int32), ((4, (0)) : Nat × Int32), ((5, (0)) : Nat × Int32), ((6, (0)) : Nat × Int32), ((7, (0)) : Nat × Int32), ((8, (0)) : Nat × Int32), ((9, (0)) : Nat × Int32), ((10, (0)) : Nat × Int32), ((11, (0)) : Nat × Int32), ((12, (0)) : Nat × Int32), ((13, (0)) : Nat × Int32), ((14, (0)) : Nat × Int32), ((15, (-1)) : Nat × Int32), ((16, (-1)) : Nat × Int32)], pu_y.1 72 q.1 = q.2) := by decide +kernel
theorem pz_y1 : (pu_y.1 1 0 = 0 ∧ pu_y.1 71 4 = 0) ∧ (pu_y.1 3 0 = 0 ∧ pu_y.1 71 8 = 0) ∧ (∀ k, k < 3 → pu_y.2.2.1 58 k = none ∧ pu_y.1 74 k = 0) := by decide +kernel
theorem pz_y2 : ∀ q ∈ pu_RTl, pu_y.2.2.1 q.1 q.2.1 = some q.2.2 := by decide +kernel
theorem pz_yn : pu_y.2.2.2 = 86 := by
  show (pu_g48 _ 48).2.2.2 = 86
  rw [pu_g48_2]
  exact pu_y26n
theorem pz_fxof {M : pu_M} (h : ∀ q ∈ pu_RTl, M.2.2.1 q.1 q.2.1 = some q.2.2) : pu_fx M := fun a k r q => h (a, k, r) (pu_RTm q)
theorem pz_invof {M : pu_M} (z0 : (∀ q ∈ [(((6, 0), (0)) : (Nat × Nat) × Int32), (((6, 1), (-1)) : (Nat × Nat) × Int32), (((6, 2), (0)) : (Nat × Nat) × Int32), (((14, 0), (0)) : (Nat × Nat) × Int32), (((19, 0), (0)) : (Nat × Nat) × Int32), (((25, 0), (0)) : (Nat × Nat) × Int32), (((25, 1), (0)) : (Nat × Nat) × Int32), (((31, 0), (0)) : (Nat × Nat) × Int32), (((42, 0), (0)) : (Nat × Nat) × Int32), (((45, 0), (-1)) : (Nat × Nat) × Int32), (((45, 1), (-1)) : (Nat × Nat) × Int32), (((45, 2), (0)) : (Nat × Nat) × Int32), (((45, 3), (0)) : (Nat × Nat) × Int32), (((45, 4), (0)) : (Nat × Nat) × Int32), (((45, 5), (0)) : (Nat × Nat) × Int32), (((45, 6), (0)) : (Nat × Nat) × Int32), (((45, 7), (0)) : (Nat × Nat) × Int32)], M.1 q.1.1 q.1.2 = q.2) ∧ (∀ q ∈ [((0, (0)) : Nat × Int32), ((1, (-1)) : Nat × Int32), ((2, (0)) : Nat × Int32), ((3, (0)) : Nat × Int32), ((4, (0)) : Nat × Int32), ((5, (0)) : Nat × Int32), ((6, (0)) : Nat × Int32), ((7, (0)) : Nat × Int32), ((8, (0)) : Nat × Int32), ((9, (0)) : Nat × Int32), ((10, (0)) : Nat × Int32), ((11, (0)) : Nat × Int32), ((12, (0)) : Nat × Int32), ((13, (0)) : Nat × Int32), ((14, (0)) : Nat × Int32), ((15, (-1)) : Nat × Int32), ((16, (-1)) : Nat × Int32)], M.1 72 q.1 = q.2)) (z1 : (M.1 1 0 = 0 ∧ M.1 71 4 = 0) ∧ (M.1 3 0 = 0 ∧ M.1 71 8 = 0) ∧ (∀ k, k < 3 → M.2.2.1 58 k = none ∧ M.1 74 k = 0)) (z2 : ∀ q ∈ pu_RTl, M.2.2.1 q.1 q.2.1 = some q.2.2) (zn : M.2.2.2 = 86) : pu_Inv M := by
  have fx : pu_fx M := pz_fxof z2
  obtain ⟨hi, hs⟩ := z0
  have ag : ∀ a j, 5 ≤ a → a < 58 → pu_si M 5 a j = M.1 a j := fun a j q1 q2 => (pu_ag5 M a j q1 q2).symm
  have i_6_0 : pu_si M 5 6 0 = 0 := (ag 6 0 (by decide) (by decide)).trans (hi ((6, 0), (0)) (by simp))
  have i_6_1 : pu_si M 5 6 1 = -1 := (ag 6 1 (by decide) (by decide)).trans (hi ((6, 1), (-1)) (by simp))
  have i_6_2 : pu_si M 5 6 2 = 0 := (ag 6 2 (by decide) (by decide)).trans (hi ((6, 2), (0)) (by simp))
  have i_14_0 : pu_si M 5 14 0 = 0 := (ag 14 0 (by decide) (by decide)).trans (hi ((14, 0), (0)) (by simp))
  have i_19_0 : pu_si M 5 19 0 = 0 := (ag 19 0 (by decide) (by decide)).trans (hi ((19, 0), (0)) (by simp))
  have i_25_0 : pu_si M 5 25 0 = 0 := (ag 25 0 (by decide) (by decide)).trans (hi ((25, 0), (0)) (by simp))
  have i_25_1 : pu_si M 5 25 1 = 0 := (ag 25 1 (by decide) (by decide)).trans (hi ((25, 1), (0)) (by simp))
  have i_31_0 : pu_si M 5 31 0 = 0 := (ag 31 0 (by decide) (by decide)).trans (hi ((31, 0), (0)) (by simp))
  have i_42_0 : pu_si M 5 42 0 = 0 := (ag 42 0 (by decide) (by decide)).trans (hi ((42, 0), (0)) (by simp))
  have i_45_0 : pu_si M 5 45 0 = -1 := (ag 45 0 (by decide) (by decide)).trans (hi ((45, 0), (-1)) (by simp))
  have i_45_1 : pu_si M 5 45 1 = -1 := (ag 45 1 (by decide) (by decide)).trans (hi ((45, 1), (-1)) (by simp))
  have i_45_2 : pu_si M 5 45 2 = 0 := (ag 45 2 (by decide) (by decide)).trans (hi ((45, 2), (0)) (by simp))
  have i_45_3 : pu_si M 5 45 3 = 0 := (ag 45 3 (by decide) (by decide)).trans (hi ((45, 3), (0)) (by simp))
  have i_45_4 : pu_si M 5 45 4 = 0 := (ag 45 4 (by decide) (by decide)).trans (hi ((45, 4), (0)) (by simp))
  have i_45_5 : pu_si M 5 45 5 = 0 := (ag 45 5 (by decide) (by decide)).trans (hi ((45, 5), (0)) (by simp))
  have i_45_6 : pu_si M 5 45 6 = 0 := (ag 45 6 (by decide) (by decide)).trans (hi ((45, 6), (0)) (by simp))
  have i_45_7 : pu_si M 5 45 7 = 0 := (ag 45 7 (by decide) (by decide)).trans (hi ((45, 7), (0)) (by simp))
  have s_0 : M.1 72 0 = 0 := hs (0, (0)) (by simp)
  have s_1 : M.1 72 1 = -1 := hs (1, (-1)) (by simp)
  have s_2 : M.1 72 2 = 0 := hs (2, (0)) (by simp)
  have s_3 : M.1 72 3 = 0 := hs (3, (0)) (by simp)
  have s_4 : M.1 72 4 = 0 := hs (4, (0)) (by simp)
  have s_5 : M.1 72 5 = 0 := hs (5, (0)) (by simp)
  have s_6 : M.1 72 6 = 0 := hs (6, (0)) (by simp)
  have s_7 : M.1 72 7 = 0 := hs (7, (0)) (by simp)
  have s_8 : M.1 72 8 = 0 := hs (8, (0)) (by simp)
  have s_9 : M.1 72 9 = 0 := hs (9, (0)) (by simp)
  have s_10 : M.1 72 10 = 0 := hs (10, (0)) (by simp)
  have s_11 : M.1 72 11 = 0 := hs (11, (0)) (by simp)
  have s_12 : M.1 72 12 = 0 := hs (12, (0)) (by simp)
  have s_13 : M.1 72 13 = 0 := hs (13, (0)) (by simp)
  have s_14 : M.1 72 14 = 0 := hs (14, (0)) (by simp)
  have s_15 : M.1 72 15 = -1 := hs (15, (-1)) (by simp)
  have s_16 : M.1 72 16 = -1 := hs (16, (-1)) (by simp)
  have cP0 : cP (pu_si M 5) = 0 := by
    unfold cP
    rw [i_6_2]
    decide
  have cU0 : cU (pu_si M 5) = 0 := by
    unfold cU
    rw [i_14_0]
    decide
  have cN0 : cN (pu_si M 5) = 0 := by
    unfold cN
    rw [i_19_0]
    decide
  have cT0 : cT (pu_si M 5) = 0 := by
    unfold cT
    rw [i_25_0]
    decide
  have cK0 : cK (pu_si M 5) = 0 := by
    unfold cK
    rw [i_25_1]
    decide
  have cD0 : cD (pu_si M 5) = 0 := by
    unfold cD
    rw [i_31_0]
    decide
  have cF0 : cF (pu_si M 5) = 0 := by
    unfold cF
    rw [i_42_0]
    decide
  have cQ0 : cQ (pu_si M 5) = 0 := by
    unfold cQ
    rw [i_45_2]
    decide
  have cR0 : cR (pu_si M 5) = 0 := by
    unfold cR
    rw [i_45_3]
    decide
  have cS0 : cS (pu_si M 5) = 0 := by
    unfold cS
    rw [i_45_4]
    decide
  have cW0 : cW (pu_si M 5) = 0 := by
    unfold cW
    rw [i_45_5]
    decide
  have cE0 : cE (pu_si M 5) = 0 := by
    unfold cE
    rw [i_45_6]
    decide
  have cO0 : cO (pu_si M 5) = 0 := by
    unfold cO
    rw [i_45_7]
    decide
  have t0 : (0 : Int32).toInt = 0 := by decide
  have tm : (-1 : Int32).toInt = -1 := by decide
  have n0 : (0 : Int32) = nI 0 := rfl
  generalize hJ : pu_si M 5 = I at *
  have hw : pu_WF I (pu_sj M 5) := by
    refine ⟨⟨?_, ?_, ?_, ?_, ?_, ?_, ?_, ?_, ?_, ?_, ?_, ?_, ?_⟩, ⟨by omega, by omega, by omega, by omega, by omega, by omega, by omega, by omega, by omega, by omega, by omega, by omega, by omega⟩, ⟨by rw [i_6_0]; omega, by rw [i_6_1]; omega, ?_, ?_, ?_, ?_, ?_, ?_, ?_, ?_, ?_, ?_⟩, ⟨?_, ?_, ?_, ?_, ?_, ?_, ?_, ?_, ?_, ?_, ?_⟩, ⟨?_, ?_, ?_, ?_, ?_, ?_, ?_, ?_, ?_, ?_, ?_, ?_⟩, ⟨?_, ?_, ?_, ?_, ?_, ?_, ?_⟩, ⟨?_, ?_, ?_, ?_, ?_, ?_, ?_, ?_, ?_, ?_, ?_, ?_⟩, ⟨?_, ?_, ?_⟩⟩
    · rw [i_6_2, cP0]; rfl
    · rw [i_14_0, cU0]; rfl
    · rw [i_19_0, cN0]; rfl
    · rw [i_25_0, cT0]; rfl
    · rw [i_25_1, cK0]; rfl
    · rw [i_31_0, cD0]; rfl
    · rw [i_42_0, cF0]; rfl
    · rw [i_45_2, cQ0]; rfl
    · rw [i_45_3, cR0]; rfl
    · rw [i_45_4, cS0]; rfl
    · rw [i_45_5, cW0]; rfl
    · rw [i_45_6, cE0]; rfl
    · rw [i_45_7, cO0]; rfl
    all_goals intros; omega
  have hr : pu_Rel I (pu_sj M 5) (M.1 72) := by
    refine ⟨⟨?_, ?_, ?_, ?_, ?_, ?_, ?_, ?_, ?_, ?_, ?_, ?_, ?_, ?_, ?_, ?_, ?_⟩, ⟨?_, ?_, ?_, ?_, ?_, ?_, ?_⟩, ⟨?_, ?_, ?_, ?_, ?_, ?_⟩, ⟨?_, ?_, ?_, ?_⟩, ⟨?_, ?_⟩, ⟨?_, ?_, ?_⟩, ⟨?_, ?_, ?_, ?_, ?_, ?_, ?_, ?_, ?_, ?_, ?_, ?_⟩, ⟨?_, ?_⟩, ⟨?_, ?_, ?_, ?_, ?_, ?_, ?_, ?_, ?_, ?_⟩⟩
    · rw [s_0, i_6_0]
    · rw [s_1, i_6_1]
    · rw [s_2, cT0]; rfl
    · rw [s_3, cK0]; rfl
    · rw [s_4, cD0]; rfl
    · rw [s_5, cP0]; rfl
    · rw [s_6, cU0]; rfl
    · rw [s_7, cN0]; rfl
    · rw [s_8, cF0]; rfl
    · rw [s_9, cS0]; rfl
    · rw [s_10, cE0]; rfl
    · rw [s_11, cQ0]; rfl
    · rw [s_12, cW0]; rfl
    · rw [s_13, cO0]; rfl
    · rw [s_14, cR0]; rfl
    · rw [s_15, i_45_0]
    · rw [s_16, i_45_1]
    all_goals intros; omega
  refine ⟨fx, ⟨0, by omega, z1.1.1, z1.1.2, fun j hj => by omega⟩, ⟨0, by omega, z1.2.1.1, z1.2.1.2, fun j hj => by omega⟩, by rw [hJ]; exact ⟨hw, hr⟩, ⟨0, by omega, zn⟩, fun k hk => Or.inl (z1.2.2 k hk), fun k l b hk hl q => ?_, ⟨fun _ => false, ?_, fun k hk => ?_⟩⟩
  · rw [(z1.2.2 k hk).1] at q
    cases q
  · rw [zn]
    rfl
  · rw [(z1.2.2 k hk).1]
    simp
theorem pz_inv0 : pu_Inv pu_y := pz_invof pz_y0 pz_y1 pz_y2 pz_yn
theorem pz_count (M : pu_M) (h : pu_Inv M) : M.2.2.2 ≤ 245 := by
  obtain ⟨n, n1, n2⟩ := h.2.2.2.2.1
  omega
theorem pz_start : ∃ M, pu_Inv M ∧ ∀ (L : Nat) (xs : Nat → Int32) (rl : pu_K), kL_law_0 L xs pu_r rl [some (.float 0), none, none, none] [] pu_M0 = rl [some (.float 0), some (.ref 0), some (.ref 71), some (.int (nI 0))] [] pu_y := by
  refine ⟨pu_y, pz_inv0, fun L xs rl => ?_⟩
  have x8 : pu_x8.2.2.2 = 71 := pu_x7n
  have e1 := e_X11_init
  have e2 := e_X12_init
  have s0 : pu_sh pu_M0.2.2.2 = (0, 11) := sh_0
  have s71 : pu_sh pu_x8.2.2.2 = (0, 12) := by rw [x8]; exact sh_71
  have r0 : pu_M0.2.2.2 = 0 := rfl
  rw [show kL_law_0 L xs pu_r rl [some (.float 0), none, none, none] [] pu_M0 = s_new 11 (s_dup (s_ci pu_r 11 0 (s_ast 1 (s_new 12 (s_dup (s_ci pu_r 228 0 (s_ast 2 (s_push (.int (0)) (s_ist 3 (rl)))))))))) [some (.float 0), none, none, none] [] pu_M0 from rfl]
  have y0 : pu_nw pu_x8 = pu_y0 := rfl
  have x0 : pu_nw pu_M0 = pu_x0 := rfl
  simp [a_new, a_dup, a_ci, a_ast, a_push, a_ist, s0, r0, pu_as, Value.category, x0, e1, pu_bk, pu_kl, s71, x8, y0, e2]
  rfl
