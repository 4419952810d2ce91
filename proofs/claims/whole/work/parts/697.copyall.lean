/-! an office copied -/
theorem py_copy {M : pu_M} {u v : Nat} {I : Nat → Nat → Int32} {L : Nat → Nat → Int64} (hu : pz_os1 u) (hv : pz_os1 v) (ru : pz_or M u) (rv : pz_or M v) (hd : u + 52 < v ∨ v + 52 < u) (hw : pu_WF I L) (hI : ∀ a j, 1 ≤ a → a ≤ 52 → M.1 (v + a) j = I (a + 5) j) (hL : ∀ a j, 1 ≤ a → a ≤ 52 → M.2.1 (v + a) j = L (a + 5) j) : ∃ N, N.2.2 = M.2.2 ∧ (∀ a j, a < u + 1 ∨ u + 52 < a → N.1 a j = M.1 a j) ∧ (∀ a j, a < u + 1 ∨ u + 52 < a → N.2.1 a j = M.2.1 a j) ∧ (∀ (J : Nat → Nat → Int32) (L2 : Nat → Nat → Int64), (∀ a j, 1 ≤ a → a ≤ 52 → N.1 (u + a) j = J (a + 5) j) → (∀ a j, 1 ≤ a → a ≤ 52 → N.2.1 (u + a) j = L2 (a + 5) j) → pz_pa I L J L2) ∧ pu_r 141 [some (.ref u), some (.ref v)] [] M = some (none, N) := by
  have h_cP : M.1 (v + 1) 2 = nI (cP I) := by
    rw [hI 1 2 (by omega) (by omega)]
    exact wx_cP hw
  obtain ⟨N1, f1, c1_0, c1_1, e1⟩ := py_X6 hu hv ru rv hd (wx_bP hw) h_cP
  have g1i : ∀ a j, a < u + 1 ∨ u + 1 + 7 < a → N1.1 a j = M.1 a j := f1.2.1
  have g1l : ∀ a j, a < u + 1 ∨ u + 1 + 7 < a → N1.2.1 a j = M.2.1 a j := f1.2.2
  have R1 : N1.2.2 = M.2.2 := f1.1
  have h_cU : N1.1 (v + 9) 0 = nI (cU I) := by
    rw [g1i (v + 9) 0 (by omega), hI 9 0 (by omega) (by omega)]
    exact wx_cU hw
  have ru2 : pz_or N1 u := pz_or_t R1 ru
  have rv2 : pz_or N1 v := pz_or_t R1 rv
  obtain ⟨N2, f2, c2_0, c2_1, c2_2, c2_3, c2_4, e2⟩ := py_X4 hu hv ru2 rv2 hd (wx_bU hw) h_cU
  have g2i : ∀ a j, a < u + 9 ∨ u + 9 + 4 < a → N2.1 a j = N1.1 a j := f2.2.1
  have g2l : ∀ a j, a < u + 9 ∨ u + 9 + 4 < a → N2.2.1 a j = N1.2.1 a j := f2.2.2
  have R2 : N2.2.2 = M.2.2 := f2.1.trans R1
  have h_cN : N2.1 (v + 14) 0 = nI (cN I) := by
    rw [g2i (v + 14) 0 (by omega), g1i (v + 14) 0 (by omega), hI 14 0 (by omega) (by omega)]
    exact wx_cN hw
  have ru3 : pz_or N2 u := pz_or_t R2 ru
  have rv3 : pz_or N2 v := pz_or_t R2 rv
  obtain ⟨N3, f3, c3_0, c3_1, c3_2, c3_3, c3_4, c3_5, e3⟩ := py_X3 hu hv ru3 rv3 hd (wx_bN hw) h_cN
  have g3i : ∀ a j, a < u + 14 ∨ u + 14 + 5 < a → N3.1 a j = N2.1 a j := f3.2.1
  have g3l : ∀ a j, a < u + 14 ∨ u + 14 + 5 < a → N3.2.1 a j = N2.2.1 a j := f3.2.2
  have R3 : N3.2.2 = M.2.2 := f3.1.trans R2
  have h_cT : N3.1 (v + 20) 0 = nI (cT I) := by
    rw [g3i (v + 20) 0 (by omega), g2i (v + 20) 0 (by omega), g1i (v + 20) 0 (by omega), hI 20 0 (by omega) (by omega)]
    exact wx_cT hw
  have h_cK : N3.1 (v + 20) 1 = nI (cK I) := by
    rw [g3i (v + 20) 1 (by omega), g2i (v + 20) 1 (by omega), g1i (v + 20) 1 (by omega), hI 20 1 (by omega) (by omega)]
    exact wx_cK hw
  have ru4 : pz_or N3 u := pz_or_t R3 ru
  have rv4 : pz_or N3 v := pz_or_t R3 rv
  obtain ⟨N4, f4, c4_0, c4_1, c4_2, c4_3, c4_4, c4_5, e4⟩ := py_X10 hu hv ru4 rv4 hd (wx_bT hw) h_cT (wx_bK hw) h_cK
  have g4i : ∀ a j, a < u + 20 ∨ u + 20 + 5 < a → N4.1 a j = N3.1 a j := f4.2.1
  have g4l : ∀ a j, a < u + 20 ∨ u + 20 + 5 < a → N4.2.1 a j = N3.2.1 a j := f4.2.2
  have R4 : N4.2.2 = M.2.2 := f4.1.trans R3
  have h_cD : N4.1 (v + 26) 0 = nI (cD I) := by
    rw [g4i (v + 26) 0 (by omega), g3i (v + 26) 0 (by omega), g2i (v + 26) 0 (by omega), g1i (v + 26) 0 (by omega), hI 26 0 (by omega) (by omega)]
    exact wx_cD hw
  have ru5 : pz_or N4 u := pz_or_t R4 ru
  have rv5 : pz_or N4 v := pz_or_t R4 rv
  obtain ⟨N5, f5, c5_0, c5_1, c5_2, c5_3, c5_4, c5_5, c5_6, c5_7, c5_8, c5_9, c5_10, e5⟩ := py_X2 hu hv ru5 rv5 hd (wx_bD hw) h_cD
  have g5i : ∀ a j, a < u + 26 ∨ u + 26 + 10 < a → N5.1 a j = N4.1 a j := f5.2.1
  have g5l : ∀ a j, a < u + 26 ∨ u + 26 + 10 < a → N5.2.1 a j = N4.2.1 a j := f5.2.2
  have R5 : N5.2.2 = M.2.2 := f5.1.trans R4
  have h_cF : N5.1 (v + 37) 0 = nI (cF I) := by
    rw [g5i (v + 37) 0 (by omega), g4i (v + 37) 0 (by omega), g3i (v + 37) 0 (by omega), g2i (v + 37) 0 (by omega), g1i (v + 37) 0 (by omega), hI 37 0 (by omega) (by omega)]
    exact wx_cF hw
  have ru6 : pz_or N5 u := pz_or_t R5 ru
  have rv6 : pz_or N5 v := pz_or_t R5 rv
  obtain ⟨N6, f6, c6_0, c6_1, c6_2, e6⟩ := py_X8 hu hv ru6 rv6 hd (wx_bF hw) h_cF
  have g6i : ∀ a j, a < u + 37 ∨ u + 37 + 2 < a → N6.1 a j = N5.1 a j := f6.2.1
  have g6l : ∀ a j, a < u + 37 ∨ u + 37 + 2 < a → N6.2.1 a j = N5.2.1 a j := f6.2.2
  have R6 : N6.2.2 = M.2.2 := f6.1.trans R5
  have h_cQ : N6.1 (v + 40) 2 = nI (cQ I) := by
    rw [g6i (v + 40) 2 (by omega), g5i (v + 40) 2 (by omega), g4i (v + 40) 2 (by omega), g3i (v + 40) 2 (by omega), g2i (v + 40) 2 (by omega), g1i (v + 40) 2 (by omega), hI 40 2 (by omega) (by omega)]
    exact wx_cQ hw
  have h_cR : N6.1 (v + 40) 3 = nI (cR I) := by
    rw [g6i (v + 40) 3 (by omega), g5i (v + 40) 3 (by omega), g4i (v + 40) 3 (by omega), g3i (v + 40) 3 (by omega), g2i (v + 40) 3 (by omega), g1i (v + 40) 3 (by omega), hI 40 3 (by omega) (by omega)]
    exact wx_cR hw
  have h_cS : N6.1 (v + 40) 4 = nI (cS I) := by
    rw [g6i (v + 40) 4 (by omega), g5i (v + 40) 4 (by omega), g4i (v + 40) 4 (by omega), g3i (v + 40) 4 (by omega), g2i (v + 40) 4 (by omega), g1i (v + 40) 4 (by omega), hI 40 4 (by omega) (by omega)]
    exact wx_cS hw
  have h_cW : N6.1 (v + 40) 5 = nI (cW I) := by
    rw [g6i (v + 40) 5 (by omega), g5i (v + 40) 5 (by omega), g4i (v + 40) 5 (by omega), g3i (v + 40) 5 (by omega), g2i (v + 40) 5 (by omega), g1i (v + 40) 5 (by omega), hI 40 5 (by omega) (by omega)]
    exact wx_cW hw
  have h_cE : N6.1 (v + 40) 6 = nI (cE I) := by
    rw [g6i (v + 40) 6 (by omega), g5i (v + 40) 6 (by omega), g4i (v + 40) 6 (by omega), g3i (v + 40) 6 (by omega), g2i (v + 40) 6 (by omega), g1i (v + 40) 6 (by omega), hI 40 6 (by omega) (by omega)]
    exact wx_cE hw
  have h_cO : N6.1 (v + 40) 7 = nI (cO I) := by
    rw [g6i (v + 40) 7 (by omega), g5i (v + 40) 7 (by omega), g4i (v + 40) 7 (by omega), g3i (v + 40) 7 (by omega), g2i (v + 40) 7 (by omega), g1i (v + 40) 7 (by omega), hI 40 7 (by omega) (by omega)]
    exact wx_cO hw
  have ru7 : pz_or N6 u := pz_or_t R6 ru
  have rv7 : pz_or N6 v := pz_or_t R6 rv
  obtain ⟨N7, f7, c7_0, c7_1, c7_2, c7_3, c7_4, c7_5, c7_6, c7_7, c7_8, c7_9, c7_10, e7⟩ := py_X1 hu hv ru7 rv7 hd (wx_bQ hw) h_cQ (wx_bR hw) h_cR (wx_bS hw) h_cS (wx_bW hw) h_cW (wx_bE hw) h_cE (wx_bO hw) h_cO
  have g7i : ∀ a j, a < u + 40 ∨ u + 40 + 12 < a → N7.1 a j = N6.1 a j := f7.2.1
  have g7l : ∀ a j, a < u + 40 ∨ u + 40 + 12 < a → N7.2.1 a j = N6.2.1 a j := f7.2.2
  have R7 : N7.2.2 = M.2.2 := f7.1.trans R6
  refine ⟨N7, R7, fun a j q => ?_, fun a j q => ?_, fun J L2 hJ hL2 => ?_, ?_⟩
  · rw [g7i a j (by omega), g6i a j (by omega), g5i a j (by omega), g4i a j (by omega), g3i a j (by omega), g2i a j (by omega), g1i a j (by omega)]
  · rw [g7l a j (by omega), g6l a j (by omega), g5l a j (by omega), g4l a j (by omega), g3l a j (by omega), g2l a j (by omega), g1l a j (by omega)]
  · have dum : True := trivial
    have t1 : ∀ j, j < 3 → J 6 j = I 6 j := fun j hj => by rw [← hJ 1 j (by omega) (by omega), g7i (u + 1) j (by omega), g6i (u + 1) j (by omega), g5i (u + 1) j (by omega), g4i (u + 1) j (by omega), g3i (u + 1) j (by omega), g2i (u + 1) j (by omega), c1_0 j hj, hI 1 j (by omega) (by omega)]
    have t2 : ∀ j, j < cP I → J 7 j = I 7 j := fun j hj => by rw [← hJ 2 j (by omega) (by omega), g7i (u + 2) j (by omega), g6i (u + 2) j (by omega), g5i (u + 2) j (by omega), g4i (u + 2) j (by omega), g3i (u + 2) j (by omega), g2i (u + 2) j (by omega), c1_1 2 j (by omega) (by omega) hj, hI 2 j (by omega) (by omega)]
    have t3 : ∀ j, j < cP I → J 8 j = I 8 j := fun j hj => by rw [← hJ 3 j (by omega) (by omega), g7i (u + 3) j (by omega), g6i (u + 3) j (by omega), g5i (u + 3) j (by omega), g4i (u + 3) j (by omega), g3i (u + 3) j (by omega), g2i (u + 3) j (by omega), c1_1 3 j (by omega) (by omega) hj, hI 3 j (by omega) (by omega)]
    have t4 : ∀ j, j < cP I → J 9 j = I 9 j := fun j hj => by rw [← hJ 4 j (by omega) (by omega), g7i (u + 4) j (by omega), g6i (u + 4) j (by omega), g5i (u + 4) j (by omega), g4i (u + 4) j (by omega), g3i (u + 4) j (by omega), g2i (u + 4) j (by omega), c1_1 4 j (by omega) (by omega) hj, hI 4 j (by omega) (by omega)]
    have t5 : ∀ j, j < cP I → J 10 j = I 10 j := fun j hj => by rw [← hJ 5 j (by omega) (by omega), g7i (u + 5) j (by omega), g6i (u + 5) j (by omega), g5i (u + 5) j (by omega), g4i (u + 5) j (by omega), g3i (u + 5) j (by omega), g2i (u + 5) j (by omega), c1_1 5 j (by omega) (by omega) hj, hI 5 j (by omega) (by omega)]
    have t6 : ∀ j, j < cP I → J 11 j = I 11 j := fun j hj => by rw [← hJ 6 j (by omega) (by omega), g7i (u + 6) j (by omega), g6i (u + 6) j (by omega), g5i (u + 6) j (by omega), g4i (u + 6) j (by omega), g3i (u + 6) j (by omega), g2i (u + 6) j (by omega), c1_1 6 j (by omega) (by omega) hj, hI 6 j (by omega) (by omega)]
    have t7 : ∀ j, j < cP I → J 12 j = I 12 j := fun j hj => by rw [← hJ 7 j (by omega) (by omega), g7i (u + 7) j (by omega), g6i (u + 7) j (by omega), g5i (u + 7) j (by omega), g4i (u + 7) j (by omega), g3i (u + 7) j (by omega), g2i (u + 7) j (by omega), c1_1 7 j (by omega) (by omega) hj, hI 7 j (by omega) (by omega)]
    have t8 : ∀ j, j < cP I → J 13 j = I 13 j := fun j hj => by rw [← hJ 8 j (by omega) (by omega), g7i (u + 8) j (by omega), g6i (u + 8) j (by omega), g5i (u + 8) j (by omega), g4i (u + 8) j (by omega), g3i (u + 8) j (by omega), g2i (u + 8) j (by omega), c1_1 8 j (by omega) (by omega) hj, hI 8 j (by omega) (by omega)]
    have t9 : ∀ j, j < 1 → J 14 j = I 14 j := fun j hj => by rw [← hJ 9 j (by omega) (by omega), g7i (u + 9) j (by omega), g6i (u + 9) j (by omega), g5i (u + 9) j (by omega), g4i (u + 9) j (by omega), g3i (u + 9) j (by omega), c2_0 j hj, g1i (v + 9) j (by omega), hI 9 j (by omega) (by omega)]
    have t10 : ∀ j, j < cU I → J 15 j = I 15 j := fun j hj => by rw [← hJ 10 j (by omega) (by omega), g7i (u + 10) j (by omega), g6i (u + 10) j (by omega), g5i (u + 10) j (by omega), g4i (u + 10) j (by omega), g3i (u + 10) j (by omega), c2_1 j hj, g1i (v + 10) j (by omega), hI 10 j (by omega) (by omega)]
    have t11 : ∀ j, j < cU I → J 16 j = I 16 j := fun j hj => by rw [← hJ 11 j (by omega) (by omega), g7i (u + 11) j (by omega), g6i (u + 11) j (by omega), g5i (u + 11) j (by omega), g4i (u + 11) j (by omega), g3i (u + 11) j (by omega), c2_2 j hj, g1i (v + 11) j (by omega), hI 11 j (by omega) (by omega)]
    have t12 : ∀ j, j < cU I → J 17 j = I 17 j := fun j hj => by rw [← hJ 12 j (by omega) (by omega), g7i (u + 12) j (by omega), g6i (u + 12) j (by omega), g5i (u + 12) j (by omega), g4i (u + 12) j (by omega), g3i (u + 12) j (by omega), c2_3 j hj, g1i (v + 12) j (by omega), hI 12 j (by omega) (by omega)]
    have t13 : ∀ j, j < cU I → J 18 j = I 18 j := fun j hj => by rw [← hJ 13 j (by omega) (by omega), g7i (u + 13) j (by omega), g6i (u + 13) j (by omega), g5i (u + 13) j (by omega), g4i (u + 13) j (by omega), g3i (u + 13) j (by omega), c2_4 j hj, g1i (v + 13) j (by omega), hI 13 j (by omega) (by omega)]
    have t14 : ∀ j, j < 1 → J 19 j = I 19 j := fun j hj => by rw [← hJ 14 j (by omega) (by omega), g7i (u + 14) j (by omega), g6i (u + 14) j (by omega), g5i (u + 14) j (by omega), g4i (u + 14) j (by omega), c3_0 j hj, g2i (v + 14) j (by omega), g1i (v + 14) j (by omega), hI 14 j (by omega) (by omega)]
    have t15 : ∀ j, j < cN I → J 20 j = I 20 j := fun j hj => by rw [← hJ 15 j (by omega) (by omega), g7i (u + 15) j (by omega), g6i (u + 15) j (by omega), g5i (u + 15) j (by omega), g4i (u + 15) j (by omega), c3_1 j hj, g2i (v + 15) j (by omega), g1i (v + 15) j (by omega), hI 15 j (by omega) (by omega)]
    have t16 : ∀ j, j < cN I → J 21 j = I 21 j := fun j hj => by rw [← hJ 16 j (by omega) (by omega), g7i (u + 16) j (by omega), g6i (u + 16) j (by omega), g5i (u + 16) j (by omega), g4i (u + 16) j (by omega), c3_2 j hj, g2i (v + 16) j (by omega), g1i (v + 16) j (by omega), hI 16 j (by omega) (by omega)]
    have t17 : ∀ j, j < cN I → J 22 j = I 22 j := fun j hj => by rw [← hJ 17 j (by omega) (by omega), g7i (u + 17) j (by omega), g6i (u + 17) j (by omega), g5i (u + 17) j (by omega), g4i (u + 17) j (by omega), c3_3 j hj, g2i (v + 17) j (by omega), g1i (v + 17) j (by omega), hI 17 j (by omega) (by omega)]
    have t18 : ∀ j, j < cN I → J 23 j = I 23 j := fun j hj => by rw [← hJ 18 j (by omega) (by omega), g7i (u + 18) j (by omega), g6i (u + 18) j (by omega), g5i (u + 18) j (by omega), g4i (u + 18) j (by omega), c3_4 j hj, g2i (v + 18) j (by omega), g1i (v + 18) j (by omega), hI 18 j (by omega) (by omega)]
    have t19 : ∀ j, j < 3 * cN I → L2 24 j = L 24 j := fun j hj => by rw [← hL2 19 j (by omega) (by omega), g7l (u + 19) j (by omega), g6l (u + 19) j (by omega), g5l (u + 19) j (by omega), g4l (u + 19) j (by omega), c3_5 j hj, g2l (v + 19) j (by omega), g1l (v + 19) j (by omega), hL 19 j (by omega) (by omega)]
    have t20 : ∀ j, j < 2 → J 25 j = I 25 j := fun j hj => by rw [← hJ 20 j (by omega) (by omega), g7i (u + 20) j (by omega), g6i (u + 20) j (by omega), g5i (u + 20) j (by omega), c4_0 j hj, g3i (v + 20) j (by omega), g2i (v + 20) j (by omega), g1i (v + 20) j (by omega), hI 20 j (by omega) (by omega)]
    have t21 : ∀ j, j < 3 * cT I → L2 26 j = L 26 j := fun j hj => by rw [← hL2 21 j (by omega) (by omega), g7l (u + 21) j (by omega), g6l (u + 21) j (by omega), g5l (u + 21) j (by omega), c4_1 j hj, g3l (v + 21) j (by omega), g2l (v + 21) j (by omega), g1l (v + 21) j (by omega), hL 21 j (by omega) (by omega)]
    have t22 : ∀ j, j < cK I → J 27 j = I 27 j := fun j hj => by rw [← hJ 22 j (by omega) (by omega), g7i (u + 22) j (by omega), g6i (u + 22) j (by omega), g5i (u + 22) j (by omega), c4_2 j hj, g3i (v + 22) j (by omega), g2i (v + 22) j (by omega), g1i (v + 22) j (by omega), hI 22 j (by omega) (by omega)]
    have t23 : ∀ j, j < cK I → J 28 j = I 28 j := fun j hj => by rw [← hJ 23 j (by omega) (by omega), g7i (u + 23) j (by omega), g6i (u + 23) j (by omega), g5i (u + 23) j (by omega), c4_3 j hj, g3i (v + 23) j (by omega), g2i (v + 23) j (by omega), g1i (v + 23) j (by omega), hI 23 j (by omega) (by omega)]
    have t24 : ∀ j, j < 2 * cK I → J 29 j = I 29 j := fun j hj => by rw [← hJ 24 j (by omega) (by omega), g7i (u + 24) j (by omega), g6i (u + 24) j (by omega), g5i (u + 24) j (by omega), c4_4 j hj, g3i (v + 24) j (by omega), g2i (v + 24) j (by omega), g1i (v + 24) j (by omega), hI 24 j (by omega) (by omega)]
    have t25 : ∀ j, j < 2 * cK I * 100 → J 30 j = I 30 j := fun j hj => by rw [← hJ 25 j (by omega) (by omega), g7i (u + 25) j (by omega), g6i (u + 25) j (by omega), g5i (u + 25) j (by omega), c4_5 j hj, g3i (v + 25) j (by omega), g2i (v + 25) j (by omega), g1i (v + 25) j (by omega), hI 25 j (by omega) (by omega)]
    have t26 : ∀ j, j < 1 → J 31 j = I 31 j := fun j hj => by rw [← hJ 26 j (by omega) (by omega), g7i (u + 26) j (by omega), g6i (u + 26) j (by omega), c5_0 j hj, g4i (v + 26) j (by omega), g3i (v + 26) j (by omega), g2i (v + 26) j (by omega), g1i (v + 26) j (by omega), hI 26 j (by omega) (by omega)]
    have t27 : ∀ j, j < cD I → J 32 j = I 32 j := fun j hj => by rw [← hJ 27 j (by omega) (by omega), g7i (u + 27) j (by omega), g6i (u + 27) j (by omega), c5_1 j hj, g4i (v + 27) j (by omega), g3i (v + 27) j (by omega), g2i (v + 27) j (by omega), g1i (v + 27) j (by omega), hI 27 j (by omega) (by omega)]
    have t28 : ∀ j, j < cD I → J 33 j = I 33 j := fun j hj => by rw [← hJ 28 j (by omega) (by omega), g7i (u + 28) j (by omega), g6i (u + 28) j (by omega), c5_2 j hj, g4i (v + 28) j (by omega), g3i (v + 28) j (by omega), g2i (v + 28) j (by omega), g1i (v + 28) j (by omega), hI 28 j (by omega) (by omega)]
    have t29 : ∀ j, j < cD I → J 34 j = I 34 j := fun j hj => by rw [← hJ 29 j (by omega) (by omega), g7i (u + 29) j (by omega), g6i (u + 29) j (by omega), c5_3 j hj, g4i (v + 29) j (by omega), g3i (v + 29) j (by omega), g2i (v + 29) j (by omega), g1i (v + 29) j (by omega), hI 29 j (by omega) (by omega)]
    have t30 : ∀ j, j < cD I → J 35 j = I 35 j := fun j hj => by rw [← hJ 30 j (by omega) (by omega), g7i (u + 30) j (by omega), g6i (u + 30) j (by omega), c5_4 j hj, g4i (v + 30) j (by omega), g3i (v + 30) j (by omega), g2i (v + 30) j (by omega), g1i (v + 30) j (by omega), hI 30 j (by omega) (by omega)]
    have t31 : ∀ j, j < cD I → J 36 j = I 36 j := fun j hj => by rw [← hJ 31 j (by omega) (by omega), g7i (u + 31) j (by omega), g6i (u + 31) j (by omega), c5_5 j hj, g4i (v + 31) j (by omega), g3i (v + 31) j (by omega), g2i (v + 31) j (by omega), g1i (v + 31) j (by omega), hI 31 j (by omega) (by omega)]
    have t32 : ∀ j, j < cD I → J 37 j = I 37 j := fun j hj => by rw [← hJ 32 j (by omega) (by omega), g7i (u + 32) j (by omega), g6i (u + 32) j (by omega), c5_6 j hj, g4i (v + 32) j (by omega), g3i (v + 32) j (by omega), g2i (v + 32) j (by omega), g1i (v + 32) j (by omega), hI 32 j (by omega) (by omega)]
    have t33 : ∀ j, j < cD I → J 38 j = I 38 j := fun j hj => by rw [← hJ 33 j (by omega) (by omega), g7i (u + 33) j (by omega), g6i (u + 33) j (by omega), c5_7 j hj, g4i (v + 33) j (by omega), g3i (v + 33) j (by omega), g2i (v + 33) j (by omega), g1i (v + 33) j (by omega), hI 33 j (by omega) (by omega)]
    have t34 : ∀ j, j < 2 * cD I → J 39 j = I 39 j := fun j hj => by rw [← hJ 34 j (by omega) (by omega), g7i (u + 34) j (by omega), g6i (u + 34) j (by omega), c5_8 j hj, g4i (v + 34) j (by omega), g3i (v + 34) j (by omega), g2i (v + 34) j (by omega), g1i (v + 34) j (by omega), hI 34 j (by omega) (by omega)]
    have t35 : ∀ j, j < 2 * cD I → J 40 j = I 40 j := fun j hj => by rw [← hJ 35 j (by omega) (by omega), g7i (u + 35) j (by omega), g6i (u + 35) j (by omega), c5_9 j hj, g4i (v + 35) j (by omega), g3i (v + 35) j (by omega), g2i (v + 35) j (by omega), g1i (v + 35) j (by omega), hI 35 j (by omega) (by omega)]
    have t36 : ∀ j, j < 2 * cD I → J 41 j = I 41 j := fun j hj => by rw [← hJ 36 j (by omega) (by omega), g7i (u + 36) j (by omega), g6i (u + 36) j (by omega), c5_10 j hj, g4i (v + 36) j (by omega), g3i (v + 36) j (by omega), g2i (v + 36) j (by omega), g1i (v + 36) j (by omega), hI 36 j (by omega) (by omega)]
    have t37 : ∀ j, j < 1 → J 42 j = I 42 j := fun j hj => by rw [← hJ 37 j (by omega) (by omega), g7i (u + 37) j (by omega), c6_0 j hj, g5i (v + 37) j (by omega), g4i (v + 37) j (by omega), g3i (v + 37) j (by omega), g2i (v + 37) j (by omega), g1i (v + 37) j (by omega), hI 37 j (by omega) (by omega)]
    have t38 : ∀ j, j < cF I → L2 43 j = L 43 j := fun j hj => by rw [← hL2 38 j (by omega) (by omega), g7l (u + 38) j (by omega), c6_1 j hj, g5l (v + 38) j (by omega), g4l (v + 38) j (by omega), g3l (v + 38) j (by omega), g2l (v + 38) j (by omega), g1l (v + 38) j (by omega), hL 38 j (by omega) (by omega)]
    have t39 : ∀ j, j < cF I → L2 44 j = L 44 j := fun j hj => by rw [← hL2 39 j (by omega) (by omega), g7l (u + 39) j (by omega), c6_2 j hj, g5l (v + 39) j (by omega), g4l (v + 39) j (by omega), g3l (v + 39) j (by omega), g2l (v + 39) j (by omega), g1l (v + 39) j (by omega), hL 39 j (by omega) (by omega)]
    have t40 : ∀ j, j < 8 → J 45 j = I 45 j := fun j hj => by rw [← hJ 40 j (by omega) (by omega), c7_0 j hj, g6i (v + 40) j (by omega), g5i (v + 40) j (by omega), g4i (v + 40) j (by omega), g3i (v + 40) j (by omega), g2i (v + 40) j (by omega), g1i (v + 40) j (by omega), hI 40 j (by omega) (by omega)]
    have t41 : ∀ j, j < cQ I → J 46 j = I 46 j := fun j hj => by rw [← hJ 41 j (by omega) (by omega), c7_1 j hj, g6i (v + 41) j (by omega), g5i (v + 41) j (by omega), g4i (v + 41) j (by omega), g3i (v + 41) j (by omega), g2i (v + 41) j (by omega), g1i (v + 41) j (by omega), hI 41 j (by omega) (by omega)]
    have t42 : ∀ j, j < cQ I → J 47 j = I 47 j := fun j hj => by rw [← hJ 42 j (by omega) (by omega), c7_2 j hj, g6i (v + 42) j (by omega), g5i (v + 42) j (by omega), g4i (v + 42) j (by omega), g3i (v + 42) j (by omega), g2i (v + 42) j (by omega), g1i (v + 42) j (by omega), hI 42 j (by omega) (by omega)]
    have t44 : ∀ j, j < cR I → J 49 j = I 49 j := fun j hj => by rw [← hJ 44 j (by omega) (by omega), c7_3 j hj, g6i (v + 44) j (by omega), g5i (v + 44) j (by omega), g4i (v + 44) j (by omega), g3i (v + 44) j (by omega), g2i (v + 44) j (by omega), g1i (v + 44) j (by omega), hI 44 j (by omega) (by omega)]
    have t45 : ∀ j, j < cR I → J 50 j = I 50 j := fun j hj => by rw [← hJ 45 j (by omega) (by omega), c7_4 j hj, g6i (v + 45) j (by omega), g5i (v + 45) j (by omega), g4i (v + 45) j (by omega), g3i (v + 45) j (by omega), g2i (v + 45) j (by omega), g1i (v + 45) j (by omega), hI 45 j (by omega) (by omega)]
    have t47 : ∀ j, j < cS I → J 52 j = I 52 j := fun j hj => by rw [← hJ 47 j (by omega) (by omega), c7_5 j hj, g6i (v + 47) j (by omega), g5i (v + 47) j (by omega), g4i (v + 47) j (by omega), g3i (v + 47) j (by omega), g2i (v + 47) j (by omega), g1i (v + 47) j (by omega), hI 47 j (by omega) (by omega)]
    have t48 : ∀ j, j < cS I → J 53 j = I 53 j := fun j hj => by rw [← hJ 48 j (by omega) (by omega), c7_6 j hj, g6i (v + 48) j (by omega), g5i (v + 48) j (by omega), g4i (v + 48) j (by omega), g3i (v + 48) j (by omega), g2i (v + 48) j (by omega), g1i (v + 48) j (by omega), hI 48 j (by omega) (by omega)]
    have t49 : ∀ j, j < cW I → J 54 j = I 54 j := fun j hj => by rw [← hJ 49 j (by omega) (by omega), c7_7 j hj, g6i (v + 49) j (by omega), g5i (v + 49) j (by omega), g4i (v + 49) j (by omega), g3i (v + 49) j (by omega), g2i (v + 49) j (by omega), g1i (v + 49) j (by omega), hI 49 j (by omega) (by omega)]
    have t50 : ∀ j, j < cE I → J 55 j = I 55 j := fun j hj => by rw [← hJ 50 j (by omega) (by omega), c7_8 j hj, g6i (v + 50) j (by omega), g5i (v + 50) j (by omega), g4i (v + 50) j (by omega), g3i (v + 50) j (by omega), g2i (v + 50) j (by omega), g1i (v + 50) j (by omega), hI 50 j (by omega) (by omega)]
    have t51 : ∀ j, j < cO I → J 56 j = I 56 j := fun j hj => by rw [← hJ 51 j (by omega) (by omega), c7_9 j hj, g6i (v + 51) j (by omega), g5i (v + 51) j (by omega), g4i (v + 51) j (by omega), g3i (v + 51) j (by omega), g2i (v + 51) j (by omega), g1i (v + 51) j (by omega), hI 51 j (by omega) (by omega)]
    have t52 : ∀ j, j < cO I → J 57 j = I 57 j := fun j hj => by rw [← hJ 52 j (by omega) (by omega), c7_10 j hj, g6i (v + 52) j (by omega), g5i (v + 52) j (by omega), g4i (v + 52) j (by omega), g3i (v + 52) j (by omega), g2i (v + 52) j (by omega), g1i (v + 52) j (by omega), hI 52 j (by omega) (by omega)]
    have A1 : ∀ a, 7 ≤ a → a ≤ 13 → pz_pg I J a (cP I) := fun a h1 h2 j hj => by
      have z : a = 7 ∨ a = 8 ∨ a = 9 ∨ a = 10 ∨ a = 11 ∨ a = 12 ∨ a = 13 := by omega
      rcases z with rfl | rfl | rfl | rfl | rfl | rfl | rfl
      · exact t2 j hj
      · exact t3 j hj
      · exact t4 j hj
      · exact t5 j hj
      · exact t6 j hj
      · exact t7 j hj
      · exact t8 j hj
    have A2 : ∀ a, 15 ≤ a → a ≤ 18 → pz_pg I J a (cU I) := fun a h1 h2 j hj => by
      have z : a = 15 ∨ a = 16 ∨ a = 17 ∨ a = 18 := by omega
      rcases z with rfl | rfl | rfl | rfl
      · exact t10 j hj
      · exact t11 j hj
      · exact t12 j hj
      · exact t13 j hj
    have A3 : ∀ a, 20 ≤ a → a ≤ 23 → pz_pg I J a (cN I) := fun a h1 h2 j hj => by
      have z : a = 20 ∨ a = 21 ∨ a = 22 ∨ a = 23 := by omega
      rcases z with rfl | rfl | rfl | rfl
      · exact t15 j hj
      · exact t16 j hj
      · exact t17 j hj
      · exact t18 j hj
    have A4 : ∀ a, 27 ≤ a → a ≤ 28 → pz_pg I J a (cK I) := fun a h1 h2 j hj => by
      have z : a = 27 ∨ a = 28 := by omega
      rcases z with rfl | rfl
      · exact t22 j hj
      · exact t23 j hj
    have A5 : ∀ a, 32 ≤ a → a ≤ 38 → pz_pg I J a (cD I) := fun a h1 h2 j hj => by
      have z : a = 32 ∨ a = 33 ∨ a = 34 ∨ a = 35 ∨ a = 36 ∨ a = 37 ∨ a = 38 := by omega
      rcases z with rfl | rfl | rfl | rfl | rfl | rfl | rfl
      · exact t27 j hj
      · exact t28 j hj
      · exact t29 j hj
      · exact t30 j hj
      · exact t31 j hj
      · exact t32 j hj
      · exact t33 j hj
    have A6 : ∀ a, 39 ≤ a → a ≤ 41 → pz_pg I J a (2 * cD I) := fun a h1 h2 j hj => by
      have z : a = 39 ∨ a = 40 ∨ a = 41 := by omega
      rcases z with rfl | rfl | rfl
      · exact t34 j hj
      · exact t35 j hj
      · exact t36 j hj
    exact ⟨⟨t1, t9 0 (by omega), t14 0 (by omega), t20, t26 0 (by omega), t37 0 (by omega), t40⟩, A1, A2, A3, ⟨A4, t24, t25⟩, ⟨A5, A6⟩, ⟨t19, t21, fun j hj => ⟨t38 j hj, t39 j hj⟩⟩, t41, t42, t44, t45, t47, t48, t49, t50, t51, t52⟩
  · have su : pu_sh u = (0, 5) := by have := hu 0 (by omega); rw [Nat.add_zero] at this; rw [this]; rfl
    have sv : pu_sh v = (0, 5) := by have := hv 0 (by omega); rw [Nat.add_zero] at this; rw [this]; rfl
    have qu0 : M.2.2.1 u 0 = some (u + 1) := by have := ru 0 0 1 rfl (by omega); rw [Nat.add_zero] at this; exact this
    have qv0 : M.2.2.1 v 0 = some (v + 1) := by have := rv 0 0 1 rfl (by omega); rw [Nat.add_zero] at this; exact this
    have qu1 : M.2.2.1 u 1 = some (u + 9) := by have := ru 0 1 9 rfl (by omega); rw [Nat.add_zero] at this; exact this
    have qv1 : M.2.2.1 v 1 = some (v + 9) := by have := rv 0 1 9 rfl (by omega); rw [Nat.add_zero] at this; exact this
    have qu2 : M.2.2.1 u 2 = some (u + 14) := by have := ru 0 2 14 rfl (by omega); rw [Nat.add_zero] at this; exact this
    have qv2 : M.2.2.1 v 2 = some (v + 14) := by have := rv 0 2 14 rfl (by omega); rw [Nat.add_zero] at this; exact this
    have qu3 : M.2.2.1 u 3 = some (u + 20) := by have := ru 0 3 20 rfl (by omega); rw [Nat.add_zero] at this; exact this
    have qv3 : M.2.2.1 v 3 = some (v + 20) := by have := rv 0 3 20 rfl (by omega); rw [Nat.add_zero] at this; exact this
    have qu4 : M.2.2.1 u 4 = some (u + 26) := by have := ru 0 4 26 rfl (by omega); rw [Nat.add_zero] at this; exact this
    have qv4 : M.2.2.1 v 4 = some (v + 26) := by have := rv 0 4 26 rfl (by omega); rw [Nat.add_zero] at this; exact this
    have qu5 : M.2.2.1 u 5 = some (u + 37) := by have := ru 0 5 37 rfl (by omega); rw [Nat.add_zero] at this; exact this
    have qv5 : M.2.2.1 v 5 = some (v + 37) := by have := rv 0 5 37 rfl (by omega); rw [Nat.add_zero] at this; exact this
    have qu6 : M.2.2.1 u 6 = some (u + 40) := by have := ru 0 6 40 rfl (by omega); rw [Nat.add_zero] at this; exact this
    have qv6 : M.2.2.1 v 6 = some (v + 40) := by have := rv 0 6 40 rfl (by omega); rw [Nat.add_zero] at this; exact this
    have wu0 : pu_sh (u + 1) = (0, 6) := by rw [hu 1 (by omega)]; rfl
    have wv0 : pu_sh (v + 1) = (0, 6) := by rw [hv 1 (by omega)]; rfl
    have wu1 : pu_sh (u + 9) = (0, 4) := by rw [hu 9 (by omega)]; rfl
    have wv1 : pu_sh (v + 9) = (0, 4) := by rw [hv 9 (by omega)]; rfl
    have wu2 : pu_sh (u + 14) = (0, 3) := by rw [hu 14 (by omega)]; rfl
    have wv2 : pu_sh (v + 14) = (0, 3) := by rw [hv 14 (by omega)]; rfl
    have wu3 : pu_sh (u + 20) = (0, 10) := by rw [hu 20 (by omega)]; rfl
    have wv3 : pu_sh (v + 20) = (0, 10) := by rw [hv 20 (by omega)]; rfl
    have wu4 : pu_sh (u + 26) = (0, 2) := by rw [hu 26 (by omega)]; rfl
    have wv4 : pu_sh (v + 26) = (0, 2) := by rw [hv 26 (by omega)]; rfl
    have wu5 : pu_sh (u + 37) = (0, 8) := by rw [hu 37 (by omega)]; rfl
    have wv5 : pu_sh (v + 37) = (0, 8) := by rw [hv 37 (by omega)]; rfl
    have wu6 : pu_sh (u + 40) = (0, 1) := by rw [hu 40 (by omega)]; rfl
    have wv6 : pu_sh (v + 40) = (0, 1) := by rw [hv 40 (by omega)]; rfl
    have S1 : N1.2.2.1 = M.2.2.1 := by rw [R1]
    have S2 : N2.2.2.1 = M.2.2.1 := by rw [R2]
    have S3 : N3.2.2.1 = M.2.2.1 := by rw [R3]
    have S4 : N4.2.2.1 = M.2.2.1 := by rw [R4]
    have S5 : N5.2.2.1 = M.2.2.1 := by rw [R5]
    have S6 : N6.2.2.1 = M.2.2.1 := by rw [R6]
    rw [qX5_copyFrom]
    simp [a_ent, bX5_copyFrom_0, bX5_copyFrom_52, a_ald, a_cv, a_gr, a_vret, sh_14, sh_19, sh_25, sh_31, sh_42, sh_45, sh_5, sh_6, pu_rv, pu_as, Value.category, pu_bk, pu_kl, List.replicate, pu_wi_1, pu_wi_2, nl_add, nl_ladd, nl_aa, nl_mul, nl_rmul, nl_mm, pu_qe0, pu_qe1, su, sv, qu0, qv0, qu1, qv1, qu2, qv2, qu3, qv3, qu4, qv4, qu5, qv5, qu6, qv6, wu0, wv0, wu1, wv1, wu2, wv2, wu3, wv3, wu4, wv4, wu5, wv5, wu6, wv6, S1, S2, S3, S4, S5, S6, e1, e2, e3, e4, e5, e6, e7]
    all_goals try simp (maxSteps := 400000) (disch := omega) [nl_tle, nl_fle, nl_tlt, nl_flt, nl_teq, nl_feq, nl_sub, nl_ss, nl_lt, nl_llt, nl_ltt, nl_le, nl_lle, nl_lee, nl_eq, nl_leq, nl_ee, nl_div, nl_rem, nl_cl, nl_n1, nl_n2, nl_n3, nl_n4, nl_add, nl_ladd, nl_aa, nl_mul, nl_rmul, nl_mm, pu_wi_1, pu_wi_2, bX5_copyFrom_0, bX5_copyFrom_52, a_ald, a_cv, a_gr, a_vret, sh_14, sh_19, sh_25, sh_31, sh_42, sh_45, sh_5, sh_6, pu_rv, pu_as, Value.category, pu_bk, pu_kl, pu_qe0, pu_qe1, su, sv, qu0, qv0, qu1, qv1, qu2, qv2, qu3, qv3, qu4, qv4, qu5, qv5, qu6, qv6, wu0, wv0, wu1, wv1, wu2, wv2, wu3, wv3, wu4, wv4, wu5, wv5, wu6, wv6, S1, S2, S3, S4, S5, S6, e1, e2, e3, e4, e5, e6, e7]
    all_goals try simp [bX5_copyFrom_0, bX5_copyFrom_52, a_ald, a_cv, a_gr, a_vret, sh_14, sh_19, sh_25, sh_31, sh_42, sh_45, sh_5, sh_6, pu_rv, pu_as, Value.category, pu_bk, pu_kl, List.replicate, pu_wi_1, pu_wi_2, nl_add, nl_ladd, nl_aa, nl_mul, nl_rmul, nl_mm, pu_qe0, pu_qe1, su, sv, qu0, qv0, qu1, qv1, qu2, qv2, qu3, qv3, qu4, qv4, qu5, qv5, qu6, qv6, wu0, wv0, wu1, wv1, wu2, wv2, wu3, wv3, wu4, wv4, wu5, wv5, wu6, wv6, S1, S2, S3, S4, S5, S6, e1, e2, e3, e4, e5, e6, e7]
    all_goals try simp (maxSteps := 400000) (disch := omega) [nl_tle, nl_fle, nl_tlt, nl_flt, nl_teq, nl_feq, nl_sub, nl_ss, nl_lt, nl_llt, nl_ltt, nl_le, nl_lle, nl_lee, nl_eq, nl_leq, nl_ee, nl_div, nl_rem, nl_cl, nl_n1, nl_n2, nl_n3, nl_n4, nl_add, nl_ladd, nl_aa, nl_mul, nl_rmul, nl_mm, pu_wi_1, pu_wi_2, bX5_copyFrom_0, bX5_copyFrom_52, a_ald, a_cv, a_gr, a_vret, sh_14, sh_19, sh_25, sh_31, sh_42, sh_45, sh_5, sh_6, pu_rv, pu_as, Value.category, pu_bk, pu_kl, pu_qe0, pu_qe1, su, sv, qu0, qv0, qu1, qv1, qu2, qv2, qu3, qv3, qu4, qv4, qu5, qv5, qu6, qv6, wu0, wv0, wu1, wv1, wu2, wv2, wu3, wv3, wu4, wv4, wu5, wv5, wu6, wv6, S1, S2, S3, S4, S5, S6, e1, e2, e3, e4, e5, e6, e7]
