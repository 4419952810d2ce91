/-! one more paper: doors -/
section
variable {I J : Nat → Nat → Int32} {L L' : Nat → Nat → Int64} {f a b ta tb ru : Int32}
theorem wd_ext (h : pz_pp I J f a b ta tb ru) (hw : pu_WF I L) (hP : cP I < 200) (hd : pz_de I J) (hD : cD J ≤ cD I + 1) (hK : cK I ≤ cK J)
    (p0 : ∀ x, 39 ≤ x → x ≤ 41 → ∀ d, d < cD I → J x (2 * d) = I x (2 * d))
    (p1 : ∀ x, 39 ≤ x → x ≤ 41 → ∀ d, d < cD I → J 38 d = I 38 d → J x (2 * d + 1) = I x (2 * d + 1))
    (hc : ∀ d, d < cD I → I 37 d = -1 → J 37 d = nI (cP I) → I 32 d = 0 → (a = I 39 (2 * d) ∨ b = I 39 (2 * d)) ∧ (J 38 d ≠ -1 → a = J 39 (2 * d + 1) ∨ b = J 39 (2 * d + 1)))
    (he : ∀ d, d < cD I → I 38 d = -1 → J 38 d = nI (cP I) → I 32 d = 0 ∧ 0 ≤ (J 39 (2 * d + 1)).toInt ∧ (J 39 (2 * d + 1)).toInt < cK J ∧ J 39 (2 * d + 1) ≠ I 39 (2 * d) ∧ 0 ≤ (J 40 (2 * d + 1)).toInt ∧ (J 40 (2 * d + 1)).toInt ≤ 1 ∧ 0 ≤ (J 41 (2 * d + 1)).toInt ∧ (J 41 (2 * d + 1)).toInt ≤ 9999 ∧ (a = J 39 (2 * d + 1) ∨ b = J 39 (2 * d + 1)) ∧ (a = I 39 (2 * d) ∨ b = I 39 (2 * d)) ∧ J 37 d = -1)
    (hn : ∀ d, cD I ≤ d → d < cD J → (J 39 (2 * d + 1) = -1 ∧ J 40 (2 * d + 1) = -1 ∧ J 41 (2 * d + 1) = -1) ∧ ((J 32 d = 0 ∧ J 33 d = -1 ∧ J 35 d = 0 ∧ J 34 d = nI d ∧ 0 ≤ (J 39 (2 * d)).toInt ∧ (J 39 (2 * d)).toInt < cK J ∧ 0 ≤ (J 40 (2 * d)).toInt ∧ (J 40 (2 * d)).toInt ≤ 1 ∧ 0 ≤ (J 41 (2 * d)).toInt ∧ (J 41 (2 * d)).toInt ≤ 9999 ∧ (a = J 39 (2 * d) ∨ b = J 39 (2 * d))) ∨ ((2 ≤ (J 32 d).toInt ∧ (J 32 d).toInt ≤ 4) ∧ 0 ≤ (J 33 d).toInt ∧ (J 33 d).toInt < d ∧ (J 32 d = 3 → I 32 (J 33 d).toNatClampNeg = 2) ∧ (J 32 d ≠ 3 → I 32 (J 33 d).toNatClampNeg = 0) ∧ J 34 d = I 34 (J 33 d).toNatClampNeg ∧ J 39 (2 * d) = -1 ∧ J 40 (2 * d) = -1 ∧ J 41 (2 * d) = -1 ∧ 0 ≤ (J 35 d).toInt ∧ (J 35 d).toInt ≤ 99 ∧ (J 32 d = 2 → J 35 d = 0) ∧ (J 32 d ≠ 2 → J 35 d ≠ 0))))
    (hC : ∀ d, d < cD J → J 37 d = -1 → (J 32 d ≠ 0 → J 37 (J 33 d).toNatClampNeg = -1) ∧ J 37 (J 34 d).toNatClampNeg = -1) : w_d J := by
  have cJ := pz_cPJ h hP
  have tP := nl_n0 (a := cP I) (by omega)
  have nP : (nI (cP I)).toNatClampNeg = cP I := nl_cl _ (by omega)
  have m1 : (-1 : Int32).toInt = -1 := by decide
  have m0 : (0 : Int32).toInt = 0 := by decide
  have bD := wx_bD hw
  obtain ⟨D, D37, D38, Dc, Dn⟩ := id hd
  have S : ∀ k, k < cD J → k < cD I ∨ (cD I ≤ k ∧ k < cD J) := fun k hk => by omega
  have oo : ∀ d, d < cD J → 0 ≤ (J 36 d).toInt ∧ (J 36 d).toInt < cP I + 1 := by
    intro d hd
    rcases S d hd with z | z
    · rw [D 36 (by omega) (by omega) d z]; have := wx_do hw d z; omega
    · rw [(Dn d z.1 z.2).1]; omega
  have oc : ∀ d, d < cD J → -1 ≤ (J 37 d).toInt ∧ (J 37 d).toInt < cP I + 1 ∧ (J 37 d = -1 ∨ (J 36 d).toInt < (J 37 d).toInt) := by
    intro d hd
    rcases S d hd with z | z
    · have y := wx_dc hw d z
      have x := wx_do hw d z
      rw [D 36 (by omega) (by omega) d z]
      rcases D37 d z with v | ⟨_, v⟩
      · rw [v]; exact ⟨y.1, by omega, y.2.2⟩
      · rw [v]; exact ⟨by omega, by omega, Or.inr (by omega)⟩
    · rw [(Dn d z.1 z.2).2.1]; exact ⟨by omega, by omega, Or.inl rfl⟩
  have q1 : ∀ d q, d < cD J → q ≤ cP I → pu_oq (J 36 d) (J 37 d) q → d < cD I ∧ pu_oq (I 36 d) (I 37 d) q := by
    intro d q hd hq o
    rcases S d hd with z | z
    · refine ⟨z, ?_⟩
      rw [D 36 (by omega) (by omega) d z, pz_oq_o hP (wx_do hw d z).2 (wx_dc hw d z).2.1 (D37 d z) hq] at o
      exact o
    · rw [(Dn d z.1 z.2).1] at o
      exact (pz_oq_n hP hq o).elim
  have q3 : ∀ d q, d < cD I → q ≤ cP I → pu_oq (I 36 d) (I 37 d) q → pu_oq (J 36 d) (J 37 d) q := by
    intro d q hd hq o
    rw [D 36 (by omega) (by omega) d hd, pz_oq_o hP (wx_do hw d hd).2 (wx_dc hw d hd).2.1 (D37 d hd) hq]
    exact o
  have SQ : ∀ q, q ≤ cP I + 1 → q ≤ cP I ∨ q = cP I + 1 := fun q hq => by omega
  have ov : ∀ d, d < cD I → I 32 d ≠ 0 → (I 33 d).toNatClampNeg < cD I := by
    intro d hd z
    have y := wx_d2 hw d hd z
    have x := pu_on (x := I 33 d) (n := d) ⟨y.1, y.2.1⟩
    omega
  have fr : ∀ d, d < cD I → (I 34 d).toNatClampNeg < cD I := by
    intro d hd
    have y := wx_df hw d hd
    have x := pu_on (x := I 34 d) (n := d + 1) ⟨y.1, by omega⟩
    omega
  have nov : ∀ d, cD I ≤ d → d < cD J → J 32 d ≠ 0 → (J 33 d).toNatClampNeg < cD I := by
    intro d r1 r2 z
    rcases (hn d r1 r2).2 with y | y
    · exact absurd y.1 z
    · have x := pu_on (x := J 33 d) (n := d) ⟨y.2.1, y.2.2.1⟩
      omega
  unfold w_d
  rw [cJ]
  refine ⟨fun d hd => ?_, oo, oc, fun d hd => ?_, fun d hd e => ?_, fun d hd e => ?_, fun d hd e => ?_, fun d hd e => ?_, fun d hd => ?_, fun d e r1 r2 => ?_, fun q d r hd e o => ?_, fun q d r hd o => ?_⟩
  · rcases S d hd with z | z
    · rw [D 32 (by omega) (by omega) d z]; exact wx_ds hw d z
    · rcases (hn d z.1 z.2).2 with y | y
      · exact Or.inl y.1
      · exact Or.inr y.1
  · rcases S d hd with z | z
    · have y := wx_de hw d z
      have x := wx_do hw d z
      rw [D 36 (by omega) (by omega) d z]
      rcases D38 d z with v | ⟨_, v⟩
      · rw [v]; exact ⟨y.1, by omega, y.2.2⟩
      · rw [v]; exact ⟨by omega, by omega, Or.inr (by omega)⟩
    · rw [(Dn d z.1 z.2).2.2]; exact ⟨by omega, by omega, Or.inl rfl⟩
  · rcases S d hd with z | z
    · rw [D 32 (by omega) (by omega) d z] at e
      have y := wx_d0 hw d z e
      have x := pu_on (wx_do hw d z)
      rw [D 33 (by omega) (by omega) d z, D 35 (by omega) (by omega) d z, D 34 (by omega) (by omega) d z, D 36 (by omega) (by omega) d z, p0 39 (by omega) (by omega) d z, p0 40 (by omega) (by omega) d z, p0 41 (by omega) (by omega) d z, pz_tcJ h x.2]
      refine ⟨y.1, y.2.1, y.2.2.1, y.2.2.2.1, by omega, y.2.2.2.2.2.1, y.2.2.2.2.2.2.1, y.2.2.2.2.2.2.2.1, y.2.2.2.2.2.2.2.2.1, y.2.2.2.2.2.2.2.2.2.1, fun v => ?_⟩
      rcases D37 d z with t | ⟨t1, t2⟩
      · rw [t] at v ⊢
        have c9 := pu_on (x := I 37 d) (n := cP I) ⟨pu_ne1 (wx_dc hw d z).1 v, (wx_dc hw d z).2.1⟩
        rw [pz_tcJ h c9.2]
        exact y.2.2.2.2.2.2.2.2.2.2 v
      · rw [t2, nP, pz_tcP h]
        exact (hc d z t1 t2 e).1
    · rcases (hn d z.1 z.2).2 with y | y
      · rw [(Dn d z.1 z.2).1, nP, pz_tcP h]
        exact ⟨y.2.1, y.2.2.1, y.2.2.2.1, y.2.2.2.2.1, y.2.2.2.2.2.1, y.2.2.2.2.2.2.1, y.2.2.2.2.2.2.2.1, y.2.2.2.2.2.2.2.2.1, y.2.2.2.2.2.2.2.2.2.1, y.2.2.2.2.2.2.2.2.2.2, fun v => absurd (Dn d z.1 z.2).2.1 v⟩
      · have := y.1; rw [e] at this; omega
  · rcases S d hd with z | z
    · rw [D 32 (by omega) (by omega) d z, p0 39 (by omega) (by omega) d z]
      rcases D38 d z with t | ⟨t1, t2⟩
      · have e2 := e
        rw [t] at e2
        have y := wx_d1 hw d z e2
        have c8 := pu_on (x := I 38 d) (n := cP I) ⟨pu_ne1 (wx_de hw d z).1 e2, (wx_de hw d z).2.1⟩
        rw [p1 39 (by omega) (by omega) d z t, p1 40 (by omega) (by omega) d z t, p1 41 (by omega) (by omega) d z t, t, pz_tcJ h c8.2, pz_tcJ h c8.2]
        refine ⟨y.1, y.2.1, by omega, y.2.2.2.1, y.2.2.2.2.1, y.2.2.2.2.2.1, y.2.2.2.2.2.2.1, y.2.2.2.2.2.2.2.1, y.2.2.2.2.2.2.2.2.1, y.2.2.2.2.2.2.2.2.2.1, fun v => ?_⟩
        rcases D37 d z with u | ⟨u1, u2⟩
        · rw [u] at v ⊢
          have c9 := pu_on (x := I 37 d) (n := cP I) ⟨pu_ne1 (wx_dc hw d z).1 v, (wx_dc hw d z).2.1⟩
          rw [pz_tcJ h c9.2]
          exact y.2.2.2.2.2.2.2.2.2.2 v
        · rw [u2, nP, pz_tcP h]
          have w := (hc d z u1 u2 y.1).2 e
          rw [p1 39 (by omega) (by omega) d z t] at w
          exact w
      · have y := he d z t1 t2
        rw [t2, nP, pz_tcP h, pz_tcP h]
        exact ⟨y.1, y.2.1, y.2.2.1, y.2.2.2.1, y.2.2.2.2.1, y.2.2.2.2.2.1, y.2.2.2.2.2.2.1, y.2.2.2.2.2.2.2.1, y.2.2.2.2.2.2.2.2.1, y.2.2.2.2.2.2.2.2.2.1, fun v => absurd y.2.2.2.2.2.2.2.2.2.2 v⟩
    · exact absurd (Dn d z.1 z.2).2.2 e
  · rcases S d hd with z | z
    · rcases D38 d z with t | ⟨t1, t2⟩
      · rw [p1 39 (by omega) (by omega) d z t, p1 40 (by omega) (by omega) d z t, p1 41 (by omega) (by omega) d z t]
        rw [t] at e
        exact wx_dn hw d z e
      · rw [t2, nl_n1 _ (by omega)] at e
        exact e.elim
    · exact (hn d z.1 z.2).1
  · rcases S d hd with z | z
    · rw [D 32 (by omega) (by omega) d z] at e
      have y := wx_d2 hw d z e
      have o := ov d z e
      rw [D 32 (by omega) (by omega) d z, D 33 (by omega) (by omega) d z, D 34 (by omega) (by omega) d z, D 35 (by omega) (by omega) d z, D 32 (by omega) (by omega) _ o, D 34 (by omega) (by omega) _ o, p0 39 (by omega) (by omega) d z, p0 40 (by omega) (by omega) d z, p0 41 (by omega) (by omega) d z]
      exact y
    · have o := nov d z.1 z.2 e
      rcases (hn d z.1 z.2).2 with y | y
      · exact absurd y.1 e
      · rw [D 32 (by omega) (by omega) _ o, D 34 (by omega) (by omega) _ o]
        exact y.2
  · rcases S d hd with z | z
    · have y := wx_df hw d z
      rw [D 32 (by omega) (by omega) d z, D 34 (by omega) (by omega) d z, D 32 (by omega) (by omega) _ (fr d z)]
      exact y
    · rcases (hn d z.1 z.2).2 with y | y
      · rw [y.2.2.2.1, nl_n0 (by omega), nl_cl _ (by omega)]
        exact ⟨by omega, by omega, y.1, fun v => absurd y.1 v⟩
      · have ne : J 32 d ≠ 0 := fun v => by have := y.1; rw [v] at this; omega
        have o := nov d z.1 z.2 ne
        have w := wx_df hw _ o
        have x := pu_on (x := J 33 d) (n := d) ⟨y.2.1, y.2.2.1⟩
        rw [y.2.2.2.2.2.1, D 32 (by omega) (by omega) _ (fr _ o)]
        refine ⟨w.1, by omega, w.2.2.1, fun _ => by omega⟩
  · rcases S e r2 with z | z
    · rw [D 36 (by omega) (by omega) d (by omega), D 36 (by omega) (by omega) e z]; exact wx_dm hw d e r1 z
    · rw [(Dn e z.1 z.2).1, D 36 (by omega) (by omega) d (by omega)]
      have := wx_do hw d (by omega)
      omega
  · rcases SQ q r with z | z
    · have a1 := q1 d q hd z o
      rw [D 32 (by omega) (by omega) d a1.1] at e
      have y := wx_dq hw q d z a1.1 e a1.2
      rw [D 33 (by omega) (by omega) d a1.1]
      exact q3 _ q (ov d a1.1 e) z y
    · subst z
      rw [pz_oq_c (oo d hd).2 (oc d hd).2.1] at o
      have y := (hC d hd o).1 e
      have lt : (J 33 d).toNatClampNeg < cD J := by
        rcases S d hd with v | v
        · rw [D 32 (by omega) (by omega) d v] at e
          have := ov d v e
          rw [D 33 (by omega) (by omega) d v]
          omega
        · have := nov d v.1 v.2 e
          omega
      exact ⟨(oo _ lt).2, Or.inl y⟩
  · rcases SQ q r with z | z
    · have a1 := q1 d q hd z o
      have y := wx_dh hw q d z a1.1 a1.2
      rw [D 34 (by omega) (by omega) d a1.1]
      exact q3 _ q (fr d a1.1) z y
    · subst z
      rw [pz_oq_c (oo d hd).2 (oc d hd).2.1] at o
      have y := (hC d hd o).2
      have lt : (J 34 d).toNatClampNeg < cD J := by
        rcases S d hd with v | v
        · have := fr d v
          rw [D 34 (by omega) (by omega) d v]
          omega
        · rcases (hn d v.1 v.2).2 with u | u
          · rw [u.2.2.2.1, nl_cl _ (by omega)]
            exact hd
          · have ne : J 32 d ≠ 0 := fun w => by have := u.1; rw [w] at this; omega
            have := fr _ (nov d v.1 v.2 ne)
            rw [u.2.2.2.2.2.1]
            omega
      exact ⟨(oo _ lt).2, Or.inl y⟩
end
