/-! undo: what holds of the office behind it -/
section
variable {I J : Nat → Nat → Int32} {L : Nat → Nat → Int64}
/-- J is I without its latest paper P -/
def py_ub (I J : Nat → Nat → Int32) (P : Nat) : Prop := (∀ k, k < cU J ↔ (k < cU I ∧ (I 17 k).toInt < P)) ∧ (∀ k, k < cN J ↔ (k < cN I ∧ (I 22 k).toInt < P)) ∧ (∀ k, k < cK J ↔ (k < cK I ∧ (I 28 k).toInt < P)) ∧ (∀ k, k < cD J ↔ (k < cD I ∧ (I 36 k).toInt < P))
def py_uc (I J : Nat → Nat → Int32) (P : Nat) : Prop := (∀ k, k < cU J → (I 18 k = nI P ∧ J 18 k = -1) ∨ (I 18 k ≠ nI P ∧ J 18 k = I 18 k)) ∧ (∀ k, k < cN J → (I 23 k = nI P ∧ J 23 k = -1) ∨ (I 23 k ≠ nI P ∧ J 23 k = I 23 k)) ∧ (∀ d, d < cD J → (I 37 d = nI P ∧ J 37 d = -1) ∨ (I 37 d ≠ nI P ∧ J 37 d = I 37 d)) ∧ (∀ d, d < cD J → (I 38 d = nI P ∧ J 38 d = -1 ∧ J 39 (2 * d + 1) = -1 ∧ J 40 (2 * d + 1) = -1 ∧ J 41 (2 * d + 1) = -1) ∨ (I 38 d ≠ nI P ∧ J 38 d = I 38 d ∧ ∀ x, 39 ≤ x → x ≤ 41 → J x (2 * d + 1) = I x (2 * d + 1))) ∧ (∀ x d, 39 ≤ x → x ≤ 41 → d < cD J → J x (2 * d) = I x (2 * d))
theorem py_oqu {o c c' : Int32} {P q : Nat} (hP : P < 200) (hq : q ≤ P) (h : (c = nI P ∧ c' = -1) ∨ (c ≠ nI P ∧ c' = c)) : pu_oq o c' q = pu_oq o c q := by
  have e := nl_n0 (a := P) (by omega)
  rcases h with ⟨h1, h2⟩ | ⟨_, h2⟩
  · subst h1
    subst h2
    unfold pu_oq
    apply propext
    constructor
    · exact fun z => ⟨z.1, Or.inr (by omega)⟩
    · exact fun z => ⟨z.1, Or.inl rfl⟩
  · rw [h2]
theorem WF_undo (hw : pu_WF I L) {P : Nat} (hP : cP I = P + 1) (b : py_ub I J P) (u : py_uc I J P) (F : ∀ x j, ¬ (x = 6 ∧ j = 2) → ¬ (x = 14 ∧ j = 0) → ¬ (x = 19 ∧ j = 0) → ¬ (x = 25 ∧ j = 1) → ¬ (x = 31 ∧ j = 0) → x ≠ 18 → x ≠ 23 → x ≠ 27 → x ≠ 37 → x ≠ 38 → ¬ (39 ≤ x ∧ x ≤ 41) → J x j = I x j) (r27 : ∀ k, k < cK J → 0 ≤ (J 27 k).toInt ∧ (J 27 k).toInt ≤ 3) (c : J 6 2 = nI P ∧ J 14 0 = nI (cU J) ∧ J 19 0 = nI (cN J) ∧ J 25 1 = nI (cK J) ∧ J 31 0 = nI (cD J)) : pu_WF J L := by
  obtain ⟨bU, bN, bK, bD⟩ := b
  obtain ⟨u18, u23, u37, u38, u39⟩ := u
  have P2 := wx_bP hw
  have tP := nl_n0 (a := P) (by omega)
  have m1 : (-1 : Int32).toInt = -1 := by decide
  have nP : ¬ nI P = -1 := fun q => by rw [nl_n1 _ (by omega)] at q; exact q
  have cPJ : cP J = P := pz_cc c.1 (by omega)
  have X : ∀ x j, (7 ≤ x ∧ x ≤ 13) ∨ (15 ≤ x ∧ x ≤ 17) ∨ (20 ≤ x ∧ x ≤ 22) ∨ x = 24 ∨ (28 ≤ x ∧ x ≤ 30) ∨ (32 ≤ x ∧ x ≤ 36) ∨ 42 ≤ x → J x j = I x j := fun x j r => F x j (by omega) (by omega) (by omega) (by omega) (by omega) (by omega) (by omega) (by omega) (by omega) (by omega) (by omega)
  have cTJ : cT J = cT I := by
    unfold cT
    rw [F 25 0 (by omega) (by omega) (by omega) (by omega) (by omega) (by omega) (by omega) (by omega) (by omega) (by omega) (by omega)]
  have cFJ : cF J = cF I := by
    unfold cF
    rw [X 42 0 (by omega)]
  have lU : cU J ≤ cU I := by
    apply Classical.byContradiction
    intro z
    have := (bU (cU I)).mp (by omega)
    omega
  have lN : cN J ≤ cN I := by
    apply Classical.byContradiction
    intro z
    have := (bN (cN I)).mp (by omega)
    omega
  have lK : cK J ≤ cK I := by
    apply Classical.byContradiction
    intro z
    have := (bK (cK I)).mp (by omega)
    omega
  have lD : cD J ≤ cD I := by
    apply Classical.byContradiction
    intro z
    have := (bD (cD I)).mp (by omega)
    omega
  have tcJ : ∀ p k, pu_tc J p k = pu_tc I p k := fun p k => by
    unfold pu_tc
    rw [X 9 p (by omega), X 10 p (by omega)]
  have slJ : ∀ k, pu_sl0 J k = pu_sl0 I k := fun k => by
    unfold pu_sl0
    rw [X 15 k (by omega)]
  -- a street that a kept paper is on is kept
  have ks : ∀ p (x : Int32), p < P → pu_tc I p x → 0 ≤ x.toInt → x.toInt < cK I → x.toInt < cK J := fun p x h1 h2 h3 h4 => by
    have e := pu_on (x := x) (n := cK I) ⟨h3, h4⟩
    rw [e.1] at h2
    have y := wx_kp hw p _ (by omega) e.2 h2
    have z := (bK _).mpr ⟨e.2, by omega⟩
    have := pu_nnT h3
    omega
  -- a kept span: its door, its place
  have kd : ∀ k, k < cU J → pu_sl0 I k / 2 < cD J ∧ (∀ x, 39 ≤ x → x ≤ 41 → J x (pu_sl0 I k) = I x (pu_sl0 I k)) ∧ (pu_sl0 I k % 2 = 1 → J 38 (pu_sl0 I k / 2) = I 38 (pu_sl0 I k / 2)) := fun k hk => by
    have a := (bU k).mp hk
    have o := pu_on (wx_uo hw k a.1)
    have t := pu_nnT (wx_uo hw k a.1).1
    have cc := wx_uc hw k a.1
    have y := wx_u4 hw ((I 17 k).toNatClampNeg + 1) k (by omega) a.1 ⟨by omega, by
      rcases cc.2.2 with z | z
      · exact Or.inl z
      · exact Or.inr (by omega)⟩
    have s1 := (pu_sl_lt hw a.1).1
    have d1 : pu_sl0 I k / 2 < cD J := (bD _).mpr ⟨by omega, by have := y.1.1; omega⟩
    have c8 : pu_sl0 I k % 2 = 1 → I 38 (pu_sl0 I k / 2) ≠ nI P := fun z q => by
      have := (y.2.2 z).2
      rw [q] at this
      omega
    refine ⟨d1, fun x h1 h2 => ?_, fun z => ?_⟩
    · rcases Nat.mod_two_eq_zero_or_one (pu_sl0 I k) with z | z
      · rw [show pu_sl0 I k = 2 * (pu_sl0 I k / 2) by omega]
        exact u39 x _ h1 h2 d1
      · rcases u38 _ d1 with w | w
        · exact absurd w.1 (c8 z)
        · rw [show pu_sl0 I k = 2 * (pu_sl0 I k / 2) + 1 by omega]
          exact w.2.2 x h1 h2
    · rcases u38 _ d1 with w | w
      · exact absurd w.1 (c8 z)
      · exact w.2.1
  have oqU : ∀ k q, k < cU J → q ≤ P → pu_oq (J 17 k) (J 18 k) q = pu_oq (I 17 k) (I 18 k) q := fun k q hk hq => by
    rw [X 17 k (by omega)]
    exact py_oqu (by omega) hq (u18 k hk)
  have oqN : ∀ k q, k < cN J → q ≤ P → pu_oq (J 22 k) (J 23 k) q = pu_oq (I 22 k) (I 23 k) q := fun k q hk hq => by
    rw [X 22 k (by omega)]
    exact py_oqu (by omega) hq (u23 k hk)
  have oqD : ∀ k q, k < cD J → q ≤ P → pu_oq (J 36 k) (J 37 k) q = pu_oq (I 36 k) (I 37 k) q := fun k q hk hq => by
    rw [X 36 k (by omega)]
    exact py_oqu (by omega) hq (u37 k hk)
  have wc : w_c J := ⟨by rw [cPJ]; exact c.1, c.2.1, c.2.2.1, by rw [cTJ, F 25 0 (by omega) (by omega) (by omega) (by omega) (by omega) (by omega) (by omega) (by omega) (by omega) (by omega) (by omega)]; exact wx_cT hw, c.2.2.2.1, c.2.2.2.2, by rw [cFJ, X 42 0 (by omega)]; exact wx_cF hw, ?_⟩
  rotate_left
  · have e := (re_same (I := I) (J := J) (s := fun _ => 0) (fun x j h1 h2 => X x j (by omega))).2
    rw [e.1, e.2.1, e.2.2.1, e.2.2.2.1, e.2.2.2.2.1, e.2.2.2.2.2, X 45 _ (by omega), X 45 _ (by omega), X 45 _ (by omega), X 45 _ (by omega), X 45 _ (by omega), X 45 _ (by omega)]
    exact ⟨wx_cQ hw, wx_cR hw, wx_cS hw, wx_cW hw, wx_cE hw, wx_cO hw⟩
  have wb : w_b J := by
    have e := (re_same (I := I) (J := J) (s := fun _ => 0) (fun x j h1 h2 => X x j (by omega))).2
    have b1 := wx_bU hw
    have b2 := wx_bN hw
    have b3 := wx_bK hw
    have b4 := wx_bD hw
    unfold w_b
    rw [cPJ, cTJ, cFJ, e.1, e.2.1, e.2.2.1, e.2.2.2.1, e.2.2.2.2.1, e.2.2.2.2.2]
    exact ⟨by omega, by omega, by omega, wx_bT hw, by omega, by omega, wx_bF hw, wx_bQ hw, wx_bR hw, wx_bS hw, wx_bW hw, wx_bE hw, wx_bO hw⟩
  refine ⟨wc, wb, ?_, ?_, ?_, ?_, ?_, we_same (fun x j h1 h2 => X x j (by omega)) cFJ (fun _ _ => rfl) (wg_e hw)⟩
  · unfold w_p
    rw [cPJ, cTJ, F 6 0 (by omega) (by omega) (by omega) (by omega) (by omega) (by omega) (by omega) (by omega) (by omega) (by omega) (by omega), F 6 1 (by omega) (by omega) (by omega) (by omega) (by omega) (by omega) (by omega) (by omega) (by omega) (by omega) (by omega)]
    refine ⟨wx_p0 hw, wx_p1 hw, fun p hp => ?_, fun p hp => ?_, fun p hp => ?_, fun p hp => ?_, fun p hp => ?_, fun p hp => ?_, fun p hp => ?_, fun p r q1 q2 => ?_, fun k p r q1 q2 q3 q4 q5 => ?_, fun p r q1 q2 q3 => ?_⟩
    · rw [X 7 p (by omega)]; exact wx_pf hw p (by omega)
    · rw [X 8 p (by omega)]; exact wx_pk hw p (by omega)
    · rw [X 9 p (by omega)]
      have y := wx_pa hw p (by omega)
      by_cases z : 0 ≤ (I 9 p).toInt
      · have := ks p (I 9 p) hp (Or.inl rfl) z y.2
        omega
      · omega
    · rw [X 10 p (by omega)]
      have y := wx_pb hw p (by omega)
      by_cases z : 0 ≤ (I 10 p).toInt
      · have := ks p (I 10 p) hp (Or.inr rfl) z y.2
        omega
      · omega
    · rw [X 11 p (by omega)]; exact wx_pt hw p (by omega)
    · rw [X 12 p (by omega)]; exact wx_pu hw p (by omega)
    · rw [X 13 p (by omega), X 9 p (by omega)]; exact wx_pr hw p (by omega)
    · rw [X 8 p (by omega), X 8 r (by omega)]; exact wx_pm hw p r q1 (by omega)
    · rw [tcJ] at q4 q5
      rw [X 7 p (by omega), X 7 r (by omega)]
      exact wx_po hw k p r q1 q2 (by omega) q4 q5
    · rw [X 12 p (by omega), X 12 r (by omega)] at q3
      rw [X 12 p (by omega)]
      exact wx_pj hw p r q1 (by omega) q3
  · unfold w_u
    rw [cPJ]
    refine ⟨fun k hk => ?_, fun k hk => ?_, fun k hk => ?_, fun k hk => ?_, fun k hk => ?_, fun k l r1 r2 => ?_, fun q k l r hk hl o1 o2 e => ?_, fun q k l r hk hl o1 o2 e e2 e3 => ?_, fun q k l r hk hl o1 o2 e e2 e3 => ?_, fun q k r hk o => ?_, fun q d w r hd s o e => ?_⟩
    · have a := (bU k).mp hk
      rw [X 15 k (by omega), (pu_sl_lt hw a.1).2]
      have y := (kd k hk).1
      have s1 := (pu_sl_lt hw a.1).1
      have := wx_bD hw
      rw [nl_n0 (by omega)]
      omega
    · rw [X 16 k (by omega)]; exact wx_uw hw k (by omega)
    · have a := (bU k).mp hk
      rw [X 17 k (by omega)]
      exact ⟨(wx_uo hw k a.1).1, a.2⟩
    · have a := (bU k).mp hk
      have y := wx_uc hw k a.1
      rw [X 17 k (by omega)]
      rcases u18 k hk with z | z
      · rw [z.2]
        exact ⟨by omega, by omega, Or.inl rfl⟩
      · rw [z.2]
        refine ⟨y.1, ?_, y.2.2⟩
        have : (I 18 k).toInt ≠ P := fun q => z.1 (Int32.toInt_inj.mp (by rw [tP]; exact q))
        omega
    · have a := (bU k).mp hk
      have y := wx_uk hw k a.1
      have o := pu_on (wx_uo hw k a.1)
      rw [slJ, (kd k hk).2.1 39 (by omega) (by omega), X 17 k (by omega), tcJ]
      refine ⟨y.1, ks _ _ (by have := pu_nnT (wx_uo hw k a.1).1; omega) y.2.2.1 y.1 y.2.1, y.2.2.1, fun z => ?_⟩
      rcases u18 k hk with w | w
      · exact absurd w.2 z
      · rw [w.2] at z ⊢
        rw [tcJ]
        exact y.2.2.2 z
    · rw [X 17 k (by omega), X 17 l (by omega)]; exact wx_um hw k l r1 (by omega)
    · rw [oqU k q hk r] at o1
      rw [oqU l q hl r] at o2
      rw [X 15 k (by omega), X 15 l (by omega)] at e
      exact wx_u1 hw q k l (by omega) (by omega) (by omega) o1 o2 e
    · rw [oqU k q hk r] at o1
      rw [oqU l q hl r] at o2
      rw [slJ, slJ, (kd k hk).2.1 39 (by omega) (by omega), (kd l hl).2.1 39 (by omega) (by omega)] at e
      rw [X 16 k (by omega)] at e2 e3
      rw [X 16 l (by omega)] at e2
      exact wx_u2 hw q k l (by omega) (by omega) (by omega) o1 o2 e e2 e3
    · rw [oqU k q hk r] at o1
      rw [oqU l q hl r] at o2
      rw [slJ, slJ] at e e2 e3
      rw [(kd k hk).2.1 39 (by omega) (by omega), (kd l hl).2.1 39 (by omega) (by omega)] at e
      rw [(kd k hk).2.1 40 (by omega) (by omega), (kd l hl).2.1 40 (by omega) (by omega)] at e2
      rw [(kd k hk).2.1 41 (by omega) (by omega), (kd l hl).2.1 41 (by omega) (by omega)] at e3
      exact wx_u3 hw q k l (by omega) (by omega) (by omega) o1 o2 e e2 e3
    · rw [oqU k q hk r] at o
      have y := wx_u4 hw q k (by omega) (by omega) o
      rw [slJ, oqD _ q (kd k hk).1 r, X 32 _ (by omega)]
      refine ⟨y.1, y.2.1, fun z => ?_⟩
      rw [(kd k hk).2.2 z]
      exact y.2.2 z
    · rw [oqD d q hd r] at o
      rw [X 32 d (by omega)] at s
      obtain ⟨k, k1, k2, k3⟩ := wx_u5 hw q d w (by omega) (by omega) s o (by
        rcases e with z | ⟨z1, z2, z3⟩
        · exact Or.inl z
        · rcases u38 d hd with v | v
          · exact absurd v.2.1 z2
          · rw [v.2.1] at z2 z3
            exact Or.inr ⟨z1, z2, z3⟩)
      have kJ : k < cU J := (bU k).mpr ⟨k1, by have := k2.1; omega⟩
      exact ⟨k, kJ, by rw [oqU k q kJ r]; exact k2, by rw [X 15 k (by omega)]; exact k3⟩
  · unfold w_n
    rw [cPJ, cTJ]
    have O : ∀ k, k < cN J → 0 ≤ (I 22 k).toInt ∧ (I 22 k).toInt < P ∧ (I 22 k).toNatClampNeg < P := fun k hk => by
      have a := (bN k).mp hk
      have y := wx_no hw k a.1
      have := pu_nnT y.1
      exact ⟨y.1, a.2, by omega⟩
    refine ⟨fun k hk => ?_, fun k hk => ?_, fun k hk => ?_, fun k hk => ?_, fun k l r1 r2 => ?_, fun q k r hk o => ?_, fun q k p r hk o r2 => ?_, fun k hk => ?_, fun k l r hl e => ?_, fun k l r hl e e2 => ?_, fun k l r hl e => ?_, fun k hk e => ?_⟩
    · have a := (bN k).mp hk
      have y := wx_ns hw k a.1
      have z := wx_no hw k a.1
      have v := pu_on (x := I 20 k) (n := cK I) ⟨y.1, y.2⟩
      have w := (bK _).mpr ⟨v.2, by omega⟩
      have := pu_nnT y.1
      rw [X 20 k (by omega)]
      omega
    · rw [X 21 k (by omega)]; exact wx_nt hw k (by omega)
    · have y := wx_no hw k (by omega)
      rw [X 22 k (by omega), X 20 k (by omega), X 21 k (by omega), X 28 _ (by omega), X 9 _ (by omega), X 11 _ (by omega)]
      exact ⟨y.1, (O k hk).2.1, y.2.2⟩
    · have y := wx_nc hw k (by omega)
      rw [X 22 k (by omega), X 7 _ (by omega)]
      rcases u23 k hk with z | z
      · rw [z.2]
        exact ⟨by omega, by omega, Or.inl rfl⟩
      · rw [z.2, X 7 _ (by omega)]
        refine ⟨y.1, ?_, y.2.2⟩
        have : (I 23 k).toInt ≠ P := fun q => z.1 (Int32.toInt_inj.mp (by rw [tP]; exact q))
        omega
    · rw [X 22 k (by omega), X 22 l (by omega)]; exact wx_nm hw k l r1 (by omega)
    · rw [X 28 k (by omega)] at o
      obtain ⟨l, l1, l2, l3⟩ := wx_n3 hw q k (by omega) (by omega) o
      have lJ : l < cN J := (bN l).mpr ⟨l1, by have := l2.1; omega⟩
      exact ⟨l, lJ, by rw [oqN l q lJ r]; exact l2, by rw [X 20 l (by omega)]; exact l3⟩
    · rw [oqN k q hk r] at o
      rw [X 21 k (by omega), X 12 p (by omega)]
      exact wx_n4 hw q k p (by omega) (by omega) o r2
    · rw [X 22 k (by omega), pz_ctc (J := J) (I := I) (fun p _ => X 12 p (by omega))]
      exact wx_n5 hw k (by omega)
    · rw [X 20 k (by omega), X 20 l (by omega)] at e
      have y := wx_n6 hw k l r (by omega) e
      have ol := O l hl
      rw [X 22 l (by omega)]
      rcases u23 k (by omega) with z | z
      · rw [z.1] at y
        omega
      · rw [z.2, X 7 _ (by omega), X 7 _ (by omega)]
        exact y
    · rw [X 21 k (by omega), X 21 l (by omega)] at e
      have y := wx_n7 hw k l r (by omega) e e2
      have ol := O l hl
      rw [X 22 l (by omega), X 22 k (by omega)]
      rcases u23 k (by omega) with z | z
      · rw [z.1] at y
        omega
      · rw [z.2, X 7 _ (by omega), X 7 _ (by omega), X 7 _ (by omega)]
        exact y
    · rw [X 20 k (by omega), X 20 l (by omega)] at e
      rw [X 21 k (by omega), X 21 l (by omega), X 22 l (by omega)]
      rcases wx_n8 hw k l r (by omega) e with y | ⟨p, p1, p2⟩
      · exact Or.inl y
      · exact Or.inr ⟨p, p1, by rw [X 12 p (by omega)]; exact p2⟩
    · rcases u23 k hk with z | z
      · exact absurd z.2 e
      · rw [z.2] at e ⊢
        rw [X 20 k (by omega), X 21 k (by omega), X 9 _ (by omega), X 12 _ (by omega)]
        exact wx_n9 hw k (by omega) e
  · unfold w_k
    rw [cPJ, cTJ]
    refine ⟨wx_kt hw, r27, fun k hk => ?_, fun k l r1 r2 => ?_, fun k hk => ?_, fun k i hk hi hl => ?_, fun p k hp hk e => ?_⟩
    · have a := (bK k).mp hk
      have y := wx_ko hw k a.1
      rw [X 28 k (by omega), X 9 _ (by omega)]
      exact ⟨y.1, a.2, y.2.2⟩
    · rw [X 28 k (by omega), X 28 l (by omega)]; exact wx_km hw k l r1 (by omega)
    · rw [X 29 k (by omega)]; exact wx_kl hw k (by omega)
    · rw [X 29 k (by omega)] at hl
      rw [X 30 _ (by omega)]
      exact wx_kw hw k i (by omega) hi hl
    · rw [tcJ] at e
      rw [X 28 k (by omega)]
      exact wx_kp hw p k (by omega) (by omega) e
  · unfold w_d
    rw [cPJ]
    have O : ∀ d, d < cD J → 0 ≤ (I 36 d).toInt ∧ (I 36 d).toInt < P ∧ (I 36 d).toNatClampNeg < P := fun d hd => by
      have a := (bD d).mp hd
      have y := wx_do hw d a.1
      have := pu_nnT y.1
      exact ⟨y.1, a.2, by omega⟩
    refine ⟨fun d hd => ?_, fun d hd => ?_, fun d hd => ?_, fun d hd => ?_, fun d hd e => ?_, fun d hd e => ?_, fun d hd e => ?_, fun d hd e => ?_, fun d hd => ?_, fun d e r1 r2 => ?_, fun q d r hd e o => ?_, fun q d r hd o => ?_⟩
    · rw [X 32 d (by omega)]; exact wx_ds hw d (by omega)
    · rw [X 36 d (by omega)]; exact ⟨(O d hd).1, (O d hd).2.1⟩
    · have y := wx_dc hw d (by omega)
      rw [X 36 d (by omega)]
      rcases u37 d hd with z | z
      · rw [z.2]
        exact ⟨by omega, by omega, Or.inl rfl⟩
      · rw [z.2]
        refine ⟨y.1, ?_, y.2.2⟩
        have : (I 37 d).toInt ≠ P := fun q => z.1 (Int32.toInt_inj.mp (by rw [tP]; exact q))
        omega
    · have y := wx_de hw d (by omega)
      rw [X 36 d (by omega)]
      rcases u38 d hd with z | z
      · rw [z.2.1]
        exact ⟨by omega, by omega, Or.inl rfl⟩
      · rw [z.2.1]
        refine ⟨y.1, ?_, y.2.2⟩
        have : (I 38 d).toInt ≠ P := fun q => z.1 (Int32.toInt_inj.mp (by rw [tP]; exact q))
        omega
    · rw [X 32 d (by omega)] at e
      have y := wx_d0 hw d (by omega) e
      rw [X 33 d (by omega), X 35 d (by omega), X 34 d (by omega), X 36 d (by omega), u39 39 d (by omega) (by omega) hd, u39 40 d (by omega) (by omega) hd, u39 41 d (by omega) (by omega) hd, tcJ]
      refine ⟨y.1, y.2.1, y.2.2.1, y.2.2.2.1, ks _ _ (O d hd).2.2 y.2.2.2.2.2.2.2.2.2.1 y.2.2.2.1 y.2.2.2.2.1, y.2.2.2.2.2.1, y.2.2.2.2.2.2.1, y.2.2.2.2.2.2.2.1, y.2.2.2.2.2.2.2.2.1, y.2.2.2.2.2.2.2.2.2.1, fun z => ?_⟩
      rcases u37 d hd with v | v
      · exact absurd v.2 z
      · rw [v.2] at z ⊢
        rw [tcJ]
        exact y.2.2.2.2.2.2.2.2.2.2 z
    · rcases u38 d hd with v | v
      · exact absurd v.2.1 e
      · rw [v.2.1] at e
        have y := wx_d1 hw d (by omega) e
        have q := wx_de hw d (by omega)
        have p8 : (I 38 d).toNatClampNeg < P := by
          have a := pu_nnT (pu_ne1 q.1 e)
          have : (I 38 d).toInt ≠ P := fun q => v.1 (Int32.toInt_inj.mp (by rw [tP]; exact q))
          omega
        rw [X 32 d (by omega), v.2.1, v.2.2 39 (by omega) (by omega), v.2.2 40 (by omega) (by omega), v.2.2 41 (by omega) (by omega), u39 39 d (by omega) (by omega) hd, tcJ, tcJ]
        refine ⟨y.1, y.2.1, ks _ _ p8 y.2.2.2.2.2.2.2.2.1 y.2.1 y.2.2.1, y.2.2.2.1, y.2.2.2.2.1, y.2.2.2.2.2.1, y.2.2.2.2.2.2.1, y.2.2.2.2.2.2.2.1, y.2.2.2.2.2.2.2.2.1, y.2.2.2.2.2.2.2.2.2.1, fun z => ?_⟩
        rcases u37 d hd with w | w
        · exact absurd w.2 z
        · rw [w.2] at z ⊢
          rw [tcJ]
          exact y.2.2.2.2.2.2.2.2.2.2 z
    · rcases u38 d hd with v | v
      · exact v.2.2
      · rw [v.2.1] at e
        rw [v.2.2 39 (by omega) (by omega), v.2.2 40 (by omega) (by omega), v.2.2 41 (by omega) (by omega)]
        exact wx_dn hw d (by omega) e
    · rw [X 32 d (by omega)] at e
      have y := wx_d2 hw d (by omega) e
      rw [X 32 d (by omega), X 33 d (by omega), X 34 d (by omega), X 35 d (by omega), X 32 _ (by omega), X 34 _ (by omega), u39 39 d (by omega) (by omega) hd, u39 40 d (by omega) (by omega) hd, u39 41 d (by omega) (by omega) hd]
      exact y
    · rw [X 32 d (by omega), X 34 d (by omega), X 32 _ (by omega)]
      exact wx_df hw d (by omega)
    · rw [X 36 d (by omega), X 36 e (by omega)]; exact wx_dm hw d e r1 (by omega)
    · rw [oqD d q hd r] at o
      rw [X 32 d (by omega)] at e
      have y := wx_dq hw q d (by omega) (by omega) e o
      have z := py_ov hw (by omega) e
      rw [X 33 d (by omega), oqD _ q (by omega) r]
      exact y
    · rw [oqD d q hd r] at o
      have y := wx_dh hw q d (by omega) (by omega) o
      have x := wx_df hw d (by omega)
      have v := pu_on (x := I 34 d) (n := d + 1) ⟨x.1, by omega⟩
      rw [X 34 d (by omega), oqD _ q (by omega) r]
      exact y
end
