/-! one more paper: what it leaves of what holds of an office -/
/-- J has one paper more than I: from f, on streets a and b, of towns ta and tb, rule ru -/
def pz_pp (I J : Nat → Nat → Int32) (f a b ta tb ru : Int32) : Prop := (J 6 0 = I 6 0 ∧ J 6 1 = I 6 1 ∧ J 6 2 = nI (cP I + 1)) ∧ (∀ x, 7 ≤ x → x ≤ 13 → ∀ j, j < cP I → J x j = I x j) ∧ J 7 (cP I) = f ∧ J 8 (cP I) = I 6 0 ∧ J 9 (cP I) = a ∧ J 10 (cP I) = b ∧ J 11 (cP I) = ta ∧ J 12 (cP I) = tb ∧ J 13 (cP I) = ru
/-- doors: old ones stay, but for what the new paper closes or makes a corner -/
def pz_de (I J : Nat → Nat → Int32) : Prop := (∀ x, 32 ≤ x → x ≤ 36 → ∀ d, d < cD I → J x d = I x d) ∧ (∀ d, d < cD I → J 37 d = I 37 d ∨ (I 37 d = -1 ∧ J 37 d = nI (cP I))) ∧ (∀ d, d < cD I → J 38 d = I 38 d ∨ (I 38 d = -1 ∧ J 38 d = nI (cP I))) ∧ (cD I ≤ cD J) ∧ (∀ d, cD I ≤ d → d < cD J → J 36 d = nI (cP I) ∧ J 37 d = -1 ∧ J 38 d = -1)
/-- spans of numbers likewise -/
def pz_ue (I J : Nat → Nat → Int32) : Prop := (∀ x, 15 ≤ x → x ≤ 17 → ∀ k, k < cU I → J x k = I x k) ∧ (∀ k, k < cU I → J 18 k = I 18 k ∨ (I 18 k = -1 ∧ J 18 k = nI (cP I))) ∧ (cU I ≤ cU J) ∧ (∀ k, cU I ≤ k → k < cU J → J 17 k = nI (cP I) ∧ J 18 k = -1) ∧ (∀ x, 39 ≤ x → x ≤ 41 → ∀ k, k < cU I → J x (pu_sl0 I k) = I x (pu_sl0 I k))
/-- what holds of the open spans of numbers -/
def pz_uc (J : Nat → Nat → Int32) : Prop := (∀ k l, k < cU J → l < cU J → J 18 k = -1 → J 18 l = -1 → J 15 k = J 15 l → k = l) ∧ (∀ k l, k < cU J → l < cU J → J 18 k = -1 → J 18 l = -1 → J 39 (pu_sl0 J k) = J 39 (pu_sl0 J l) → J 16 k = J 16 l → J 16 k ≠ 0 → k = l) ∧ (∀ k l, k < cU J → l < cU J → J 18 k = -1 → J 18 l = -1 → J 39 (pu_sl0 J k) = J 39 (pu_sl0 J l) → J 40 (pu_sl0 J k) = J 40 (pu_sl0 J l) → J 41 (pu_sl0 J k) = J 41 (pu_sl0 J l) → k = l) ∧ (∀ k, k < cU J → J 18 k = -1 → J 37 (pu_sl0 J k / 2) = -1 ∧ J 32 (pu_sl0 J k / 2) = 0 ∧ (pu_sl0 J k % 2 = 1 → J 38 (pu_sl0 J k / 2) ≠ -1)) ∧ (∀ d w, d < cD J → J 32 d = 0 → J 37 d = -1 → (w = 0 ∨ w = 1 ∧ J 38 d ≠ -1) → ∃ k, k < cU J ∧ J 18 k = -1 ∧ J 15 k = nI (2 * d + w))
section
variable {I J : Nat → Nat → Int32} {L L' : Nat → Nat → Int64} {f a b ta tb ru : Int32}
theorem pz_cPJ (h : pz_pp I J f a b ta tb ru) (hP : cP I < 200) : cP J = cP I + 1 := by
  unfold cP at hP ⊢
  rw [h.1.2.2]
  exact nl_cl _ (by unfold cP; omega)
theorem pz_oq_o {o c : Int32} {P : Nat} (hP : P < 200) (h1 : o.toInt < P) (h2 : c.toInt < P) {c' : Int32} (h3 : c' = c ∨ (c = -1 ∧ c' = nI P)) {q : Nat} (hq : q ≤ P) : pu_oq o c' q = pu_oq o c q := by
  have e := nl_n0 (a := P) (by omega)
  rcases h3 with z | ⟨z1, z2⟩
  · rw [z]
  · subst z1
    subst z2
    unfold pu_oq
    apply propext
    constructor
    · exact fun z => ⟨z.1, Or.inl rfl⟩
    · exact fun z => ⟨z.1, Or.inr (by omega)⟩
theorem pz_oq_n {c : Int32} {P : Nat} (hP : P < 200) {q : Nat} (hq : q ≤ P) : ¬ pu_oq (nI P) c q := by
  have e := nl_n0 (a := P) (by omega)
  intro z
  have := z.1
  omega
theorem pz_oq_c {o c : Int32} {P : Nat} (h1 : o.toInt < P + 1) (h2 : c.toInt < P + 1) : pu_oq o c (P + 1) = (c = -1) := by
  apply propext
  constructor
  · intro z
    rcases z.2 with y | y
    · exact y
    · omega
  · intro z
    exact ⟨by omega, Or.inl z⟩
theorem pz_tcJ (h : pz_pp I J f a b ta tb ru) {p : Nat} (hp : p < cP I) (k : Int32) : pu_tc J p k = pu_tc I p k := by
  unfold pu_tc
  rw [h.2.1 9 (by omega) (by omega) p hp, h.2.1 10 (by omega) (by omega) p hp]
theorem pz_tcP (h : pz_pp I J f a b ta tb ru) (k : Int32) : pu_tc J (cP I) k = (a = k ∨ b = k) := by
  unfold pu_tc
  rw [h.2.2.2.2.1, h.2.2.2.2.2.1]
theorem wp_ext (h : pz_pp I J f a b ta tb ru) (hw : pu_WF I L) (hP : cP I < 200) (hf : 0 ≤ f.toInt ∧ f.toInt ≤ 109574) (hT : cT J = cT I) (hK : cK I ≤ cK J) (ha : -1 ≤ a.toInt ∧ a.toInt < cK J) (hb : -1 ≤ b.toInt ∧ b.toInt < cK J) (hta : -1 ≤ ta.toInt ∧ ta.toInt < cT I) (htb : -1 ≤ tb.toInt ∧ tb.toInt < cT I) (hru : -1 ≤ ru.toInt ∧ ru.toInt ≤ 3 ∧ (ru ≠ -1 → 0 ≤ a.toInt)) (ho : ∀ k p, k ≠ -1 → p < cP I → pu_tc I p k → (a = k ∨ b = k) → (I 7 p).toInt ≤ f.toInt) (hj : tb = -1 ∨ ∀ p, p < cP I → I 12 p ≠ tb) : w_p J := by
  have cJ := pz_cPJ h hP
  obtain ⟨⟨g0, g1, g2⟩, G, g7, g8, g9, g10, g11, g12, g13⟩ := id h
  have S : ∀ p, p < cP I + 1 → p < cP I ∨ p = cP I := fun p hp => by omega
  unfold w_p
  rw [cJ, hT, g0, g1]
  refine ⟨wx_p0 hw, wx_p1 hw, fun p hp => ?_, fun p hp => ?_, fun p hp => ?_, fun p hp => ?_, fun p hp => ?_, fun p hp => ?_, fun p hp => ?_, fun p r q1 q2 => ?_, fun k p r q1 q2 q3 q4 q5 => ?_, fun p r q1 q2 q3 => ?_⟩
  · rcases S p hp with z | z
    · rw [G 7 (by omega) (by omega) p z]; exact wx_pf hw p z
    · subst z; rw [g7]; exact hf
  · rcases S p hp with z | z
    · rw [G 8 (by omega) (by omega) p z]; exact wx_pk hw p z
    · subst z; rw [g8]; have := wx_p0 hw; exact ⟨this.1, Int.le_refl _⟩
  · rcases S p hp with z | z
    · rw [G 9 (by omega) (by omega) p z]; have := wx_pa hw p z; omega
    · subst z; rw [g9]; exact ha
  · rcases S p hp with z | z
    · rw [G 10 (by omega) (by omega) p z]; have := wx_pb hw p z; omega
    · subst z; rw [g10]; exact hb
  · rcases S p hp with z | z
    · rw [G 11 (by omega) (by omega) p z]; exact wx_pt hw p z
    · subst z; rw [g11]; exact hta
  · rcases S p hp with z | z
    · rw [G 12 (by omega) (by omega) p z]; exact wx_pu hw p z
    · subst z; rw [g12]; exact htb
  · rcases S p hp with z | z
    · rw [G 13 (by omega) (by omega) p z, G 9 (by omega) (by omega) p z]; exact wx_pr hw p z
    · subst z; rw [g13, g9]; exact hru
  · rcases S r q2 with z | z
    · rw [G 8 (by omega) (by omega) p (by omega), G 8 (by omega) (by omega) r z]; exact wx_pm hw p r q1 z
    · subst z
      rw [g8]
      rcases S p (by omega) with y | y
      · rw [G 8 (by omega) (by omega) p y]; exact (wx_pk hw p y).2
      · subst y; rw [g8]; exact Int.le_refl _
  · rcases S r q3 with z | z
    · rw [pz_tcJ h (by omega)] at q4
      rw [pz_tcJ h z] at q5
      rw [G 7 (by omega) (by omega) p (by omega), G 7 (by omega) (by omega) r z]
      exact wx_po hw k p r q1 q2 z q4 q5
    · subst z
      rw [pz_tcP h] at q5
      rw [g7]
      rcases S p (by omega) with y | y
      · rw [pz_tcJ h y] at q4
        rw [G 7 (by omega) (by omega) p y]
        exact ho k p q1 y q4 q5
      · subst y; rw [g7]; exact Int.le_refl _
  · rcases S r q2 with z | z
    · rw [G 12 (by omega) (by omega) p (by omega), G 12 (by omega) (by omega) r z] at q3
      rw [G 12 (by omega) (by omega) p (by omega)]
      exact wx_pj hw p r q1 z q3
    · subst z
      rw [g12, G 12 (by omega) (by omega) p q1] at q3
      rw [G 12 (by omega) (by omega) p q1]
      rcases hj with y | y
      · rw [q3]; exact y
      · exact absurd q3 (y p q1)
theorem pz_uc_of (hw : pu_WF I L) : pz_uc I := by
  have O : ∀ k, k < cU I → I 18 k = -1 → pu_oq (I 17 k) (I 18 k) (cP I) := fun k hk z => by rw [pu_uoq hw hk]; exact z
  refine ⟨fun k l hk hl o1 o2 e => wx_u1 hw (cP I) k l (Nat.le_refl _) hk hl (O k hk o1) (O l hl o2) e, fun k l hk hl o1 o2 e => wx_u2 hw (cP I) k l (Nat.le_refl _) hk hl (O k hk o1) (O l hl o2) e, fun k l hk hl o1 o2 e => wx_u3 hw (cP I) k l (Nat.le_refl _) hk hl (O k hk o1) (O l hl o2) e, fun k hk o => ?_, fun d w hd s o e => ?_⟩
  · have z := wx_u4 hw (cP I) k (Nat.le_refl _) hk (O k hk o)
    have s := (pu_sl_lt hw hk).1
    rw [pz_doq hw (by omega)] at z
    exact ⟨z.1, z.2.1, fun y => (z.2.2 y).1⟩
  · have c := wx_de hw d hd
    obtain ⟨k, k1, k2, k3⟩ := wx_u5 hw (cP I) d w (Nat.le_refl _) hd s (by rw [pz_doq hw hd]; exact o) (by
      rcases e with z | ⟨z1, z2⟩
      · exact Or.inl z
      · exact Or.inr ⟨z1, z2, by omega⟩)
    rw [pu_uoq hw k1] at k2
    exact ⟨k, k1, k2, k3⟩
theorem pz_slJ (hu : pz_ue I J) {k : Nat} (hk : k < cU I) : pu_sl0 J k = pu_sl0 I k := by
  unfold pu_sl0
  rw [hu.1 15 (by omega) (by omega) k hk]
theorem wu_ext (h : pz_pp I J f a b ta tb ru) (hw : pu_WF I L) (hP : cP I < 200) (hd : pz_de I J) (hu : pz_ue I J) (hK : cK I ≤ cK J) (hn : ∀ k, cU I ≤ k → k < cU J → 0 ≤ (J 15 k).toInt ∧ (J 15 k).toInt < 2 * cD J ∧ 0 ≤ (J 16 k).toInt ∧ ((J 16 k).toInt < 160000 ∧ ((J 16 k).toInt = 0 ∨ 16 ≤ (J 16 k).toInt)) ∧ 0 ≤ (J 39 (pu_sl0 J k)).toInt ∧ (J 39 (pu_sl0 J k)).toInt < cK J ∧ (a = J 39 (pu_sl0 J k) ∨ b = J 39 (pu_sl0 J k))) (hc : ∀ k, k < cU I → I 18 k = -1 → J 18 k = nI (cP I) → a = I 39 (pu_sl0 I k) ∨ b = I 39 (pu_sl0 I k)) (hC : pz_uc J) : w_u J := by
  have cJ := pz_cPJ h hP
  have tP := nl_n0 (a := cP I) (by omega)
  obtain ⟨U, U18, Uc, Un, U39⟩ := id hu
  obtain ⟨D, D37, D38, Dc, Dn⟩ := id hd
  have S : ∀ k, k < cU J → k < cU I ∨ (cU I ≤ k ∧ k < cU J) := fun k hk => by omega
  have sd : ∀ k, k < cU I → pu_sl0 I k / 2 < cD I := fun k hk => by have := (pu_sl_lt hw hk).1; omega
  have m1 : (-1 : Int32).toInt = -1 := by decide
  have oo : ∀ k, k < cU J → 0 ≤ (J 17 k).toInt ∧ (J 17 k).toInt < cP I + 1 := by
    intro k hk
    rcases S k hk with z | z
    · rw [U 17 (by omega) (by omega) k z]; have := wx_uo hw k z; omega
    · rw [(Un k z.1 z.2).1]; omega
  have oc : ∀ k, k < cU J → -1 ≤ (J 18 k).toInt ∧ (J 18 k).toInt < cP I + 1 ∧ (J 18 k = -1 ∨ (J 17 k).toInt < (J 18 k).toInt) := by
    intro k hk
    rcases S k hk with z | z
    · have y := wx_uc hw k z
      have x := wx_uo hw k z
      rw [U 17 (by omega) (by omega) k z]
      rcases U18 k z with v | ⟨_, v⟩
      · rw [v]; exact ⟨y.1, by omega, y.2.2⟩
      · rw [v]; exact ⟨by omega, by omega, Or.inr (by omega)⟩
    · rw [(Un k z.1 z.2).2]; exact ⟨by omega, by omega, Or.inl rfl⟩
  have q1 : ∀ k q, k < cU J → q ≤ cP I → pu_oq (J 17 k) (J 18 k) q → k < cU I ∧ pu_oq (I 17 k) (I 18 k) q := by
    intro k q hk hq o
    rcases S k hk with z | z
    · refine ⟨z, ?_⟩
      rw [U 17 (by omega) (by omega) k z, pz_oq_o hP (wx_uo hw k z).2 (wx_uc hw k z).2.1 (U18 k z) hq] at o
      exact o
    · rw [(Un k z.1 z.2).1] at o
      exact (pz_oq_n hP hq o).elim
  have q2 : ∀ k, k < cU J → pu_oq (J 17 k) (J 18 k) (cP I + 1) → J 18 k = -1 := by
    intro k hk o
    rw [pz_oq_c (oo k hk).2 (oc k hk).2.1] at o
    exact o
  have SQ : ∀ q, q ≤ cP I + 1 → q ≤ cP I ∨ q = cP I + 1 := fun q hq => by omega
  unfold w_u
  rw [cJ]
  refine ⟨fun k hk => ?_, fun k hk => ?_, oo, oc, fun k hk => ?_, fun k l r1 r2 => ?_, fun q k l r hk hl o1 o2 e => ?_, fun q k l r hk hl o1 o2 e e2 e3 => ?_, fun q k l r hk hl o1 o2 e e2 e3 => ?_, fun q k r hk o => ?_, fun q d w r hd2 s o e => ?_⟩
  · rcases S k hk with z | z
    · rw [U 15 (by omega) (by omega) k z]; have := wx_us hw k z; omega
    · have := hn k z.1 z.2; omega
  · rcases S k hk with z | z
    · rw [U 16 (by omega) (by omega) k z]; exact wx_uw hw k z
    · have := hn k z.1 z.2; omega
  · rcases S k hk with z | z
    · have y := wx_uk hw k z
      have x := pu_on (wx_uo hw k z)
      rw [pz_slJ hu z, U39 39 (by omega) (by omega) k z, U 17 (by omega) (by omega) k z]
      refine ⟨y.1, by omega, by rw [pz_tcJ h x.2]; exact y.2.2.1, fun v => ?_⟩
      rcases U18 k z with t | ⟨t1, t2⟩
      · rw [t] at v ⊢
        have c0 := wx_uc hw k z
        have c9 := pu_on (x := I 18 k) (n := cP I) ⟨pu_ne1 c0.1 v, c0.2.1⟩
        rw [pz_tcJ h c9.2]
        exact y.2.2.2 v
      · rw [t2, nl_cl _ (by omega), pz_tcP h]
        exact hc k z t1 t2
    · have y := hn k z.1 z.2
      rw [(Un k z.1 z.2).1, nl_cl _ (by omega), pz_tcP h]
      exact ⟨y.2.2.2.2.1, y.2.2.2.2.2.1, y.2.2.2.2.2.2, fun v => absurd (Un k z.1 z.2).2 v⟩
  · rcases S l r2 with z | z
    · rw [U 17 (by omega) (by omega) k (by omega), U 17 (by omega) (by omega) l z]; exact wx_um hw k l r1 z
    · rw [(Un l z.1 z.2).1]
      have := oo k (by omega)
      omega
  · rcases SQ q r with z | z
    · have a1 := q1 k q hk z o1
      have a2 := q1 l q hl z o2
      rw [U 15 (by omega) (by omega) k a1.1, U 15 (by omega) (by omega) l a2.1] at e
      exact wx_u1 hw q k l z a1.1 a2.1 a1.2 a2.2 e
    · subst z
      exact hC.1 k l hk hl (q2 k hk o1) (q2 l hl o2) e
  · rcases SQ q r with z | z
    · have a1 := q1 k q hk z o1
      have a2 := q1 l q hl z o2
      rw [pz_slJ hu a1.1, pz_slJ hu a2.1, U39 39 (by omega) (by omega) k a1.1, U39 39 (by omega) (by omega) l a2.1] at e
      rw [U 16 (by omega) (by omega) k a1.1] at e2 e3
      rw [U 16 (by omega) (by omega) l a2.1] at e2
      exact wx_u2 hw q k l z a1.1 a2.1 a1.2 a2.2 e e2 e3
    · subst z
      exact hC.2.1 k l hk hl (q2 k hk o1) (q2 l hl o2) e e2 e3
  · rcases SQ q r with z | z
    · have a1 := q1 k q hk z o1
      have a2 := q1 l q hl z o2
      rw [pz_slJ hu a1.1, pz_slJ hu a2.1] at e e2 e3
      rw [U39 39 (by omega) (by omega) k a1.1, U39 39 (by omega) (by omega) l a2.1] at e
      rw [U39 40 (by omega) (by omega) k a1.1, U39 40 (by omega) (by omega) l a2.1] at e2
      rw [U39 41 (by omega) (by omega) k a1.1, U39 41 (by omega) (by omega) l a2.1] at e3
      exact wx_u3 hw q k l z a1.1 a2.1 a1.2 a2.2 e e2 e3
    · subst z
      exact hC.2.2.1 k l hk hl (q2 k hk o1) (q2 l hl o2) e e2 e3
  · rcases SQ q r with z | z
    · have a1 := q1 k q hk z o
      have y := wx_u4 hw q k z a1.1 a1.2
      have d1 := sd k a1.1
      rw [pz_slJ hu a1.1, D 36 (by omega) (by omega) _ d1, D 32 (by omega) (by omega) _ d1, pz_oq_o hP (wx_do hw _ d1).2 (wx_dc hw _ d1).2.1 (D37 _ d1) z]
      refine ⟨y.1, y.2.1, fun v => ?_⟩
      have x := y.2.2 v
      rcases D38 _ d1 with t | ⟨t1, t2⟩
      · rw [t]; exact x
      · exact absurd t1 x.1
    · subst z
      have y := hC.2.2.2.1 k hk (q2 k hk o)
      have d1 : pu_sl0 J k / 2 < cD J := by
        rcases S k hk with v | v
        · rw [pz_slJ hu v]; have := sd k v; omega
        · have v2 := hn k v.1 v.2
          have v3 := pu_on (x := J 15 k) (n := 2 * cD J) ⟨v2.1, by omega⟩
          unfold pu_sl0
          omega
      have o6 : (J 36 (pu_sl0 J k / 2)).toInt < cP I + 1 := by
        by_cases v : pu_sl0 J k / 2 < cD I
        · rw [D 36 (by omega) (by omega) _ v]; have := wx_do hw _ v; omega
        · rw [(Dn _ (by omega) d1).1]; omega
      refine ⟨?_, y.2.1, fun v => ⟨y.2.2 v, ?_⟩⟩
      · rw [y.1]
        exact ⟨by omega, Or.inl rfl⟩
      · by_cases v2 : pu_sl0 J k / 2 < cD I
        · rcases D38 _ v2 with t | ⟨_, t⟩
          · rw [t]; have := wx_de hw _ v2; omega
          · rw [t]; omega
        · have z := (hC.2.2.2.1 k hk (q2 k hk o)).2.2 v
          rcases S k hk with u | u
          · rw [pz_slJ hu u] at v2; have := sd k u; omega
          · exact absurd (Dn _ (by omega) d1).2.2 z
  · rcases SQ q r with z | z
    · by_cases v : d < cD I
      · rw [D 36 (by omega) (by omega) _ v, pz_oq_o hP (wx_do hw _ v).2 (wx_dc hw _ v).2.1 (D37 _ v) z] at o
        rw [D 32 (by omega) (by omega) _ v] at s
        obtain ⟨k, k1, k2, k3⟩ := wx_u5 hw q d w z v s o (by
          rcases e with x | ⟨x1, x2, x3⟩
          · exact Or.inl x
          · refine Or.inr ⟨x1, ?_⟩
            rcases D38 _ v with t | ⟨_, t⟩
            · rw [t] at x2 x3; exact ⟨x2, x3⟩
            · rw [t] at x3; omega)
        refine ⟨k, by omega, ?_, by rw [U 15 (by omega) (by omega) k k1]; exact k3⟩
        rw [U 17 (by omega) (by omega) k k1, pz_oq_o hP (wx_uo hw k k1).2 (wx_uc hw k k1).2.1 (U18 k k1) z]
        exact k2
      · rw [(Dn d (by omega) hd2).1] at o
        exact (pz_oq_n hP z o).elim
    · subst z
      have c7 : J 37 d = -1 := by
        rcases o.2 with x | x
        · exact x
        · by_cases v : d < cD I
          · rcases D37 _ v with t | ⟨_, t⟩
            · rw [t] at x; have := (wx_dc hw _ v).2.1; omega
            · rw [t] at x; omega
          · exact (Dn d (by omega) hd2).2.1
      obtain ⟨k, k1, k2, k3⟩ := hC.2.2.2.2 d w hd2 s c7 (by
        rcases e with x | ⟨x1, x2, _⟩
        · exact Or.inl x
        · exact Or.inr ⟨x1, x2⟩)
      exact ⟨k, k1, by rw [pz_oq_c (oo k k1).2 (oc k k1).2.1]; exact k2, k3⟩
end
