/-! a street on a day is the street at some number of papers -/
section
variable {M : pu_M} {I : Nat → Nat → Int32} {L : Nat → Nat → Int64}
theorem pu_qex (hw : pu_WF I L) (st : Nat) (hst : st < 2147483648) (y : Int32) : ∃ q, q ≤ cP I ∧ ∀ p, p < cP I → pu_tc I p (nI st) → (p < q ↔ pu_kn I p ∧ I 7 p ≤ y) := by
  by_cases h : ∃ p, p < cP I ∧ pu_tc I p (nI st) ∧ ¬ (pu_kn I p ∧ I 7 p ≤ y)
  · obtain ⟨q, ⟨h1, h2, h3⟩, h4⟩ := pk_least (fun p => p < cP I ∧ pu_tc I p (nI st) ∧ ¬ (pu_kn I p ∧ I 7 p ≤ y)) h
    refine ⟨q, by omega, fun p hp ht => ⟨fun hq => ?_, fun hg => ?_⟩⟩
    · exact Classical.byContradiction (fun z => h4 p hq ⟨hp, ht, z⟩)
    · refine Classical.byContradiction (fun z => h3 ?_)
      have m1 := wx_pm hw q p (by omega) hp
      have m2 := wx_po hw (nI st) q p (fun e => by rw [nl_n1 st hst] at e; exact e) (by omega) hp h2 ht
      refine ⟨?_, ?_⟩
      · rcases hg.1 with g | g
        · exact Or.inl g
        · exact Or.inr (Int32.le_trans (Int32.le_iff_toInt_le.mpr m1) g)
      · exact Int32.le_trans (Int32.le_iff_toInt_le.mpr m2) hg.2
  · exact ⟨cP I, Nat.le_refl _, fun p hp ht => ⟨fun _ => Classical.byContradiction (fun z => h ⟨p, hp, ht, z⟩), fun _ => hp⟩⟩
/-- what was opened and closed on a street, on a day -/
theorem pu_hd_oq (hw : pu_WF I L) {st q : Nat} {y o c : Int32} (hq : ∀ p, p < cP I → pu_tc I p (nI st) → (p < q ↔ pu_kn I p ∧ I 7 p ≤ y)) (ho : 0 ≤ o.toInt ∧ o.toInt < cP I) (hc : -1 ≤ c.toInt ∧ c.toInt < cP I) (t1 : pu_tc I o.toNatClampNeg (nI st)) (t2 : c ≠ -1 → pu_tc I c.toNatClampNeg (nI st)) : pu_hd I o.toNatClampNeg c y = pu_oq o c q := by
  obtain ⟨o1, o2⟩ := pu_on ho
  have o3 := pu_nnT ho.1
  have e1 := hq _ o2 t1
  apply propext
  unfold pu_hd pu_oq
  by_cases h : c = -1
  · rw [← e1]
    constructor
    · exact fun z => ⟨by have := z.1; omega, Or.inl h⟩
    · exact fun z => ⟨by have := z.1; omega, fun w => w.1 h⟩
  · have c0 := pu_ne1 hc.1 h
    obtain ⟨c1, c2⟩ := pu_on (x := c) (n := cP I) ⟨c0, hc.2⟩
    have c3 := pu_nnT c0
    have e2 := hq _ c2 (t2 h)
    rw [← e1, ← e2]
    constructor
    · exact fun z => ⟨by have := z.1; omega, Or.inr (by
        have : ¬ c.toNatClampNeg < q := fun w => z.2 ⟨h, w⟩
        omega)⟩
    · intro z
      refine ⟨by have := z.1; omega, fun w => ?_⟩
      rcases z.2 with z2 | z2
      · exact h z2
      · have := w.2
        omega
theorem pu_sh_oq (hw : pu_WF I L) {st q k : Nat} {y : Int32} (hq : ∀ p, p < cP I → pu_tc I p (nI st) → (p < q ↔ pu_kn I p ∧ I 7 p ≤ y)) (hk : k < cU I) (hs : I 39 (pu_sl0 I k) = nI st) : pu_sh1 I y k = pu_oq (I 17 k) (I 18 k) q := by
  have h1 := wx_uk hw k hk
  rw [hs] at h1
  exact pu_hd_oq hw hq (wx_uo hw k hk) ⟨(wx_uc hw k hk).1, (wx_uc hw k hk).2.1⟩ h1.2.2.1 h1.2.2.2
theorem pu_uoq (hw : pu_WF I L) {k : Nat} (hk : k < cU I) : pu_oq (I 17 k) (I 18 k) (cP I) = (I 18 k = -1) := by
  have h1 := wx_uo hw k hk
  have h2 := wx_uc hw k hk
  apply propext
  constructor
  · intro h
    rcases h.2 with q | q
    · exact q
    · omega
  · intro h
    exact ⟨by omega, Or.inl h⟩
/-- the spans of a street, now or on a day, are those at some number of papers -/
theorem pu_tn_oq (hw : pu_WF I L) (st : Nat) (hst : st < 2147483648) (y : Int32) : ∃ q, q ≤ cP I ∧ (y = -1 → q = cP I) ∧ (y ≠ -1 → ∀ p, p < cP I → pu_tc I p (nI st) → (p < q ↔ pu_kn I p ∧ I 7 p ≤ y)) ∧ ∀ k, k < cU I → I 39 (pu_sl0 I k) = nI st → pu_tn I y k = pu_oq (I 17 k) (I 18 k) q := by
  by_cases h : y = -1
  · refine ⟨cP I, Nat.le_refl _, fun _ => rfl, fun z => absurd h z, fun k hk hs => ?_⟩
    unfold pu_tn
    rw [if_pos h, pu_uoq hw hk]
  · obtain ⟨q, q1, q2⟩ := pu_qex hw st hst y
    refine ⟨q, q1, fun z => absurd z h, fun _ => q2, fun k hk hs => ?_⟩
    unfold pu_tn
    rw [if_neg h, pu_sh_oq hw q2 hk hs]
theorem pu_sl_lt (hw : pu_WF I L) {k : Nat} (hk : k < cU I) : pu_sl0 I k < 2 * cD I ∧ I 15 k = nI (pu_sl0 I k) := by
  have hs := wx_us hw k hk
  have hs2 := pu_on (x := I 15 k) (n := 2 * cD I) ⟨hs.1, by omega⟩
  exact ⟨hs2.2, hs2.1⟩
theorem pu_inj (hw : pu_WF I L) (st : Nat) (hst : st < 2147483648) (y : Int32) : ∀ k l, k < cU I → l < cU I → pu_cf I st y k → pu_cf I st y l → k ≠ l → pu_sl0 I k / 2 ≠ pu_sl0 I l / 2 := by
  intro k l hk hl h1 h2 hne he
  obtain ⟨q, q1, _, _, q2⟩ := pu_tn_oq hw st hst y
  have a1 := h1.2
  have a2 := h2.2
  rw [q2 k hk h1.1] at a1
  rw [q2 l hl h2.1] at a2
  have s1 := pu_sl_lt hw hk
  have s2 := pu_sl_lt hw hl
  by_cases e : pu_sl0 I k = pu_sl0 I l
  · exact hne (wx_u1 hw q k l q1 hk hl a1 a2 (by rw [s1.2, s2.2, e]))
  · have b1 := (wx_u4 hw q k q1 hk a1).2
    have b2 := (wx_u4 hw q l q1 hl a2).2
    have hd : pu_sl0 I k / 2 < cD I := by omega
    by_cases e1 : pu_sl0 I k % 2 = 1
    · have d1 := (wx_d1 hw _ hd (b1.2 e1).1).2.2.2.1
      have x1 : 2 * (pu_sl0 I k / 2) + 1 = pu_sl0 I k := by omega
      have x2 : 2 * (pu_sl0 I k / 2) = pu_sl0 I l := by omega
      rw [x1, x2] at d1
      exact d1 (h1.1.trans h2.1.symm)
    · have e2 : pu_sl0 I l % 2 = 1 := by omega
      have d1 := (wx_d1 hw _ (by omega) (b2.2 e2).1).2.2.2.1
      have x1 : 2 * (pu_sl0 I l / 2) + 1 = pu_sl0 I l := by omega
      have x2 : 2 * (pu_sl0 I l / 2) = pu_sl0 I k := by omega
      rw [x1, x2] at d1
      exact d1 (h2.1.trans h1.1.symm)
/-- where a number holds on a day its door stands -/
theorem pu_sd_of (hw : pu_WF I L) {k : Nat} {y : Int32} (hk : k < cU I) (h : pu_sh1 I y k) : pu_sd I (pu_sl0 I k / 2) y ∧ I 32 (pu_sl0 I k / 2) = 0 ∧ pu_hp I (pu_sl0 I k / 2) (pu_sl0 I k % 2) := by
  have hK := wx_bK hw
  have h1 := wx_uk hw k hk
  obtain ⟨st1, st2⟩ := pu_on (x := I 39 (pu_sl0 I k)) (n := cK I) ⟨h1.1, h1.2.1⟩
  obtain ⟨q, q1, q2⟩ := pu_qex hw (I 39 (pu_sl0 I k)).toNatClampNeg (by omega) y
  have hb := h
  rw [pu_sh_oq hw q2 hk st1] at hb
  have u4 := wx_u4 hw q k q1 hk hb
  have s1 := pu_sl_lt hw hk
  have hd : pu_sl0 I k / 2 < cD I := by omega
  have d0 := wx_d0 hw _ hd u4.2.1
  have dc := wx_dc hw _ hd
  refine ⟨?_, u4.2.1, u4.2.1, ?_⟩
  · by_cases e : pu_sl0 I k % 2 = 1
    · have co := u4.2.2 e
      have d1 := wx_d1 hw _ hd co.1
      have x1 : 2 * (pu_sl0 I k / 2) + 1 = pu_sl0 I k := by omega
      rw [x1] at d1
      have dw := wx_de hw _ hd
      have c0 := pu_ne1 dw.1 co.1
      obtain ⟨w1, w2⟩ := pu_on (x := I 38 (pu_sl0 I k / 2)) (n := cP I) ⟨c0, dw.2.1⟩
      have w3 := pu_nnT c0
      obtain ⟨o1, o2⟩ := pu_on (wx_do hw _ hd)
      have o3 := pu_nnT (wx_do hw _ hd).1
      have g := (q2 _ w2 (by rw [← st1]; exact d1.2.2.2.2.2.2.2.2.1)).mp (by have := co.2; omega)
      have lt : (I 36 (pu_sl0 I k / 2)).toInt < (I 38 (pu_sl0 I k / 2)).toInt := by
        rcases dw.2.2 with z | z
        · exact absurd z co.1
        · exact z
      have m1 := wx_pm hw _ _ (show (I 36 (pu_sl0 I k / 2)).toNatClampNeg ≤ (I 38 (pu_sl0 I k / 2)).toNatClampNeg by omega) w2
      have m2 := wx_po hw (I 39 (2 * (pu_sl0 I k / 2))) _ _ (fun e => by
        have := d0.2.2.2.1
        rw [e] at this
        exact absurd this (by decide)) (show (I 36 (pu_sl0 I k / 2)).toNatClampNeg ≤ (I 38 (pu_sl0 I k / 2)).toNatClampNeg by omega) w2 d0.2.2.2.2.2.2.2.2.2.1 d1.2.2.2.2.2.2.2.2.2.1
      refine ⟨⟨?_, Int32.le_trans (Int32.le_iff_toInt_le.mpr m2) g.2⟩, fun z => ?_⟩
      · rcases g.1 with g | g
        · exact Or.inl g
        · exact Or.inr (Int32.le_trans (Int32.le_iff_toInt_le.mpr m1) g)
      · have c5 := pu_ne1 dc.1 z.1
        obtain ⟨v1, v2⟩ := pu_on (x := I 37 (pu_sl0 I k / 2)) (n := cP I) ⟨c5, dc.2.1⟩
        have v3 := pu_nnT c5
        have := (q2 _ v2 (by rw [← st1]; exact d1.2.2.2.2.2.2.2.2.2.2 z.1)).mpr ⟨z.2.1, z.2.2⟩
        rcases u4.1.2 with u | u
        · exact z.1 u
        · omega
    · have x1 : 2 * (pu_sl0 I k / 2) = pu_sl0 I k := by omega
      rw [x1, st1] at d0
      unfold pu_sd
      rw [pu_hd_oq hw q2 (wx_do hw _ hd) ⟨dc.1, dc.2.1⟩ d0.2.2.2.2.2.2.2.2.2.1 d0.2.2.2.2.2.2.2.2.2.2]
      exact u4.1
  · by_cases e : pu_sl0 I k % 2 = 1
    · exact Or.inr ⟨e, (u4.2.2 e).1⟩
    · exact Or.inl (by omega)
end
