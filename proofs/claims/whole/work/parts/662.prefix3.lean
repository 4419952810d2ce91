section
variable {I J : Nat → Nat → Int32} {L L' : Nat → Nat → Int64}
theorem pz_pct (h : pz_pa I L J L') {q : Nat} (hq : q ≤ cP I) : ∀ t, pu_ct J q t = pu_ct I q t
  | 0 => rfl
  | t + 1 => by
    have e : (∃ p, p < q ∧ J 12 p = nI t) = (∃ p, p < q ∧ I 12 p = nI t) := by
      apply propext
      constructor
      · rintro ⟨p, p1, p2⟩
        rw [h.2.1 12 (by omega) (by omega) p (by omega)] at p2
        exact ⟨p, p1, p2⟩
      · rintro ⟨p, p1, p2⟩
        exact ⟨p, p1, by rw [h.2.1 12 (by omega) (by omega) p (by omega)]; exact p2⟩
    unfold pu_ct
    rw [pz_pct h hq t]
    by_cases c : ∃ p, p < q ∧ I 12 p = nI t
    · rw [if_pos (show ∃ p, p < q ∧ J 12 p = nI t by rw [e]; exact c), if_pos c]
    · rw [if_neg (show ¬ ∃ p, p < q ∧ J 12 p = nI t by rw [e]; exact c), if_neg c]
theorem pz_p_n (h : pz_pa I L J L') (hw : pu_WF I L) : w_n J L' := by
  obtain ⟨c1, c2, c3, c4, c5, c6, c7, c8, c9, c10, c11, c12, c13⟩ := pz_pc h
  have P := h.2.1
  have N := h.2.2.2.1
  have K := h.2.2.2.2.1.1
  have T := h.2.2.2.2.2.2.1.1
  have A20 := N 20 (by omega) (by omega)
  have A21 := N 21 (by omega) (by omega)
  have A22 := N 22 (by omega) (by omega)
  have A23 := N 23 (by omega) (by omega)
  have o9 : ∀ k, k < cN I → (I 22 k).toNatClampNeg < cP I := fun k hk => (pu_on (x := I 22 k) (n := cP I) ⟨(wx_no hw k hk).1, (wx_no hw k hk).2.1⟩).2
  have c9 : ∀ k, k < cN I → I 23 k ≠ -1 → (I 23 k).toNatClampNeg < cP I := fun k hk z => (pu_on (x := I 23 k) (n := cP I) ⟨pu_ne1 (wx_nc hw k hk).1 z, (wx_nc hw k hk).2.1⟩).2
  have s9 : ∀ k, k < cN I → (I 20 k).toNatClampNeg < cK I := fun k hk => (pu_on (x := I 20 k) (n := cK I) ⟨(wx_ns hw k hk).1, (wx_ns hw k hk).2⟩).2
  unfold w_n
  rw [c1, c3, c4, c5]
  refine ⟨fun k hk => ?_, fun k hk => ?_, fun k hk => ?_, fun k hk => ?_, fun k l a b => ?_, fun q k a hk o => ?_, fun q k p a hk o b => ?_, fun k hk => ?_, fun k l a hl e => ?_, fun k l a hl e e2 => ?_, fun k l a hl e => ?_, fun k hk e => ?_⟩
  · rw [A20 k hk]; exact wx_ns hw k hk
  · rw [A21 k hk]; exact wx_nt hw k hk
  · rw [A22 k hk, A20 k hk, A21 k hk, K 28 (by omega) (by omega) _ (s9 k hk), P 9 (by omega) (by omega) _ (o9 k hk), P 11 (by omega) (by omega) _ (o9 k hk)]
    exact wx_no hw k hk
  · rw [A22 k hk, A23 k hk, P 7 (by omega) (by omega) _ (o9 k hk)]
    have c := wx_nc hw k hk
    by_cases z : I 23 k = -1
    · exact ⟨c.1, c.2.1, Or.inl z⟩
    · rw [P 7 (by omega) (by omega) _ (c9 k hk z)]
      exact c
  · rw [A22 k (by omega), A22 l b]; exact wx_nm hw k l a b
  · rw [K 28 (by omega) (by omega) k hk] at o
    obtain ⟨l, l1, l2, l3⟩ := wx_n3 hw q k a hk o
    exact ⟨l, l1, by rw [A22 l l1, A23 l l1]; exact l2, by rw [A20 l l1]; exact l3⟩
  · rw [A22 k hk, A23 k hk] at o
    rw [A21 k hk, P 12 (by omega) (by omega) p (by omega)]
    exact wx_n4 hw q k p a hk o b
  · have := o9 k hk
    rw [A22 k hk, pz_pct h (by omega)]
    exact wx_n5 hw k hk
  · rw [A20 k (by omega), A20 l hl] at e
    have z := wx_n6 hw k l a hl e
    rw [A23 k (by omega), A22 l hl, P 7 (by omega) (by omega) _ (c9 k (by omega) z.1), P 7 (by omega) (by omega) _ (o9 l hl)]
    exact z
  · rw [A21 k (by omega), A21 l hl] at e
    have z := wx_n7 hw k l a hl e (fun w hw2 => by
      have := e2 w hw2
      rw [T _ (by omega), T _ (by omega)] at this
      exact this)
    rw [A23 k (by omega), A22 l hl, A22 k (by omega), P 7 (by omega) (by omega) _ (c9 k (by omega) z.1), P 7 (by omega) (by omega) _ (o9 l hl), P 7 (by omega) (by omega) _ (o9 k (by omega))]
    exact z
  · rw [A20 k (by omega), A20 l hl] at e
    rw [A21 k (by omega), A21 l hl, A22 l hl]
    rcases wx_n8 hw k l a hl e with z | ⟨p, p1, p2⟩
    · exact Or.inl z
    · refine Or.inr ⟨p, p1, ?_⟩
      have := (wx_no hw l hl).2.1
      rw [P 12 (by omega) (by omega) p (by omega)]
      exact p2
  · rw [A23 k hk] at e ⊢
    have z := c9 k hk e
    rw [A20 k hk, A21 k hk, P 9 (by omega) (by omega) _ z, P 12 (by omega) (by omega) _ z]
    exact wx_n9 hw k hk e
theorem pz_p_d (h : pz_pa I L J L') (hw : pu_WF I L) : w_d J := by
  obtain ⟨c1, c2, c3, c4, c5, c6, c7, c8, c9, c10, c11, c12, c13⟩ := pz_pc h
  have D := h.2.2.2.2.2.1.1
  have E := h.2.2.2.2.2.1.2
  have A32 := D 32 (by omega) (by omega)
  have A33 := D 33 (by omega) (by omega)
  have A34 := D 34 (by omega) (by omega)
  have A35 := D 35 (by omega) (by omega)
  have A36 := D 36 (by omega) (by omega)
  have A37 := D 37 (by omega) (by omega)
  have A38 := D 38 (by omega) (by omega)
  have A39 := E 39 (by omega) (by omega)
  have A40 := E 40 (by omega) (by omega)
  have A41 := E 41 (by omega) (by omega)
  have o9 : ∀ d, d < cD I → (I 36 d).toNatClampNeg < cP I := fun d hd => (pu_on (wx_do hw d hd)).2
  have x9 : ∀ d, d < cD I → I 37 d ≠ -1 → (I 37 d).toNatClampNeg < cP I := fun d hd z => (pu_on (x := I 37 d) (n := cP I) ⟨pu_ne1 (wx_dc hw d hd).1 z, (wx_dc hw d hd).2.1⟩).2
  have e9 : ∀ d, d < cD I → I 38 d ≠ -1 → (I 38 d).toNatClampNeg < cP I := fun d hd z => (pu_on (x := I 38 d) (n := cP I) ⟨pu_ne1 (wx_de hw d hd).1 z, (wx_de hw d hd).2.1⟩).2
  have f9 : ∀ d, d < cD I → (I 34 d).toNatClampNeg < cD I := fun d hd => by
    have f := wx_df hw d hd
    have := (pu_on (x := I 34 d) (n := d + 1) ⟨f.1, by omega⟩).2
    omega
  have v9 : ∀ d, d < cD I → I 32 d ≠ 0 → (I 33 d).toNatClampNeg < cD I := fun d hd z => by
    have f := wx_d2 hw d hd z
    have := (pu_on (x := I 33 d) (n := d) ⟨f.1, f.2.1⟩).2
    omega
  unfold w_d
  rw [c1, c5, c6]
  refine ⟨fun d hd => ?_, fun d hd => ?_, fun d hd => ?_, fun d hd => ?_, fun d hd z => ?_, fun d hd z => ?_, fun d hd z => ?_, fun d hd z => ?_, fun d hd => ?_, fun d e a b => ?_, fun q d a hd z o => ?_, fun q d a hd o => ?_⟩
  · rw [A32 d hd]; exact wx_ds hw d hd
  · rw [A36 d hd]; exact wx_do hw d hd
  · rw [A36 d hd, A37 d hd]; exact wx_dc hw d hd
  · rw [A36 d hd, A38 d hd]; exact wx_de hw d hd
  · rw [A32 d hd] at z
    rw [A33 d hd, A35 d hd, A34 d hd, A36 d hd, A37 d hd, A39 _ (by omega), A40 _ (by omega), A41 _ (by omega), pz_ptc h (o9 d hd)]
    have w := wx_d0 hw d hd z
    refine ⟨w.1, w.2.1, w.2.2.1, w.2.2.2.1, w.2.2.2.2.1, w.2.2.2.2.2.1, w.2.2.2.2.2.2.1, w.2.2.2.2.2.2.2.1, w.2.2.2.2.2.2.2.2.1, w.2.2.2.2.2.2.2.2.2.1, fun y => ?_⟩
    rw [pz_ptc h (x9 d hd y)]
    exact w.2.2.2.2.2.2.2.2.2.2 y
  · rw [A38 d hd] at z
    rw [A32 d hd, A37 d hd, A38 d hd, A39 (2 * d + 1) (by omega), A39 (2 * d) (by omega), A40 _ (by omega), A41 _ (by omega), pz_ptc h (e9 d hd z), pz_ptc h (e9 d hd z)]
    have w := wx_d1 hw d hd z
    refine ⟨w.1, w.2.1, w.2.2.1, w.2.2.2.1, w.2.2.2.2.1, w.2.2.2.2.2.1, w.2.2.2.2.2.2.1, w.2.2.2.2.2.2.2.1, w.2.2.2.2.2.2.2.2.1, w.2.2.2.2.2.2.2.2.2.1, fun y => ?_⟩
    rw [pz_ptc h (x9 d hd y)]
    exact w.2.2.2.2.2.2.2.2.2.2 y
  · rw [A38 d hd] at z
    rw [A39 _ (by omega), A40 _ (by omega), A41 _ (by omega)]
    exact wx_dn hw d hd z
  · rw [A32 d hd] at z ⊢
    have v := v9 d hd z
    rw [A33 d hd, A32 _ v, A34 d hd, A34 _ v, A39 _ (by omega), A40 _ (by omega), A41 _ (by omega), A35 d hd]
    exact wx_d2 hw d hd z
  · rw [A34 d hd, A32 d hd, A32 _ (f9 d hd)]; exact wx_df hw d hd
  · rw [A36 d (by omega), A36 e b]; exact wx_dm hw d e a b
  · rw [A32 d hd] at z
    rw [A36 d hd, A37 d hd] at o
    have v := v9 d hd z
    rw [A33 d hd, A36 _ v, A37 _ v]
    exact wx_dq hw q d a hd z o
  · rw [A36 d hd, A37 d hd] at o
    rw [A34 d hd, A36 _ (f9 d hd), A37 _ (f9 d hd)]
    exact wx_dh hw q d a hd o
theorem pz_p_w (h : pz_pa I L J L') (hw : pu_WF I L) : pu_WF J L' :=
  ⟨(pz_p_c h hw).1, (pz_p_c h hw).2, pz_p_p h hw, pz_p_u h hw, pz_p_n h hw, (pz_p_k h hw).1, pz_p_d h hw, (pz_p_k h hw).2⟩
end
