section
variable {I J : Nat → Nat → Int32} {L L' : Nat → Nat → Int64}
theorem pz_psl (h : pz_pa I L J L') {k : Nat} (hk : k < cU I) : pu_sl0 J k = pu_sl0 I k := by
  unfold pu_sl0
  rw [h.2.2.1 15 (by omega) (by omega) k hk]
theorem pz_p_u (h : pz_pa I L J L') (hw : pu_WF I L) : w_u J := by
  obtain ⟨c1, c2, c3, c4, c5, c6, c7, c8, c9, c10, c11, c12, c13⟩ := pz_pc h
  have U := h.2.2.1
  have D := h.2.2.2.2.2.1.1
  have E := h.2.2.2.2.2.1.2
  have S : ∀ k, k < cU I → pu_sl0 I k < 2 * cD I := fun k hk => (pu_sl_lt hw hk).1
  unfold w_u
  rw [c1, c2, c5, c6]
  refine ⟨fun k hk => ?_, fun k hk => ?_, fun k hk => ?_, fun k hk => ?_, fun k hk => ?_, fun k l a b => ?_, fun q k l a hk hl o1 o2 e => ?_, fun q k l a hk hl o1 o2 e e2 e3 => ?_, fun q k l a hk hl o1 o2 e e2 e3 => ?_, fun q k a hk o => ?_, fun q d w a hd s o e => ?_⟩
  · rw [U 15 (by omega) (by omega) k hk]; exact wx_us hw k hk
  · rw [U 16 (by omega) (by omega) k hk]; exact wx_uw hw k hk
  · rw [U 17 (by omega) (by omega) k hk]; exact wx_uo hw k hk
  · rw [U 17 (by omega) (by omega) k hk, U 18 (by omega) (by omega) k hk]; exact wx_uc hw k hk
  · have s := S k hk
    rw [pz_psl h hk, E 39 (by omega) (by omega) _ s, U 17 (by omega) (by omega) k hk, U 18 (by omega) (by omega) k hk]
    have u := wx_uk hw k hk
    have o := pu_on (wx_uo hw k hk)
    have c := wx_uc hw k hk
    refine ⟨u.1, u.2.1, ?_, fun z => ?_⟩
    · rw [pz_ptc h o.2]; exact u.2.2.1
    · have c0 := pu_ne1 c.1 z
      have c9 := pu_on (x := I 18 k) (n := cP I) ⟨c0, c.2.1⟩
      rw [pz_ptc h c9.2]
      exact u.2.2.2 z
  · rw [U 17 (by omega) (by omega) k (by omega), U 17 (by omega) (by omega) l b]; exact wx_um hw k l a b
  · rw [U 17 (by omega) (by omega) k hk, U 18 (by omega) (by omega) k hk] at o1
    rw [U 17 (by omega) (by omega) l hl, U 18 (by omega) (by omega) l hl] at o2
    rw [U 15 (by omega) (by omega) k hk, U 15 (by omega) (by omega) l hl] at e
    exact wx_u1 hw q k l a hk hl o1 o2 e
  · rw [U 17 (by omega) (by omega) k hk, U 18 (by omega) (by omega) k hk] at o1
    rw [U 17 (by omega) (by omega) l hl, U 18 (by omega) (by omega) l hl] at o2
    rw [pz_psl h hk, pz_psl h hl, E 39 (by omega) (by omega) _ (S k hk), E 39 (by omega) (by omega) _ (S l hl)] at e
    rw [U 16 (by omega) (by omega) k hk] at e2 e3
    rw [U 16 (by omega) (by omega) l hl] at e2
    exact wx_u2 hw q k l a hk hl o1 o2 e e2 e3
  · rw [U 17 (by omega) (by omega) k hk, U 18 (by omega) (by omega) k hk] at o1
    rw [U 17 (by omega) (by omega) l hl, U 18 (by omega) (by omega) l hl] at o2
    rw [pz_psl h hk, pz_psl h hl] at e e2 e3
    rw [E 39 (by omega) (by omega) _ (S k hk), E 39 (by omega) (by omega) _ (S l hl)] at e
    rw [E 40 (by omega) (by omega) _ (S k hk), E 40 (by omega) (by omega) _ (S l hl)] at e2
    rw [E 41 (by omega) (by omega) _ (S k hk), E 41 (by omega) (by omega) _ (S l hl)] at e3
    exact wx_u3 hw q k l a hk hl o1 o2 e e2 e3
  · have s := S k hk
    rw [U 17 (by omega) (by omega) k hk, U 18 (by omega) (by omega) k hk] at o
    rw [pz_psl h hk, D 36 (by omega) (by omega) _ (by omega), D 37 (by omega) (by omega) _ (by omega), D 32 (by omega) (by omega) _ (by omega), D 38 (by omega) (by omega) _ (by omega)]
    exact wx_u4 hw q k a hk o
  · rw [D 32 (by omega) (by omega) d hd] at s
    rw [D 36 (by omega) (by omega) d hd, D 37 (by omega) (by omega) d hd] at o
    rw [D 38 (by omega) (by omega) d hd] at e
    obtain ⟨k, k1, k2, k3⟩ := wx_u5 hw q d w a hd s o e
    exact ⟨k, k1, by rw [U 17 (by omega) (by omega) k k1, U 18 (by omega) (by omega) k k1]; exact k2, by rw [U 15 (by omega) (by omega) k k1]; exact k3⟩
theorem pz_p_k (h : pz_pa I L J L') (hw : pu_WF I L) : w_k J L' ∧ w_e J L' := by
  obtain ⟨c1, c2, c3, c4, c5, c6, c7, c8, c9, c10, c11, c12, c13⟩ := pz_pc h
  have P := h.2.1
  have K := h.2.2.2.2.1
  have T := h.2.2.2.2.2.2.1
  have X := h.2.2.2.2.2.2.2
  unfold w_k w_e
  rw [c1, c4, c5, c7, c10, c11]
  refine ⟨⟨fun k l a b e => ?_, fun k hk => ?_, fun k hk => ?_, fun k l a b => ?_, fun k hk => ?_, fun k i hk hi hl => ?_, fun p k hp hk e => ?_⟩, fun k hk => ?_, fun k hk => ?_, fun k l a b => ?_⟩
  · refine wx_kt hw k l a b (fun w hw2 => ?_)
    have := e w hw2
    rw [T.2.1 _ (by omega), T.2.1 _ (by omega)] at this
    exact this
  · rw [K.1 27 (by omega) (by omega) k hk]; exact wx_kr hw k hk
  · have o := wx_ko hw k hk
    have o2 := pu_on (x := I 28 k) (n := cP I) ⟨o.1, o.2.1⟩
    rw [K.1 28 (by omega) (by omega) k hk, P 9 (by omega) (by omega) _ o2.2]
    exact o
  · rw [K.1 28 (by omega) (by omega) k (by omega), K.1 28 (by omega) (by omega) l b]; exact wx_km hw k l a b
  · rw [K.2.1 k hk]; exact wx_kl hw k hk
  · rw [K.2.1 k hk] at hl
    rw [K.2.2 _ (by omega)]
    exact wx_kw hw k i hk hi hl
  · rw [K.1 28 (by omega) (by omega) k hk]
    rw [pz_ptc h hp] at e
    exact wx_kp hw p k hp hk e
  · rw [X.2.2.2.2.2.1 k hk]; exact wx_es hw k hk
  · rw [(T.2.2 k hk).1]; exact wx_ef hw k hk
  · rw [X.2.2.2.2.2.2.1 k (by omega), X.2.2.2.2.2.2.1 l b]; exact wx_ew hw k l a b
end
