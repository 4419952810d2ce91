section
variable {I J : Nat → Nat → Int32} {L L' : Nat → Nat → Int64} {s : Nat → Int32}
theorem pz_p_r (h : pz_pa I L J L') (hw : pu_WF I L) (hr : pu_Rel I L s) : pu_Rel J L' s := by
  obtain ⟨c1, c2, c3, c4, c5, c6, c7, c8, c9, c10, c11, c12, c13⟩ := pz_pc h
  obtain ⟨h6, h14, h19, h25, h31, h42, h45⟩ := h.1
  have P := h.2.1
  have U := h.2.2.1
  have N := h.2.2.2.1
  have K := h.2.2.2.2.1
  have D := h.2.2.2.2.2.1.1
  have E := h.2.2.2.2.2.1.2
  have T := h.2.2.2.2.2.2.1
  have X := h.2.2.2.2.2.2.2
  refine ⟨?_, ?_, ?_, ?_, ?_, ?_, ?_, ?_, ?_⟩
  · unfold rl_h
    rw [c1, c2, c3, c4, c5, c6, c7, c8, c9, c10, c11, c12, c13, h6 0 (by omega), h6 1 (by omega), h45 0 (by omega), h45 1 (by omega)]
    exact rg_h hr
  · unfold rl_p
    rw [c1]
    refine ⟨fun k hk => ?_, fun k hk => ?_, fun k hk => ?_, fun k hk => ?_, fun k hk => ?_, fun k hk => ?_, fun k hk => ?_⟩
    · rw [P 8 (by omega) (by omega) k hk]; exact rl_p0 hr k hk
    · rw [P 7 (by omega) (by omega) k hk]; exact rl_p1 hr k hk
    · rw [P 9 (by omega) (by omega) k hk]; exact rl_p2 hr k hk
    · rw [P 10 (by omega) (by omega) k hk]; exact rl_p3 hr k hk
    · rw [P 11 (by omega) (by omega) k hk]; exact rl_p4 hr k hk
    · rw [P 12 (by omega) (by omega) k hk]; exact rl_p5 hr k hk
    · rw [P 13 (by omega) (by omega) k hk]; exact rl_p6 hr k hk
  · unfold rl_u
    rw [c2]
    refine ⟨fun k hk => ?_, fun k hk => ?_, fun k hk => ?_, fun k hk => ?_, fun k hk => ?_, fun k hk => ?_⟩
    · rw [U 15 (by omega) (by omega) k hk]; exact rl_u0 hr k hk
    · rw [U 15 (by omega) (by omega) k hk]; exact rl_u1 hr k hk
    · rw [U 15 (by omega) (by omega) k hk, E 39 (by omega) (by omega) (I 15 k).toNatClampNeg (pu_sl_lt hw hk).1]; exact rl_u2 hr k hk
    · rw [U 16 (by omega) (by omega) k hk]; exact rl_u3 hr k hk
    · rw [U 17 (by omega) (by omega) k hk]; exact rl_u4 hr k hk
    · rw [U 18 (by omega) (by omega) k hk]; exact rl_u5 hr k hk
  · unfold rl_n
    rw [c3]
    have R : ∀ j k, k < cN I → pz_nr I L s j k → pz_nr J L' s j k := by
      rintro j k hk ⟨a1, a2, a3, a4, m, m1, m2, m3, m4, m5⟩
      unfold pz_nr
      rw [N 20 (by omega) (by omega) k hk, N 21 (by omega) (by omega) k hk, N 22 (by omega) (by omega) k hk, N 23 (by omega) (by omega) k hk]
      exact ⟨a1, a2, a3, a4, m, m1, m2, m3, m4, fun w hw2 => by
        rw [T.1 _ (by omega)]
        exact m5 w hw2⟩
    refine ⟨fun k hk => ?_, fun j hj => ?_, fun k hk => ?_, rl_ni hr⟩
    · obtain ⟨j, j1, j2⟩ := rl_na hr k hk
      exact ⟨j, j1, R j k hk j2⟩
    · obtain ⟨k, k1, k2⟩ := rl_nb hr j hj
      exact ⟨k, k1, R j k k1 k2⟩
    · rw [N 22 (by omega) (by omega) k hk]; exact rl_n3 hr k hk
  · unfold rl_t
    rw [c1, c4]
    refine ⟨fun k hk w hw2 => ?_, fun k hk => ?_⟩
    · rw [T.2.1 _ (by omega)]; exact rl_tw hr k hk w hw2
    · rcases rl_tj hr k hk with ⟨a1, a2⟩ | ⟨p, a1, a2, a3, a4⟩
      · exact Or.inl ⟨a1, fun p hp => by rw [P 12 (by omega) (by omega) p hp]; exact a2 p hp⟩
      · exact Or.inr ⟨p, a1, a2, by rw [P 12 (by omega) (by omega) p a1]; exact a3, fun q hq e => a4 q hq (by rw [P 12 (by omega) (by omega) q hq] at e; exact e)⟩
  · unfold rl_k
    rw [c5]
    refine ⟨fun k hk => ?_, fun k hk => ?_, fun k i hk hi hl => ?_⟩
    · rw [K.1 27 (by omega) (by omega) k hk]; exact rl_k0 hr k hk
    · rw [K.2.1 k hk]; exact rl_k1 hr k hk
    · rw [K.2.1 k hk] at hl
      rw [K.2.2 _ (by omega)]
      exact rl_k2 hr k i hk hi hl
  · unfold rl_d
    rw [c6]
    refine ⟨fun k hk => ?_, fun k hk => ?_, fun k hk => ?_, fun k hk => ?_, fun k hk => ?_, fun k hk => ?_, fun k hk => ?_, fun k hk => ?_, fun k hk => ?_, fun k hk => ?_, fun k hk => ?_, fun k hk => ?_⟩
    · rw [D 38 (by omega) (by omega) k hk, D 32 (by omega) (by omega) k hk]; exact rl_d0 hr k hk
    · rw [E 39 (by omega) (by omega) _ (by omega)]; exact rl_d1 hr k hk
    · rw [E 40 (by omega) (by omega) _ (by omega)]; exact rl_d2 hr k hk
    · rw [E 41 (by omega) (by omega) _ (by omega)]; exact rl_d3 hr k hk
    · rw [E 39 (by omega) (by omega) _ (by omega)]; exact rl_d4 hr k hk
    · rw [E 40 (by omega) (by omega) _ (by omega)]; exact rl_d5 hr k hk
    · rw [E 41 (by omega) (by omega) _ (by omega)]; exact rl_d6 hr k hk
    · rw [D 35 (by omega) (by omega) k hk]; exact rl_d7 hr k hk
    · rw [D 33 (by omega) (by omega) k hk]; exact rl_d8 hr k hk
    · rw [D 36 (by omega) (by omega) k hk]; exact rl_d9 hr k hk
    · rw [D 37 (by omega) (by omega) k hk]; exact rl_d10 hr k hk
    · rw [D 38 (by omega) (by omega) k hk]; exact rl_d11 hr k hk
  · unfold rl_f
    rw [c7]
    refine ⟨fun k hk => ?_, fun k hk => ?_⟩
    · rw [(T.2.2 k hk).1]; exact rl_f0 hr k hk
    · rw [(T.2.2 k hk).2]; exact rl_f1 hr k hk
  · unfold rl_e
    rw [c8, c9, c10, c11, c12, c13]
    refine ⟨fun k hk => ?_, fun k hk => ?_, fun k hk => ?_, fun k hk => ?_, fun k hk => ?_, fun k hk => ?_, fun k hk => ?_, fun k hk => ?_, fun k hk => ?_, fun k hk => ?_⟩
    · rw [X.2.2.2.2.1 k hk]; exact rl_eS0 hr k hk
    · rw [X.2.2.2.2.2.1 k hk]; exact rl_eS1 hr k hk
    · rw [X.2.2.2.2.2.2.2.1 k hk]; exact rl_eE hr k hk
    · rw [X.1 k hk]; exact rl_eQ0 hr k hk
    · rw [X.2.1 k hk]; exact rl_eQ1 hr k hk
    · rw [X.2.2.2.2.2.2.1 k hk]; exact rl_eW hr k hk
    · rw [X.2.2.2.2.2.2.2.2.1 k hk]; exact rl_eO0 hr k hk
    · rw [X.2.2.2.2.2.2.2.2.2 k hk]; exact rl_eO1 hr k hk
    · rw [X.2.2.1 k hk]; exact rl_eR0 hr k hk
    · rw [X.2.2.2.1 k hk]; exact rl_eR1 hr k hk
/-- what agrees below the counts tells the same -/
theorem St_pre (h : pz_pa I L J L') (hs : pu_St I L s) : pu_St J L' s := ⟨pz_p_w h hs.1, pz_p_r h hs.1 hs.2⟩
end
