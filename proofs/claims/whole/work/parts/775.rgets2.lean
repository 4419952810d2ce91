/-! the numbers that a street gets: all of them, whether they rise, how many are others -/
section
variable {I : Nat → Nat → Int32} {L : Nat → Nat → Int64} {V : Nat → Nat} {n st ru : Nat}
theorem r_g_i (hw : pu_WF I L) (hst : st < cK I) (hru : ru < 4) (vs : py_vs I ru V n) (hV : ∀ a, a < n → py_osx I st (V a)) (hn : n ≤ 100) {N : pu_M} (hx : pu_fx N) (hr : pu_Rel I L (N.1 72)) {i : Nat} (hi : i < n) (gN : py_gN I st ru V n N i) (t5 t6 t7 t8 : Option Value) : ((ru = 3 ∧ py_FR I st ru V i ≠ -1 ∧ ¬ pz_iw (py_FR I st ru V i)) ∧ ∃ N1, py_rfo N N1 ∧ pu_r 475 [some (.ref 71), some (.int (nI st)), some (.int (nI ru)), some (.ref 81), some (.int (nI i)), t5, t6, t7, t8] [] N = some (some (.int 0), N1)) ∨ ((ru = 3 → py_FR I st ru V i = -1 ∨ pz_iw (py_FR I st ru V i)) ∧ ∃ N1 u5 u6 u7 u8, py_rfo N N1 ∧ py_gN I st ru V n N1 (i + 1) ∧ pu_r 475 [some (.ref 71), some (.int (nI st)), some (.int (nI ru)), some (.ref 81), some (.int (nI i)), t5, t6, t7, t8] [] N = pu_r 475 [some (.ref 71), some (.int (nI st)), some (.int (nI ru)), some (.ref 81), some (.int (nI (i + 1))), u5, u6, u7, u8] [] N1) := by
  have bK := wx_bK hw
  have bD := wx_bD hw
  have A := r_g0 hw vs hV hn hx hr hi gN (nI st) (nI ru) t5 t6 t7 t8
  have sl := (pu_sl_lt hw (hV i hi).1).1
  have sl2 : pu_sl0 I (V i) < 200 := by omega
  have e2 := (r_vt hw vs hV hx hr hi).2
  obtain ⟨s2, p2, _, _⟩ := vs.1 i hi
  have nl : py_nth I V i ≤ i := py_nth_lt
  have i2 : i < 200 := by omega
  have m81 : N.1 81 (py_sd I V i) = nI (py_nth I V i) := gN.2.2.2 _ s2
  have h79 := gN.2.1 i hi
  have FW := py_FW_v hw hst vs hn hi
  have FIN := fun t6 t7 t8 => r_gF (st := st) vs hx hi hn gN (nI st) (nI ru) t6 t7 t8
  rw [A]
  by_cases r0 : ru = 0
  · refine Or.inr ⟨fun z => by omega, ?_⟩
    obtain ⟨N1, x1, x2, x3⟩ := FIN (some (.int (nI (py_pc I V i)))) t7 t8
    rw [FW.1 r0] at x3
    refine ⟨N1, some (.int (nI (py_sd I V i))), some (.int (nI (py_pc I V i))), t7, t8, x1, x2, ?_⟩
    rw [← x3, r0, nI_0]
    exact r_gB0 hx i2 sl2 s2 (by omega) h79 e2 m81 (nI st) t6 t7 t8
  have r0' : ¬ nI ru = 0 := fun z => by rw [show (0 : Int32) = nI 0 from rfl, nI_eq (by omega) (by omega)] at z; exact r0 z
  rw [r_gB1 hx i2 sl2 h79 e2 (nI st) (nI ru) r0' (nI (py_sd I V i)) t6 t7 t8]
  by_cases r1 : ru = 1
  · refine Or.inr ⟨fun z => by omega, ?_⟩
    obtain ⟨N1, x1, x2, x3⟩ := FIN (some (.int (nI (py_pc I V i)))) t7 t8
    rw [FW.2.1 r1] at x3
    refine ⟨N1, some (.int (nI (py_sd I V i))), some (.int (nI (py_pc I V i))), t7, t8, x1, x2, ?_⟩
    rw [← x3, r1, show nI 1 = (1 : Int32) from rfl]
    exact r_gR1 hx i2 (nI st) _ _ _ _
  have r1' : ¬ nI ru = 1 := fun z => by rw [show (1 : Int32) = nI 1 from rfl, nI_eq (by omega) (by omega)] at z; exact r1 z
  rw [r_gRn (nI st) (nI ru) r1']
  by_cases r2 : ru = 2
  · refine Or.inr ⟨fun z => by omega, ?_⟩
    have vs2 := vs
    rw [r2] at vs2
    obtain ⟨l, l1, l2⟩ := py_f2_b vs2 i hi
    have m1 : py_pc I V i % 10 < 10 := Nat.mod_lt _ (by omega)
    have dl : py_dgt I V i < 20000 := by unfold py_dgt; omega
    have f2l : py_f2 I V i < 400000 := by rw [l2]; omega
    have f2m : py_f2 I V i % 16 ≤ 9 := by rw [l2]; omega
    have C2 : ∃ u8, kX12_gets_129 pu_r [some (.ref 71), some (.int (nI st)), some (.int 2), some (.ref 81), some (.int (nI i)), some (.int (nI (py_sd I V i))), some (.int (nI (py_pc I V i))), t7, t8] [] N = kX12_gets_207 pu_r [some (.ref 71), some (.int (nI st)), some (.int 2), some (.ref 81), some (.int (nI i)), some (.int (nI (py_sd I V i))), some (.int (nI (py_pc I V i))), some (.int (nI (py_dgt I V i))), u8] [.int (nI (py_f2 I V i)), .int (nI i), .ref 80] N := by
      match i, hi, gN, i2, s2, p2 with
      | 0, hi, gN, i2, s2, p2 => exact ⟨_, r_gP0 hx s2 p2 (nI st) t7 t8⟩
      | j + 1, hi, gN, i2, s2, p2 =>
        have e0 : py_f2 I V (j + 1) = (if py_f2 I V j / 16 = py_dgt I V (j + 1) then py_f2 I V j + 1 else 16 * py_dgt I V (j + 1)) := rfl
        have w80 := gN.2.2.1 j (by omega)
        rw [(py_FW_v hw hst vs hn (show j < n by omega)).2.2.1 r2] at w80
        obtain ⟨l', l1', l2'⟩ := py_f2_b vs2 j (by omega)
        have pj := vs.1 j (by omega)
        have mj : py_pc I V j % 10 < 10 := Nat.mod_lt _ (by omega)
        have djl : py_dgt I V j < 20000 := by unfold py_dgt; omega
        have fjl : py_f2 I V j < 400000 := by rw [l2']; omega
        by_cases c : py_f2 I V j / 16 = py_dgt I V (j + 1)
        · rw [e0, if_pos c]
          exact ⟨_, r_gP1 hx (show j < 199 by omega) s2 p2 fjl w80 (nI st) t7 t8 c⟩
        · rw [e0, if_neg c]
          exact ⟨_, r_gP2 hx (show j < 199 by omega) s2 p2 fjl w80 (nI st) t7 t8 c⟩
    obtain ⟨u8, C2⟩ := C2
    obtain ⟨N1, x1, x2, x3⟩ := FIN (some (.int (nI (py_pc I V i)))) (some (.int (nI (py_dgt I V i)))) u8
    rw [FW.2.2.1 r2] at x3
    refine ⟨N1, some (.int (nI (py_sd I V i))), some (.int (nI (py_pc I V i))), some (.int (nI (py_dgt I V i))), u8, x1, x2, ?_⟩
    rw [← x3, r2, show nI 2 = (2 : Int32) from rfl, C2]
    exact r_gPe hx i2 f2l f2m (nI st) 2 _ _ _ _
  · have r3 : ru = 3 := by omega
    have n1 : py_nth I V i < 100 := by omega
    have rr : 2 * st + py_sd I V i < 48 := by omega
    have sA : N.1 72 (30632 + 601 * (2 * st + py_sd I V i)) = I 29 (2 * st + py_sd I V i) := rl_k1 hr _ (by omega)
    have fr : py_FR I st ru V i = if nI (py_nth I V i) < I 29 (2 * st + py_sd I V i) then I 30 ((2 * st + py_sd I V i) * 100 + py_nth I V i) else -1 := by
      unfold py_FR
      rw [if_neg (by omega), if_neg (by omega), if_neg (by omega)]
      rfl
    have fw := FW.2.2.2 r3
    obtain ⟨N1, x1, x2, x3⟩ := FIN (some (.int (nI (py_pc I V i)))) (some (.int (nI (30632 + 601 * (2 * st + py_sd I V i))))) t8
    have G := r_gG hx (st := st) (v29 := I 29 (2 * st + py_sd I V i)) (v30 := I 30 ((2 * st + py_sd I V i) * 100 + py_nth I V i)) i2 s2 n1 rr m81 sA (fun c => rl_k2 hr _ _ (by omega) n1 c) (nI (py_pc I V i)) t7 t8
    have H := r_gH hx (st := st) (v29 := I 29 (2 * st + py_sd I V i)) (v := py_FW I st ru V i) (w := 0) (q := pz_iw (py_FW I st ru V i)) i2 s2 rr m81 sA (fun M => r_isWhole _ M) (nI st) 3 (some (.int (nI (py_pc I V i)))) t8
    rw [← fw] at G
    have nr : nI ru = 3 := by rw [r3]; rfl
    rw [nr] at x3
    rw [nr, r_gR3 (nI st), G.trans H]
    by_cases c : nI (py_nth I V i) < I 29 (2 * st + py_sd I V i)
    · rw [if_pos c] at fr fw
      have w := wx_kw hw (2 * st + py_sd I V i) (py_nth I V i) (by omega) (by omega) c
      have fn : py_FR I st ru V i ≠ -1 := by
        rw [fr]
        intro z
        rw [z] at w
        have m1 : (-1 : Int32).toInt = -1 := by decide
        omega
      have fe : py_FW I st ru V i = py_FR I st ru V i := fw.trans fr.symm
      by_cases iw : pz_iw (py_FW I st ru V i)
      · rw [if_neg (fun z => z.2 iw)]
        refine Or.inr ⟨fun _ => Or.inr (by rw [← fe]; exact iw), N1, some (.int (nI (py_sd I V i))), some (.int (nI (py_pc I V i))), some (.int (nI (30632 + 601 * (2 * st + py_sd I V i)))), t8, x1, x2, ?_⟩
        exact x3
      · rw [if_pos ⟨c, iw⟩]
        exact Or.inl ⟨⟨r3, fn, by rw [← fe]; exact iw⟩, pu_wi N 80 i (py_FW I st ru V i), ⟨rfl, fun c j z1 z2 => py_wi_o (by omega)⟩, rfl⟩
    · rw [if_neg (fun z => c z.1)]
      rw [if_neg c] at fr
      refine Or.inr ⟨fun _ => Or.inl fr, N1, some (.int (nI (py_sd I V i))), some (.int (nI (py_pc I V i))), some (.int (nI (30632 + 601 * (2 * st + py_sd I V i)))), t8, x1, x2, ?_⟩
      exact x3
theorem r_g_l (hw : pu_WF I L) (hst : st < cK I) (hru : ru < 4) (vs : py_vs I ru V n) (hV : ∀ a, a < n → py_osx I st (V a)) (hn : n ≤ 100) : ∀ (m i : Nat) (N : pu_M) (t5 t6 t7 t8 : Option Value), i + m = n → pu_fx N → pu_Rel I L (N.1 72) → py_gN I st ru V n N i → (ru = 3 → ∀ a, a < i → py_FR I st ru V a = -1 ∨ pz_iw (py_FR I st ru V a)) → ((ru = 3 ∧ ∃ a, a < n ∧ py_FR I st ru V a ≠ -1 ∧ ¬ pz_iw (py_FR I st ru V a)) ∧ ∃ N1, py_rfo N N1 ∧ pu_r 475 [some (.ref 71), some (.int (nI st)), some (.int (nI ru)), some (.ref 81), some (.int (nI i)), t5, t6, t7, t8] [] N = some (some (.int 0), N1)) ∨ ((ru = 3 → ∀ a, a < n → py_FR I st ru V a = -1 ∨ pz_iw (py_FR I st ru V a)) ∧ ∃ N1 u4 u5 u6 u7 u8, py_rfo N N1 ∧ py_gN I st ru V n N1 n ∧ pu_r 475 [some (.ref 71), some (.int (nI st)), some (.int (nI ru)), some (.ref 81), some (.int (nI i)), t5, t6, t7, t8] [] N = kX12_gets_326 pu_r [some (.ref 71), some (.int (nI st)), some (.int (nI ru)), some (.ref 81), u4, u5, u6, u7, u8] [] N1)
  | 0, i, N, t5, t6, t7, t8, h, hx, hr, gN, ok => by
    have e : i = n := by omega
    have h13 := gN.1
    have hc : nI n ≤ nI n := nI_le (by omega) (by omega)
    refine Or.inr ⟨by rw [← e]; exact ok, N, some (.int (nI n)), t5, t6, t7, t8, py_rfo_r N, by rw [← e] at gN ⊢; exact gN, ?_⟩
    rw [e, qX12_gets_22]
    generalize nI ru = rv at *
    simp [bX12_gets_22, a_ai, a_ald, a_cv, a_gi, a_gr, a_icge, a_idiv, a_ild, a_irem, a_ist, a_push, fx_71_12 hx, sh_71, sh_79, pu_rv, pu_as, Value.category, pu_bk, pu_kl, List.replicate, pu_wi_1, pu_wi_2, nl_add, nl_ladd, nl_aa, nl_mul, nl_rmul, nl_mm, pu_qe0, pu_qe1, h13, hc]
    all_goals try simp (maxSteps := 400000) (disch := omega) [nl_tle, nl_fle, nl_tlt, nl_flt, nl_teq, nl_feq, nl_sub, nl_ss, nl_lt, nl_llt, nl_ltt, nl_le, nl_lle, nl_lee, nl_eq, nl_leq, nl_ee, nl_div, nl_rem, nl_cl, nl_n1, nl_n2, nl_n3, nl_n4, nl_add, nl_ladd, nl_aa, nl_mul, nl_rmul, nl_mm, pu_wi_1, pu_wi_2, bX12_gets_22, a_ai, a_ald, a_cv, a_gi, a_gr, a_icge, a_idiv, a_ild, a_irem, a_ist, a_push, fx_71_12 hx, sh_71, sh_79, pu_rv, pu_as, Value.category, pu_bk, pu_kl, pu_qe0, pu_qe1, h13, hc]
    all_goals try simp [bX12_gets_22, a_ai, a_ald, a_cv, a_gi, a_gr, a_icge, a_idiv, a_ild, a_irem, a_ist, a_push, fx_71_12 hx, sh_71, sh_79, pu_rv, pu_as, Value.category, pu_bk, pu_kl, List.replicate, pu_wi_1, pu_wi_2, nl_add, nl_ladd, nl_aa, nl_mul, nl_rmul, nl_mm, pu_qe0, pu_qe1, h13, hc]
    all_goals try simp (maxSteps := 400000) (disch := omega) [nl_tle, nl_fle, nl_tlt, nl_flt, nl_teq, nl_feq, nl_sub, nl_ss, nl_lt, nl_llt, nl_ltt, nl_le, nl_lle, nl_lee, nl_eq, nl_leq, nl_ee, nl_div, nl_rem, nl_cl, nl_n1, nl_n2, nl_n3, nl_n4, nl_add, nl_ladd, nl_aa, nl_mul, nl_rmul, nl_mm, pu_wi_1, pu_wi_2, bX12_gets_22, a_ai, a_ald, a_cv, a_gi, a_gr, a_icge, a_idiv, a_ild, a_irem, a_ist, a_push, fx_71_12 hx, sh_71, sh_79, pu_rv, pu_as, Value.category, pu_bk, pu_kl, pu_qe0, pu_qe1, h13, hc]
    all_goals try simp [bX12_gets_22, a_ai, a_ald, a_cv, a_gi, a_gr, a_icge, a_idiv, a_ild, a_irem, a_ist, a_push, fx_71_12 hx, sh_71, sh_79, pu_rv, pu_as, Value.category, pu_bk, pu_kl, List.replicate, pu_wi_1, pu_wi_2, nl_add, nl_ladd, nl_aa, nl_mul, nl_rmul, nl_mm, pu_qe0, pu_qe1, h13, hc]
    all_goals try simp (maxSteps := 400000) (disch := omega) [nl_tle, nl_fle, nl_tlt, nl_flt, nl_teq, nl_feq, nl_sub, nl_ss, nl_lt, nl_llt, nl_ltt, nl_le, nl_lle, nl_lee, nl_eq, nl_leq, nl_ee, nl_div, nl_rem, nl_cl, nl_n1, nl_n2, nl_n3, nl_n4, nl_add, nl_ladd, nl_aa, nl_mul, nl_rmul, nl_mm, pu_wi_1, pu_wi_2, bX12_gets_22, a_ai, a_ald, a_cv, a_gi, a_gr, a_icge, a_idiv, a_ild, a_irem, a_ist, a_push, fx_71_12 hx, sh_71, sh_79, pu_rv, pu_as, Value.category, pu_bk, pu_kl, pu_qe0, pu_qe1, h13, hc]
    all_goals try simp [bX12_gets_22, a_ai, a_ald, a_cv, a_gi, a_gr, a_icge, a_idiv, a_ild, a_irem, a_ist, a_push, fx_71_12 hx, sh_71, sh_79, pu_rv, pu_as, Value.category, pu_bk, pu_kl, List.replicate, pu_wi_1, pu_wi_2, nl_add, nl_ladd, nl_aa, nl_mul, nl_rmul, nl_mm, pu_qe0, pu_qe1, h13, hc]
  | m + 1, i, N, t5, t6, t7, t8, h, hx, hr, gN, ok => by
    rcases r_g_i hw hst hru vs hV hn hx hr (show i < n by omega) gN t5 t6 t7 t8 with ⟨⟨a1, a2, a3⟩, N1, b1, b2⟩ | ⟨a1, N1, u5, u6, u7, u8, b1, b2, b3⟩
    · exact Or.inl ⟨⟨a1, i, by omega, a2, a3⟩, N1, b1, b2⟩
    · have ih := r_g_l hw hst hru vs hV hn m (i + 1) N1 u5 u6 u7 u8 (by omega) (pz_fx_of hx b1.1) (by rw [show N1.1 72 = N.1 72 from funext (fun j => b1.2 72 j (by omega) (by omega))]; exact hr) b2 (fun r a ha => by
        by_cases z : a = i
        · rw [z]; exact a1 r
        · exact ok r a (by omega))
      rw [← b3] at ih
      rcases ih with ⟨c1, N2, c2, c3⟩ | ⟨c1, N2, v4, v5, v6, v7, v8, c2, c3, c4⟩
      · exact Or.inl ⟨c1, N2, py_rfo_t b1 c2, c3⟩
      · exact Or.inr ⟨c1, N2, v4, v5, v6, v7, v8, py_rfo_t b1 c2, c3, c4⟩
/-- rising, place i against those before it -/
def py_ri2 (W : Nat → Int32) (S : Nat → Nat) (i j : Nat) : Prop := W i = 0 ∨ W j = 0 ∨ (W i ≠ W j ∧ ¬ (S i = S j ∧ W i < W j))
theorem r_rs_j (hw : pu_WF I L) (vs : py_vs I ru V n) (hV : ∀ a, a < n → py_osx I st (V a)) (hn : n ≤ 100) {N : pu_M} (hx : pu_fx N) (hr : pu_Rel I L (N.1 72)) (h79 : ∀ a, a < n → N.1 79 a = nI (pu_sl0 I (V a))) {W : Nat → Int32} (h80 : ∀ a, a < n → N.1 80 a = W a) {i : Nat} (hi : i < n) : ∀ (m j : Nat) (t3 : Option Value), j + m = i → (¬ (∀ k, j ≤ k → k < i → py_ri2 W (py_sd I V) i k) ∧ pu_r 474 [some (.ref 71), some (.int (nI i)), some (.int (nI j)), t3] [] N = some (some (.int 0), N)) ∨ ((∀ k, j ≤ k → k < i → py_ri2 W (py_sd I V) i k) ∧ ∃ u3, pu_r 474 [some (.ref 71), some (.int (nI i)), some (.int (nI j)), t3] [] N = pu_r 473 [some (.ref 71), some (.int (nI (i + 1))), some (.int (nI i)), u3] [] N)
  | 0, j, t3, h => by
    have e : j = i := by omega
    have hc : nI i ≤ nI i := nI_le (by omega) (by omega)
    refine Or.inr ⟨fun k h1 h2 => by omega, t3, ?_⟩
    rw [e]
    generalize hR : pu_r 473 [some (.ref 71), some (.int (nI (i + 1))), some (.int (nI i)), t3] [] N = R
    rw [qX12_isRising_12]
    simp [bX12_isRising_12, bX12_isRising_129, bX12_isRising_123, bX12_isRising_38, bX12_isRising_72, bX12_isRising_85, bX12_isRising_86, bX12_isRising_121, a_ai, a_ald, a_cv, a_gr, a_iceq, a_icge, a_icne, a_idiv, a_ifeq, a_ifne, a_ild, a_inc, a_irem, a_ist, a_push, a_zret, sh_71, sh_79, sh_80, pu_rv, pu_as, Value.category, pu_bk, pu_kl, List.replicate, pu_wi_1, pu_wi_2, nl_add, nl_ladd, nl_aa, nl_mul, nl_rmul, nl_mm, pu_qe0, pu_qe1, hc, hR]
    all_goals try simp (maxSteps := 400000) (disch := omega) [nl_tle, nl_fle, nl_tlt, nl_flt, nl_teq, nl_feq, nl_sub, nl_ss, nl_lt, nl_llt, nl_ltt, nl_le, nl_lle, nl_lee, nl_eq, nl_leq, nl_ee, nl_div, nl_rem, nl_cl, nl_n1, nl_n2, nl_n3, nl_n4, nl_add, nl_ladd, nl_aa, nl_mul, nl_rmul, nl_mm, pu_wi_1, pu_wi_2, bX12_isRising_12, bX12_isRising_129, bX12_isRising_123, bX12_isRising_38, bX12_isRising_72, bX12_isRising_85, bX12_isRising_86, bX12_isRising_121, a_ai, a_ald, a_cv, a_gr, a_iceq, a_icge, a_icne, a_idiv, a_ifeq, a_ifne, a_ild, a_inc, a_irem, a_ist, a_push, a_zret, sh_71, sh_79, sh_80, pu_rv, pu_as, Value.category, pu_bk, pu_kl, pu_qe0, pu_qe1, hc, hR]
    all_goals try simp [bX12_isRising_12, bX12_isRising_129, bX12_isRising_123, bX12_isRising_38, bX12_isRising_72, bX12_isRising_85, bX12_isRising_86, bX12_isRising_121, a_ai, a_ald, a_cv, a_gr, a_iceq, a_icge, a_icne, a_idiv, a_ifeq, a_ifne, a_ild, a_inc, a_irem, a_ist, a_push, a_zret, sh_71, sh_79, sh_80, pu_rv, pu_as, Value.category, pu_bk, pu_kl, List.replicate, pu_wi_1, pu_wi_2, nl_add, nl_ladd, nl_aa, nl_mul, nl_rmul, nl_mm, pu_qe0, pu_qe1, hc, hR]
    all_goals try simp (maxSteps := 400000) (disch := omega) [nl_tle, nl_fle, nl_tlt, nl_flt, nl_teq, nl_feq, nl_sub, nl_ss, nl_lt, nl_llt, nl_ltt, nl_le, nl_lle, nl_lee, nl_eq, nl_leq, nl_ee, nl_div, nl_rem, nl_cl, nl_n1, nl_n2, nl_n3, nl_n4, nl_add, nl_ladd, nl_aa, nl_mul, nl_rmul, nl_mm, pu_wi_1, pu_wi_2, bX12_isRising_12, bX12_isRising_129, bX12_isRising_123, bX12_isRising_38, bX12_isRising_72, bX12_isRising_85, bX12_isRising_86, bX12_isRising_121, a_ai, a_ald, a_cv, a_gr, a_iceq, a_icge, a_icne, a_idiv, a_ifeq, a_ifne, a_ild, a_inc, a_irem, a_ist, a_push, a_zret, sh_71, sh_79, sh_80, pu_rv, pu_as, Value.category, pu_bk, pu_kl, pu_qe0, pu_qe1, hc, hR]
    all_goals try simp [bX12_isRising_12, bX12_isRising_129, bX12_isRising_123, bX12_isRising_38, bX12_isRising_72, bX12_isRising_85, bX12_isRising_86, bX12_isRising_121, a_ai, a_ald, a_cv, a_gr, a_iceq, a_icge, a_icne, a_idiv, a_ifeq, a_ifne, a_ild, a_inc, a_irem, a_ist, a_push, a_zret, sh_71, sh_79, sh_80, pu_rv, pu_as, Value.category, pu_bk, pu_kl, List.replicate, pu_wi_1, pu_wi_2, nl_add, nl_ladd, nl_aa, nl_mul, nl_rmul, nl_mm, pu_qe0, pu_qe1, hc, hR]
    all_goals try simp (maxSteps := 400000) (disch := omega) [nl_tle, nl_fle, nl_tlt, nl_flt, nl_teq, nl_feq, nl_sub, nl_ss, nl_lt, nl_llt, nl_ltt, nl_le, nl_lle, nl_lee, nl_eq, nl_leq, nl_ee, nl_div, nl_rem, nl_cl, nl_n1, nl_n2, nl_n3, nl_n4, nl_add, nl_ladd, nl_aa, nl_mul, nl_rmul, nl_mm, pu_wi_1, pu_wi_2, bX12_isRising_12, bX12_isRising_129, bX12_isRising_123, bX12_isRising_38, bX12_isRising_72, bX12_isRising_85, bX12_isRising_86, bX12_isRising_121, a_ai, a_ald, a_cv, a_gr, a_iceq, a_icge, a_icne, a_idiv, a_ifeq, a_ifne, a_ild, a_inc, a_irem, a_ist, a_push, a_zret, sh_71, sh_79, sh_80, pu_rv, pu_as, Value.category, pu_bk, pu_kl, pu_qe0, pu_qe1, hc, hR]
    all_goals try simp [bX12_isRising_12, bX12_isRising_129, bX12_isRising_123, bX12_isRising_38, bX12_isRising_72, bX12_isRising_85, bX12_isRising_86, bX12_isRising_121, a_ai, a_ald, a_cv, a_gr, a_iceq, a_icge, a_icne, a_idiv, a_ifeq, a_ifne, a_ild, a_inc, a_irem, a_ist, a_push, a_zret, sh_71, sh_79, sh_80, pu_rv, pu_as, Value.category, pu_bk, pu_kl, List.replicate, pu_wi_1, pu_wi_2, nl_add, nl_ladd, nl_aa, nl_mul, nl_rmul, nl_mm, pu_qe0, pu_qe1, hc, hR]
  | m + 1, j, t3, h => by
    have bD := wx_bD hw
    have jn : j < n := by omega
    have hc : ¬ nI i ≤ nI j := nI_ge (by omega) (by omega)
    have j2 : j < 200 := by omega
    have i2 : i < 200 := by omega
    have wi := h80 i hi
    have wj := h80 j jn
    have oi := h79 i hi
    have oj := h79 j jn
    have si := (r_vt hw vs hV hx hr hi).1
    have sj := (r_vt hw vs hV hx hr jn).1
    have li := (pu_sl_lt hw (hV i hi).1).1
    have lj := (pu_sl_lt hw (hV j jn).1).1
    have li2 : pu_sl0 I (V i) < 200 := by omega
    have lj2 : pu_sl0 I (V j) < 200 := by omega
    have d1 := (vs.1 i hi).1
    have d2 := (vs.1 j jn).1
    have F12 := fx_71_12 hx
    have F14 := fx_71_14 hx
    have NX : ∀ u3 : Option Value, py_ri2 W (py_sd I V) i j → pu_r 474 [some (.ref 71), some (.int (nI i)), some (.int (nI j)), t3] [] N = pu_r 474 [some (.ref 71), some (.int (nI i)), some (.int (nI (j + 1))), u3] [] N → (¬ (∀ k, j ≤ k → k < i → py_ri2 W (py_sd I V) i k) ∧ pu_r 474 [some (.ref 71), some (.int (nI i)), some (.int (nI j)), t3] [] N = some (some (.int 0), N)) ∨ ((∀ k, j ≤ k → k < i → py_ri2 W (py_sd I V) i k) ∧ ∃ u3, pu_r 474 [some (.ref 71), some (.int (nI i)), some (.int (nI j)), t3] [] N = pu_r 473 [some (.ref 71), some (.int (nI (i + 1))), some (.int (nI i)), u3] [] N) := fun u3 y e => by
      have ih := r_rs_j hw vs hV hn hx hr h79 h80 hi m (j + 1) u3 (by omega)
      rw [← e] at ih
      rcases ih with ⟨a, b⟩ | ⟨a, b⟩
      · exact Or.inl ⟨fun z => a (fun k h1 h2 => z k (by omega) h2), b⟩
      · refine Or.inr ⟨fun k h1 h2 => ?_, b⟩
        by_cases z : k = j
        · rw [z]; exact y
        · exact a k (by omega) h2
    by_cases c1 : W i = 0
    · refine NX t3 (Or.inl c1) ?_
      rw [c1] at wi
      generalize hR : pu_r 474 [some (.ref 71), some (.int (nI i)), some (.int (nI (j + 1))), t3] [] N = R
      rw [qX12_isRising_12]
      simp [bX12_isRising_12, bX12_isRising_123, a_ai, a_ald, a_gr, a_icge, a_ifeq, a_ifne, a_ild, a_inc, fx_71_14 hx, sh_71, sh_80, pu_rv, pu_as, Value.category, pu_bk, pu_kl, List.replicate, pu_wi_1, pu_wi_2, nl_add, nl_ladd, nl_aa, nl_mul, nl_rmul, nl_mm, pu_qe0, pu_qe1, hc, i2, wi]
      all_goals try simp (maxSteps := 400000) (disch := omega) [nl_tle, nl_fle, nl_tlt, nl_flt, nl_teq, nl_feq, nl_sub, nl_ss, nl_lt, nl_llt, nl_ltt, nl_le, nl_lle, nl_lee, nl_eq, nl_leq, nl_ee, nl_div, nl_rem, nl_cl, nl_n1, nl_n2, nl_n3, nl_n4, nl_add, nl_ladd, nl_aa, nl_mul, nl_rmul, nl_mm, pu_wi_1, pu_wi_2, bX12_isRising_12, bX12_isRising_123, a_ai, a_ald, a_gr, a_icge, a_ifeq, a_ifne, a_ild, a_inc, fx_71_14 hx, sh_71, sh_80, pu_rv, pu_as, Value.category, pu_bk, pu_kl, pu_qe0, pu_qe1, hc, i2, wi]
      all_goals try simp [bX12_isRising_12, bX12_isRising_123, a_ai, a_ald, a_gr, a_icge, a_ifeq, a_ifne, a_ild, a_inc, fx_71_14 hx, sh_71, sh_80, pu_rv, pu_as, Value.category, pu_bk, pu_kl, List.replicate, pu_wi_1, pu_wi_2, nl_add, nl_ladd, nl_aa, nl_mul, nl_rmul, nl_mm, pu_qe0, pu_qe1, hc, i2, wi]
      all_goals try simp (maxSteps := 400000) (disch := omega) [nl_tle, nl_fle, nl_tlt, nl_flt, nl_teq, nl_feq, nl_sub, nl_ss, nl_lt, nl_llt, nl_ltt, nl_le, nl_lle, nl_lee, nl_eq, nl_leq, nl_ee, nl_div, nl_rem, nl_cl, nl_n1, nl_n2, nl_n3, nl_n4, nl_add, nl_ladd, nl_aa, nl_mul, nl_rmul, nl_mm, pu_wi_1, pu_wi_2, bX12_isRising_12, bX12_isRising_123, a_ai, a_ald, a_gr, a_icge, a_ifeq, a_ifne, a_ild, a_inc, fx_71_14 hx, sh_71, sh_80, pu_rv, pu_as, Value.category, pu_bk, pu_kl, pu_qe0, pu_qe1, hc, i2, wi]
      all_goals try simp [bX12_isRising_12, bX12_isRising_123, a_ai, a_ald, a_gr, a_icge, a_ifeq, a_ifne, a_ild, a_inc, fx_71_14 hx, sh_71, sh_80, pu_rv, pu_as, Value.category, pu_bk, pu_kl, List.replicate, pu_wi_1, pu_wi_2, nl_add, nl_ladd, nl_aa, nl_mul, nl_rmul, nl_mm, pu_qe0, pu_qe1, hc, i2, wi]
      all_goals try simp (maxSteps := 400000) (disch := omega) [nl_tle, nl_fle, nl_tlt, nl_flt, nl_teq, nl_feq, nl_sub, nl_ss, nl_lt, nl_llt, nl_ltt, nl_le, nl_lle, nl_lee, nl_eq, nl_leq, nl_ee, nl_div, nl_rem, nl_cl, nl_n1, nl_n2, nl_n3, nl_n4, nl_add, nl_ladd, nl_aa, nl_mul, nl_rmul, nl_mm, pu_wi_1, pu_wi_2, bX12_isRising_12, bX12_isRising_123, a_ai, a_ald, a_gr, a_icge, a_ifeq, a_ifne, a_ild, a_inc, fx_71_14 hx, sh_71, sh_80, pu_rv, pu_as, Value.category, pu_bk, pu_kl, pu_qe0, pu_qe1, hc, i2, wi]
      all_goals try simp [bX12_isRising_12, bX12_isRising_123, a_ai, a_ald, a_gr, a_icge, a_ifeq, a_ifne, a_ild, a_inc, fx_71_14 hx, sh_71, sh_80, pu_rv, pu_as, Value.category, pu_bk, pu_kl, List.replicate, pu_wi_1, pu_wi_2, nl_add, nl_ladd, nl_aa, nl_mul, nl_rmul, nl_mm, pu_qe0, pu_qe1, hc, i2, wi]
      all_goals try simp [bX12_isRising_123, a_inc, pu_as, nI_add, nl_add, hR]
      all_goals first | exact hR | (rw [← hR]; simp [nl_add])
    by_cases c2 : W j = 0
    · refine NX t3 (Or.inr (Or.inl c2)) ?_
      rw [c2] at wj
      generalize W i = wv at *
      generalize hR : pu_r 474 [some (.ref 71), some (.int (nI i)), some (.int (nI (j + 1))), t3] [] N = R
      rw [qX12_isRising_12]
      simp [bX12_isRising_12, bX12_isRising_123, a_ai, a_ald, a_gr, a_icge, a_ifeq, a_ifne, a_ild, a_inc, fx_71_14 hx, sh_71, sh_80, pu_rv, pu_as, Value.category, pu_bk, pu_kl, List.replicate, pu_wi_1, pu_wi_2, nl_add, nl_ladd, nl_aa, nl_mul, nl_rmul, nl_mm, pu_qe0, pu_qe1, hc, i2, j2, wi, wj, c1, hR]
      all_goals try simp (maxSteps := 400000) (disch := omega) [nl_tle, nl_fle, nl_tlt, nl_flt, nl_teq, nl_feq, nl_sub, nl_ss, nl_lt, nl_llt, nl_ltt, nl_le, nl_lle, nl_lee, nl_eq, nl_leq, nl_ee, nl_div, nl_rem, nl_cl, nl_n1, nl_n2, nl_n3, nl_n4, nl_add, nl_ladd, nl_aa, nl_mul, nl_rmul, nl_mm, pu_wi_1, pu_wi_2, bX12_isRising_12, bX12_isRising_123, a_ai, a_ald, a_gr, a_icge, a_ifeq, a_ifne, a_ild, a_inc, fx_71_14 hx, sh_71, sh_80, pu_rv, pu_as, Value.category, pu_bk, pu_kl, pu_qe0, pu_qe1, hc, i2, j2, wi, wj, c1, hR]
      all_goals try simp [bX12_isRising_12, bX12_isRising_123, a_ai, a_ald, a_gr, a_icge, a_ifeq, a_ifne, a_ild, a_inc, fx_71_14 hx, sh_71, sh_80, pu_rv, pu_as, Value.category, pu_bk, pu_kl, List.replicate, pu_wi_1, pu_wi_2, nl_add, nl_ladd, nl_aa, nl_mul, nl_rmul, nl_mm, pu_qe0, pu_qe1, hc, i2, j2, wi, wj, c1, hR]
      all_goals try simp (maxSteps := 400000) (disch := omega) [nl_tle, nl_fle, nl_tlt, nl_flt, nl_teq, nl_feq, nl_sub, nl_ss, nl_lt, nl_llt, nl_ltt, nl_le, nl_lle, nl_lee, nl_eq, nl_leq, nl_ee, nl_div, nl_rem, nl_cl, nl_n1, nl_n2, nl_n3, nl_n4, nl_add, nl_ladd, nl_aa, nl_mul, nl_rmul, nl_mm, pu_wi_1, pu_wi_2, bX12_isRising_12, bX12_isRising_123, a_ai, a_ald, a_gr, a_icge, a_ifeq, a_ifne, a_ild, a_inc, fx_71_14 hx, sh_71, sh_80, pu_rv, pu_as, Value.category, pu_bk, pu_kl, pu_qe0, pu_qe1, hc, i2, j2, wi, wj, c1, hR]
      all_goals try simp [bX12_isRising_12, bX12_isRising_123, a_ai, a_ald, a_gr, a_icge, a_ifeq, a_ifne, a_ild, a_inc, fx_71_14 hx, sh_71, sh_80, pu_rv, pu_as, Value.category, pu_bk, pu_kl, List.replicate, pu_wi_1, pu_wi_2, nl_add, nl_ladd, nl_aa, nl_mul, nl_rmul, nl_mm, pu_qe0, pu_qe1, hc, i2, j2, wi, wj, c1, hR]
      all_goals try simp (maxSteps := 400000) (disch := omega) [nl_tle, nl_fle, nl_tlt, nl_flt, nl_teq, nl_feq, nl_sub, nl_ss, nl_lt, nl_llt, nl_ltt, nl_le, nl_lle, nl_lee, nl_eq, nl_leq, nl_ee, nl_div, nl_rem, nl_cl, nl_n1, nl_n2, nl_n3, nl_n4, nl_add, nl_ladd, nl_aa, nl_mul, nl_rmul, nl_mm, pu_wi_1, pu_wi_2, bX12_isRising_12, bX12_isRising_123, a_ai, a_ald, a_gr, a_icge, a_ifeq, a_ifne, a_ild, a_inc, fx_71_14 hx, sh_71, sh_80, pu_rv, pu_as, Value.category, pu_bk, pu_kl, pu_qe0, pu_qe1, hc, i2, j2, wi, wj, c1, hR]
      all_goals try simp [bX12_isRising_12, bX12_isRising_123, a_ai, a_ald, a_gr, a_icge, a_ifeq, a_ifne, a_ild, a_inc, fx_71_14 hx, sh_71, sh_80, pu_rv, pu_as, Value.category, pu_bk, pu_kl, List.replicate, pu_wi_1, pu_wi_2, nl_add, nl_ladd, nl_aa, nl_mul, nl_rmul, nl_mm, pu_qe0, pu_qe1, hc, i2, j2, wi, wj, c1, hR]
    have K : ∀ b : Int32, (b = if py_sd I V i = py_sd I V j then 1 else 0) → pu_r 474 [some (.ref 71), some (.int (nI i)), some (.int (nI j)), t3] [] N = kX12_isRising_86 pu_r [some (.ref 71), some (.int (nI i)), some (.int (nI j)), t3] [.int b] N := fun b hb => by
      have e0 : pu_r 474 [some (.ref 71), some (.int (nI i)), some (.int (nI j)), t3] [] N = kX12_isRising_38 pu_r [some (.ref 71), some (.int (nI i)), some (.int (nI j)), t3] [] N := by
        rw [qX12_isRising_12]
        generalize W i = wv at *
        generalize W j = wu at *
        simp [bX12_isRising_12, a_ai, a_ald, a_gr, a_icge, a_ifeq, a_ifne, a_ild, fx_71_14 hx, sh_71, sh_80, pu_rv, pu_as, Value.category, pu_bk, pu_kl, List.replicate, pu_wi_1, pu_wi_2, nl_add, nl_ladd, nl_aa, nl_mul, nl_rmul, nl_mm, pu_qe0, pu_qe1, hc, i2, j2, wi, wj, c1, c2]
        all_goals try simp (maxSteps := 400000) (disch := omega) [nl_tle, nl_fle, nl_tlt, nl_flt, nl_teq, nl_feq, nl_sub, nl_ss, nl_lt, nl_llt, nl_ltt, nl_le, nl_lle, nl_lee, nl_eq, nl_leq, nl_ee, nl_div, nl_rem, nl_cl, nl_n1, nl_n2, nl_n3, nl_n4, nl_add, nl_ladd, nl_aa, nl_mul, nl_rmul, nl_mm, pu_wi_1, pu_wi_2, bX12_isRising_12, a_ai, a_ald, a_gr, a_icge, a_ifeq, a_ifne, a_ild, fx_71_14 hx, sh_71, sh_80, pu_rv, pu_as, Value.category, pu_bk, pu_kl, pu_qe0, pu_qe1, hc, i2, j2, wi, wj, c1, c2]
        all_goals try simp [bX12_isRising_12, a_ai, a_ald, a_gr, a_icge, a_ifeq, a_ifne, a_ild, fx_71_14 hx, sh_71, sh_80, pu_rv, pu_as, Value.category, pu_bk, pu_kl, List.replicate, pu_wi_1, pu_wi_2, nl_add, nl_ladd, nl_aa, nl_mul, nl_rmul, nl_mm, pu_qe0, pu_qe1, hc, i2, j2, wi, wj, c1, c2]
        all_goals try simp (maxSteps := 400000) (disch := omega) [nl_tle, nl_fle, nl_tlt, nl_flt, nl_teq, nl_feq, nl_sub, nl_ss, nl_lt, nl_llt, nl_ltt, nl_le, nl_lle, nl_lee, nl_eq, nl_leq, nl_ee, nl_div, nl_rem, nl_cl, nl_n1, nl_n2, nl_n3, nl_n4, nl_add, nl_ladd, nl_aa, nl_mul, nl_rmul, nl_mm, pu_wi_1, pu_wi_2, bX12_isRising_12, a_ai, a_ald, a_gr, a_icge, a_ifeq, a_ifne, a_ild, fx_71_14 hx, sh_71, sh_80, pu_rv, pu_as, Value.category, pu_bk, pu_kl, pu_qe0, pu_qe1, hc, i2, j2, wi, wj, c1, c2]
        all_goals try simp [bX12_isRising_12, a_ai, a_ald, a_gr, a_icge, a_ifeq, a_ifne, a_ild, fx_71_14 hx, sh_71, sh_80, pu_rv, pu_as, Value.category, pu_bk, pu_kl, List.replicate, pu_wi_1, pu_wi_2, nl_add, nl_ladd, nl_aa, nl_mul, nl_rmul, nl_mm, pu_qe0, pu_qe1, hc, i2, j2, wi, wj, c1, c2]
        all_goals try simp (maxSteps := 400000) (disch := omega) [nl_tle, nl_fle, nl_tlt, nl_flt, nl_teq, nl_feq, nl_sub, nl_ss, nl_lt, nl_llt, nl_ltt, nl_le, nl_lle, nl_lee, nl_eq, nl_leq, nl_ee, nl_div, nl_rem, nl_cl, nl_n1, nl_n2, nl_n3, nl_n4, nl_add, nl_ladd, nl_aa, nl_mul, nl_rmul, nl_mm, pu_wi_1, pu_wi_2, bX12_isRising_12, a_ai, a_ald, a_gr, a_icge, a_ifeq, a_ifne, a_ild, fx_71_14 hx, sh_71, sh_80, pu_rv, pu_as, Value.category, pu_bk, pu_kl, pu_qe0, pu_qe1, hc, i2, j2, wi, wj, c1, c2]
        all_goals try simp [bX12_isRising_12, a_ai, a_ald, a_gr, a_icge, a_ifeq, a_ifne, a_ild, fx_71_14 hx, sh_71, sh_80, pu_rv, pu_as, Value.category, pu_bk, pu_kl, List.replicate, pu_wi_1, pu_wi_2, nl_add, nl_ladd, nl_aa, nl_mul, nl_rmul, nl_mm, pu_qe0, pu_qe1, hc, i2, j2, wi, wj, c1, c2]
      have e1 : kX12_isRising_38 pu_r [some (.ref 71), some (.int (nI i)), some (.int (nI j)), t3] [] N = kX12_isRising_72 pu_r [some (.ref 71), some (.int (nI i)), some (.int (nI j)), t3] [.int (nI j), .ref 79, .int (nI (pu_sl0 I (V j) / 2)), .ref 71, .int (nI (py_sd I V i))] N := by
        generalize pu_sl0 I (V i) = u1 at *
        generalize pu_sl0 I (V j) = u2 at *
        generalize nI (py_sd I V i) = v1 at *
        simp [bX12_isRising_38, a_ai, a_ald, a_cv, a_gr, a_idiv, a_ild, a_irem, a_push, fx_71_12 hx, sh_71, sh_79, pu_rv, pu_as, Value.category, pu_bk, pu_kl, List.replicate, pu_wi_1, pu_wi_2, nl_add, nl_ladd, nl_aa, nl_mul, nl_rmul, nl_mm, pu_qe0, pu_qe1, i2, j2, oi, oj, li2, lj2, si]
        all_goals try simp (maxSteps := 400000) (disch := omega) [nl_tle, nl_fle, nl_tlt, nl_flt, nl_teq, nl_feq, nl_sub, nl_ss, nl_lt, nl_llt, nl_ltt, nl_le, nl_lle, nl_lee, nl_eq, nl_leq, nl_ee, nl_div, nl_rem, nl_cl, nl_n1, nl_n2, nl_n3, nl_n4, nl_add, nl_ladd, nl_aa, nl_mul, nl_rmul, nl_mm, pu_wi_1, pu_wi_2, bX12_isRising_38, a_ai, a_ald, a_cv, a_gr, a_idiv, a_ild, a_irem, a_push, fx_71_12 hx, sh_71, sh_79, pu_rv, pu_as, Value.category, pu_bk, pu_kl, pu_qe0, pu_qe1, i2, j2, oi, oj, li2, lj2, si]
        all_goals try simp [bX12_isRising_38, a_ai, a_ald, a_cv, a_gr, a_idiv, a_ild, a_irem, a_push, fx_71_12 hx, sh_71, sh_79, pu_rv, pu_as, Value.category, pu_bk, pu_kl, List.replicate, pu_wi_1, pu_wi_2, nl_add, nl_ladd, nl_aa, nl_mul, nl_rmul, nl_mm, pu_qe0, pu_qe1, i2, j2, oi, oj, li2, lj2, si]
        all_goals try simp (maxSteps := 400000) (disch := omega) [nl_tle, nl_fle, nl_tlt, nl_flt, nl_teq, nl_feq, nl_sub, nl_ss, nl_lt, nl_llt, nl_ltt, nl_le, nl_lle, nl_lee, nl_eq, nl_leq, nl_ee, nl_div, nl_rem, nl_cl, nl_n1, nl_n2, nl_n3, nl_n4, nl_add, nl_ladd, nl_aa, nl_mul, nl_rmul, nl_mm, pu_wi_1, pu_wi_2, bX12_isRising_38, a_ai, a_ald, a_cv, a_gr, a_idiv, a_ild, a_irem, a_push, fx_71_12 hx, sh_71, sh_79, pu_rv, pu_as, Value.category, pu_bk, pu_kl, pu_qe0, pu_qe1, i2, j2, oi, oj, li2, lj2, si]
        all_goals try simp [bX12_isRising_38, a_ai, a_ald, a_cv, a_gr, a_idiv, a_ild, a_irem, a_push, fx_71_12 hx, sh_71, sh_79, pu_rv, pu_as, Value.category, pu_bk, pu_kl, List.replicate, pu_wi_1, pu_wi_2, nl_add, nl_ladd, nl_aa, nl_mul, nl_rmul, nl_mm, pu_qe0, pu_qe1, i2, j2, oi, oj, li2, lj2, si]
        all_goals try simp (maxSteps := 400000) (disch := omega) [nl_tle, nl_fle, nl_tlt, nl_flt, nl_teq, nl_feq, nl_sub, nl_ss, nl_lt, nl_llt, nl_ltt, nl_le, nl_lle, nl_lee, nl_eq, nl_leq, nl_ee, nl_div, nl_rem, nl_cl, nl_n1, nl_n2, nl_n3, nl_n4, nl_add, nl_ladd, nl_aa, nl_mul, nl_rmul, nl_mm, pu_wi_1, pu_wi_2, bX12_isRising_38, a_ai, a_ald, a_cv, a_gr, a_idiv, a_ild, a_irem, a_push, fx_71_12 hx, sh_71, sh_79, pu_rv, pu_as, Value.category, pu_bk, pu_kl, pu_qe0, pu_qe1, i2, j2, oi, oj, li2, lj2, si]
        all_goals try simp [bX12_isRising_38, a_ai, a_ald, a_cv, a_gr, a_idiv, a_ild, a_irem, a_push, fx_71_12 hx, sh_71, sh_79, pu_rv, pu_as, Value.category, pu_bk, pu_kl, List.replicate, pu_wi_1, pu_wi_2, nl_add, nl_ladd, nl_aa, nl_mul, nl_rmul, nl_mm, pu_qe0, pu_qe1, i2, j2, oi, oj, li2, lj2, si]
      rw [e0, e1, hb]
      by_cases q : py_sd I V i = py_sd I V j
      · rw [if_pos q]
        rw [← q] at sj
        generalize pu_sl0 I (V j) = u2 at *
        generalize nI (py_sd I V i) = v1 at *
        simp [bX12_isRising_72, a_ai, a_cv, a_icne, a_irem, a_push, sh_71, pu_rv, pu_as, Value.category, pu_bk, pu_kl, List.replicate, pu_wi_1, pu_wi_2, nl_add, nl_ladd, nl_aa, nl_mul, nl_rmul, nl_mm, pu_qe0, pu_qe1, sh_79, j2, oj, lj2, sj, sh_71]
        all_goals try simp (maxSteps := 400000) (disch := omega) [nl_tle, nl_fle, nl_tlt, nl_flt, nl_teq, nl_feq, nl_sub, nl_ss, nl_lt, nl_llt, nl_ltt, nl_le, nl_lle, nl_lee, nl_eq, nl_leq, nl_ee, nl_div, nl_rem, nl_cl, nl_n1, nl_n2, nl_n3, nl_n4, nl_add, nl_ladd, nl_aa, nl_mul, nl_rmul, nl_mm, pu_wi_1, pu_wi_2, bX12_isRising_72, a_ai, a_cv, a_icne, a_irem, a_push, sh_71, pu_rv, pu_as, Value.category, pu_bk, pu_kl, pu_qe0, pu_qe1, sh_79, j2, oj, lj2, sj, sh_71]
        all_goals try simp [bX12_isRising_72, a_ai, a_cv, a_icne, a_irem, a_push, sh_71, pu_rv, pu_as, Value.category, pu_bk, pu_kl, List.replicate, pu_wi_1, pu_wi_2, nl_add, nl_ladd, nl_aa, nl_mul, nl_rmul, nl_mm, pu_qe0, pu_qe1, sh_79, j2, oj, lj2, sj, sh_71]
        all_goals try simp (maxSteps := 400000) (disch := omega) [nl_tle, nl_fle, nl_tlt, nl_flt, nl_teq, nl_feq, nl_sub, nl_ss, nl_lt, nl_llt, nl_ltt, nl_le, nl_lle, nl_lee, nl_eq, nl_leq, nl_ee, nl_div, nl_rem, nl_cl, nl_n1, nl_n2, nl_n3, nl_n4, nl_add, nl_ladd, nl_aa, nl_mul, nl_rmul, nl_mm, pu_wi_1, pu_wi_2, bX12_isRising_72, a_ai, a_cv, a_icne, a_irem, a_push, sh_71, pu_rv, pu_as, Value.category, pu_bk, pu_kl, pu_qe0, pu_qe1, sh_79, j2, oj, lj2, sj, sh_71]
        all_goals try simp [bX12_isRising_72, a_ai, a_cv, a_icne, a_irem, a_push, sh_71, pu_rv, pu_as, Value.category, pu_bk, pu_kl, List.replicate, pu_wi_1, pu_wi_2, nl_add, nl_ladd, nl_aa, nl_mul, nl_rmul, nl_mm, pu_qe0, pu_qe1, sh_79, j2, oj, lj2, sj, sh_71]
        all_goals try simp (maxSteps := 400000) (disch := omega) [nl_tle, nl_fle, nl_tlt, nl_flt, nl_teq, nl_feq, nl_sub, nl_ss, nl_lt, nl_llt, nl_ltt, nl_le, nl_lle, nl_lee, nl_eq, nl_leq, nl_ee, nl_div, nl_rem, nl_cl, nl_n1, nl_n2, nl_n3, nl_n4, nl_add, nl_ladd, nl_aa, nl_mul, nl_rmul, nl_mm, pu_wi_1, pu_wi_2, bX12_isRising_72, a_ai, a_cv, a_icne, a_irem, a_push, sh_71, pu_rv, pu_as, Value.category, pu_bk, pu_kl, pu_qe0, pu_qe1, sh_79, j2, oj, lj2, sj, sh_71]
        all_goals try simp [bX12_isRising_72, a_ai, a_cv, a_icne, a_irem, a_push, sh_71, pu_rv, pu_as, Value.category, pu_bk, pu_kl, List.replicate, pu_wi_1, pu_wi_2, nl_add, nl_ladd, nl_aa, nl_mul, nl_rmul, nl_mm, pu_qe0, pu_qe1, sh_79, j2, oj, lj2, sj, sh_71]
      · rw [if_neg q]
        have q' : ¬ nI (py_sd I V i) = nI (py_sd I V j) := fun z => by rw [nI_eq (by omega) (by omega)] at z; exact q z
        generalize pu_sl0 I (V j) = u2 at *
        generalize nI (py_sd I V i) = v1 at *
        generalize nI (py_sd I V j) = v2 at *
        simp [bX12_isRising_72, bX12_isRising_85, a_ai, a_cv, a_icne, a_irem, a_push, sh_71, pu_rv, pu_as, Value.category, pu_bk, pu_kl, List.replicate, pu_wi_1, pu_wi_2, nl_add, nl_ladd, nl_aa, nl_mul, nl_rmul, nl_mm, pu_qe0, pu_qe1, sh_79, j2, oj, lj2, sj, sh_71, q']
        all_goals try simp (maxSteps := 400000) (disch := omega) [nl_tle, nl_fle, nl_tlt, nl_flt, nl_teq, nl_feq, nl_sub, nl_ss, nl_lt, nl_llt, nl_ltt, nl_le, nl_lle, nl_lee, nl_eq, nl_leq, nl_ee, nl_div, nl_rem, nl_cl, nl_n1, nl_n2, nl_n3, nl_n4, nl_add, nl_ladd, nl_aa, nl_mul, nl_rmul, nl_mm, pu_wi_1, pu_wi_2, bX12_isRising_72, bX12_isRising_85, a_ai, a_cv, a_icne, a_irem, a_push, sh_71, pu_rv, pu_as, Value.category, pu_bk, pu_kl, pu_qe0, pu_qe1, sh_79, j2, oj, lj2, sj, sh_71, q']
        all_goals try simp [bX12_isRising_72, bX12_isRising_85, a_ai, a_cv, a_icne, a_irem, a_push, sh_71, pu_rv, pu_as, Value.category, pu_bk, pu_kl, List.replicate, pu_wi_1, pu_wi_2, nl_add, nl_ladd, nl_aa, nl_mul, nl_rmul, nl_mm, pu_qe0, pu_qe1, sh_79, j2, oj, lj2, sj, sh_71, q']
        all_goals try simp (maxSteps := 400000) (disch := omega) [nl_tle, nl_fle, nl_tlt, nl_flt, nl_teq, nl_feq, nl_sub, nl_ss, nl_lt, nl_llt, nl_ltt, nl_le, nl_lle, nl_lee, nl_eq, nl_leq, nl_ee, nl_div, nl_rem, nl_cl, nl_n1, nl_n2, nl_n3, nl_n4, nl_add, nl_ladd, nl_aa, nl_mul, nl_rmul, nl_mm, pu_wi_1, pu_wi_2, bX12_isRising_72, bX12_isRising_85, a_ai, a_cv, a_icne, a_irem, a_push, sh_71, pu_rv, pu_as, Value.category, pu_bk, pu_kl, pu_qe0, pu_qe1, sh_79, j2, oj, lj2, sj, sh_71, q']
        all_goals try simp [bX12_isRising_72, bX12_isRising_85, a_ai, a_cv, a_icne, a_irem, a_push, sh_71, pu_rv, pu_as, Value.category, pu_bk, pu_kl, List.replicate, pu_wi_1, pu_wi_2, nl_add, nl_ladd, nl_aa, nl_mul, nl_rmul, nl_mm, pu_qe0, pu_qe1, sh_79, j2, oj, lj2, sj, sh_71, q']
        all_goals try simp (maxSteps := 400000) (disch := omega) [nl_tle, nl_fle, nl_tlt, nl_flt, nl_teq, nl_feq, nl_sub, nl_ss, nl_lt, nl_llt, nl_ltt, nl_le, nl_lle, nl_lee, nl_eq, nl_leq, nl_ee, nl_div, nl_rem, nl_cl, nl_n1, nl_n2, nl_n3, nl_n4, nl_add, nl_ladd, nl_aa, nl_mul, nl_rmul, nl_mm, pu_wi_1, pu_wi_2, bX12_isRising_72, bX12_isRising_85, a_ai, a_cv, a_icne, a_irem, a_push, sh_71, pu_rv, pu_as, Value.category, pu_bk, pu_kl, pu_qe0, pu_qe1, sh_79, j2, oj, lj2, sj, sh_71, q']
        all_goals try simp [bX12_isRising_72, bX12_isRising_85, a_ai, a_cv, a_icne, a_irem, a_push, sh_71, pu_rv, pu_as, Value.category, pu_bk, pu_kl, List.replicate, pu_wi_1, pu_wi_2, nl_add, nl_ladd, nl_aa, nl_mul, nl_rmul, nl_mm, pu_qe0, pu_qe1, sh_79, j2, oj, lj2, sj, sh_71, q']
    by_cases c3 : W i = W j
    · refine Or.inl ⟨fun z => ?_, ?_⟩
      · rcases z j (by omega) (by omega) with q | q | q
        · exact c1 q
        · exact c2 q
        · exact q.1 c3
      · rw [K _ rfl]
        rw [← c3] at wj
        generalize (if py_sd I V i = py_sd I V j then (1 : Int32) else 0) = b at *
        generalize W i = wv at *
        simp [bX12_isRising_86, bX12_isRising_121, a_ai, a_ald, a_gr, a_iceq, a_icge, a_ifeq, a_ild, a_ist, a_push, a_zret, fx_71_14 hx, sh_71, sh_80, pu_rv, pu_as, Value.category, pu_bk, pu_kl, List.replicate, pu_wi_1, pu_wi_2, nl_add, nl_ladd, nl_aa, nl_mul, nl_rmul, nl_mm, pu_qe0, pu_qe1, i2, j2, wi, wj]
        all_goals try simp (maxSteps := 400000) (disch := omega) [nl_tle, nl_fle, nl_tlt, nl_flt, nl_teq, nl_feq, nl_sub, nl_ss, nl_lt, nl_llt, nl_ltt, nl_le, nl_lle, nl_lee, nl_eq, nl_leq, nl_ee, nl_div, nl_rem, nl_cl, nl_n1, nl_n2, nl_n3, nl_n4, nl_add, nl_ladd, nl_aa, nl_mul, nl_rmul, nl_mm, pu_wi_1, pu_wi_2, bX12_isRising_86, bX12_isRising_121, a_ai, a_ald, a_gr, a_iceq, a_icge, a_ifeq, a_ild, a_ist, a_push, a_zret, fx_71_14 hx, sh_71, sh_80, pu_rv, pu_as, Value.category, pu_bk, pu_kl, pu_qe0, pu_qe1, i2, j2, wi, wj]
        all_goals try simp [bX12_isRising_86, bX12_isRising_121, a_ai, a_ald, a_gr, a_iceq, a_icge, a_ifeq, a_ild, a_ist, a_push, a_zret, fx_71_14 hx, sh_71, sh_80, pu_rv, pu_as, Value.category, pu_bk, pu_kl, List.replicate, pu_wi_1, pu_wi_2, nl_add, nl_ladd, nl_aa, nl_mul, nl_rmul, nl_mm, pu_qe0, pu_qe1, i2, j2, wi, wj]
        all_goals try simp (maxSteps := 400000) (disch := omega) [nl_tle, nl_fle, nl_tlt, nl_flt, nl_teq, nl_feq, nl_sub, nl_ss, nl_lt, nl_llt, nl_ltt, nl_le, nl_lle, nl_lee, nl_eq, nl_leq, nl_ee, nl_div, nl_rem, nl_cl, nl_n1, nl_n2, nl_n3, nl_n4, nl_add, nl_ladd, nl_aa, nl_mul, nl_rmul, nl_mm, pu_wi_1, pu_wi_2, bX12_isRising_86, bX12_isRising_121, a_ai, a_ald, a_gr, a_iceq, a_icge, a_ifeq, a_ild, a_ist, a_push, a_zret, fx_71_14 hx, sh_71, sh_80, pu_rv, pu_as, Value.category, pu_bk, pu_kl, pu_qe0, pu_qe1, i2, j2, wi, wj]
        all_goals try simp [bX12_isRising_86, bX12_isRising_121, a_ai, a_ald, a_gr, a_iceq, a_icge, a_ifeq, a_ild, a_ist, a_push, a_zret, fx_71_14 hx, sh_71, sh_80, pu_rv, pu_as, Value.category, pu_bk, pu_kl, List.replicate, pu_wi_1, pu_wi_2, nl_add, nl_ladd, nl_aa, nl_mul, nl_rmul, nl_mm, pu_qe0, pu_qe1, i2, j2, wi, wj]
        all_goals try simp (maxSteps := 400000) (disch := omega) [nl_tle, nl_fle, nl_tlt, nl_flt, nl_teq, nl_feq, nl_sub, nl_ss, nl_lt, nl_llt, nl_ltt, nl_le, nl_lle, nl_lee, nl_eq, nl_leq, nl_ee, nl_div, nl_rem, nl_cl, nl_n1, nl_n2, nl_n3, nl_n4, nl_add, nl_ladd, nl_aa, nl_mul, nl_rmul, nl_mm, pu_wi_1, pu_wi_2, bX12_isRising_86, bX12_isRising_121, a_ai, a_ald, a_gr, a_iceq, a_icge, a_ifeq, a_ild, a_ist, a_push, a_zret, fx_71_14 hx, sh_71, sh_80, pu_rv, pu_as, Value.category, pu_bk, pu_kl, pu_qe0, pu_qe1, i2, j2, wi, wj]
        all_goals try simp [bX12_isRising_86, bX12_isRising_121, a_ai, a_ald, a_gr, a_iceq, a_icge, a_ifeq, a_ild, a_ist, a_push, a_zret, fx_71_14 hx, sh_71, sh_80, pu_rv, pu_as, Value.category, pu_bk, pu_kl, List.replicate, pu_wi_1, pu_wi_2, nl_add, nl_ladd, nl_aa, nl_mul, nl_rmul, nl_mm, pu_qe0, pu_qe1, i2, j2, wi, wj]
    · by_cases c4 : py_sd I V i = py_sd I V j
      · have K1 := K 1 (by rw [if_pos c4])
        by_cases c5 : W i < W j
        · refine Or.inl ⟨fun z => ?_, ?_⟩
          · rcases z j (by omega) (by omega) with q | q | q
            · exact c1 q
            · exact c2 q
            · exact q.2 ⟨c4, c5⟩
          · rw [K1]
            have c5' := Int32.not_le.mpr c5
            generalize W i = wv at *
            generalize W j = wu at *
            simp [bX12_isRising_86, bX12_isRising_121, a_ai, a_ald, a_gr, a_iceq, a_icge, a_ifeq, a_ild, a_ist, a_push, a_zret, fx_71_14 hx, sh_71, sh_80, pu_rv, pu_as, Value.category, pu_bk, pu_kl, List.replicate, pu_wi_1, pu_wi_2, nl_add, nl_ladd, nl_aa, nl_mul, nl_rmul, nl_mm, pu_qe0, pu_qe1, i2, j2, wi, wj, c3, c5, c5']
            all_goals try simp (maxSteps := 400000) (disch := omega) [nl_tle, nl_fle, nl_tlt, nl_flt, nl_teq, nl_feq, nl_sub, nl_ss, nl_lt, nl_llt, nl_ltt, nl_le, nl_lle, nl_lee, nl_eq, nl_leq, nl_ee, nl_div, nl_rem, nl_cl, nl_n1, nl_n2, nl_n3, nl_n4, nl_add, nl_ladd, nl_aa, nl_mul, nl_rmul, nl_mm, pu_wi_1, pu_wi_2, bX12_isRising_86, bX12_isRising_121, a_ai, a_ald, a_gr, a_iceq, a_icge, a_ifeq, a_ild, a_ist, a_push, a_zret, fx_71_14 hx, sh_71, sh_80, pu_rv, pu_as, Value.category, pu_bk, pu_kl, pu_qe0, pu_qe1, i2, j2, wi, wj, c3, c5, c5']
            all_goals try simp [bX12_isRising_86, bX12_isRising_121, a_ai, a_ald, a_gr, a_iceq, a_icge, a_ifeq, a_ild, a_ist, a_push, a_zret, fx_71_14 hx, sh_71, sh_80, pu_rv, pu_as, Value.category, pu_bk, pu_kl, List.replicate, pu_wi_1, pu_wi_2, nl_add, nl_ladd, nl_aa, nl_mul, nl_rmul, nl_mm, pu_qe0, pu_qe1, i2, j2, wi, wj, c3, c5, c5']
            all_goals try simp (maxSteps := 400000) (disch := omega) [nl_tle, nl_fle, nl_tlt, nl_flt, nl_teq, nl_feq, nl_sub, nl_ss, nl_lt, nl_llt, nl_ltt, nl_le, nl_lle, nl_lee, nl_eq, nl_leq, nl_ee, nl_div, nl_rem, nl_cl, nl_n1, nl_n2, nl_n3, nl_n4, nl_add, nl_ladd, nl_aa, nl_mul, nl_rmul, nl_mm, pu_wi_1, pu_wi_2, bX12_isRising_86, bX12_isRising_121, a_ai, a_ald, a_gr, a_iceq, a_icge, a_ifeq, a_ild, a_ist, a_push, a_zret, fx_71_14 hx, sh_71, sh_80, pu_rv, pu_as, Value.category, pu_bk, pu_kl, pu_qe0, pu_qe1, i2, j2, wi, wj, c3, c5, c5']
            all_goals try simp [bX12_isRising_86, bX12_isRising_121, a_ai, a_ald, a_gr, a_iceq, a_icge, a_ifeq, a_ild, a_ist, a_push, a_zret, fx_71_14 hx, sh_71, sh_80, pu_rv, pu_as, Value.category, pu_bk, pu_kl, List.replicate, pu_wi_1, pu_wi_2, nl_add, nl_ladd, nl_aa, nl_mul, nl_rmul, nl_mm, pu_qe0, pu_qe1, i2, j2, wi, wj, c3, c5, c5']
            all_goals try simp (maxSteps := 400000) (disch := omega) [nl_tle, nl_fle, nl_tlt, nl_flt, nl_teq, nl_feq, nl_sub, nl_ss, nl_lt, nl_llt, nl_ltt, nl_le, nl_lle, nl_lee, nl_eq, nl_leq, nl_ee, nl_div, nl_rem, nl_cl, nl_n1, nl_n2, nl_n3, nl_n4, nl_add, nl_ladd, nl_aa, nl_mul, nl_rmul, nl_mm, pu_wi_1, pu_wi_2, bX12_isRising_86, bX12_isRising_121, a_ai, a_ald, a_gr, a_iceq, a_icge, a_ifeq, a_ild, a_ist, a_push, a_zret, fx_71_14 hx, sh_71, sh_80, pu_rv, pu_as, Value.category, pu_bk, pu_kl, pu_qe0, pu_qe1, i2, j2, wi, wj, c3, c5, c5']
            all_goals try simp [bX12_isRising_86, bX12_isRising_121, a_ai, a_ald, a_gr, a_iceq, a_icge, a_ifeq, a_ild, a_ist, a_push, a_zret, fx_71_14 hx, sh_71, sh_80, pu_rv, pu_as, Value.category, pu_bk, pu_kl, List.replicate, pu_wi_1, pu_wi_2, nl_add, nl_ladd, nl_aa, nl_mul, nl_rmul, nl_mm, pu_qe0, pu_qe1, i2, j2, wi, wj, c3, c5, c5']
        · refine NX (some (.int 1)) (Or.inr (Or.inr ⟨c3, fun z => c5 z.2⟩)) ?_
          rw [K1]
          have c5' := Int32.not_lt.mp c5
          generalize W i = wv at *
          generalize W j = wu at *
          generalize hR : pu_r 474 [some (.ref 71), some (.int (nI i)), some (.int (nI (j + 1))), some (.int 1)] [] N = R
          simp [bX12_isRising_86, bX12_isRising_121, bX12_isRising_123, a_ai, a_ald, a_gr, a_iceq, a_icge, a_ifeq, a_ild, a_inc, a_ist, a_push, a_zret, fx_71_14 hx, sh_71, sh_80, pu_rv, pu_as, Value.category, pu_bk, pu_kl, List.replicate, pu_wi_1, pu_wi_2, nl_add, nl_ladd, nl_aa, nl_mul, nl_rmul, nl_mm, pu_qe0, pu_qe1, i2, j2, wi, wj, c3, c5, c5', hR]
          all_goals try simp (maxSteps := 400000) (disch := omega) [nl_tle, nl_fle, nl_tlt, nl_flt, nl_teq, nl_feq, nl_sub, nl_ss, nl_lt, nl_llt, nl_ltt, nl_le, nl_lle, nl_lee, nl_eq, nl_leq, nl_ee, nl_div, nl_rem, nl_cl, nl_n1, nl_n2, nl_n3, nl_n4, nl_add, nl_ladd, nl_aa, nl_mul, nl_rmul, nl_mm, pu_wi_1, pu_wi_2, bX12_isRising_86, bX12_isRising_121, bX12_isRising_123, a_ai, a_ald, a_gr, a_iceq, a_icge, a_ifeq, a_ild, a_inc, a_ist, a_push, a_zret, fx_71_14 hx, sh_71, sh_80, pu_rv, pu_as, Value.category, pu_bk, pu_kl, pu_qe0, pu_qe1, i2, j2, wi, wj, c3, c5, c5', hR]
          all_goals try simp [bX12_isRising_86, bX12_isRising_121, bX12_isRising_123, a_ai, a_ald, a_gr, a_iceq, a_icge, a_ifeq, a_ild, a_inc, a_ist, a_push, a_zret, fx_71_14 hx, sh_71, sh_80, pu_rv, pu_as, Value.category, pu_bk, pu_kl, List.replicate, pu_wi_1, pu_wi_2, nl_add, nl_ladd, nl_aa, nl_mul, nl_rmul, nl_mm, pu_qe0, pu_qe1, i2, j2, wi, wj, c3, c5, c5', hR]
          all_goals try simp (maxSteps := 400000) (disch := omega) [nl_tle, nl_fle, nl_tlt, nl_flt, nl_teq, nl_feq, nl_sub, nl_ss, nl_lt, nl_llt, nl_ltt, nl_le, nl_lle, nl_lee, nl_eq, nl_leq, nl_ee, nl_div, nl_rem, nl_cl, nl_n1, nl_n2, nl_n3, nl_n4, nl_add, nl_ladd, nl_aa, nl_mul, nl_rmul, nl_mm, pu_wi_1, pu_wi_2, bX12_isRising_86, bX12_isRising_121, bX12_isRising_123, a_ai, a_ald, a_gr, a_iceq, a_icge, a_ifeq, a_ild, a_inc, a_ist, a_push, a_zret, fx_71_14 hx, sh_71, sh_80, pu_rv, pu_as, Value.category, pu_bk, pu_kl, pu_qe0, pu_qe1, i2, j2, wi, wj, c3, c5, c5', hR]
          all_goals try simp [bX12_isRising_86, bX12_isRising_121, bX12_isRising_123, a_ai, a_ald, a_gr, a_iceq, a_icge, a_ifeq, a_ild, a_inc, a_ist, a_push, a_zret, fx_71_14 hx, sh_71, sh_80, pu_rv, pu_as, Value.category, pu_bk, pu_kl, List.replicate, pu_wi_1, pu_wi_2, nl_add, nl_ladd, nl_aa, nl_mul, nl_rmul, nl_mm, pu_qe0, pu_qe1, i2, j2, wi, wj, c3, c5, c5', hR]
          all_goals try simp (maxSteps := 400000) (disch := omega) [nl_tle, nl_fle, nl_tlt, nl_flt, nl_teq, nl_feq, nl_sub, nl_ss, nl_lt, nl_llt, nl_ltt, nl_le, nl_lle, nl_lee, nl_eq, nl_leq, nl_ee, nl_div, nl_rem, nl_cl, nl_n1, nl_n2, nl_n3, nl_n4, nl_add, nl_ladd, nl_aa, nl_mul, nl_rmul, nl_mm, pu_wi_1, pu_wi_2, bX12_isRising_86, bX12_isRising_121, bX12_isRising_123, a_ai, a_ald, a_gr, a_iceq, a_icge, a_ifeq, a_ild, a_inc, a_ist, a_push, a_zret, fx_71_14 hx, sh_71, sh_80, pu_rv, pu_as, Value.category, pu_bk, pu_kl, pu_qe0, pu_qe1, i2, j2, wi, wj, c3, c5, c5', hR]
          all_goals try simp [bX12_isRising_86, bX12_isRising_121, bX12_isRising_123, a_ai, a_ald, a_gr, a_iceq, a_icge, a_ifeq, a_ild, a_inc, a_ist, a_push, a_zret, fx_71_14 hx, sh_71, sh_80, pu_rv, pu_as, Value.category, pu_bk, pu_kl, List.replicate, pu_wi_1, pu_wi_2, nl_add, nl_ladd, nl_aa, nl_mul, nl_rmul, nl_mm, pu_qe0, pu_qe1, i2, j2, wi, wj, c3, c5, c5', hR]
      · refine NX (some (.int 0)) (Or.inr (Or.inr ⟨c3, fun z => c4 z.1⟩)) ?_
        rw [K 0 (by rw [if_neg c4])]
        generalize W i = wv at *
        generalize W j = wu at *
        generalize hR : pu_r 474 [some (.ref 71), some (.int (nI i)), some (.int (nI (j + 1))), some (.int 0)] [] N = R
        simp [bX12_isRising_86, bX12_isRising_121, bX12_isRising_123, a_ai, a_ald, a_gr, a_iceq, a_icge, a_ifeq, a_ild, a_inc, a_ist, a_push, a_zret, fx_71_14 hx, sh_71, sh_80, pu_rv, pu_as, Value.category, pu_bk, pu_kl, List.replicate, pu_wi_1, pu_wi_2, nl_add, nl_ladd, nl_aa, nl_mul, nl_rmul, nl_mm, pu_qe0, pu_qe1, i2, j2, wi, wj, c3, hR]
        all_goals try simp (maxSteps := 400000) (disch := omega) [nl_tle, nl_fle, nl_tlt, nl_flt, nl_teq, nl_feq, nl_sub, nl_ss, nl_lt, nl_llt, nl_ltt, nl_le, nl_lle, nl_lee, nl_eq, nl_leq, nl_ee, nl_div, nl_rem, nl_cl, nl_n1, nl_n2, nl_n3, nl_n4, nl_add, nl_ladd, nl_aa, nl_mul, nl_rmul, nl_mm, pu_wi_1, pu_wi_2, bX12_isRising_86, bX12_isRising_121, bX12_isRising_123, a_ai, a_ald, a_gr, a_iceq, a_icge, a_ifeq, a_ild, a_inc, a_ist, a_push, a_zret, fx_71_14 hx, sh_71, sh_80, pu_rv, pu_as, Value.category, pu_bk, pu_kl, pu_qe0, pu_qe1, i2, j2, wi, wj, c3, hR]
        all_goals try simp [bX12_isRising_86, bX12_isRising_121, bX12_isRising_123, a_ai, a_ald, a_gr, a_iceq, a_icge, a_ifeq, a_ild, a_inc, a_ist, a_push, a_zret, fx_71_14 hx, sh_71, sh_80, pu_rv, pu_as, Value.category, pu_bk, pu_kl, List.replicate, pu_wi_1, pu_wi_2, nl_add, nl_ladd, nl_aa, nl_mul, nl_rmul, nl_mm, pu_qe0, pu_qe1, i2, j2, wi, wj, c3, hR]
        all_goals try simp (maxSteps := 400000) (disch := omega) [nl_tle, nl_fle, nl_tlt, nl_flt, nl_teq, nl_feq, nl_sub, nl_ss, nl_lt, nl_llt, nl_ltt, nl_le, nl_lle, nl_lee, nl_eq, nl_leq, nl_ee, nl_div, nl_rem, nl_cl, nl_n1, nl_n2, nl_n3, nl_n4, nl_add, nl_ladd, nl_aa, nl_mul, nl_rmul, nl_mm, pu_wi_1, pu_wi_2, bX12_isRising_86, bX12_isRising_121, bX12_isRising_123, a_ai, a_ald, a_gr, a_iceq, a_icge, a_ifeq, a_ild, a_inc, a_ist, a_push, a_zret, fx_71_14 hx, sh_71, sh_80, pu_rv, pu_as, Value.category, pu_bk, pu_kl, pu_qe0, pu_qe1, i2, j2, wi, wj, c3, hR]
        all_goals try simp [bX12_isRising_86, bX12_isRising_121, bX12_isRising_123, a_ai, a_ald, a_gr, a_iceq, a_icge, a_ifeq, a_ild, a_inc, a_ist, a_push, a_zret, fx_71_14 hx, sh_71, sh_80, pu_rv, pu_as, Value.category, pu_bk, pu_kl, List.replicate, pu_wi_1, pu_wi_2, nl_add, nl_ladd, nl_aa, nl_mul, nl_rmul, nl_mm, pu_qe0, pu_qe1, i2, j2, wi, wj, c3, hR]
        all_goals try simp (maxSteps := 400000) (disch := omega) [nl_tle, nl_fle, nl_tlt, nl_flt, nl_teq, nl_feq, nl_sub, nl_ss, nl_lt, nl_llt, nl_ltt, nl_le, nl_lle, nl_lee, nl_eq, nl_leq, nl_ee, nl_div, nl_rem, nl_cl, nl_n1, nl_n2, nl_n3, nl_n4, nl_add, nl_ladd, nl_aa, nl_mul, nl_rmul, nl_mm, pu_wi_1, pu_wi_2, bX12_isRising_86, bX12_isRising_121, bX12_isRising_123, a_ai, a_ald, a_gr, a_iceq, a_icge, a_ifeq, a_ild, a_inc, a_ist, a_push, a_zret, fx_71_14 hx, sh_71, sh_80, pu_rv, pu_as, Value.category, pu_bk, pu_kl, pu_qe0, pu_qe1, i2, j2, wi, wj, c3, hR]
        all_goals try simp [bX12_isRising_86, bX12_isRising_121, bX12_isRising_123, a_ai, a_ald, a_gr, a_iceq, a_icge, a_ifeq, a_ild, a_inc, a_ist, a_push, a_zret, fx_71_14 hx, sh_71, sh_80, pu_rv, pu_as, Value.category, pu_bk, pu_kl, List.replicate, pu_wi_1, pu_wi_2, nl_add, nl_ladd, nl_aa, nl_mul, nl_rmul, nl_mm, pu_qe0, pu_qe1, i2, j2, wi, wj, c3, hR]
theorem r_rs_i (hw : pu_WF I L) (vs : py_vs I ru V n) (hV : ∀ a, a < n → py_osx I st (V a)) (hn : n ≤ 100) {N : pu_M} (hx : pu_fx N) (hr : pu_Rel I L (N.1 72)) (h13 : N.1 71 13 = nI n) (h79 : ∀ a, a < n → N.1 79 a = nI (pu_sl0 I (V a))) {W : Nat → Int32} (h80 : ∀ a, a < n → N.1 80 a = W a) : ∀ (m i : Nat) (t2 t3 : Option Value), i + m = n → pu_r 473 [some (.ref 71), some (.int (nI i)), t2, t3] [] N = some (some (.int (pu_q (∀ a, i ≤ a → a < n → ∀ k, k < a → py_ri2 W (py_sd I V) a k))), N)
  | 0, i, t2, t3, h => by
    have e : i = n := by omega
    have hc : nI n ≤ nI n := nI_le (by omega) (by omega)
    rw [pu_q1 (fun a h1 h2 => by omega), e]
    rw [qX12_isRising_2]
    simp [bX12_isRising_2, bX12_isRising_135, a_ald, a_gi, a_icge, a_ild, a_ist, a_push, a_zret, sh_71, pu_rv, pu_as, Value.category, pu_bk, pu_kl, List.replicate, pu_wi_1, pu_wi_2, nl_add, nl_ladd, nl_aa, nl_mul, nl_rmul, nl_mm, pu_qe0, pu_qe1, h13, hc]
    all_goals try simp (maxSteps := 400000) (disch := omega) [nl_tle, nl_fle, nl_tlt, nl_flt, nl_teq, nl_feq, nl_sub, nl_ss, nl_lt, nl_llt, nl_ltt, nl_le, nl_lle, nl_lee, nl_eq, nl_leq, nl_ee, nl_div, nl_rem, nl_cl, nl_n1, nl_n2, nl_n3, nl_n4, nl_add, nl_ladd, nl_aa, nl_mul, nl_rmul, nl_mm, pu_wi_1, pu_wi_2, bX12_isRising_2, bX12_isRising_135, a_ald, a_gi, a_icge, a_ild, a_ist, a_push, a_zret, sh_71, pu_rv, pu_as, Value.category, pu_bk, pu_kl, pu_qe0, pu_qe1, h13, hc]
    all_goals try simp [bX12_isRising_2, bX12_isRising_135, a_ald, a_gi, a_icge, a_ild, a_ist, a_push, a_zret, sh_71, pu_rv, pu_as, Value.category, pu_bk, pu_kl, List.replicate, pu_wi_1, pu_wi_2, nl_add, nl_ladd, nl_aa, nl_mul, nl_rmul, nl_mm, pu_qe0, pu_qe1, h13, hc]
    all_goals try simp (maxSteps := 400000) (disch := omega) [nl_tle, nl_fle, nl_tlt, nl_flt, nl_teq, nl_feq, nl_sub, nl_ss, nl_lt, nl_llt, nl_ltt, nl_le, nl_lle, nl_lee, nl_eq, nl_leq, nl_ee, nl_div, nl_rem, nl_cl, nl_n1, nl_n2, nl_n3, nl_n4, nl_add, nl_ladd, nl_aa, nl_mul, nl_rmul, nl_mm, pu_wi_1, pu_wi_2, bX12_isRising_2, bX12_isRising_135, a_ald, a_gi, a_icge, a_ild, a_ist, a_push, a_zret, sh_71, pu_rv, pu_as, Value.category, pu_bk, pu_kl, pu_qe0, pu_qe1, h13, hc]
    all_goals try simp [bX12_isRising_2, bX12_isRising_135, a_ald, a_gi, a_icge, a_ild, a_ist, a_push, a_zret, sh_71, pu_rv, pu_as, Value.category, pu_bk, pu_kl, List.replicate, pu_wi_1, pu_wi_2, nl_add, nl_ladd, nl_aa, nl_mul, nl_rmul, nl_mm, pu_qe0, pu_qe1, h13, hc]
    all_goals try simp (maxSteps := 400000) (disch := omega) [nl_tle, nl_fle, nl_tlt, nl_flt, nl_teq, nl_feq, nl_sub, nl_ss, nl_lt, nl_llt, nl_ltt, nl_le, nl_lle, nl_lee, nl_eq, nl_leq, nl_ee, nl_div, nl_rem, nl_cl, nl_n1, nl_n2, nl_n3, nl_n4, nl_add, nl_ladd, nl_aa, nl_mul, nl_rmul, nl_mm, pu_wi_1, pu_wi_2, bX12_isRising_2, bX12_isRising_135, a_ald, a_gi, a_icge, a_ild, a_ist, a_push, a_zret, sh_71, pu_rv, pu_as, Value.category, pu_bk, pu_kl, pu_qe0, pu_qe1, h13, hc]
    all_goals try simp [bX12_isRising_2, bX12_isRising_135, a_ald, a_gi, a_icge, a_ild, a_ist, a_push, a_zret, sh_71, pu_rv, pu_as, Value.category, pu_bk, pu_kl, List.replicate, pu_wi_1, pu_wi_2, nl_add, nl_ladd, nl_aa, nl_mul, nl_rmul, nl_mm, pu_qe0, pu_qe1, h13, hc]
  | m + 1, i, t2, t3, h => by
    have hc : ¬ nI n ≤ nI i := nI_ge (by omega) (by omega)
    have ih := fun t2 t3 => r_rs_i hw vs hV hn hx hr h13 h79 h80 m (i + 1) t2 t3 (by omega)
    have ST : ∀ R, pu_r 474 [some (.ref 71), some (.int (nI i)), some (.int (nI 0)), t3] [] N = R → pu_r 473 [some (.ref 71), some (.int (nI i)), t2, t3] [] N = R := fun R hR => by
      rw [nI_0] at hR
      rw [qX12_isRising_2]
      simp [bX12_isRising_2, bX12_isRising_135, a_ald, a_gi, a_icge, a_ild, a_ist, a_push, a_zret, sh_71, pu_rv, pu_as, Value.category, pu_bk, pu_kl, List.replicate, pu_wi_1, pu_wi_2, nl_add, nl_ladd, nl_aa, nl_mul, nl_rmul, nl_mm, pu_qe0, pu_qe1, h13, hc, hR]
      all_goals try simp (maxSteps := 400000) (disch := omega) [nl_tle, nl_fle, nl_tlt, nl_flt, nl_teq, nl_feq, nl_sub, nl_ss, nl_lt, nl_llt, nl_ltt, nl_le, nl_lle, nl_lee, nl_eq, nl_leq, nl_ee, nl_div, nl_rem, nl_cl, nl_n1, nl_n2, nl_n3, nl_n4, nl_add, nl_ladd, nl_aa, nl_mul, nl_rmul, nl_mm, pu_wi_1, pu_wi_2, bX12_isRising_2, bX12_isRising_135, a_ald, a_gi, a_icge, a_ild, a_ist, a_push, a_zret, sh_71, pu_rv, pu_as, Value.category, pu_bk, pu_kl, pu_qe0, pu_qe1, h13, hc, hR]
      all_goals try simp [bX12_isRising_2, bX12_isRising_135, a_ald, a_gi, a_icge, a_ild, a_ist, a_push, a_zret, sh_71, pu_rv, pu_as, Value.category, pu_bk, pu_kl, List.replicate, pu_wi_1, pu_wi_2, nl_add, nl_ladd, nl_aa, nl_mul, nl_rmul, nl_mm, pu_qe0, pu_qe1, h13, hc, hR]
      all_goals try simp (maxSteps := 400000) (disch := omega) [nl_tle, nl_fle, nl_tlt, nl_flt, nl_teq, nl_feq, nl_sub, nl_ss, nl_lt, nl_llt, nl_ltt, nl_le, nl_lle, nl_lee, nl_eq, nl_leq, nl_ee, nl_div, nl_rem, nl_cl, nl_n1, nl_n2, nl_n3, nl_n4, nl_add, nl_ladd, nl_aa, nl_mul, nl_rmul, nl_mm, pu_wi_1, pu_wi_2, bX12_isRising_2, bX12_isRising_135, a_ald, a_gi, a_icge, a_ild, a_ist, a_push, a_zret, sh_71, pu_rv, pu_as, Value.category, pu_bk, pu_kl, pu_qe0, pu_qe1, h13, hc, hR]
      all_goals try simp [bX12_isRising_2, bX12_isRising_135, a_ald, a_gi, a_icge, a_ild, a_ist, a_push, a_zret, sh_71, pu_rv, pu_as, Value.category, pu_bk, pu_kl, List.replicate, pu_wi_1, pu_wi_2, nl_add, nl_ladd, nl_aa, nl_mul, nl_rmul, nl_mm, pu_qe0, pu_qe1, h13, hc, hR]
      all_goals try simp (maxSteps := 400000) (disch := omega) [nl_tle, nl_fle, nl_tlt, nl_flt, nl_teq, nl_feq, nl_sub, nl_ss, nl_lt, nl_llt, nl_ltt, nl_le, nl_lle, nl_lee, nl_eq, nl_leq, nl_ee, nl_div, nl_rem, nl_cl, nl_n1, nl_n2, nl_n3, nl_n4, nl_add, nl_ladd, nl_aa, nl_mul, nl_rmul, nl_mm, pu_wi_1, pu_wi_2, bX12_isRising_2, bX12_isRising_135, a_ald, a_gi, a_icge, a_ild, a_ist, a_push, a_zret, sh_71, pu_rv, pu_as, Value.category, pu_bk, pu_kl, pu_qe0, pu_qe1, h13, hc, hR]
      all_goals try simp [bX12_isRising_2, bX12_isRising_135, a_ald, a_gi, a_icge, a_ild, a_ist, a_push, a_zret, sh_71, pu_rv, pu_as, Value.category, pu_bk, pu_kl, List.replicate, pu_wi_1, pu_wi_2, nl_add, nl_ladd, nl_aa, nl_mul, nl_rmul, nl_mm, pu_qe0, pu_qe1, h13, hc, hR]
    rcases r_rs_j hw vs hV hn hx hr h79 h80 (show i < n by omega) i 0 t3 (by omega) with ⟨a, b⟩ | ⟨a, u3, b⟩
    · rw [pu_q0 (fun z => a (fun k _ h2 => z i (by omega) (by omega) k h2))]
      exact ST _ b
    · rw [ST _ (b.trans (ih _ _))]
      have e : (∀ a, i ≤ a → a < n → ∀ k, k < a → py_ri2 W (py_sd I V) a k) = (∀ a, i + 1 ≤ a → a < n → ∀ k, k < a → py_ri2 W (py_sd I V) a k) := propext ⟨fun z q h1 h2 => z q (by omega) h2, fun z q h1 h2 k hk => by
        by_cases y : q = i
        · rw [y] at hk ⊢; exact a k (by omega) hk
        · exact z q (by omega) h2 k hk⟩
      rw [e]
theorem r_gets (hw : pu_WF I L) (hst : st < cK I) (hru : ru < 4) (vs : py_vs I ru V n) (hn : n ≤ 100) (SLV : py_SL (py_aq I ru) (py_osx I st) V n) {N : pu_M} (hx : pu_fx N) (hr : pu_Rel I L (N.1 72)) : ∃ N1, py_rfo N N1 ∧ ((ru = 3 → py_rt I st ru V n) → N1.1 71 13 = nI n ∧ (∀ a, a < n → N1.1 79 a = nI (pu_sl0 I (V a))) ∧ (∀ a, a < n → N1.1 80 a = py_FW I st ru V a)) ∧ pu_r 296 [some (.ref 71), some (.int (nI st)), some (.int (nI ru))] [] N = some (some (.int (pu_q (ru = 3 → py_rt I st ru V n))), N1) := by
  obtain ⟨P, a1, a2, a3, a4⟩ := r_orders hw hst hru hx hr SLV
  have hxP : pu_fx P := pz_fx_of hx a1.1
  obtain ⟨Q, hQ⟩ : ∃ Q, pu_wi (pu_wi P 81 0 0) 81 1 0 = Q := ⟨_, rfl⟩
  have Qo : ∀ c j, c ≠ 81 → Q.1 c j = P.1 c j := fun c j z => by rw [← hQ, py_wi_o (by omega), py_wi_o (by omega)]
  have Q81 : ∀ s, s < 2 → Q.1 81 s = nI 0 := fun s hs => by
    rw [← hQ]
    by_cases z : s = 1
    · rw [z]; simp [pu_wi_1]; rfl
    · rw [show s = 0 by omega, py_wi_o (by omega)]; simp [pu_wi_1]; rfl
  have rQ : py_rfo N Q := py_rfo_t a1 ⟨by rw [← hQ]; rfl, fun c j z _ => Qo c j (by omega)⟩
  have hxQ : pu_fx Q := pz_fx_of hx rQ.1
  have hrQ : pu_Rel I L (Q.1 72) := by rw [show Q.1 72 = N.1 72 from funext (fun j => rQ.2 72 j (by omega) (by omega))]; exact hr
  have ST : ∀ R, pu_r 475 [some (.ref 71), some (.int (nI st)), some (.int (nI ru)), some (.ref 81), some (.int (nI 0)), none, none, none, none] [] Q = R → pu_r 296 [some (.ref 71), some (.int (nI st)), some (.int (nI ru))] [] N = R := fun R hR => by
    rw [nI_0] at hR
    have F15 := fx_71_15 hxP
    generalize hA : pu_wi P 81 0 0 = A at *
    generalize nI ru = rv at *
    rw [qX12_gets]
    simp [a_ent, bX12_gets_0, a_ald, a_ast, a_cv, a_gr, a_ild, a_ist, a_push, a_wi, sh_71, sh_81, pu_rv, pu_as, Value.category, pu_bk, pu_kl, List.replicate, pu_wi_1, pu_wi_2, nl_add, nl_ladd, nl_aa, nl_mul, nl_rmul, nl_mm, pu_qe0, pu_qe1, a4, F15, sh_81, hA, hQ, hR]
    all_goals try simp (maxSteps := 400000) (disch := omega) [nl_tle, nl_fle, nl_tlt, nl_flt, nl_teq, nl_feq, nl_sub, nl_ss, nl_lt, nl_llt, nl_ltt, nl_le, nl_lle, nl_lee, nl_eq, nl_leq, nl_ee, nl_div, nl_rem, nl_cl, nl_n1, nl_n2, nl_n3, nl_n4, nl_add, nl_ladd, nl_aa, nl_mul, nl_rmul, nl_mm, pu_wi_1, pu_wi_2, bX12_gets_0, a_ald, a_ast, a_cv, a_gr, a_ild, a_ist, a_push, a_wi, sh_71, sh_81, pu_rv, pu_as, Value.category, pu_bk, pu_kl, pu_qe0, pu_qe1, a4, F15, sh_81, hA, hQ, hR]
    all_goals try simp [bX12_gets_0, a_ald, a_ast, a_cv, a_gr, a_ild, a_ist, a_push, a_wi, sh_71, sh_81, pu_rv, pu_as, Value.category, pu_bk, pu_kl, List.replicate, pu_wi_1, pu_wi_2, nl_add, nl_ladd, nl_aa, nl_mul, nl_rmul, nl_mm, pu_qe0, pu_qe1, a4, F15, sh_81, hA, hQ, hR]
    all_goals try simp (maxSteps := 400000) (disch := omega) [nl_tle, nl_fle, nl_tlt, nl_flt, nl_teq, nl_feq, nl_sub, nl_ss, nl_lt, nl_llt, nl_ltt, nl_le, nl_lle, nl_lee, nl_eq, nl_leq, nl_ee, nl_div, nl_rem, nl_cl, nl_n1, nl_n2, nl_n3, nl_n4, nl_add, nl_ladd, nl_aa, nl_mul, nl_rmul, nl_mm, pu_wi_1, pu_wi_2, bX12_gets_0, a_ald, a_ast, a_cv, a_gr, a_ild, a_ist, a_push, a_wi, sh_71, sh_81, pu_rv, pu_as, Value.category, pu_bk, pu_kl, pu_qe0, pu_qe1, a4, F15, sh_81, hA, hQ, hR]
    all_goals try simp [bX12_gets_0, a_ald, a_ast, a_cv, a_gr, a_ild, a_ist, a_push, a_wi, sh_71, sh_81, pu_rv, pu_as, Value.category, pu_bk, pu_kl, List.replicate, pu_wi_1, pu_wi_2, nl_add, nl_ladd, nl_aa, nl_mul, nl_rmul, nl_mm, pu_qe0, pu_qe1, a4, F15, sh_81, hA, hQ, hR]
    all_goals try simp (maxSteps := 400000) (disch := omega) [nl_tle, nl_fle, nl_tlt, nl_flt, nl_teq, nl_feq, nl_sub, nl_ss, nl_lt, nl_llt, nl_ltt, nl_le, nl_lle, nl_lee, nl_eq, nl_leq, nl_ee, nl_div, nl_rem, nl_cl, nl_n1, nl_n2, nl_n3, nl_n4, nl_add, nl_ladd, nl_aa, nl_mul, nl_rmul, nl_mm, pu_wi_1, pu_wi_2, bX12_gets_0, a_ald, a_ast, a_cv, a_gr, a_ild, a_ist, a_push, a_wi, sh_71, sh_81, pu_rv, pu_as, Value.category, pu_bk, pu_kl, pu_qe0, pu_qe1, a4, F15, sh_81, hA, hQ, hR]
    all_goals try simp [bX12_gets_0, a_ald, a_ast, a_cv, a_gr, a_ild, a_ist, a_push, a_wi, sh_71, sh_81, pu_rv, pu_as, Value.category, pu_bk, pu_kl, List.replicate, pu_wi_1, pu_wi_2, nl_add, nl_ladd, nl_aa, nl_mul, nl_rmul, nl_mm, pu_qe0, pu_qe1, a4, F15, sh_81, hA, hQ, hR]
  rcases r_g_l hw hst hru vs SLV.1 hn n 0 Q none none none none (by omega) hxQ hrQ ⟨by rw [Qo 71 13 (by omega)]; exact a2, fun a ha => by rw [Qo 79 a (by omega)]; exact a3 a ha, fun a ha => by omega, Q81⟩ (fun _ a ha => by omega) with ⟨⟨r3, a, b1, b2, b3⟩, N1, c1, c2⟩ | ⟨ok, N1, u4, u5, u6, u7, u8, c1, c2, c3⟩
  · have no : ¬ (ru = 3 → py_rt I st ru V n) := fun z => by
      rcases z r3 a b1 with q | q
      · exact b2 q
      · exact b3 q.1
    refine ⟨N1, py_rfo_t rQ c1, fun z => absurd z no, ?_⟩
    rw [pu_q0 no]
    exact ST _ c2
  · have hx1 : pu_fx N1 := pz_fx_of hxQ c1.1
    have hr1 : pu_Rel I L (N1.1 72) := by rw [show N1.1 72 = Q.1 72 from funext (fun j => c1.2 72 j (by omega) (by omega))]; exact hrQ
    obtain ⟨g1, g2, g3, _⟩ := c2
    refine ⟨N1, py_rfo_t rQ c1, fun _ => ⟨g1, g2, g3⟩, ?_⟩
    rw [ST _ c3]
    by_cases r3 : ru = 3
    · have rs := r_rs_i hw vs SLV.1 hn hx1 hr1 g1 g2 g3 n 0 none none (by omega)
      rw [nI_0] at rs
      have z0 : (0 : Int32).toInt = 0 := by decide
      -- the two say one
      have FWe : ∀ a, a < n → (py_FR I st ru V a = -1 ∧ py_FW I st ru V a = 0) ∨ (py_FR I st ru V a ≠ -1 ∧ pz_iw (py_FR I st ru V a) ∧ py_FW I st ru V a = py_FR I st ru V a ∧ py_FW I st ru V a ≠ 0) := fun a ha => by
        by_cases z : py_FR I st ru V a = -1
        · exact Or.inl ⟨z, by unfold py_FW; rw [if_pos z]⟩
        · have e : py_FW I st ru V a = py_FR I st ru V a := by unfold py_FW; rw [if_neg z]
          rcases ok r3 a ha with q | q
          · exact absurd q z
          · refine Or.inr ⟨z, q, e, ?_⟩
            rw [e]
            obtain ⟨v, v1, v2, v3, _⟩ := q
            rw [v1]
            intro k
            rw [show (0 : Int32) = nI 0 from rfl, nI_eq (by omega) (by omega)] at k
            omega
      have EQ : (∀ a, 0 ≤ a → a < n → ∀ k, k < a → py_ri2 (py_FW I st ru V) (py_sd I V) a k) = (ru = 3 → py_rt I st ru V n) := by
        apply propext
        constructor
        · intro z _ i hi
          rcases FWe i hi with q | ⟨q1, q2, q3, q4⟩
          · exact Or.inl q.1
          · refine Or.inr ⟨q2, fun j hj => ?_⟩
            rcases FWe j (by omega) with y | ⟨y1, y2, y3, y4⟩
            · rw [y.1]
              refine ⟨fun k => q1 k.symm, fun k => ?_⟩
              obtain ⟨v, v1, v2, v3, _⟩ := q2
              have k2 := Int32.lt_iff_toInt_lt.mp k.2
              have tv := nl_n0 (a := v) (by omega)
              rw [v1, tv, show (-1 : Int32).toInt = -1 from by decide] at k2
              omega
            · rcases z i (by omega) hi j hj with k | k | k
              · exact absurd k q4
              · exact absurd k y4
              · rw [q3, y3] at k
                exact ⟨fun e => k.1 e.symm, fun e => k.2 ⟨e.1.symm, e.2⟩⟩
        · intro z a _ ha k hk
          rcases FWe a ha with q | ⟨q1, q2, q3, q4⟩
          · exact Or.inl q.2
          · rcases FWe k (by omega) with y | ⟨y1, y2, y3, y4⟩
            · exact Or.inr (Or.inl y.2)
            · rcases z r3 a ha with e | e
              · exact absurd e q1
              · have := e.2 k hk
                refine Or.inr (Or.inr ?_)
                rw [q3, y3]
                exact ⟨fun e => this.1 e.symm, fun e => this.2 ⟨e.1.symm, e.2⟩⟩
      rw [EQ] at rs
      have RS : pu_r 295 [some (.ref 71)] [] N1 = some (some (.int (pu_q (ru = 3 → py_rt I st ru V n))), N1) := by
        generalize pu_q (ru = 3 → py_rt I st ru V n) = qq at *
        rw [qX12_isRising]
        simp [a_ent, bX12_isRising_0, a_ist, a_push, pu_rv, pu_as, Value.category, pu_bk, pu_kl, List.replicate, pu_wi_1, pu_wi_2, nl_add, nl_ladd, nl_aa, nl_mul, nl_rmul, nl_mm, pu_qe0, pu_qe1, rs]
        all_goals try simp (maxSteps := 400000) (disch := omega) [nl_tle, nl_fle, nl_tlt, nl_flt, nl_teq, nl_feq, nl_sub, nl_ss, nl_lt, nl_llt, nl_ltt, nl_le, nl_lle, nl_lee, nl_eq, nl_leq, nl_ee, nl_div, nl_rem, nl_cl, nl_n1, nl_n2, nl_n3, nl_n4, nl_add, nl_ladd, nl_aa, nl_mul, nl_rmul, nl_mm, pu_wi_1, pu_wi_2, bX12_isRising_0, a_ist, a_push, pu_rv, pu_as, Value.category, pu_bk, pu_kl, pu_qe0, pu_qe1, rs]
        all_goals try simp [bX12_isRising_0, a_ist, a_push, pu_rv, pu_as, Value.category, pu_bk, pu_kl, List.replicate, pu_wi_1, pu_wi_2, nl_add, nl_ladd, nl_aa, nl_mul, nl_rmul, nl_mm, pu_qe0, pu_qe1, rs]
        all_goals try simp (maxSteps := 400000) (disch := omega) [nl_tle, nl_fle, nl_tlt, nl_flt, nl_teq, nl_feq, nl_sub, nl_ss, nl_lt, nl_llt, nl_ltt, nl_le, nl_lle, nl_lee, nl_eq, nl_leq, nl_ee, nl_div, nl_rem, nl_cl, nl_n1, nl_n2, nl_n3, nl_n4, nl_add, nl_ladd, nl_aa, nl_mul, nl_rmul, nl_mm, pu_wi_1, pu_wi_2, bX12_isRising_0, a_ist, a_push, pu_rv, pu_as, Value.category, pu_bk, pu_kl, pu_qe0, pu_qe1, rs]
        all_goals try simp [bX12_isRising_0, a_ist, a_push, pu_rv, pu_as, Value.category, pu_bk, pu_kl, List.replicate, pu_wi_1, pu_wi_2, nl_add, nl_ladd, nl_aa, nl_mul, nl_rmul, nl_mm, pu_qe0, pu_qe1, rs]
        all_goals try simp (maxSteps := 400000) (disch := omega) [nl_tle, nl_fle, nl_tlt, nl_flt, nl_teq, nl_feq, nl_sub, nl_ss, nl_lt, nl_llt, nl_ltt, nl_le, nl_lle, nl_lee, nl_eq, nl_leq, nl_ee, nl_div, nl_rem, nl_cl, nl_n1, nl_n2, nl_n3, nl_n4, nl_add, nl_ladd, nl_aa, nl_mul, nl_rmul, nl_mm, pu_wi_1, pu_wi_2, bX12_isRising_0, a_ist, a_push, pu_rv, pu_as, Value.category, pu_bk, pu_kl, pu_qe0, pu_qe1, rs]
        all_goals try simp [bX12_isRising_0, a_ist, a_push, pu_rv, pu_as, Value.category, pu_bk, pu_kl, List.replicate, pu_wi_1, pu_wi_2, nl_add, nl_ladd, nl_aa, nl_mul, nl_rmul, nl_mm, pu_qe0, pu_qe1, rs]
      by_cases fin : ru = 3 → py_rt I st ru V n
      · rw [pu_q1 fin] at RS ⊢
        rw [r3, show nI 3 = (3 : Int32) from rfl]
        simp [bX12_gets_326, bX12_gets_338, bX12_gets_343, bX12_gets_342, a_ald, a_cv, a_icne, a_ifeq, a_ild, a_push, a_zret, sh_71, pu_rv, pu_as, Value.category, pu_bk, pu_kl, List.replicate, pu_wi_1, pu_wi_2, nl_add, nl_ladd, nl_aa, nl_mul, nl_rmul, nl_mm, pu_qe0, pu_qe1, RS]
        all_goals try simp (maxSteps := 400000) (disch := omega) [nl_tle, nl_fle, nl_tlt, nl_flt, nl_teq, nl_feq, nl_sub, nl_ss, nl_lt, nl_llt, nl_ltt, nl_le, nl_lle, nl_lee, nl_eq, nl_leq, nl_ee, nl_div, nl_rem, nl_cl, nl_n1, nl_n2, nl_n3, nl_n4, nl_add, nl_ladd, nl_aa, nl_mul, nl_rmul, nl_mm, pu_wi_1, pu_wi_2, bX12_gets_326, bX12_gets_338, bX12_gets_343, bX12_gets_342, a_ald, a_cv, a_icne, a_ifeq, a_ild, a_push, a_zret, sh_71, pu_rv, pu_as, Value.category, pu_bk, pu_kl, pu_qe0, pu_qe1, RS]
        all_goals try simp [bX12_gets_326, bX12_gets_338, bX12_gets_343, bX12_gets_342, a_ald, a_cv, a_icne, a_ifeq, a_ild, a_push, a_zret, sh_71, pu_rv, pu_as, Value.category, pu_bk, pu_kl, List.replicate, pu_wi_1, pu_wi_2, nl_add, nl_ladd, nl_aa, nl_mul, nl_rmul, nl_mm, pu_qe0, pu_qe1, RS]
        all_goals try simp (maxSteps := 400000) (disch := omega) [nl_tle, nl_fle, nl_tlt, nl_flt, nl_teq, nl_feq, nl_sub, nl_ss, nl_lt, nl_llt, nl_ltt, nl_le, nl_lle, nl_lee, nl_eq, nl_leq, nl_ee, nl_div, nl_rem, nl_cl, nl_n1, nl_n2, nl_n3, nl_n4, nl_add, nl_ladd, nl_aa, nl_mul, nl_rmul, nl_mm, pu_wi_1, pu_wi_2, bX12_gets_326, bX12_gets_338, bX12_gets_343, bX12_gets_342, a_ald, a_cv, a_icne, a_ifeq, a_ild, a_push, a_zret, sh_71, pu_rv, pu_as, Value.category, pu_bk, pu_kl, pu_qe0, pu_qe1, RS]
        all_goals try simp [bX12_gets_326, bX12_gets_338, bX12_gets_343, bX12_gets_342, a_ald, a_cv, a_icne, a_ifeq, a_ild, a_push, a_zret, sh_71, pu_rv, pu_as, Value.category, pu_bk, pu_kl, List.replicate, pu_wi_1, pu_wi_2, nl_add, nl_ladd, nl_aa, nl_mul, nl_rmul, nl_mm, pu_qe0, pu_qe1, RS]
        all_goals try simp (maxSteps := 400000) (disch := omega) [nl_tle, nl_fle, nl_tlt, nl_flt, nl_teq, nl_feq, nl_sub, nl_ss, nl_lt, nl_llt, nl_ltt, nl_le, nl_lle, nl_lee, nl_eq, nl_leq, nl_ee, nl_div, nl_rem, nl_cl, nl_n1, nl_n2, nl_n3, nl_n4, nl_add, nl_ladd, nl_aa, nl_mul, nl_rmul, nl_mm, pu_wi_1, pu_wi_2, bX12_gets_326, bX12_gets_338, bX12_gets_343, bX12_gets_342, a_ald, a_cv, a_icne, a_ifeq, a_ild, a_push, a_zret, sh_71, pu_rv, pu_as, Value.category, pu_bk, pu_kl, pu_qe0, pu_qe1, RS]
        all_goals try simp [bX12_gets_326, bX12_gets_338, bX12_gets_343, bX12_gets_342, a_ald, a_cv, a_icne, a_ifeq, a_ild, a_push, a_zret, sh_71, pu_rv, pu_as, Value.category, pu_bk, pu_kl, List.replicate, pu_wi_1, pu_wi_2, nl_add, nl_ladd, nl_aa, nl_mul, nl_rmul, nl_mm, pu_qe0, pu_qe1, RS]
      · rw [pu_q0 fin] at RS ⊢
        rw [r3, show nI 3 = (3 : Int32) from rfl]
        simp [bX12_gets_326, bX12_gets_338, bX12_gets_343, bX12_gets_342, a_ald, a_cv, a_icne, a_ifeq, a_ild, a_push, a_zret, sh_71, pu_rv, pu_as, Value.category, pu_bk, pu_kl, List.replicate, pu_wi_1, pu_wi_2, nl_add, nl_ladd, nl_aa, nl_mul, nl_rmul, nl_mm, pu_qe0, pu_qe1, RS]
        all_goals try simp (maxSteps := 400000) (disch := omega) [nl_tle, nl_fle, nl_tlt, nl_flt, nl_teq, nl_feq, nl_sub, nl_ss, nl_lt, nl_llt, nl_ltt, nl_le, nl_lle, nl_lee, nl_eq, nl_leq, nl_ee, nl_div, nl_rem, nl_cl, nl_n1, nl_n2, nl_n3, nl_n4, nl_add, nl_ladd, nl_aa, nl_mul, nl_rmul, nl_mm, pu_wi_1, pu_wi_2, bX12_gets_326, bX12_gets_338, bX12_gets_343, bX12_gets_342, a_ald, a_cv, a_icne, a_ifeq, a_ild, a_push, a_zret, sh_71, pu_rv, pu_as, Value.category, pu_bk, pu_kl, pu_qe0, pu_qe1, RS]
        all_goals try simp [bX12_gets_326, bX12_gets_338, bX12_gets_343, bX12_gets_342, a_ald, a_cv, a_icne, a_ifeq, a_ild, a_push, a_zret, sh_71, pu_rv, pu_as, Value.category, pu_bk, pu_kl, List.replicate, pu_wi_1, pu_wi_2, nl_add, nl_ladd, nl_aa, nl_mul, nl_rmul, nl_mm, pu_qe0, pu_qe1, RS]
        all_goals try simp (maxSteps := 400000) (disch := omega) [nl_tle, nl_fle, nl_tlt, nl_flt, nl_teq, nl_feq, nl_sub, nl_ss, nl_lt, nl_llt, nl_ltt, nl_le, nl_lle, nl_lee, nl_eq, nl_leq, nl_ee, nl_div, nl_rem, nl_cl, nl_n1, nl_n2, nl_n3, nl_n4, nl_add, nl_ladd, nl_aa, nl_mul, nl_rmul, nl_mm, pu_wi_1, pu_wi_2, bX12_gets_326, bX12_gets_338, bX12_gets_343, bX12_gets_342, a_ald, a_cv, a_icne, a_ifeq, a_ild, a_push, a_zret, sh_71, pu_rv, pu_as, Value.category, pu_bk, pu_kl, pu_qe0, pu_qe1, RS]
        all_goals try simp [bX12_gets_326, bX12_gets_338, bX12_gets_343, bX12_gets_342, a_ald, a_cv, a_icne, a_ifeq, a_ild, a_push, a_zret, sh_71, pu_rv, pu_as, Value.category, pu_bk, pu_kl, List.replicate, pu_wi_1, pu_wi_2, nl_add, nl_ladd, nl_aa, nl_mul, nl_rmul, nl_mm, pu_qe0, pu_qe1, RS]
        all_goals try simp (maxSteps := 400000) (disch := omega) [nl_tle, nl_fle, nl_tlt, nl_flt, nl_teq, nl_feq, nl_sub, nl_ss, nl_lt, nl_llt, nl_ltt, nl_le, nl_lle, nl_lee, nl_eq, nl_leq, nl_ee, nl_div, nl_rem, nl_cl, nl_n1, nl_n2, nl_n3, nl_n4, nl_add, nl_ladd, nl_aa, nl_mul, nl_rmul, nl_mm, pu_wi_1, pu_wi_2, bX12_gets_326, bX12_gets_338, bX12_gets_343, bX12_gets_342, a_ald, a_cv, a_icne, a_ifeq, a_ild, a_push, a_zret, sh_71, pu_rv, pu_as, Value.category, pu_bk, pu_kl, pu_qe0, pu_qe1, RS]
        all_goals try simp [bX12_gets_326, bX12_gets_338, bX12_gets_343, bX12_gets_342, a_ald, a_cv, a_icne, a_ifeq, a_ild, a_push, a_zret, sh_71, pu_rv, pu_as, Value.category, pu_bk, pu_kl, List.replicate, pu_wi_1, pu_wi_2, nl_add, nl_ladd, nl_aa, nl_mul, nl_rmul, nl_mm, pu_qe0, pu_qe1, RS]
    · rw [pu_q1 (fun z => absurd z r3)]
      have r3' : ¬ nI ru = 3 := fun z => by rw [show (3 : Int32) = nI 3 from rfl, nI_eq (by omega) (by omega)] at z; exact r3 z
      generalize nI ru = rv at *
      simp [bX12_gets_326, bX12_gets_338, bX12_gets_343, bX12_gets_342, a_ald, a_cv, a_icne, a_ifeq, a_ild, a_push, a_zret, sh_71, pu_rv, pu_as, Value.category, pu_bk, pu_kl, List.replicate, pu_wi_1, pu_wi_2, nl_add, nl_ladd, nl_aa, nl_mul, nl_rmul, nl_mm, pu_qe0, pu_qe1, r3']
      all_goals try simp (maxSteps := 400000) (disch := omega) [nl_tle, nl_fle, nl_tlt, nl_flt, nl_teq, nl_feq, nl_sub, nl_ss, nl_lt, nl_llt, nl_ltt, nl_le, nl_lle, nl_lee, nl_eq, nl_leq, nl_ee, nl_div, nl_rem, nl_cl, nl_n1, nl_n2, nl_n3, nl_n4, nl_add, nl_ladd, nl_aa, nl_mul, nl_rmul, nl_mm, pu_wi_1, pu_wi_2, bX12_gets_326, bX12_gets_338, bX12_gets_343, bX12_gets_342, a_ald, a_cv, a_icne, a_ifeq, a_ild, a_push, a_zret, sh_71, pu_rv, pu_as, Value.category, pu_bk, pu_kl, pu_qe0, pu_qe1, r3']
      all_goals try simp [bX12_gets_326, bX12_gets_338, bX12_gets_343, bX12_gets_342, a_ald, a_cv, a_icne, a_ifeq, a_ild, a_push, a_zret, sh_71, pu_rv, pu_as, Value.category, pu_bk, pu_kl, List.replicate, pu_wi_1, pu_wi_2, nl_add, nl_ladd, nl_aa, nl_mul, nl_rmul, nl_mm, pu_qe0, pu_qe1, r3']
      all_goals try simp (maxSteps := 400000) (disch := omega) [nl_tle, nl_fle, nl_tlt, nl_flt, nl_teq, nl_feq, nl_sub, nl_ss, nl_lt, nl_llt, nl_ltt, nl_le, nl_lle, nl_lee, nl_eq, nl_leq, nl_ee, nl_div, nl_rem, nl_cl, nl_n1, nl_n2, nl_n3, nl_n4, nl_add, nl_ladd, nl_aa, nl_mul, nl_rmul, nl_mm, pu_wi_1, pu_wi_2, bX12_gets_326, bX12_gets_338, bX12_gets_343, bX12_gets_342, a_ald, a_cv, a_icne, a_ifeq, a_ild, a_push, a_zret, sh_71, pu_rv, pu_as, Value.category, pu_bk, pu_kl, pu_qe0, pu_qe1, r3']
      all_goals try simp [bX12_gets_326, bX12_gets_338, bX12_gets_343, bX12_gets_342, a_ald, a_cv, a_icne, a_ifeq, a_ild, a_push, a_zret, sh_71, pu_rv, pu_as, Value.category, pu_bk, pu_kl, List.replicate, pu_wi_1, pu_wi_2, nl_add, nl_ladd, nl_aa, nl_mul, nl_rmul, nl_mm, pu_qe0, pu_qe1, r3']
      all_goals try simp (maxSteps := 400000) (disch := omega) [nl_tle, nl_fle, nl_tlt, nl_flt, nl_teq, nl_feq, nl_sub, nl_ss, nl_lt, nl_llt, nl_ltt, nl_le, nl_lle, nl_lee, nl_eq, nl_leq, nl_ee, nl_div, nl_rem, nl_cl, nl_n1, nl_n2, nl_n3, nl_n4, nl_add, nl_ladd, nl_aa, nl_mul, nl_rmul, nl_mm, pu_wi_1, pu_wi_2, bX12_gets_326, bX12_gets_338, bX12_gets_343, bX12_gets_342, a_ald, a_cv, a_icne, a_ifeq, a_ild, a_push, a_zret, sh_71, pu_rv, pu_as, Value.category, pu_bk, pu_kl, pu_qe0, pu_qe1, r3']
      all_goals try simp [bX12_gets_326, bX12_gets_338, bX12_gets_343, bX12_gets_342, a_ald, a_cv, a_icne, a_ifeq, a_ild, a_push, a_zret, sh_71, pu_rv, pu_as, Value.category, pu_bk, pu_kl, List.replicate, pu_wi_1, pu_wi_2, nl_add, nl_ladd, nl_aa, nl_mul, nl_rmul, nl_mm, pu_qe0, pu_qe1, r3']
end
