/-! the order of a street's places, on the reference's side -/
/-- only the reference's rows of an order have changed -/
def py_rfo (M N : pu_M) : Prop := N.2 = M.2 ∧ ∀ c j, ¬ (79 ≤ c ∧ c ≤ 81) → ¬ (c = 71 ∧ j = 13) → N.1 c j = M.1 c j
theorem py_rfo_t {M N P : pu_M} (a : py_rfo M N) (b : py_rfo N P) : py_rfo M P := ⟨b.1.trans a.1, fun c j h1 h2 => by rw [b.2 c j h1 h2, a.2 c j h1 h2]⟩
theorem py_rfo_r (M : pu_M) : py_rfo M M := ⟨rfl, fun _ _ _ _ => rfl⟩
section
variable {I : Nat → Nat → Int32} {L : Nat → Nat → Int64} {st ru : Nat}
theorem pz_alx_n {s p : Nat} (hru : ru < 4) (hs : s < 2) (hp : p < 10000) : pz_alx (nI ru) (nI s) (nI p) = nI (py_an ru s p) := by
  unfold pz_alx
  have z0 : (nI s = 0) = (s = 0) := propext (nI_eq (b := 0) (by omega) (by omega))
  have o1 : (nI ru = 1) = (ru = 1) := propext (nI_eq (b := 1) (by omega) (by omega))
  simp only [z0, o1]
  unfold py_an
  by_cases c1 : ru = 1
  · rw [if_pos c1, if_pos c1]
    by_cases c2 : s = 0
    · rw [if_pos c2, if_pos c2]
    · rw [if_neg c2, if_neg c2]
      exact pk_sub (a := 20000) (by omega)
  · rw [if_neg c1, if_neg c1, show (100000 : Int32) = nI 100000 from rfl, pk_mul, nI_add]
theorem py_an_b {s p : Nat} (hs : s < 2) (hp : p < 10000) : py_an ru s p < 110001 := by
  unfold py_an
  split
  · split <;> omega
  · omega
theorem py_osx_n (hw : pu_WF I L) (hst : st < 2147483648) {S : Nat → Prop} {n : Nat} {W : Nat → Nat} (hS : ∀ k, S k → py_osx I st k) (h : py_SL (py_aq I ru) S W n) : n ≤ 100 := by
  have bD := wx_bD hw
  have C : ∀ a, a < n → py_osx I st (W a) := fun a ha => hS _ (h.1 a ha)
  have CF : ∀ a, a < n → pu_cf I st (-1) (W a) := fun a ha => ⟨(C a ha).2.1, by rw [py_osx_tn]; exact (C a ha).2.2⟩
  have := pu_pig (cD I) n (fun a => pu_sl0 I (W a) / 2) (fun a ha => by
    have := (pu_sl_lt hw (C a ha).1).1
    show pu_sl0 I (W a) / 2 < cD I
    omega) (fun a b hab hb => pu_inj hw st hst (-1) (W a) (W b) (C a (by omega)).1 (C b hb).1 (CF a (by omega)) (CF b hb) (fun e => by
    have := h.2.2 a b hab hb
    rw [e] at this
    omega))
  omega
theorem r_at (hw : pu_WF I L) (hst : st < 2147483648) (hru : ru < 4) {N : pu_M} (hx : pu_fx N) (hr : pu_Rel I L (N.1 72)) {k : Nat} (hk : py_osx I st k) : ∃ s p, s < 2 ∧ p < 10000 ∧ py_aq I ru k = py_an ru s p ∧ pu_r 269 [some (.ref 71), some (.int (nI (pu_sl0 I k / 2))), some (.int (nI (pu_sl0 I k % 2)))] [] N = some (some (.int (nI s)), N) ∧ pu_r 270 [some (.ref 71), some (.int (nI (pu_sl0 I k / 2))), some (.int (nI (pu_sl0 I k % 2)))] [] N = some (some (.int (nI p)), N) ∧ pu_r 275 [some (.int (nI ru)), some (.int (nI s)), some (.int (nI p))] [] N = some (some (.int (nI (py_aq I ru k))), N) := by
  have sl := (pu_sl_lt hw hk.1).1
  obtain ⟨p1, p2, p3, p4⟩ := py_osx_pl hw hst hk
  have e1 := r_sideAt hx hr hw (pu_sl0 I k / 2) (pu_sl0 I k % 2) (by omega) (by omega)
  have e2 := r_pacesAt hx hr hw (pu_sl0 I k / 2) (pu_sl0 I k % 2) (by omega) (by omega)
  rw [show 2 * (pu_sl0 I k / 2) + pu_sl0 I k % 2 = pu_sl0 I k by omega] at e1 e2
  have e3 := r_along (nI ru) (I 40 (pu_sl0 I k)) (I 41 (pu_sl0 I k)) N
  rw [p3, p4, pz_alx_n hru p1 p2] at e3
  rw [p3] at e1
  rw [p4] at e2
  exact ⟨_, _, p1, p2, rfl, e1, e2, e3⟩
theorem r_or_l (hw : pu_WF I L) (hst : st < 2147483648) (hru : ru < 4) {W : Nat → Nat} {n k d w : Nat} (hn : n ≤ 100) (hW : ∀ j, j < n → py_osx I st (W j)) (hk : py_osx I st k) (ne : ∀ j, j < n → W j ≠ k) (hs : pu_sl0 I k = 2 * d + w) (hw2 : w < 2) : ∀ (a : Nat) (N : pu_M), a ≤ n → pu_fx N → pu_Rel I L (N.1 72) → (∀ j, j < a → N.1 79 j = nI (pu_sl0 I (W j))) → (∀ j, a < j → j ≤ n → N.1 79 j = nI (pu_sl0 I (W (j - 1)))) →
    ∃ b N1, b ≤ a ∧ py_rfo N N1 ∧ N1.1 71 13 = N.1 71 13 ∧ (∀ j, j < b → N1.1 79 j = nI (pu_sl0 I (W j))) ∧ (∀ j, b < j → j ≤ n → N1.1 79 j = nI (pu_sl0 I (W (j - 1)))) ∧ (∀ j, b ≤ j → j < a → py_aq I ru k < py_aq I ru (W j)) ∧ (b = 0 ∨ py_aq I ru (W (b - 1)) < py_aq I ru k) ∧
      pu_r 472 [some (.ref 71), some (.int (nI st)), some (.int (nI ru)), some (.int (nI d)), some (.int (nI w)), some (.int (nI a))] [] N = kX12_orders_168 pu_r [some (.ref 71), some (.int (nI st)), some (.int (nI ru)), some (.int (nI d)), some (.int (nI w)), some (.int (nI b))] [] N1
  | 0, N, _, hx, hr, h1, h2 => by
    refine ⟨0, N, Nat.le_refl _, py_rfo_r N, rfl, h1, h2, fun j a b => by omega, Or.inl rfl, ?_⟩
    rw [qX12_orders_64]
    simp [bX12_orders_64, a_ild, a_ifle, nI_0]
  | a + 1, N, hle, hx, hr, h1, h2 => by
    have bD := wx_bD hw
    have e : nI (a + 1) - 1 = nI a := nI_pred a
    have e2 : nI (a + 1) + (-1) = nI a := pk_m1 a
    have p0 : ¬ nI (a + 1) ≤ 0 := nI_nle (by omega) (by omega)
    have a1 : a < 200 := by omega
    have a2 : a + 1 < 200 := by omega
    have v79 := h1 a (by omega)
    have wa := hW a (by omega)
    obtain ⟨s1, q1, s1l, q1l, k1, x1, x2, x3⟩ := r_at hw hst hru hx hr wa
    obtain ⟨s2, q2, s2l, q2l, k2, y1, y2, y3⟩ := r_at hw hst hru hx hr hk
    rw [hs, show (2 * d + w) / 2 = d by omega, show (2 * d + w) % 2 = w by omega] at y1 y2
    have b1 := py_an_b (ru := ru) s1l q1l
    have b2 := py_an_b (ru := ru) s2l q2l
    rw [← k1] at b1
    rw [← k2] at b2
    have ws := (pu_sl_lt hw wa.1).1
    have ws2 : pu_sl0 I (W a) < 200 := by omega
    have ane : py_aq I ru (W a) ≠ py_aq I ru k := fun z => ne a (by omega) (py_aq_i hw hst wa hk z)
    have F12 := fx_71_12 hx
    have K : pu_r 472 [some (.ref 71), some (.int (nI st)), some (.int (nI ru)), some (.int (nI d)), some (.int (nI w)), some (.int (nI (a + 1)))] [] N = kX12_orders_137 pu_r [some (.ref 71), some (.int (nI st)), some (.int (nI ru)), some (.int (nI d)), some (.int (nI w)), some (.int (nI (a + 1)))] [.int (nI w), .int (nI d), .ref 71, .int (nI s2), .int (nI ru), .int (nI (py_aq I ru (W a)))] N := by
      rw [qX12_orders_64]
      generalize py_aq I ru (W a) = ka at *
      generalize pu_sl0 I (W a) = sa at *
      generalize nI ru = rv at *
      simp [bX12_orders_64, bX12_orders_168, bX12_orders_191, a_ai, a_ald, a_cv, a_dup, a_gi, a_gr, a_iadd, a_idiv, a_ifle, a_ild, a_imul, a_inc, a_irem, a_isub, a_pi, a_push, a_wi, fx_71_12 hx, sh_71, sh_79, pu_rv, pu_as, Value.category, pu_bk, pu_kl, List.replicate, pu_wi_1, pu_wi_2, nl_add, nl_ladd, nl_aa, nl_mul, nl_rmul, nl_mm, pu_qe0, pu_qe1, p0, e, a1, v79, ws2, x1]
      all_goals try simp (maxSteps := 400000) (disch := omega) [nl_tle, nl_fle, nl_tlt, nl_flt, nl_teq, nl_feq, nl_sub, nl_ss, nl_lt, nl_llt, nl_ltt, nl_le, nl_lle, nl_lee, nl_eq, nl_leq, nl_ee, nl_div, nl_rem, nl_cl, nl_n1, nl_n2, nl_n3, nl_n4, nl_add, nl_ladd, nl_aa, nl_mul, nl_rmul, nl_mm, pu_wi_1, pu_wi_2, bX12_orders_64, bX12_orders_168, bX12_orders_191, a_ai, a_ald, a_cv, a_dup, a_gi, a_gr, a_iadd, a_idiv, a_ifle, a_ild, a_imul, a_inc, a_irem, a_isub, a_pi, a_push, a_wi, fx_71_12 hx, sh_71, sh_79, pu_rv, pu_as, Value.category, pu_bk, pu_kl, pu_qe0, pu_qe1, p0, e, a1, v79, ws2, x1]
      all_goals try simp [bX12_orders_64, bX12_orders_168, bX12_orders_191, a_ai, a_ald, a_cv, a_dup, a_gi, a_gr, a_iadd, a_idiv, a_ifle, a_ild, a_imul, a_inc, a_irem, a_isub, a_pi, a_push, a_wi, fx_71_12 hx, sh_71, sh_79, pu_rv, pu_as, Value.category, pu_bk, pu_kl, List.replicate, pu_wi_1, pu_wi_2, nl_add, nl_ladd, nl_aa, nl_mul, nl_rmul, nl_mm, pu_qe0, pu_qe1, p0, e, a1, v79, ws2, x1]
      all_goals try simp (maxSteps := 400000) (disch := omega) [nl_tle, nl_fle, nl_tlt, nl_flt, nl_teq, nl_feq, nl_sub, nl_ss, nl_lt, nl_llt, nl_ltt, nl_le, nl_lle, nl_lee, nl_eq, nl_leq, nl_ee, nl_div, nl_rem, nl_cl, nl_n1, nl_n2, nl_n3, nl_n4, nl_add, nl_ladd, nl_aa, nl_mul, nl_rmul, nl_mm, pu_wi_1, pu_wi_2, bX12_orders_64, bX12_orders_168, bX12_orders_191, a_ai, a_ald, a_cv, a_dup, a_gi, a_gr, a_iadd, a_idiv, a_ifle, a_ild, a_imul, a_inc, a_irem, a_isub, a_pi, a_push, a_wi, fx_71_12 hx, sh_71, sh_79, pu_rv, pu_as, Value.category, pu_bk, pu_kl, pu_qe0, pu_qe1, p0, e, a1, v79, ws2, x1]
      all_goals try simp [bX12_orders_64, bX12_orders_168, bX12_orders_191, a_ai, a_ald, a_cv, a_dup, a_gi, a_gr, a_iadd, a_idiv, a_ifle, a_ild, a_imul, a_inc, a_irem, a_isub, a_pi, a_push, a_wi, fx_71_12 hx, sh_71, sh_79, pu_rv, pu_as, Value.category, pu_bk, pu_kl, List.replicate, pu_wi_1, pu_wi_2, nl_add, nl_ladd, nl_aa, nl_mul, nl_rmul, nl_mm, pu_qe0, pu_qe1, p0, e, a1, v79, ws2, x1]
      all_goals try simp (maxSteps := 400000) (disch := omega) [nl_tle, nl_fle, nl_tlt, nl_flt, nl_teq, nl_feq, nl_sub, nl_ss, nl_lt, nl_llt, nl_ltt, nl_le, nl_lle, nl_lee, nl_eq, nl_leq, nl_ee, nl_div, nl_rem, nl_cl, nl_n1, nl_n2, nl_n3, nl_n4, nl_add, nl_ladd, nl_aa, nl_mul, nl_rmul, nl_mm, pu_wi_1, pu_wi_2, bX12_orders_64, bX12_orders_168, bX12_orders_191, a_ai, a_ald, a_cv, a_dup, a_gi, a_gr, a_iadd, a_idiv, a_ifle, a_ild, a_imul, a_inc, a_irem, a_isub, a_pi, a_push, a_wi, fx_71_12 hx, sh_71, sh_79, pu_rv, pu_as, Value.category, pu_bk, pu_kl, pu_qe0, pu_qe1, p0, e, a1, v79, ws2, x1]
      all_goals try simp [bX12_orders_64, bX12_orders_168, bX12_orders_191, a_ai, a_ald, a_cv, a_dup, a_gi, a_gr, a_iadd, a_idiv, a_ifle, a_ild, a_imul, a_inc, a_irem, a_isub, a_pi, a_push, a_wi, fx_71_12 hx, sh_71, sh_79, pu_rv, pu_as, Value.category, pu_bk, pu_kl, List.replicate, pu_wi_1, pu_wi_2, nl_add, nl_ladd, nl_aa, nl_mul, nl_rmul, nl_mm, pu_qe0, pu_qe1, p0, e, a1, v79, ws2, x1]
      simp [bX12_orders_101, a_ai, a_ald, a_cs, a_cv, a_gr, a_idiv, a_ild, a_irem, a_isub, a_push, fx_71_12 hx, sh_71, sh_79, pu_rv, pu_as, Value.category, pu_bk, pu_kl, List.replicate, pu_wi_1, pu_wi_2, nl_add, nl_ladd, nl_aa, nl_mul, nl_rmul, nl_mm, pu_qe0, pu_qe1, sh_79, e, a1, v79, ws2, x2, x3, y1]
      all_goals try simp (maxSteps := 400000) (disch := omega) [nl_tle, nl_fle, nl_tlt, nl_flt, nl_teq, nl_feq, nl_sub, nl_ss, nl_lt, nl_llt, nl_ltt, nl_le, nl_lle, nl_lee, nl_eq, nl_leq, nl_ee, nl_div, nl_rem, nl_cl, nl_n1, nl_n2, nl_n3, nl_n4, nl_add, nl_ladd, nl_aa, nl_mul, nl_rmul, nl_mm, pu_wi_1, pu_wi_2, bX12_orders_101, a_ai, a_ald, a_cs, a_cv, a_gr, a_idiv, a_ild, a_irem, a_isub, a_push, fx_71_12 hx, sh_71, sh_79, pu_rv, pu_as, Value.category, pu_bk, pu_kl, pu_qe0, pu_qe1, sh_79, e, a1, v79, ws2, x2, x3, y1]
      all_goals try simp [bX12_orders_101, a_ai, a_ald, a_cs, a_cv, a_gr, a_idiv, a_ild, a_irem, a_isub, a_push, fx_71_12 hx, sh_71, sh_79, pu_rv, pu_as, Value.category, pu_bk, pu_kl, List.replicate, pu_wi_1, pu_wi_2, nl_add, nl_ladd, nl_aa, nl_mul, nl_rmul, nl_mm, pu_qe0, pu_qe1, sh_79, e, a1, v79, ws2, x2, x3, y1]
      all_goals try simp (maxSteps := 400000) (disch := omega) [nl_tle, nl_fle, nl_tlt, nl_flt, nl_teq, nl_feq, nl_sub, nl_ss, nl_lt, nl_llt, nl_ltt, nl_le, nl_lle, nl_lee, nl_eq, nl_leq, nl_ee, nl_div, nl_rem, nl_cl, nl_n1, nl_n2, nl_n3, nl_n4, nl_add, nl_ladd, nl_aa, nl_mul, nl_rmul, nl_mm, pu_wi_1, pu_wi_2, bX12_orders_101, a_ai, a_ald, a_cs, a_cv, a_gr, a_idiv, a_ild, a_irem, a_isub, a_push, fx_71_12 hx, sh_71, sh_79, pu_rv, pu_as, Value.category, pu_bk, pu_kl, pu_qe0, pu_qe1, sh_79, e, a1, v79, ws2, x2, x3, y1]
      all_goals try simp [bX12_orders_101, a_ai, a_ald, a_cs, a_cv, a_gr, a_idiv, a_ild, a_irem, a_isub, a_push, fx_71_12 hx, sh_71, sh_79, pu_rv, pu_as, Value.category, pu_bk, pu_kl, List.replicate, pu_wi_1, pu_wi_2, nl_add, nl_ladd, nl_aa, nl_mul, nl_rmul, nl_mm, pu_qe0, pu_qe1, sh_79, e, a1, v79, ws2, x2, x3, y1]
      all_goals try simp (maxSteps := 400000) (disch := omega) [nl_tle, nl_fle, nl_tlt, nl_flt, nl_teq, nl_feq, nl_sub, nl_ss, nl_lt, nl_llt, nl_ltt, nl_le, nl_lle, nl_lee, nl_eq, nl_leq, nl_ee, nl_div, nl_rem, nl_cl, nl_n1, nl_n2, nl_n3, nl_n4, nl_add, nl_ladd, nl_aa, nl_mul, nl_rmul, nl_mm, pu_wi_1, pu_wi_2, bX12_orders_101, a_ai, a_ald, a_cs, a_cv, a_gr, a_idiv, a_ild, a_irem, a_isub, a_push, fx_71_12 hx, sh_71, sh_79, pu_rv, pu_as, Value.category, pu_bk, pu_kl, pu_qe0, pu_qe1, sh_79, e, a1, v79, ws2, x2, x3, y1]
      all_goals try simp [bX12_orders_101, a_ai, a_ald, a_cs, a_cv, a_gr, a_idiv, a_ild, a_irem, a_isub, a_push, fx_71_12 hx, sh_71, sh_79, pu_rv, pu_as, Value.category, pu_bk, pu_kl, List.replicate, pu_wi_1, pu_wi_2, nl_add, nl_ladd, nl_aa, nl_mul, nl_rmul, nl_mm, pu_qe0, pu_qe1, sh_79, e, a1, v79, ws2, x2, x3, y1]
    by_cases c : py_aq I ru k < py_aq I ru (W a)
    · have c2 : ¬ nI (py_aq I ru (W a)) ≤ nI (py_aq I ru k) := nI_ge c (by omega)
      obtain ⟨Q, hQ⟩ : ∃ Q, pu_wi N 79 (a + 1) (nI (pu_sl0 I (W a))) = Q := ⟨_, rfl⟩
      have q79 : ∀ j, Q.1 79 j = if j = a + 1 then nI (pu_sl0 I (W a)) else N.1 79 j := fun j => by
        rw [← hQ]
        by_cases z : j = a + 1
        · rw [if_pos z, z]; simp [pu_wi_1]
        · rw [if_neg z, py_wi_o (by omega)]
      have Qo : ∀ c j, c ≠ 79 → Q.1 c j = N.1 c j := fun c j z => by rw [← hQ, py_wi_o (by omega)]
      have v1 : py_rfo N Q := ⟨by rw [← hQ]; rfl, fun c j z1 _ => Qo c j (by omega)⟩
      obtain ⟨b, N1, x1', x2', x3', x4', x5', x6', x7', x8'⟩ := r_or_l hw hst hru hn hW hk ne hs hw2 a Q (by omega) (pz_fx_of hx v1.1) (by rw [show Q.1 72 = N.1 72 from funext (fun j => Qo 72 j (by omega))]; exact hr) (fun j hj => by
        rw [q79, if_neg (by omega)]
        exact h1 j (by omega)) (fun j hj1 hj2 => by
        rw [q79]
        by_cases z : j = a + 1
        · rw [if_pos z, z]
          rfl
        · rw [if_neg z]
          exact h2 j (by omega) hj2)
      refine ⟨b, N1, by omega, py_rfo_t v1 x2', x3'.trans (Qo 71 13 (by omega)), x4', x5', fun j z1 z2 => ?_, x7', ?_⟩
      · by_cases z : j = a
        · rw [z]; exact c
        · exact x6' j z1 (by omega)
      · rw [← x8', K]
        generalize py_aq I ru (W a) = ka at *
        generalize py_aq I ru k = kk at *
        generalize pu_sl0 I (W a) = sa at *
        generalize nI ru = rv at *
        simp [bX12_orders_137, a_ai, a_ald, a_cs, a_cv, a_gr, a_icle, a_ild, a_inc, a_isub, a_push, a_wi, fx_71_12 hx, sh_71, sh_79, pu_rv, pu_as, Value.category, pu_bk, pu_kl, List.replicate, pu_wi_1, pu_wi_2, nl_add, nl_ladd, nl_aa, nl_mul, nl_rmul, nl_mm, pu_qe0, pu_qe1, sh_71, y2, y3, c2, e, e2, a1, a2, v79, hQ, F12, sh_79]
        all_goals try simp (maxSteps := 400000) (disch := omega) [nl_tle, nl_fle, nl_tlt, nl_flt, nl_teq, nl_feq, nl_sub, nl_ss, nl_lt, nl_llt, nl_ltt, nl_le, nl_lle, nl_lee, nl_eq, nl_leq, nl_ee, nl_div, nl_rem, nl_cl, nl_n1, nl_n2, nl_n3, nl_n4, nl_add, nl_ladd, nl_aa, nl_mul, nl_rmul, nl_mm, pu_wi_1, pu_wi_2, bX12_orders_137, a_ai, a_ald, a_cs, a_cv, a_gr, a_icle, a_ild, a_inc, a_isub, a_push, a_wi, fx_71_12 hx, sh_71, sh_79, pu_rv, pu_as, Value.category, pu_bk, pu_kl, pu_qe0, pu_qe1, sh_71, y2, y3, c2, e, e2, a1, a2, v79, hQ, F12, sh_79]
        all_goals try simp [bX12_orders_137, a_ai, a_ald, a_cs, a_cv, a_gr, a_icle, a_ild, a_inc, a_isub, a_push, a_wi, fx_71_12 hx, sh_71, sh_79, pu_rv, pu_as, Value.category, pu_bk, pu_kl, List.replicate, pu_wi_1, pu_wi_2, nl_add, nl_ladd, nl_aa, nl_mul, nl_rmul, nl_mm, pu_qe0, pu_qe1, sh_71, y2, y3, c2, e, e2, a1, a2, v79, hQ, F12, sh_79]
        all_goals try simp (maxSteps := 400000) (disch := omega) [nl_tle, nl_fle, nl_tlt, nl_flt, nl_teq, nl_feq, nl_sub, nl_ss, nl_lt, nl_llt, nl_ltt, nl_le, nl_lle, nl_lee, nl_eq, nl_leq, nl_ee, nl_div, nl_rem, nl_cl, nl_n1, nl_n2, nl_n3, nl_n4, nl_add, nl_ladd, nl_aa, nl_mul, nl_rmul, nl_mm, pu_wi_1, pu_wi_2, bX12_orders_137, a_ai, a_ald, a_cs, a_cv, a_gr, a_icle, a_ild, a_inc, a_isub, a_push, a_wi, fx_71_12 hx, sh_71, sh_79, pu_rv, pu_as, Value.category, pu_bk, pu_kl, pu_qe0, pu_qe1, sh_71, y2, y3, c2, e, e2, a1, a2, v79, hQ, F12, sh_79]
        all_goals try simp [bX12_orders_137, a_ai, a_ald, a_cs, a_cv, a_gr, a_icle, a_ild, a_inc, a_isub, a_push, a_wi, fx_71_12 hx, sh_71, sh_79, pu_rv, pu_as, Value.category, pu_bk, pu_kl, List.replicate, pu_wi_1, pu_wi_2, nl_add, nl_ladd, nl_aa, nl_mul, nl_rmul, nl_mm, pu_qe0, pu_qe1, sh_71, y2, y3, c2, e, e2, a1, a2, v79, hQ, F12, sh_79]
        all_goals try simp (maxSteps := 400000) (disch := omega) [nl_tle, nl_fle, nl_tlt, nl_flt, nl_teq, nl_feq, nl_sub, nl_ss, nl_lt, nl_llt, nl_ltt, nl_le, nl_lle, nl_lee, nl_eq, nl_leq, nl_ee, nl_div, nl_rem, nl_cl, nl_n1, nl_n2, nl_n3, nl_n4, nl_add, nl_ladd, nl_aa, nl_mul, nl_rmul, nl_mm, pu_wi_1, pu_wi_2, bX12_orders_137, a_ai, a_ald, a_cs, a_cv, a_gr, a_icle, a_ild, a_inc, a_isub, a_push, a_wi, fx_71_12 hx, sh_71, sh_79, pu_rv, pu_as, Value.category, pu_bk, pu_kl, pu_qe0, pu_qe1, sh_71, y2, y3, c2, e, e2, a1, a2, v79, hQ, F12, sh_79]
        all_goals try simp [bX12_orders_137, a_ai, a_ald, a_cs, a_cv, a_gr, a_icle, a_ild, a_inc, a_isub, a_push, a_wi, fx_71_12 hx, sh_71, sh_79, pu_rv, pu_as, Value.category, pu_bk, pu_kl, List.replicate, pu_wi_1, pu_wi_2, nl_add, nl_ladd, nl_aa, nl_mul, nl_rmul, nl_mm, pu_qe0, pu_qe1, sh_71, y2, y3, c2, e, e2, a1, a2, v79, hQ, F12, sh_79]
    · have c9 : py_aq I ru (W a) < py_aq I ru k := by omega
      have c2 : nI (py_aq I ru (W a)) ≤ nI (py_aq I ru k) := nI_le (by omega) (by omega)
      refine ⟨a + 1, N, by omega, py_rfo_r N, rfl, h1, h2, fun j z1 z2 => by omega, Or.inr c9, ?_⟩
      rw [K]
      generalize py_aq I ru (W a) = ka at *
      generalize py_aq I ru k = kk at *
      generalize nI ru = rv at *
      simp [bX12_orders_137, a_ai, a_ald, a_cs, a_cv, a_gr, a_icle, a_ild, a_inc, a_isub, a_push, a_wi, fx_71_12 hx, sh_71, sh_79, pu_rv, pu_as, Value.category, pu_bk, pu_kl, List.replicate, pu_wi_1, pu_wi_2, nl_add, nl_ladd, nl_aa, nl_mul, nl_rmul, nl_mm, pu_qe0, pu_qe1, sh_71, y2, y3, c2]
      all_goals try simp (maxSteps := 400000) (disch := omega) [nl_tle, nl_fle, nl_tlt, nl_flt, nl_teq, nl_feq, nl_sub, nl_ss, nl_lt, nl_llt, nl_ltt, nl_le, nl_lle, nl_lee, nl_eq, nl_leq, nl_ee, nl_div, nl_rem, nl_cl, nl_n1, nl_n2, nl_n3, nl_n4, nl_add, nl_ladd, nl_aa, nl_mul, nl_rmul, nl_mm, pu_wi_1, pu_wi_2, bX12_orders_137, a_ai, a_ald, a_cs, a_cv, a_gr, a_icle, a_ild, a_inc, a_isub, a_push, a_wi, fx_71_12 hx, sh_71, sh_79, pu_rv, pu_as, Value.category, pu_bk, pu_kl, pu_qe0, pu_qe1, sh_71, y2, y3, c2]
      all_goals try simp [bX12_orders_137, a_ai, a_ald, a_cs, a_cv, a_gr, a_icle, a_ild, a_inc, a_isub, a_push, a_wi, fx_71_12 hx, sh_71, sh_79, pu_rv, pu_as, Value.category, pu_bk, pu_kl, List.replicate, pu_wi_1, pu_wi_2, nl_add, nl_ladd, nl_aa, nl_mul, nl_rmul, nl_mm, pu_qe0, pu_qe1, sh_71, y2, y3, c2]
      all_goals try simp (maxSteps := 400000) (disch := omega) [nl_tle, nl_fle, nl_tlt, nl_flt, nl_teq, nl_feq, nl_sub, nl_ss, nl_lt, nl_llt, nl_ltt, nl_le, nl_lle, nl_lee, nl_eq, nl_leq, nl_ee, nl_div, nl_rem, nl_cl, nl_n1, nl_n2, nl_n3, nl_n4, nl_add, nl_ladd, nl_aa, nl_mul, nl_rmul, nl_mm, pu_wi_1, pu_wi_2, bX12_orders_137, a_ai, a_ald, a_cs, a_cv, a_gr, a_icle, a_ild, a_inc, a_isub, a_push, a_wi, fx_71_12 hx, sh_71, sh_79, pu_rv, pu_as, Value.category, pu_bk, pu_kl, pu_qe0, pu_qe1, sh_71, y2, y3, c2]
      all_goals try simp [bX12_orders_137, a_ai, a_ald, a_cs, a_cv, a_gr, a_icle, a_ild, a_inc, a_isub, a_push, a_wi, fx_71_12 hx, sh_71, sh_79, pu_rv, pu_as, Value.category, pu_bk, pu_kl, List.replicate, pu_wi_1, pu_wi_2, nl_add, nl_ladd, nl_aa, nl_mul, nl_rmul, nl_mm, pu_qe0, pu_qe1, sh_71, y2, y3, c2]
      all_goals try simp (maxSteps := 400000) (disch := omega) [nl_tle, nl_fle, nl_tlt, nl_flt, nl_teq, nl_feq, nl_sub, nl_ss, nl_lt, nl_llt, nl_ltt, nl_le, nl_lle, nl_lee, nl_eq, nl_leq, nl_ee, nl_div, nl_rem, nl_cl, nl_n1, nl_n2, nl_n3, nl_n4, nl_add, nl_ladd, nl_aa, nl_mul, nl_rmul, nl_mm, pu_wi_1, pu_wi_2, bX12_orders_137, a_ai, a_ald, a_cs, a_cv, a_gr, a_icle, a_ild, a_inc, a_isub, a_push, a_wi, fx_71_12 hx, sh_71, sh_79, pu_rv, pu_as, Value.category, pu_bk, pu_kl, pu_qe0, pu_qe1, sh_71, y2, y3, c2]
      all_goals try simp [bX12_orders_137, a_ai, a_ald, a_cs, a_cv, a_gr, a_icle, a_ild, a_inc, a_isub, a_push, a_wi, fx_71_12 hx, sh_71, sh_79, pu_rv, pu_as, Value.category, pu_bk, pu_kl, List.replicate, pu_wi_1, pu_wi_2, nl_add, nl_ladd, nl_aa, nl_mul, nl_rmul, nl_mm, pu_qe0, pu_qe1, sh_71, y2, y3, c2]
/-- the places of slots below J, in a row -/
def py_oN (I : Nat → Nat → Int32) (st ru : Nat) (N : pu_M) (J : Nat) (W : Nat → Nat) (n : Nat) : Prop := N.1 71 13 = nI n ∧ (∀ j, j < n → N.1 79 j = nI (pu_sl0 I (W j))) ∧ py_SL (py_aq I ru) (fun k => py_osx I st k ∧ pu_sl0 I k < J) W n
theorem r_ow_i (hw : pu_WF I L) (hst : st < cK I) (hru : ru < 4) {N : pu_M} (hx : pu_fx N) (hr : pu_Rel I L (N.1 72)) {d w n : Nat} {W : Nat → Nat} (hd : d < cD I) (hw2 : w < 2) (hN : py_oN I st ru N (2 * d + w) W n) (t5 : Option Value) : ∃ N1 W1 n1 u5, py_rfo N N1 ∧ py_oN I st ru N1 (2 * d + w + 1) W1 n1 ∧ pu_r 471 [some (.ref 71), some (.int (nI st)), some (.int (nI ru)), some (.int (nI d)), some (.int (nI w)), t5] [] N = pu_r 471 [some (.ref 71), some (.int (nI st)), some (.int (nI ru)), some (.int (nI d)), some (.int (nI (w + 1))), u5] [] N1 := by
  have bD := wx_bD hw
  have bK := wx_bK hw
  have hstL : st < 2147483648 := by omega
  have hc : ¬ 2 ≤ nI w := nI_ge (b := 2) (by omega) (by omega)
  have e3 := r_streetAt hx hr hw d w hd hw2
  obtain ⟨o1, o2, sl⟩ := hN
  have hn := py_osx_n hw hstL (fun k (hk : py_osx I st k ∧ pu_sl0 I k < 2 * d + w) => hk.1) sl
  rcases r_open3 hx hr hw d w st hd hw2 with ⟨k, hk, k1, k2, k3, k4⟩ | ⟨h1, h2⟩
  · have os : py_osx I st k := ⟨hk.1, by rw [hk.2.1]; exact k1, hk.2.2⟩
    rw [k1] at e3
    obtain ⟨b, P, b1, b2, b3, b4, b5, b6, b7, b8⟩ := r_or_l hw hstL hru hn (fun j hj => (sl.1 j hj).1) os (fun j hj e => by
      have := (sl.1 j hj).2
      rw [e, hk.2.1] at this
      omega) hk.2.1 hw2 n N (Nat.le_refl _) hx hr o2 (fun j z1 z2 => by omega)
    have hxP : pu_fx P := pz_fx_of hx b2.1
    have P13 : P.1 71 13 = nI n := b3.trans o1
    obtain ⟨T, hT⟩ : ∃ T, pu_wi (pu_wi P 79 b (nI (2 * d + w))) 71 13 (nI (n + 1)) = T := ⟨_, rfl⟩
    have t79 : ∀ j, T.1 79 j = if j = b then nI (2 * d + w) else P.1 79 j := fun j => by
      rw [← hT, py_wi_o (by omega)]
      by_cases z : j = b
      · rw [if_pos z, z]; simp [pu_wi_1]
      · rw [if_neg z, py_wi_o (by omega)]
    have To : ∀ c j, c ≠ 79 → ¬ (c = 71 ∧ j = 13) → T.1 c j = P.1 c j := fun c j z1 z2 => by rw [← hT, py_wi_o z2, py_wi_o (by omega)]
    have T13 : T.1 71 13 = nI (n + 1) := by rw [← hT]; simp [pu_wi_1]
    have bl : b < 200 := by omega
    refine ⟨T, pu_vi W b k, n + 1, some (.int (nI b)), py_rfo_t b2 ⟨by rw [← hT]; rfl, fun c j z1 z2 => To c j (by omega) z2⟩, ⟨T13, fun j hj => ?_, py_SL_c (py_SL_add sl b1 b6 b7) (fun l => ?_)⟩, ?_⟩
    · rw [t79]
      unfold pu_vi
      by_cases z : j = b
      · have zl : ¬ j < b := by omega
        simp only [if_pos z, if_neg zl]
        rw [hk.2.1]
      · simp only [if_neg z]
        by_cases z2 : j < b
        · simp only [if_pos z2]
          exact b4 j z2
        · simp only [if_neg z2]
          exact b5 j (by omega) (by omega)
    · constructor
      · rintro (z | z)
        · exact ⟨z.1, by omega⟩
        · rw [z]; exact ⟨os, by rw [hk.2.1]; omega⟩
      · rintro ⟨z1, z2⟩
        by_cases q : pu_sl0 I l = 2 * d + w
        · exact Or.inr (pz_os_un hw ⟨z1.1, q, z1.2.2⟩ hk)
        · exact Or.inl ⟨z1, by omega⟩
    · have F12 := fx_71_12 hxP
      have g13 : (pu_wi P 79 b (nI (2 * d + w))).1 71 13 = nI n := by rw [py_wi_o (by omega)]; exact P13
      have K : pu_r 472 [some (.ref 71), some (.int (nI st)), some (.int (nI ru)), some (.int (nI d)), some (.int (nI w)), some (.int (nI n))] [] N = pu_r 471 [some (.ref 71), some (.int (nI st)), some (.int (nI ru)), some (.int (nI d)), some (.int (nI (w + 1))), some (.int (nI b))] [] T := by
        rw [b8]
        have d1 : d < 100 := by omega
        generalize hA : pu_wi P 79 b (nI (2 * d + w)) = A at *
        simp [bX12_orders_168, bX12_orders_191, a_ald, a_dup, a_gi, a_gr, a_iadd, a_ild, a_imul, a_inc, a_pi, a_push, a_wi, sh_71, sh_79, pu_rv, pu_as, Value.category, pu_bk, pu_kl, List.replicate, pu_wi_1, pu_wi_2, nl_add, nl_ladd, nl_aa, nl_mul, nl_rmul, nl_mm, pu_qe0, pu_qe1, bl, d1, hw2, F12, sh_79, hA, P13, g13, hT]
        all_goals try simp (maxSteps := 400000) (disch := omega) [nl_tle, nl_fle, nl_tlt, nl_flt, nl_teq, nl_feq, nl_sub, nl_ss, nl_lt, nl_llt, nl_ltt, nl_le, nl_lle, nl_lee, nl_eq, nl_leq, nl_ee, nl_div, nl_rem, nl_cl, nl_n1, nl_n2, nl_n3, nl_n4, nl_add, nl_ladd, nl_aa, nl_mul, nl_rmul, nl_mm, pu_wi_1, pu_wi_2, bX12_orders_168, bX12_orders_191, a_ald, a_dup, a_gi, a_gr, a_iadd, a_ild, a_imul, a_inc, a_pi, a_push, a_wi, sh_71, sh_79, pu_rv, pu_as, Value.category, pu_bk, pu_kl, pu_qe0, pu_qe1, bl, d1, hw2, F12, sh_79, hA, P13, g13, hT]
        all_goals try simp [bX12_orders_168, bX12_orders_191, a_ald, a_dup, a_gi, a_gr, a_iadd, a_ild, a_imul, a_inc, a_pi, a_push, a_wi, sh_71, sh_79, pu_rv, pu_as, Value.category, pu_bk, pu_kl, List.replicate, pu_wi_1, pu_wi_2, nl_add, nl_ladd, nl_aa, nl_mul, nl_rmul, nl_mm, pu_qe0, pu_qe1, bl, d1, hw2, F12, sh_79, hA, P13, g13, hT]
        all_goals try simp (maxSteps := 400000) (disch := omega) [nl_tle, nl_fle, nl_tlt, nl_flt, nl_teq, nl_feq, nl_sub, nl_ss, nl_lt, nl_llt, nl_ltt, nl_le, nl_lle, nl_lee, nl_eq, nl_leq, nl_ee, nl_div, nl_rem, nl_cl, nl_n1, nl_n2, nl_n3, nl_n4, nl_add, nl_ladd, nl_aa, nl_mul, nl_rmul, nl_mm, pu_wi_1, pu_wi_2, bX12_orders_168, bX12_orders_191, a_ald, a_dup, a_gi, a_gr, a_iadd, a_ild, a_imul, a_inc, a_pi, a_push, a_wi, sh_71, sh_79, pu_rv, pu_as, Value.category, pu_bk, pu_kl, pu_qe0, pu_qe1, bl, d1, hw2, F12, sh_79, hA, P13, g13, hT]
        all_goals try simp [bX12_orders_168, bX12_orders_191, a_ald, a_dup, a_gi, a_gr, a_iadd, a_ild, a_imul, a_inc, a_pi, a_push, a_wi, sh_71, sh_79, pu_rv, pu_as, Value.category, pu_bk, pu_kl, List.replicate, pu_wi_1, pu_wi_2, nl_add, nl_ladd, nl_aa, nl_mul, nl_rmul, nl_mm, pu_qe0, pu_qe1, bl, d1, hw2, F12, sh_79, hA, P13, g13, hT]
        all_goals try simp (maxSteps := 400000) (disch := omega) [nl_tle, nl_fle, nl_tlt, nl_flt, nl_teq, nl_feq, nl_sub, nl_ss, nl_lt, nl_llt, nl_ltt, nl_le, nl_lle, nl_lee, nl_eq, nl_leq, nl_ee, nl_div, nl_rem, nl_cl, nl_n1, nl_n2, nl_n3, nl_n4, nl_add, nl_ladd, nl_aa, nl_mul, nl_rmul, nl_mm, pu_wi_1, pu_wi_2, bX12_orders_168, bX12_orders_191, a_ald, a_dup, a_gi, a_gr, a_iadd, a_ild, a_imul, a_inc, a_pi, a_push, a_wi, sh_71, sh_79, pu_rv, pu_as, Value.category, pu_bk, pu_kl, pu_qe0, pu_qe1, bl, d1, hw2, F12, sh_79, hA, P13, g13, hT]
        all_goals try simp [bX12_orders_168, bX12_orders_191, a_ald, a_dup, a_gi, a_gr, a_iadd, a_ild, a_imul, a_inc, a_pi, a_push, a_wi, sh_71, sh_79, pu_rv, pu_as, Value.category, pu_bk, pu_kl, List.replicate, pu_wi_1, pu_wi_2, nl_add, nl_ladd, nl_aa, nl_mul, nl_rmul, nl_mm, pu_qe0, pu_qe1, bl, d1, hw2, F12, sh_79, hA, P13, g13, hT]
      rw [← K]
      rw [qX12_orders_20]
      simp [bX12_orders_20, bX12_orders_197, bX12_orders_191, bX12_orders_58, a_ald, a_cv, a_gi, a_iceq, a_icge, a_ifeq, a_ild, a_inc, a_ist, a_push, sh_71, pu_rv, pu_as, Value.category, pu_bk, pu_kl, List.replicate, pu_wi_1, pu_wi_2, nl_add, nl_ladd, nl_aa, nl_mul, nl_rmul, nl_mm, pu_qe0, pu_qe1, hc, k2, k3, e3, o1]
      all_goals try simp (maxSteps := 400000) (disch := omega) [nl_tle, nl_fle, nl_tlt, nl_flt, nl_teq, nl_feq, nl_sub, nl_ss, nl_lt, nl_llt, nl_ltt, nl_le, nl_lle, nl_lee, nl_eq, nl_leq, nl_ee, nl_div, nl_rem, nl_cl, nl_n1, nl_n2, nl_n3, nl_n4, nl_add, nl_ladd, nl_aa, nl_mul, nl_rmul, nl_mm, pu_wi_1, pu_wi_2, bX12_orders_20, bX12_orders_197, bX12_orders_191, bX12_orders_58, a_ald, a_cv, a_gi, a_iceq, a_icge, a_ifeq, a_ild, a_inc, a_ist, a_push, sh_71, pu_rv, pu_as, Value.category, pu_bk, pu_kl, pu_qe0, pu_qe1, hc, k2, k3, e3, o1]
      all_goals try simp [bX12_orders_20, bX12_orders_197, bX12_orders_191, bX12_orders_58, a_ald, a_cv, a_gi, a_iceq, a_icge, a_ifeq, a_ild, a_inc, a_ist, a_push, sh_71, pu_rv, pu_as, Value.category, pu_bk, pu_kl, List.replicate, pu_wi_1, pu_wi_2, nl_add, nl_ladd, nl_aa, nl_mul, nl_rmul, nl_mm, pu_qe0, pu_qe1, hc, k2, k3, e3, o1]
      all_goals try simp (maxSteps := 400000) (disch := omega) [nl_tle, nl_fle, nl_tlt, nl_flt, nl_teq, nl_feq, nl_sub, nl_ss, nl_lt, nl_llt, nl_ltt, nl_le, nl_lle, nl_lee, nl_eq, nl_leq, nl_ee, nl_div, nl_rem, nl_cl, nl_n1, nl_n2, nl_n3, nl_n4, nl_add, nl_ladd, nl_aa, nl_mul, nl_rmul, nl_mm, pu_wi_1, pu_wi_2, bX12_orders_20, bX12_orders_197, bX12_orders_191, bX12_orders_58, a_ald, a_cv, a_gi, a_iceq, a_icge, a_ifeq, a_ild, a_inc, a_ist, a_push, sh_71, pu_rv, pu_as, Value.category, pu_bk, pu_kl, pu_qe0, pu_qe1, hc, k2, k3, e3, o1]
      all_goals try simp [bX12_orders_20, bX12_orders_197, bX12_orders_191, bX12_orders_58, a_ald, a_cv, a_gi, a_iceq, a_icge, a_ifeq, a_ild, a_inc, a_ist, a_push, sh_71, pu_rv, pu_as, Value.category, pu_bk, pu_kl, List.replicate, pu_wi_1, pu_wi_2, nl_add, nl_ladd, nl_aa, nl_mul, nl_rmul, nl_mm, pu_qe0, pu_qe1, hc, k2, k3, e3, o1]
      all_goals try simp (maxSteps := 400000) (disch := omega) [nl_tle, nl_fle, nl_tlt, nl_flt, nl_teq, nl_feq, nl_sub, nl_ss, nl_lt, nl_llt, nl_ltt, nl_le, nl_lle, nl_lee, nl_eq, nl_leq, nl_ee, nl_div, nl_rem, nl_cl, nl_n1, nl_n2, nl_n3, nl_n4, nl_add, nl_ladd, nl_aa, nl_mul, nl_rmul, nl_mm, pu_wi_1, pu_wi_2, bX12_orders_20, bX12_orders_197, bX12_orders_191, bX12_orders_58, a_ald, a_cv, a_gi, a_iceq, a_icge, a_ifeq, a_ild, a_inc, a_ist, a_push, sh_71, pu_rv, pu_as, Value.category, pu_bk, pu_kl, pu_qe0, pu_qe1, hc, k2, k3, e3, o1]
      all_goals try simp [bX12_orders_20, bX12_orders_197, bX12_orders_191, bX12_orders_58, a_ald, a_cv, a_gi, a_iceq, a_icge, a_ifeq, a_ild, a_inc, a_ist, a_push, sh_71, pu_rv, pu_as, Value.category, pu_bk, pu_kl, List.replicate, pu_wi_1, pu_wi_2, nl_add, nl_ladd, nl_aa, nl_mul, nl_rmul, nl_mm, pu_qe0, pu_qe1, hc, k2, k3, e3, o1]
  · refine ⟨N, W, n, t5, py_rfo_r N, ⟨o1, o2, py_SL_c sl (fun l => ⟨fun z => ⟨z.1, by omega⟩, fun z => ⟨z.1, by
      have : pu_sl0 I l ≠ 2 * d + w := fun e => h1 l ⟨z.1.1, e, z.1.2.2⟩ (by rw [← e]; exact z.1.2.1)
      have := z.2
      omega⟩⟩)⟩, ?_⟩
    rcases h2 with h2 | ⟨h2, h3 | ⟨h3, h4⟩⟩
    · rw [qX12_orders_20]
      simp [bX12_orders_20, bX12_orders_197, bX12_orders_191, bX12_orders_58, a_ald, a_cv, a_gi, a_iceq, a_icge, a_ifeq, a_ild, a_inc, a_ist, a_push, sh_71, pu_rv, pu_as, Value.category, pu_bk, pu_kl, List.replicate, pu_wi_1, pu_wi_2, nl_add, nl_ladd, nl_aa, nl_mul, nl_rmul, nl_mm, pu_qe0, pu_qe1, hc, h2]
      all_goals try simp (maxSteps := 400000) (disch := omega) [nl_tle, nl_fle, nl_tlt, nl_flt, nl_teq, nl_feq, nl_sub, nl_ss, nl_lt, nl_llt, nl_ltt, nl_le, nl_lle, nl_lee, nl_eq, nl_leq, nl_ee, nl_div, nl_rem, nl_cl, nl_n1, nl_n2, nl_n3, nl_n4, nl_add, nl_ladd, nl_aa, nl_mul, nl_rmul, nl_mm, pu_wi_1, pu_wi_2, bX12_orders_20, bX12_orders_197, bX12_orders_191, bX12_orders_58, a_ald, a_cv, a_gi, a_iceq, a_icge, a_ifeq, a_ild, a_inc, a_ist, a_push, sh_71, pu_rv, pu_as, Value.category, pu_bk, pu_kl, pu_qe0, pu_qe1, hc, h2]
      all_goals try simp [bX12_orders_20, bX12_orders_197, bX12_orders_191, bX12_orders_58, a_ald, a_cv, a_gi, a_iceq, a_icge, a_ifeq, a_ild, a_inc, a_ist, a_push, sh_71, pu_rv, pu_as, Value.category, pu_bk, pu_kl, List.replicate, pu_wi_1, pu_wi_2, nl_add, nl_ladd, nl_aa, nl_mul, nl_rmul, nl_mm, pu_qe0, pu_qe1, hc, h2]
      all_goals try simp (maxSteps := 400000) (disch := omega) [nl_tle, nl_fle, nl_tlt, nl_flt, nl_teq, nl_feq, nl_sub, nl_ss, nl_lt, nl_llt, nl_ltt, nl_le, nl_lle, nl_lee, nl_eq, nl_leq, nl_ee, nl_div, nl_rem, nl_cl, nl_n1, nl_n2, nl_n3, nl_n4, nl_add, nl_ladd, nl_aa, nl_mul, nl_rmul, nl_mm, pu_wi_1, pu_wi_2, bX12_orders_20, bX12_orders_197, bX12_orders_191, bX12_orders_58, a_ald, a_cv, a_gi, a_iceq, a_icge, a_ifeq, a_ild, a_inc, a_ist, a_push, sh_71, pu_rv, pu_as, Value.category, pu_bk, pu_kl, pu_qe0, pu_qe1, hc, h2]
      all_goals try simp [bX12_orders_20, bX12_orders_197, bX12_orders_191, bX12_orders_58, a_ald, a_cv, a_gi, a_iceq, a_icge, a_ifeq, a_ild, a_inc, a_ist, a_push, sh_71, pu_rv, pu_as, Value.category, pu_bk, pu_kl, List.replicate, pu_wi_1, pu_wi_2, nl_add, nl_ladd, nl_aa, nl_mul, nl_rmul, nl_mm, pu_qe0, pu_qe1, hc, h2]
      all_goals try simp (maxSteps := 400000) (disch := omega) [nl_tle, nl_fle, nl_tlt, nl_flt, nl_teq, nl_feq, nl_sub, nl_ss, nl_lt, nl_llt, nl_ltt, nl_le, nl_lle, nl_lee, nl_eq, nl_leq, nl_ee, nl_div, nl_rem, nl_cl, nl_n1, nl_n2, nl_n3, nl_n4, nl_add, nl_ladd, nl_aa, nl_mul, nl_rmul, nl_mm, pu_wi_1, pu_wi_2, bX12_orders_20, bX12_orders_197, bX12_orders_191, bX12_orders_58, a_ald, a_cv, a_gi, a_iceq, a_icge, a_ifeq, a_ild, a_inc, a_ist, a_push, sh_71, pu_rv, pu_as, Value.category, pu_bk, pu_kl, pu_qe0, pu_qe1, hc, h2]
      all_goals try simp [bX12_orders_20, bX12_orders_197, bX12_orders_191, bX12_orders_58, a_ald, a_cv, a_gi, a_iceq, a_icge, a_ifeq, a_ild, a_inc, a_ist, a_push, sh_71, pu_rv, pu_as, Value.category, pu_bk, pu_kl, List.replicate, pu_wi_1, pu_wi_2, nl_add, nl_ladd, nl_aa, nl_mul, nl_rmul, nl_mm, pu_qe0, pu_qe1, hc, h2]
    · rw [qX12_orders_20]
      simp [bX12_orders_20, bX12_orders_197, bX12_orders_191, bX12_orders_58, a_ald, a_cv, a_gi, a_iceq, a_icge, a_ifeq, a_ild, a_inc, a_ist, a_push, sh_71, pu_rv, pu_as, Value.category, pu_bk, pu_kl, List.replicate, pu_wi_1, pu_wi_2, nl_add, nl_ladd, nl_aa, nl_mul, nl_rmul, nl_mm, pu_qe0, pu_qe1, hc, h2, h3]
      all_goals try simp (maxSteps := 400000) (disch := omega) [nl_tle, nl_fle, nl_tlt, nl_flt, nl_teq, nl_feq, nl_sub, nl_ss, nl_lt, nl_llt, nl_ltt, nl_le, nl_lle, nl_lee, nl_eq, nl_leq, nl_ee, nl_div, nl_rem, nl_cl, nl_n1, nl_n2, nl_n3, nl_n4, nl_add, nl_ladd, nl_aa, nl_mul, nl_rmul, nl_mm, pu_wi_1, pu_wi_2, bX12_orders_20, bX12_orders_197, bX12_orders_191, bX12_orders_58, a_ald, a_cv, a_gi, a_iceq, a_icge, a_ifeq, a_ild, a_inc, a_ist, a_push, sh_71, pu_rv, pu_as, Value.category, pu_bk, pu_kl, pu_qe0, pu_qe1, hc, h2, h3]
      all_goals try simp [bX12_orders_20, bX12_orders_197, bX12_orders_191, bX12_orders_58, a_ald, a_cv, a_gi, a_iceq, a_icge, a_ifeq, a_ild, a_inc, a_ist, a_push, sh_71, pu_rv, pu_as, Value.category, pu_bk, pu_kl, List.replicate, pu_wi_1, pu_wi_2, nl_add, nl_ladd, nl_aa, nl_mul, nl_rmul, nl_mm, pu_qe0, pu_qe1, hc, h2, h3]
      all_goals try simp (maxSteps := 400000) (disch := omega) [nl_tle, nl_fle, nl_tlt, nl_flt, nl_teq, nl_feq, nl_sub, nl_ss, nl_lt, nl_llt, nl_ltt, nl_le, nl_lle, nl_lee, nl_eq, nl_leq, nl_ee, nl_div, nl_rem, nl_cl, nl_n1, nl_n2, nl_n3, nl_n4, nl_add, nl_ladd, nl_aa, nl_mul, nl_rmul, nl_mm, pu_wi_1, pu_wi_2, bX12_orders_20, bX12_orders_197, bX12_orders_191, bX12_orders_58, a_ald, a_cv, a_gi, a_iceq, a_icge, a_ifeq, a_ild, a_inc, a_ist, a_push, sh_71, pu_rv, pu_as, Value.category, pu_bk, pu_kl, pu_qe0, pu_qe1, hc, h2, h3]
      all_goals try simp [bX12_orders_20, bX12_orders_197, bX12_orders_191, bX12_orders_58, a_ald, a_cv, a_gi, a_iceq, a_icge, a_ifeq, a_ild, a_inc, a_ist, a_push, sh_71, pu_rv, pu_as, Value.category, pu_bk, pu_kl, List.replicate, pu_wi_1, pu_wi_2, nl_add, nl_ladd, nl_aa, nl_mul, nl_rmul, nl_mm, pu_qe0, pu_qe1, hc, h2, h3]
      all_goals try simp (maxSteps := 400000) (disch := omega) [nl_tle, nl_fle, nl_tlt, nl_flt, nl_teq, nl_feq, nl_sub, nl_ss, nl_lt, nl_llt, nl_ltt, nl_le, nl_lle, nl_lee, nl_eq, nl_leq, nl_ee, nl_div, nl_rem, nl_cl, nl_n1, nl_n2, nl_n3, nl_n4, nl_add, nl_ladd, nl_aa, nl_mul, nl_rmul, nl_mm, pu_wi_1, pu_wi_2, bX12_orders_20, bX12_orders_197, bX12_orders_191, bX12_orders_58, a_ald, a_cv, a_gi, a_iceq, a_icge, a_ifeq, a_ild, a_inc, a_ist, a_push, sh_71, pu_rv, pu_as, Value.category, pu_bk, pu_kl, pu_qe0, pu_qe1, hc, h2, h3]
      all_goals try simp [bX12_orders_20, bX12_orders_197, bX12_orders_191, bX12_orders_58, a_ald, a_cv, a_gi, a_iceq, a_icge, a_ifeq, a_ild, a_inc, a_ist, a_push, sh_71, pu_rv, pu_as, Value.category, pu_bk, pu_kl, List.replicate, pu_wi_1, pu_wi_2, nl_add, nl_ladd, nl_aa, nl_mul, nl_rmul, nl_mm, pu_qe0, pu_qe1, hc, h2, h3]
    · generalize I 39 (2 * d + w) = v39 at *
      generalize nI st = sv at *
      rw [qX12_orders_20]
      simp [bX12_orders_20, bX12_orders_197, bX12_orders_191, bX12_orders_58, a_ald, a_cv, a_gi, a_iceq, a_icge, a_ifeq, a_ild, a_inc, a_ist, a_push, sh_71, pu_rv, pu_as, Value.category, pu_bk, pu_kl, List.replicate, pu_wi_1, pu_wi_2, nl_add, nl_ladd, nl_aa, nl_mul, nl_rmul, nl_mm, pu_qe0, pu_qe1, hc, h2, h3, e3, h4]
      all_goals try simp (maxSteps := 400000) (disch := omega) [nl_tle, nl_fle, nl_tlt, nl_flt, nl_teq, nl_feq, nl_sub, nl_ss, nl_lt, nl_llt, nl_ltt, nl_le, nl_lle, nl_lee, nl_eq, nl_leq, nl_ee, nl_div, nl_rem, nl_cl, nl_n1, nl_n2, nl_n3, nl_n4, nl_add, nl_ladd, nl_aa, nl_mul, nl_rmul, nl_mm, pu_wi_1, pu_wi_2, bX12_orders_20, bX12_orders_197, bX12_orders_191, bX12_orders_58, a_ald, a_cv, a_gi, a_iceq, a_icge, a_ifeq, a_ild, a_inc, a_ist, a_push, sh_71, pu_rv, pu_as, Value.category, pu_bk, pu_kl, pu_qe0, pu_qe1, hc, h2, h3, e3, h4]
      all_goals try simp [bX12_orders_20, bX12_orders_197, bX12_orders_191, bX12_orders_58, a_ald, a_cv, a_gi, a_iceq, a_icge, a_ifeq, a_ild, a_inc, a_ist, a_push, sh_71, pu_rv, pu_as, Value.category, pu_bk, pu_kl, List.replicate, pu_wi_1, pu_wi_2, nl_add, nl_ladd, nl_aa, nl_mul, nl_rmul, nl_mm, pu_qe0, pu_qe1, hc, h2, h3, e3, h4]
      all_goals try simp (maxSteps := 400000) (disch := omega) [nl_tle, nl_fle, nl_tlt, nl_flt, nl_teq, nl_feq, nl_sub, nl_ss, nl_lt, nl_llt, nl_ltt, nl_le, nl_lle, nl_lee, nl_eq, nl_leq, nl_ee, nl_div, nl_rem, nl_cl, nl_n1, nl_n2, nl_n3, nl_n4, nl_add, nl_ladd, nl_aa, nl_mul, nl_rmul, nl_mm, pu_wi_1, pu_wi_2, bX12_orders_20, bX12_orders_197, bX12_orders_191, bX12_orders_58, a_ald, a_cv, a_gi, a_iceq, a_icge, a_ifeq, a_ild, a_inc, a_ist, a_push, sh_71, pu_rv, pu_as, Value.category, pu_bk, pu_kl, pu_qe0, pu_qe1, hc, h2, h3, e3, h4]
      all_goals try simp [bX12_orders_20, bX12_orders_197, bX12_orders_191, bX12_orders_58, a_ald, a_cv, a_gi, a_iceq, a_icge, a_ifeq, a_ild, a_inc, a_ist, a_push, sh_71, pu_rv, pu_as, Value.category, pu_bk, pu_kl, List.replicate, pu_wi_1, pu_wi_2, nl_add, nl_ladd, nl_aa, nl_mul, nl_rmul, nl_mm, pu_qe0, pu_qe1, hc, h2, h3, e3, h4]
      all_goals try simp (maxSteps := 400000) (disch := omega) [nl_tle, nl_fle, nl_tlt, nl_flt, nl_teq, nl_feq, nl_sub, nl_ss, nl_lt, nl_llt, nl_ltt, nl_le, nl_lle, nl_lee, nl_eq, nl_leq, nl_ee, nl_div, nl_rem, nl_cl, nl_n1, nl_n2, nl_n3, nl_n4, nl_add, nl_ladd, nl_aa, nl_mul, nl_rmul, nl_mm, pu_wi_1, pu_wi_2, bX12_orders_20, bX12_orders_197, bX12_orders_191, bX12_orders_58, a_ald, a_cv, a_gi, a_iceq, a_icge, a_ifeq, a_ild, a_inc, a_ist, a_push, sh_71, pu_rv, pu_as, Value.category, pu_bk, pu_kl, pu_qe0, pu_qe1, hc, h2, h3, e3, h4]
      all_goals try simp [bX12_orders_20, bX12_orders_197, bX12_orders_191, bX12_orders_58, a_ald, a_cv, a_gi, a_iceq, a_icge, a_ifeq, a_ild, a_inc, a_ist, a_push, sh_71, pu_rv, pu_as, Value.category, pu_bk, pu_kl, List.replicate, pu_wi_1, pu_wi_2, nl_add, nl_ladd, nl_aa, nl_mul, nl_rmul, nl_mm, pu_qe0, pu_qe1, hc, h2, h3, e3, h4]
theorem r_od_l (hw : pu_WF I L) (hst : st < cK I) (hru : ru < 4) : ∀ (m d : Nat) (N : pu_M) (W : Nat → Nat) (n : Nat) (t4 t5 : Option Value), d + m = cD I → pu_fx N → pu_Rel I L (N.1 72) → py_oN I st ru N (2 * d) W n → ∃ N1 W1 n1, py_rfo N N1 ∧ py_oN I st ru N1 (2 * cD I) W1 n1 ∧ pu_r 470 [some (.ref 71), some (.int (nI st)), some (.int (nI ru)), some (.int (nI d)), t4, t5] [] N = some (none, N1)
  | 0, d, N, W, n, t4, t5, h, hx, hr, hN => by
    have bD := wx_bD hw
    have h4 := rl_h4 hr
    have e : d = cD I := by omega
    have hc : nI (cD I) ≤ nI (cD I) := nI_le (by omega) (by omega)
    refine ⟨N, W, n, py_rfo_r N, by rw [← e]; exact hN, ?_⟩
    rw [e]
    rw [qX12_orders_7]
    simp [bX12_orders_7, bX12_orders_203, a_ai, a_ald, a_gr, a_icge, a_ild, a_ist, a_push, a_vret, fx_71_0 hx, sh_71, sh_72, pu_rv, pu_as, Value.category, pu_bk, pu_kl, List.replicate, pu_wi_1, pu_wi_2, nl_add, nl_ladd, nl_aa, nl_mul, nl_rmul, nl_mm, pu_qe0, pu_qe1, h4, hc]
    all_goals try simp (maxSteps := 400000) (disch := omega) [nl_tle, nl_fle, nl_tlt, nl_flt, nl_teq, nl_feq, nl_sub, nl_ss, nl_lt, nl_llt, nl_ltt, nl_le, nl_lle, nl_lee, nl_eq, nl_leq, nl_ee, nl_div, nl_rem, nl_cl, nl_n1, nl_n2, nl_n3, nl_n4, nl_add, nl_ladd, nl_aa, nl_mul, nl_rmul, nl_mm, pu_wi_1, pu_wi_2, bX12_orders_7, bX12_orders_203, a_ai, a_ald, a_gr, a_icge, a_ild, a_ist, a_push, a_vret, fx_71_0 hx, sh_71, sh_72, pu_rv, pu_as, Value.category, pu_bk, pu_kl, pu_qe0, pu_qe1, h4, hc]
    all_goals try simp [bX12_orders_7, bX12_orders_203, a_ai, a_ald, a_gr, a_icge, a_ild, a_ist, a_push, a_vret, fx_71_0 hx, sh_71, sh_72, pu_rv, pu_as, Value.category, pu_bk, pu_kl, List.replicate, pu_wi_1, pu_wi_2, nl_add, nl_ladd, nl_aa, nl_mul, nl_rmul, nl_mm, pu_qe0, pu_qe1, h4, hc]
    all_goals try simp (maxSteps := 400000) (disch := omega) [nl_tle, nl_fle, nl_tlt, nl_flt, nl_teq, nl_feq, nl_sub, nl_ss, nl_lt, nl_llt, nl_ltt, nl_le, nl_lle, nl_lee, nl_eq, nl_leq, nl_ee, nl_div, nl_rem, nl_cl, nl_n1, nl_n2, nl_n3, nl_n4, nl_add, nl_ladd, nl_aa, nl_mul, nl_rmul, nl_mm, pu_wi_1, pu_wi_2, bX12_orders_7, bX12_orders_203, a_ai, a_ald, a_gr, a_icge, a_ild, a_ist, a_push, a_vret, fx_71_0 hx, sh_71, sh_72, pu_rv, pu_as, Value.category, pu_bk, pu_kl, pu_qe0, pu_qe1, h4, hc]
    all_goals try simp [bX12_orders_7, bX12_orders_203, a_ai, a_ald, a_gr, a_icge, a_ild, a_ist, a_push, a_vret, fx_71_0 hx, sh_71, sh_72, pu_rv, pu_as, Value.category, pu_bk, pu_kl, List.replicate, pu_wi_1, pu_wi_2, nl_add, nl_ladd, nl_aa, nl_mul, nl_rmul, nl_mm, pu_qe0, pu_qe1, h4, hc]
    all_goals try simp (maxSteps := 400000) (disch := omega) [nl_tle, nl_fle, nl_tlt, nl_flt, nl_teq, nl_feq, nl_sub, nl_ss, nl_lt, nl_llt, nl_ltt, nl_le, nl_lle, nl_lee, nl_eq, nl_leq, nl_ee, nl_div, nl_rem, nl_cl, nl_n1, nl_n2, nl_n3, nl_n4, nl_add, nl_ladd, nl_aa, nl_mul, nl_rmul, nl_mm, pu_wi_1, pu_wi_2, bX12_orders_7, bX12_orders_203, a_ai, a_ald, a_gr, a_icge, a_ild, a_ist, a_push, a_vret, fx_71_0 hx, sh_71, sh_72, pu_rv, pu_as, Value.category, pu_bk, pu_kl, pu_qe0, pu_qe1, h4, hc]
    all_goals try simp [bX12_orders_7, bX12_orders_203, a_ai, a_ald, a_gr, a_icge, a_ild, a_ist, a_push, a_vret, fx_71_0 hx, sh_71, sh_72, pu_rv, pu_as, Value.category, pu_bk, pu_kl, List.replicate, pu_wi_1, pu_wi_2, nl_add, nl_ladd, nl_aa, nl_mul, nl_rmul, nl_mm, pu_qe0, pu_qe1, h4, hc]
  | m + 1, d, N, W, n, t4, t5, h, hx, hr, hN => by
    have bD := wx_bD hw
    have h4 := rl_h4 hr
    have hc : ¬ nI (cD I) ≤ nI d := nI_ge (by omega) (by omega)
    have R : ∀ P : pu_M, py_rfo N P → pu_fx P ∧ pu_Rel I L (P.1 72) := fun P hp => ⟨pz_fx_of hx hp.1, by rw [show P.1 72 = N.1 72 from funext (fun j => hp.2 72 j (by omega) (by omega))]; exact hr⟩
    obtain ⟨N1, W1, n1, u1, a1, a2, a3⟩ := r_ow_i hw hst hru hx hr (d := d) (w := 0) (by omega) (by omega) hN t5
    obtain ⟨x1, x2⟩ := R N1 a1
    obtain ⟨N2, W2, n2, u2, b1, b2, b3⟩ := r_ow_i hw hst hru x1 x2 (d := d) (w := 1) (by omega) (by omega) a2 u1
    obtain ⟨y1, y2⟩ := R N2 (py_rfo_t a1 b1)
    obtain ⟨N3, W3, n3, c1, c2, c3⟩ := r_od_l hw hst hru m (d + 1) N2 W2 n2 (some (.int (nI (1 + 1)))) u2 (by omega) y1 y2 (by rw [show 2 * (d + 1) = 2 * d + 1 + 1 by omega]; exact b2)
    refine ⟨N3, W3, n3, py_rfo_t a1 (py_rfo_t b1 c1), c2, ?_⟩
    rw [nI_0] at a3
    have z : pu_r 471 [some (.ref 71), some (.int (nI st)), some (.int (nI ru)), some (.int (nI d)), some (.int 0), t5] [] N = some (none, N3) := by
      rw [a3, b3, ← c3]
      have h2 : 2 ≤ nI (1 + 1) := by decide
      rw [qX12_orders_20]
      simp [bX12_orders_20, bX12_orders_197, bX12_orders_191, bX12_orders_58, a_ald, a_cv, a_gi, a_iceq, a_icge, a_ifeq, a_ild, a_inc, a_ist, a_push, sh_71, pu_rv, pu_as, Value.category, pu_bk, pu_kl, List.replicate, pu_wi_1, pu_wi_2, nl_add, nl_ladd, nl_aa, nl_mul, nl_rmul, nl_mm, pu_qe0, pu_qe1, h2]
      all_goals try simp (maxSteps := 400000) (disch := omega) [nl_tle, nl_fle, nl_tlt, nl_flt, nl_teq, nl_feq, nl_sub, nl_ss, nl_lt, nl_llt, nl_ltt, nl_le, nl_lle, nl_lee, nl_eq, nl_leq, nl_ee, nl_div, nl_rem, nl_cl, nl_n1, nl_n2, nl_n3, nl_n4, nl_add, nl_ladd, nl_aa, nl_mul, nl_rmul, nl_mm, pu_wi_1, pu_wi_2, bX12_orders_20, bX12_orders_197, bX12_orders_191, bX12_orders_58, a_ald, a_cv, a_gi, a_iceq, a_icge, a_ifeq, a_ild, a_inc, a_ist, a_push, sh_71, pu_rv, pu_as, Value.category, pu_bk, pu_kl, pu_qe0, pu_qe1, h2]
      all_goals try simp [bX12_orders_20, bX12_orders_197, bX12_orders_191, bX12_orders_58, a_ald, a_cv, a_gi, a_iceq, a_icge, a_ifeq, a_ild, a_inc, a_ist, a_push, sh_71, pu_rv, pu_as, Value.category, pu_bk, pu_kl, List.replicate, pu_wi_1, pu_wi_2, nl_add, nl_ladd, nl_aa, nl_mul, nl_rmul, nl_mm, pu_qe0, pu_qe1, h2]
      all_goals try simp (maxSteps := 400000) (disch := omega) [nl_tle, nl_fle, nl_tlt, nl_flt, nl_teq, nl_feq, nl_sub, nl_ss, nl_lt, nl_llt, nl_ltt, nl_le, nl_lle, nl_lee, nl_eq, nl_leq, nl_ee, nl_div, nl_rem, nl_cl, nl_n1, nl_n2, nl_n3, nl_n4, nl_add, nl_ladd, nl_aa, nl_mul, nl_rmul, nl_mm, pu_wi_1, pu_wi_2, bX12_orders_20, bX12_orders_197, bX12_orders_191, bX12_orders_58, a_ald, a_cv, a_gi, a_iceq, a_icge, a_ifeq, a_ild, a_inc, a_ist, a_push, sh_71, pu_rv, pu_as, Value.category, pu_bk, pu_kl, pu_qe0, pu_qe1, h2]
      all_goals try simp [bX12_orders_20, bX12_orders_197, bX12_orders_191, bX12_orders_58, a_ald, a_cv, a_gi, a_iceq, a_icge, a_ifeq, a_ild, a_inc, a_ist, a_push, sh_71, pu_rv, pu_as, Value.category, pu_bk, pu_kl, List.replicate, pu_wi_1, pu_wi_2, nl_add, nl_ladd, nl_aa, nl_mul, nl_rmul, nl_mm, pu_qe0, pu_qe1, h2]
      all_goals try simp (maxSteps := 400000) (disch := omega) [nl_tle, nl_fle, nl_tlt, nl_flt, nl_teq, nl_feq, nl_sub, nl_ss, nl_lt, nl_llt, nl_ltt, nl_le, nl_lle, nl_lee, nl_eq, nl_leq, nl_ee, nl_div, nl_rem, nl_cl, nl_n1, nl_n2, nl_n3, nl_n4, nl_add, nl_ladd, nl_aa, nl_mul, nl_rmul, nl_mm, pu_wi_1, pu_wi_2, bX12_orders_20, bX12_orders_197, bX12_orders_191, bX12_orders_58, a_ald, a_cv, a_gi, a_iceq, a_icge, a_ifeq, a_ild, a_inc, a_ist, a_push, sh_71, pu_rv, pu_as, Value.category, pu_bk, pu_kl, pu_qe0, pu_qe1, h2]
      all_goals try simp [bX12_orders_20, bX12_orders_197, bX12_orders_191, bX12_orders_58, a_ald, a_cv, a_gi, a_iceq, a_icge, a_ifeq, a_ild, a_inc, a_ist, a_push, sh_71, pu_rv, pu_as, Value.category, pu_bk, pu_kl, List.replicate, pu_wi_1, pu_wi_2, nl_add, nl_ladd, nl_aa, nl_mul, nl_rmul, nl_mm, pu_qe0, pu_qe1, h2]
    rw [qX12_orders_7]
    simp [bX12_orders_7, bX12_orders_203, a_ai, a_ald, a_gr, a_icge, a_ild, a_ist, a_push, a_vret, fx_71_0 hx, sh_71, sh_72, pu_rv, pu_as, Value.category, pu_bk, pu_kl, List.replicate, pu_wi_1, pu_wi_2, nl_add, nl_ladd, nl_aa, nl_mul, nl_rmul, nl_mm, pu_qe0, pu_qe1, h4, hc, z]
    all_goals try simp (maxSteps := 400000) (disch := omega) [nl_tle, nl_fle, nl_tlt, nl_flt, nl_teq, nl_feq, nl_sub, nl_ss, nl_lt, nl_llt, nl_ltt, nl_le, nl_lle, nl_lee, nl_eq, nl_leq, nl_ee, nl_div, nl_rem, nl_cl, nl_n1, nl_n2, nl_n3, nl_n4, nl_add, nl_ladd, nl_aa, nl_mul, nl_rmul, nl_mm, pu_wi_1, pu_wi_2, bX12_orders_7, bX12_orders_203, a_ai, a_ald, a_gr, a_icge, a_ild, a_ist, a_push, a_vret, fx_71_0 hx, sh_71, sh_72, pu_rv, pu_as, Value.category, pu_bk, pu_kl, pu_qe0, pu_qe1, h4, hc, z]
    all_goals try simp [bX12_orders_7, bX12_orders_203, a_ai, a_ald, a_gr, a_icge, a_ild, a_ist, a_push, a_vret, fx_71_0 hx, sh_71, sh_72, pu_rv, pu_as, Value.category, pu_bk, pu_kl, List.replicate, pu_wi_1, pu_wi_2, nl_add, nl_ladd, nl_aa, nl_mul, nl_rmul, nl_mm, pu_qe0, pu_qe1, h4, hc, z]
    all_goals try simp (maxSteps := 400000) (disch := omega) [nl_tle, nl_fle, nl_tlt, nl_flt, nl_teq, nl_feq, nl_sub, nl_ss, nl_lt, nl_llt, nl_ltt, nl_le, nl_lle, nl_lee, nl_eq, nl_leq, nl_ee, nl_div, nl_rem, nl_cl, nl_n1, nl_n2, nl_n3, nl_n4, nl_add, nl_ladd, nl_aa, nl_mul, nl_rmul, nl_mm, pu_wi_1, pu_wi_2, bX12_orders_7, bX12_orders_203, a_ai, a_ald, a_gr, a_icge, a_ild, a_ist, a_push, a_vret, fx_71_0 hx, sh_71, sh_72, pu_rv, pu_as, Value.category, pu_bk, pu_kl, pu_qe0, pu_qe1, h4, hc, z]
    all_goals try simp [bX12_orders_7, bX12_orders_203, a_ai, a_ald, a_gr, a_icge, a_ild, a_ist, a_push, a_vret, fx_71_0 hx, sh_71, sh_72, pu_rv, pu_as, Value.category, pu_bk, pu_kl, List.replicate, pu_wi_1, pu_wi_2, nl_add, nl_ladd, nl_aa, nl_mul, nl_rmul, nl_mm, pu_qe0, pu_qe1, h4, hc, z]
    all_goals try simp (maxSteps := 400000) (disch := omega) [nl_tle, nl_fle, nl_tlt, nl_flt, nl_teq, nl_feq, nl_sub, nl_ss, nl_lt, nl_llt, nl_ltt, nl_le, nl_lle, nl_lee, nl_eq, nl_leq, nl_ee, nl_div, nl_rem, nl_cl, nl_n1, nl_n2, nl_n3, nl_n4, nl_add, nl_ladd, nl_aa, nl_mul, nl_rmul, nl_mm, pu_wi_1, pu_wi_2, bX12_orders_7, bX12_orders_203, a_ai, a_ald, a_gr, a_icge, a_ild, a_ist, a_push, a_vret, fx_71_0 hx, sh_71, sh_72, pu_rv, pu_as, Value.category, pu_bk, pu_kl, pu_qe0, pu_qe1, h4, hc, z]
    all_goals try simp [bX12_orders_7, bX12_orders_203, a_ai, a_ald, a_gr, a_icge, a_ild, a_ist, a_push, a_vret, fx_71_0 hx, sh_71, sh_72, pu_rv, pu_as, Value.category, pu_bk, pu_kl, List.replicate, pu_wi_1, pu_wi_2, nl_add, nl_ladd, nl_aa, nl_mul, nl_rmul, nl_mm, pu_qe0, pu_qe1, h4, hc, z]
theorem r_orders (hw : pu_WF I L) (hst : st < cK I) (hru : ru < 4) {N : pu_M} (hx : pu_fx N) (hr : pu_Rel I L (N.1 72)) {V : Nat → Nat} {n : Nat} (SLV : py_SL (py_aq I ru) (py_osx I st) V n) : ∃ N1, py_rfo N N1 ∧ N1.1 71 13 = nI n ∧ (∀ j, j < n → N1.1 79 j = nI (pu_sl0 I (V j))) ∧ pu_r 294 [some (.ref 71), some (.int (nI st)), some (.int (nI ru))] [] N = some (none, N1) := by
  obtain ⟨A, hA⟩ : ∃ A, pu_wi N 71 13 0 = A := ⟨_, rfl⟩
  have A13 : A.1 71 13 = nI 0 := by rw [← hA]; simp [pu_wi_1]; rfl
  have rA : py_rfo N A := ⟨by rw [← hA]; rfl, fun c j _ z => by rw [← hA, py_wi_o z]⟩
  obtain ⟨N1, W, m, a1, ⟨o1, o2, o3⟩, a3⟩ := r_od_l hw hst hru (cD I) 0 A (fun _ => 0) 0 none none (by omega) (pz_fx_of hx rA.1) (by rw [show A.1 72 = N.1 72 from funext (fun j => rA.2 72 j (by omega) (by omega))]; exact hr) ⟨A13, fun j hj => by omega, ⟨fun a ha => by omega, fun k hk => by have := hk.2; omega, fun a b _ hb => by omega⟩⟩
  have SLW : py_SL (py_aq I ru) (py_osx I st) W m := py_SL_c o3 (fun k => ⟨fun z => z.1, fun z => ⟨z, (pu_sl_lt hw z.1).1⟩⟩)
  obtain ⟨u1, u2⟩ := py_SL_un SLW SLV
  refine ⟨N1, py_rfo_t rA a1, by rw [← u1]; exact o1, fun j hj => by rw [o2 j (by omega), u2 j (by omega)], ?_⟩
  rw [nI_0] at a3
  rw [qX12_orders]
  simp [a_ent, bX12_orders_0, a_ald, a_ist, a_pi, a_push, sh_71, pu_rv, pu_as, Value.category, pu_bk, pu_kl, List.replicate, pu_wi_1, pu_wi_2, nl_add, nl_ladd, nl_aa, nl_mul, nl_rmul, nl_mm, pu_qe0, pu_qe1, hA, a3]
  all_goals try simp (maxSteps := 400000) (disch := omega) [nl_tle, nl_fle, nl_tlt, nl_flt, nl_teq, nl_feq, nl_sub, nl_ss, nl_lt, nl_llt, nl_ltt, nl_le, nl_lle, nl_lee, nl_eq, nl_leq, nl_ee, nl_div, nl_rem, nl_cl, nl_n1, nl_n2, nl_n3, nl_n4, nl_add, nl_ladd, nl_aa, nl_mul, nl_rmul, nl_mm, pu_wi_1, pu_wi_2, bX12_orders_0, a_ald, a_ist, a_pi, a_push, sh_71, pu_rv, pu_as, Value.category, pu_bk, pu_kl, pu_qe0, pu_qe1, hA, a3]
  all_goals try simp [bX12_orders_0, a_ald, a_ist, a_pi, a_push, sh_71, pu_rv, pu_as, Value.category, pu_bk, pu_kl, List.replicate, pu_wi_1, pu_wi_2, nl_add, nl_ladd, nl_aa, nl_mul, nl_rmul, nl_mm, pu_qe0, pu_qe1, hA, a3]
  all_goals try simp (maxSteps := 400000) (disch := omega) [nl_tle, nl_fle, nl_tlt, nl_flt, nl_teq, nl_feq, nl_sub, nl_ss, nl_lt, nl_llt, nl_ltt, nl_le, nl_lle, nl_lee, nl_eq, nl_leq, nl_ee, nl_div, nl_rem, nl_cl, nl_n1, nl_n2, nl_n3, nl_n4, nl_add, nl_ladd, nl_aa, nl_mul, nl_rmul, nl_mm, pu_wi_1, pu_wi_2, bX12_orders_0, a_ald, a_ist, a_pi, a_push, sh_71, pu_rv, pu_as, Value.category, pu_bk, pu_kl, pu_qe0, pu_qe1, hA, a3]
  all_goals try simp [bX12_orders_0, a_ald, a_ist, a_pi, a_push, sh_71, pu_rv, pu_as, Value.category, pu_bk, pu_kl, List.replicate, pu_wi_1, pu_wi_2, nl_add, nl_ladd, nl_aa, nl_mul, nl_rmul, nl_mm, pu_qe0, pu_qe1, hA, a3]
  all_goals try simp (maxSteps := 400000) (disch := omega) [nl_tle, nl_fle, nl_tlt, nl_flt, nl_teq, nl_feq, nl_sub, nl_ss, nl_lt, nl_llt, nl_ltt, nl_le, nl_lle, nl_lee, nl_eq, nl_leq, nl_ee, nl_div, nl_rem, nl_cl, nl_n1, nl_n2, nl_n3, nl_n4, nl_add, nl_ladd, nl_aa, nl_mul, nl_rmul, nl_mm, pu_wi_1, pu_wi_2, bX12_orders_0, a_ald, a_ist, a_pi, a_push, sh_71, pu_rv, pu_as, Value.category, pu_bk, pu_kl, pu_qe0, pu_qe1, hA, a3]
  all_goals try simp [bX12_orders_0, a_ald, a_ist, a_pi, a_push, sh_71, pu_rv, pu_as, Value.category, pu_bk, pu_kl, List.replicate, pu_wi_1, pu_wi_2, nl_add, nl_ladd, nl_aa, nl_mul, nl_rmul, nl_mm, pu_qe0, pu_qe1, hA, a3]
end
