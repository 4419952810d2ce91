/-! row -/
theorem pz_km_0 (M : pu_M) (r : Nat) (w : Nat → Int32) : pz_km M r 0 w = M := by
  unfold pz_km
  have : (fun a j => if a = 30 ∧ r * 100 ≤ j ∧ j < r * 100 + 100 ∧ j < r * 100 + 0 then w (j - r * 100) else M.1 a j) = M.1 := by
    funext a j
    rw [if_neg (by omega)]
  rw [this]
theorem pz_rm_0 (M : pu_M) (a0 : Nat) (w : Nat → Int32) : pz_rm M a0 0 w = M := by
  unfold pz_rm
  have : (fun a j => if a = 72 ∧ a0 < j ∧ j ≤ a0 + 0 then w (j - (a0 + 1)) else M.1 a j) = M.1 := by
    funext a j
    rw [if_neg (by omega)]
  rw [this]
theorem pz_tk_o {M : pu_M} {t a j : Nat} (h : ¬ (a = 71 ∧ (j = 4 ∨ j = 6))) (h2 : ¬ a = 76) : (pu_tk M t).1 a j = M.1 a j := by
  unfold pu_tk
  simp only [pu_wi_1, pu_cb_1]
  grind
theorem pz_tk_b {M : pu_M} {t j : Nat} (h : j < t) : (pu_tk M t).1 76 j &&& 255 = M.1 75 j &&& 255 := by
  unfold pu_tk
  simp only [pu_wi_1, pu_cb_1]
  simp [h, pu_by255]
theorem pz_tk_6 {M : pu_M} {t : Nat} : (pu_tk M t).1 71 6 = nI t := by
  unfold pu_tk
  simp [pu_wi_1, pu_cb_1]
/-- a call that takes the tape: behind it the tape is empty on both sides -/
theorem pu_Inv_tk {M N : pu_M} (h : pu_Inv M) (e2 : N.2 = M.2) (h0 : N.1 1 0 = 0) (h4 : N.1 71 4 = 0) (h8 : N.1 71 8 = M.1 71 8) (h1 : ∀ a j, a = 3 ∨ a = 4 ∨ (5 ≤ a ∧ a < 58) ∨ (72 ≤ a ∧ a ≤ 74) ∨ a = 77 ∨ 86 ≤ a → N.1 a j = M.1 a j) : pu_Inv N := by
  refine pu_Inv_sc h ?_ (by rw [e2]) (fun a j _ => by rw [e2]) (fun a j q => h1 a j (by omega)) (fun a j _ => by rw [e2]) ⟨0, by omega, h0, h4, fun j hj => by omega⟩ (pu_ou_fr h.2.2.1 (h1 _ _ (by omega)) h8 (fun j => h1 _ _ (by omega)) (fun j => h1 _ _ (by omega)))
  intro a k r q
  rw [e2]
  exact h.1 a k r q
theorem op_row (x y : Int32) : pu_op pu_Inv 124 298 [.int x, .int y] := by
  intro M h
  have hx := h.1
  have hI := pu_ag5 M
  have hr := pu_hR h
  have hw := pu_hS h
  have hK := wx_bK hw
  obtain ⟨t, t1, t2, t3, t4⟩ := h.2.1
  have e1 := c_isStreet hx hI hw x
  have e5 := c_isSide y M
  have rem : nI t - nI t / 2 * 2 = nI (t % 2) := pk_rem (d := 2) (by omega) (by omega) (by omega)
  have dv : nI t / 2 = nI (t / 2) := pk_div (d := 2) (by omega) (by omega) (by omega)
  -- the reference behind takes, from a memory that has the office as M, the class's tape emptied or not
  have rf : ∀ N : pu_M, N.2 = M.2 → (∀ a j, a = 72 ∨ a = 75 ∨ a = 71 → N.1 a j = M.1 a j) → pu_fx (pu_tk N t) ∧ pu_Rel (pu_si M 5) (pu_sj M 5) ((pu_tk N t).1 72) ∧ pu_r 233 [some (.ref 71)] [] N = some (none, pu_tk N t) := fun N n1 n2 => by
    have hxN : pu_fx N := fun a k r q => by
      rw [n1]
      exact hx a k r q
    refine ⟨hxN, ?_, e_X12_takes hxN (by rw [n2 71 4 (by omega)]; exact t3) t1⟩
    rw [show (pu_tk N t).1 72 = M.1 72 from funext (fun j => by rw [pz_tk_o (by omega) (by omega), n2 72 j (by omega)])]
    exact hr
  have bad : ∀ v : Int32, pu_r 123 [some (.ref 0), some (.int x), some (.int y)] [] M = some (some (.int v), M) → (∀ N, pu_fx (pu_tk N t) → pu_Rel (pu_si M 5) (pu_sj M 5) ((pu_tk N t).1 72) → pu_r 233 [some (.ref 71)] [] N = some (none, pu_tk N t) → pu_r 298 [some (.ref 71), some (.int x), some (.int y)] [] N = some (some (.int v), pu_tk N t)) → ∃ (v : Int32) (M1 M2 : pu_M), pu_r 124 (pu_as (.ref 0 :: [.int x, .int y])) [] M = some (some (.int v), M1) ∧ pu_r 298 (pu_as (.ref 71 :: [.int x, .int y])) [] M1 = some (some (.int v), M2) ∧ pu_Inv M2 := fun v a1 a2 => by
    refine ⟨v, pu_wi M 1 0 0, pu_tk (pu_wi M 1 0 0) t, ?_, ?_, pu_Inv_tk h rfl ?_ ?_ ?_ (fun a j q => ?_)⟩
    · rw [qX11_row]
      simp [a_ent, bX11_row_0, a_ald, a_cv, a_gr, a_ild, a_iret, a_ist, a_pi, a_push, fx_0_0 hx, sh_0, sh_1, sh_3, pu_rv, pu_as, Value.category, pu_bk, pu_kl, List.replicate, pu_wi_1, pu_wi_2, nl_add, nl_ladd, nl_aa, nl_mul, nl_rmul, nl_mm, pu_qe0, pu_qe1, a1]
      all_goals try simp (maxSteps := 400000) (disch := omega) [nl_tle, nl_fle, nl_tlt, nl_flt, nl_teq, nl_feq, nl_sub, nl_ss, nl_lt, nl_llt, nl_ltt, nl_le, nl_lle, nl_lee, nl_eq, nl_leq, nl_ee, nl_div, nl_rem, nl_cl, nl_n1, nl_n2, nl_n3, nl_n4, nl_add, nl_ladd, nl_aa, nl_mul, nl_rmul, nl_mm, pu_wi_1, pu_wi_2, bX11_row_0, a_ald, a_cv, a_gr, a_ild, a_iret, a_ist, a_pi, a_push, fx_0_0 hx, sh_0, sh_1, sh_3, pu_rv, pu_as, Value.category, pu_bk, pu_kl, pu_qe0, pu_qe1, a1]
      all_goals try simp [bX11_row_0, a_ald, a_cv, a_gr, a_ild, a_iret, a_ist, a_pi, a_push, fx_0_0 hx, sh_0, sh_1, sh_3, pu_rv, pu_as, Value.category, pu_bk, pu_kl, List.replicate, pu_wi_1, pu_wi_2, nl_add, nl_ladd, nl_aa, nl_mul, nl_rmul, nl_mm, pu_qe0, pu_qe1, a1]
      all_goals try simp (maxSteps := 400000) (disch := omega) [nl_tle, nl_fle, nl_tlt, nl_flt, nl_teq, nl_feq, nl_sub, nl_ss, nl_lt, nl_llt, nl_ltt, nl_le, nl_lle, nl_lee, nl_eq, nl_leq, nl_ee, nl_div, nl_rem, nl_cl, nl_n1, nl_n2, nl_n3, nl_n4, nl_add, nl_ladd, nl_aa, nl_mul, nl_rmul, nl_mm, pu_wi_1, pu_wi_2, bX11_row_0, a_ald, a_cv, a_gr, a_ild, a_iret, a_ist, a_pi, a_push, fx_0_0 hx, sh_0, sh_1, sh_3, pu_rv, pu_as, Value.category, pu_bk, pu_kl, pu_qe0, pu_qe1, a1]
    · obtain ⟨b1, b2, b3⟩ := rf (pu_wi M 1 0 0) rfl (fun a j q => by rw [pu_wi_1, if_neg (by omega)])
      exact a2 _ b1 b2 b3
    · rw [pz_tk_o (by omega) (by omega)]
      simp [pu_wi_1]
    · simp [pu_tk, pu_wi_1]
    · rw [pz_tk_o (by omega) (by omega)]
      simp [pu_wi_1]
    · rw [pz_tk_o (by omega) (by omega), pu_wi_1, if_neg (by omega)]
  by_cases hd : ¬ x < 0 ∧ x < nI (cK (pu_si M 5))
  · obtain ⟨k, hk, rfl⟩ := pu_st_of (by omega) hd
    rw [pu_q1 hd] at e1
    by_cases hy : y = 0 ∨ y = 1
    · obtain ⟨w, hw2, rfl⟩ := pz_sn hy
      rw [pu_q1 hy] at e5
      have i1 : ¬ nI w < 0 := nI_pos (by omega)
      have i2 : ¬ 1 < nI w := fun q => by rw [show (1 : Int32) = nI 1 from rfl, nI_ltI (by omega) (by omega)] at q; omega
      by_cases c : t % 2 = 0
      · have W : ∀ i, i < t / 2 → ∃ b : Nat, b < 65536 ∧ M.1 2 (2 * i) * 256 + M.1 2 (2 * i + 1) = nI b := fun i hi => by
          rw [t4 _ (by omega), t4 _ (by omega)]
          obtain ⟨b1, b2, b3⟩ := pz_byte (M.1 75 (2 * i))
          obtain ⟨c1, c2, c3⟩ := pz_byte (M.1 75 (2 * i + 1))
          refine ⟨b1 * 256 + c1, by omega, ?_⟩
          rw [b3, c3, show (256 : Int32) = nI 256 from rfl, pk_mul, nI_add]
        have f2 : pu_r 121 [some (.ref 25), some (.int (nI k)), some (.int (nI w)), some (.int (nI (t / 2)))] [] M = some (none, pu_wi M 29 (2 * k + w) (nI (t / 2))) := by
          rw [qX10_setRowLength]
          simp [a_ent, bX10_setRowLength_0, a_ald, a_gr, a_iadd, a_ild, a_imul, a_push, a_vret, a_wi, fx_25_5 hx, sh_25, sh_29, pu_rv, pu_as, Value.category, pu_bk, pu_kl, List.replicate, pu_wi_1, pu_wi_2, nl_add, nl_ladd, nl_aa, nl_mul, nl_rmul, nl_mm, pu_qe0, pu_qe1]
          all_goals try simp (maxSteps := 400000) (disch := omega) [nl_tle, nl_fle, nl_tlt, nl_flt, nl_teq, nl_feq, nl_sub, nl_ss, nl_lt, nl_llt, nl_ltt, nl_le, nl_lle, nl_lee, nl_eq, nl_leq, nl_ee, nl_div, nl_rem, nl_cl, nl_n1, nl_n2, nl_n3, nl_n4, nl_add, nl_ladd, nl_aa, nl_mul, nl_rmul, nl_mm, pu_wi_1, pu_wi_2, bX10_setRowLength_0, a_ald, a_gr, a_iadd, a_ild, a_imul, a_push, a_vret, a_wi, fx_25_5 hx, sh_25, sh_29, pu_rv, pu_as, Value.category, pu_bk, pu_kl, pu_qe0, pu_qe1]
          all_goals try simp [bX10_setRowLength_0, a_ald, a_gr, a_iadd, a_ild, a_imul, a_push, a_vret, a_wi, fx_25_5 hx, sh_25, sh_29, pu_rv, pu_as, Value.category, pu_bk, pu_kl, List.replicate, pu_wi_1, pu_wi_2, nl_add, nl_ladd, nl_aa, nl_mul, nl_rmul, nl_mm, pu_qe0, pu_qe1]
          all_goals try simp (maxSteps := 400000) (disch := omega) [nl_tle, nl_fle, nl_tlt, nl_flt, nl_teq, nl_feq, nl_sub, nl_ss, nl_lt, nl_llt, nl_ltt, nl_le, nl_lle, nl_lee, nl_eq, nl_leq, nl_ee, nl_div, nl_rem, nl_cl, nl_n1, nl_n2, nl_n3, nl_n4, nl_add, nl_ladd, nl_aa, nl_mul, nl_rmul, nl_mm, pu_wi_1, pu_wi_2, bX10_setRowLength_0, a_ald, a_gr, a_iadd, a_ild, a_imul, a_push, a_vret, a_wi, fx_25_5 hx, sh_25, sh_29, pu_rv, pu_as, Value.category, pu_bk, pu_kl, pu_qe0, pu_qe1]
        have f3 := c_row_l (M := pu_wi M 29 (2 * k + w) (nI (t / 2))) hx k w (t / 2) (fun i => M.1 2 (2 * i) * 256 + M.1 2 (2 * i + 1)) (by omega) hw2 (by omega) (fun i hi => by simp [pu_wi_1]) (t / 2) 0 (by omega)
        rw [pz_km_0, nI_0] at f3
        have f4 : pu_r 123 [some (.ref 0), some (.int (nI k)), some (.int (nI w))] [] M = some (some (.int (nI (t / 2))), pz_km (pu_wi M 29 (2 * k + w) (nI (t / 2))) (2 * k + w) (t / 2) (fun i => M.1 2 (2 * i) * 256 + M.1 2 (2 * i + 1))) := by
          rw [qX11_keepRow]
          simp [a_ent, bX11_keepRow_0, bX11_keepRow_16, bX11_keepRow_35, bX11_keepRow_38, a_ald, a_cs, a_cv, a_gi, a_gr, a_idiv, a_ifeq, a_ifne, a_ild, a_irem, a_iret, a_ist, a_push, fx_0_0 hx, fx_0_2 hx, fx_5_3 hx, sh_0, sh_1, sh_25, sh_3, sh_5, pu_rv, pu_as, Value.category, pu_bk, pu_kl, List.replicate, pu_wi_1, pu_wi_2, nl_add, nl_ladd, nl_aa, nl_mul, nl_rmul, nl_mm, pu_qe0, pu_qe1, e1, e5, t2, rem, c, dv, f2, f3]
          all_goals try simp (maxSteps := 400000) (disch := omega) [nl_tle, nl_fle, nl_tlt, nl_flt, nl_teq, nl_feq, nl_sub, nl_ss, nl_lt, nl_llt, nl_ltt, nl_le, nl_lle, nl_lee, nl_eq, nl_leq, nl_ee, nl_div, nl_rem, nl_cl, nl_n1, nl_n2, nl_n3, nl_n4, nl_add, nl_ladd, nl_aa, nl_mul, nl_rmul, nl_mm, pu_wi_1, pu_wi_2, bX11_keepRow_0, bX11_keepRow_16, bX11_keepRow_35, bX11_keepRow_38, a_ald, a_cs, a_cv, a_gi, a_gr, a_idiv, a_ifeq, a_ifne, a_ild, a_irem, a_iret, a_ist, a_push, fx_0_0 hx, fx_0_2 hx, fx_5_3 hx, sh_0, sh_1, sh_25, sh_3, sh_5, pu_rv, pu_as, Value.category, pu_bk, pu_kl, pu_qe0, pu_qe1, e1, e5, t2, rem, c, dv, f2, f3]
          all_goals try simp [bX11_keepRow_0, bX11_keepRow_16, bX11_keepRow_35, bX11_keepRow_38, a_ald, a_cs, a_cv, a_gi, a_gr, a_idiv, a_ifeq, a_ifne, a_ild, a_irem, a_iret, a_ist, a_push, fx_0_0 hx, fx_0_2 hx, fx_5_3 hx, sh_0, sh_1, sh_25, sh_3, sh_5, pu_rv, pu_as, Value.category, pu_bk, pu_kl, List.replicate, pu_wi_1, pu_wi_2, nl_add, nl_ladd, nl_aa, nl_mul, nl_rmul, nl_mm, pu_qe0, pu_qe1, e1, e5, t2, rem, c, dv, f2, f3]
          all_goals try simp (maxSteps := 400000) (disch := omega) [nl_tle, nl_fle, nl_tlt, nl_flt, nl_teq, nl_feq, nl_sub, nl_ss, nl_lt, nl_llt, nl_ltt, nl_le, nl_lle, nl_lee, nl_eq, nl_leq, nl_ee, nl_div, nl_rem, nl_cl, nl_n1, nl_n2, nl_n3, nl_n4, nl_add, nl_ladd, nl_aa, nl_mul, nl_rmul, nl_mm, pu_wi_1, pu_wi_2, bX11_keepRow_0, bX11_keepRow_16, bX11_keepRow_35, bX11_keepRow_38, a_ald, a_cs, a_cv, a_gi, a_gr, a_idiv, a_ifeq, a_ifne, a_ild, a_irem, a_iret, a_ist, a_push, fx_0_0 hx, fx_0_2 hx, fx_5_3 hx, sh_0, sh_1, sh_25, sh_3, sh_5, pu_rv, pu_as, Value.category, pu_bk, pu_kl, pu_qe0, pu_qe1, e1, e5, t2, rem, c, dv, f2, f3]
        obtain ⟨N, hN⟩ : ∃ N, N = pu_wi (pz_km (pu_wi M 29 (2 * k + w) (nI (t / 2))) (2 * k + w) (t / 2) (fun i => M.1 2 (2 * i) * 256 + M.1 2 (2 * i + 1))) 1 0 0 := ⟨_, rfl⟩
        have hN1 : ∀ a j, ¬ (a = 1 ∧ j = 0) → a ≠ 29 → a ≠ 30 → N.1 a j = M.1 a j := fun a j q1 q2 q3 => by
          rw [hN, pu_wi_1]
          rw [pz_km_1 q3, pu_wi_1, if_neg q2]
          grind
        have hN2 : N.2 = M.2 := by rw [hN]; rfl
        obtain ⟨b1, b2, b3⟩ := rf N hN2 (fun a j q => hN1 a j (by omega) (by omega) (by omega))
        have g0 := r_isStreet b1 b2 (nI k)
        rw [pu_q1 hd] at g0
        have g1 := r_row_l (M := pu_wi (pu_tk N t) 72 (30632 + 601 * (2 * k + w)) (nI (t / 2))) b1 (nI k) (nI w) (30632 + 601 * (2 * k + w)) t (fun i => M.1 2 (2 * i) * 256 + M.1 2 (2 * i + 1)) (by omega) t1 (by
          rw [pu_wi_1, if_neg (by decide)]
          exact pz_tk_6) (fun i hi => by
          simp only [pu_wi_1]
          rw [if_neg (by decide), if_neg (by decide), pz_tk_b (by omega), pz_tk_b (by omega), hN1 _ _ (by omega) (by omega) (by omega), hN1 _ _ (by omega) (by omega) (by omega), t4 _ (by omega), t4 _ (by omega)]) (t / 2) 0 (by omega)
        rw [pz_rm_0, nI_0] at g1
        refine ⟨nI (t / 2), N, pz_rm (pu_wi (pu_tk N t) 72 (30632 + 601 * (2 * k + w)) (nI (t / 2))) (30632 + 601 * (2 * k + w)) (t / 2) (fun i => M.1 2 (2 * i) * 256 + M.1 2 (2 * i + 1)), ?_, ?_, ?_⟩
        · rw [hN]
          have fz : (pz_km (pu_wi M 29 (2 * k + w) (nI (t / 2))) (2 * k + w) (t / 2) (fun i => M.1 2 (2 * i) * 256 + M.1 2 (2 * i + 1))).2.2.1 0 0 = some 1 := fx_0_0 hx
          rw [qX11_row]
          simp [a_ent, bX11_row_0, a_ald, a_cv, a_gr, a_ild, a_iret, a_ist, a_pi, a_push, fx_0_0 hx, sh_0, sh_1, sh_3, pu_rv, pu_as, Value.category, pu_bk, pu_kl, List.replicate, pu_wi_1, pu_wi_2, nl_add, nl_ladd, nl_aa, nl_mul, nl_rmul, nl_mm, pu_qe0, pu_qe1, f4, fz]
          all_goals try simp (maxSteps := 400000) (disch := omega) [nl_tle, nl_fle, nl_tlt, nl_flt, nl_teq, nl_feq, nl_sub, nl_ss, nl_lt, nl_llt, nl_ltt, nl_le, nl_lle, nl_lee, nl_eq, nl_leq, nl_ee, nl_div, nl_rem, nl_cl, nl_n1, nl_n2, nl_n3, nl_n4, nl_add, nl_ladd, nl_aa, nl_mul, nl_rmul, nl_mm, pu_wi_1, pu_wi_2, bX11_row_0, a_ald, a_cv, a_gr, a_ild, a_iret, a_ist, a_pi, a_push, fx_0_0 hx, sh_0, sh_1, sh_3, pu_rv, pu_as, Value.category, pu_bk, pu_kl, pu_qe0, pu_qe1, f4, fz]
          all_goals try simp [bX11_row_0, a_ald, a_cv, a_gr, a_ild, a_iret, a_ist, a_pi, a_push, fx_0_0 hx, sh_0, sh_1, sh_3, pu_rv, pu_as, Value.category, pu_bk, pu_kl, List.replicate, pu_wi_1, pu_wi_2, nl_add, nl_ladd, nl_aa, nl_mul, nl_rmul, nl_mm, pu_qe0, pu_qe1, f4, fz]
          all_goals try simp (maxSteps := 400000) (disch := omega) [nl_tle, nl_fle, nl_tlt, nl_flt, nl_teq, nl_feq, nl_sub, nl_ss, nl_lt, nl_llt, nl_ltt, nl_le, nl_lle, nl_lee, nl_eq, nl_leq, nl_ee, nl_div, nl_rem, nl_cl, nl_n1, nl_n2, nl_n3, nl_n4, nl_add, nl_ladd, nl_aa, nl_mul, nl_rmul, nl_mm, pu_wi_1, pu_wi_2, bX11_row_0, a_ald, a_cv, a_gr, a_ild, a_iret, a_ist, a_pi, a_push, fx_0_0 hx, sh_0, sh_1, sh_3, pu_rv, pu_as, Value.category, pu_bk, pu_kl, pu_qe0, pu_qe1, f4, fz]
        · have z6 : (pu_tk N t).1 71 6 = nI t := pz_tk_6
          have b3 : pu_r 233 [some (.ref 71)] [] N = some (none, pu_tk N t) := b3
          have rem2 : ¬ t % 2 = 1 := by omega
          have rem3 : ¬ nI (t % 2) = 1 := fun q => rem2 (by rw [show (1 : Int32) = nI 1 from rfl, nI_eq (by omega) (by omega)] at q; exact q)
          have fx0 := fx_71_0 b1
          generalize pu_tk N t = T at *
          rw [qX12_row]
          simp [a_ent, bX12_row_0, bX12_row_14, bX12_row_33, bX12_row_36, a_ald, a_cv, a_gi, a_gr, a_iadd, a_icgt, a_icne, a_idiv, a_iflt, a_ifne, a_ild, a_imul, a_irem, a_iret, a_ist, a_push, a_wi, sh_71, sh_72, pu_rv, pu_as, Value.category, pu_bk, pu_kl, List.replicate, pu_wi_1, pu_wi_2, nl_add, nl_ladd, nl_aa, nl_mul, nl_rmul, nl_mm, pu_qe0, pu_qe1, b3, g0, i1, i2, z6, rem, rem3, dv, g1, fx0, sh_72]
          all_goals try simp (maxSteps := 400000) (disch := omega) [nl_tle, nl_fle, nl_tlt, nl_flt, nl_teq, nl_feq, nl_sub, nl_ss, nl_lt, nl_llt, nl_ltt, nl_le, nl_lle, nl_lee, nl_eq, nl_leq, nl_ee, nl_div, nl_rem, nl_cl, nl_n1, nl_n2, nl_n3, nl_n4, nl_add, nl_ladd, nl_aa, nl_mul, nl_rmul, nl_mm, pu_wi_1, pu_wi_2, bX12_row_0, bX12_row_14, bX12_row_33, bX12_row_36, a_ald, a_cv, a_gi, a_gr, a_iadd, a_icgt, a_icne, a_idiv, a_iflt, a_ifne, a_ild, a_imul, a_irem, a_iret, a_ist, a_push, a_wi, sh_71, sh_72, pu_rv, pu_as, Value.category, pu_bk, pu_kl, pu_qe0, pu_qe1, b3, g0, i1, i2, z6, rem, rem3, dv, g1, fx0, sh_72]
          all_goals try simp [bX12_row_0, bX12_row_14, bX12_row_33, bX12_row_36, a_ald, a_cv, a_gi, a_gr, a_iadd, a_icgt, a_icne, a_idiv, a_iflt, a_ifne, a_ild, a_imul, a_irem, a_iret, a_ist, a_push, a_wi, sh_71, sh_72, pu_rv, pu_as, Value.category, pu_bk, pu_kl, List.replicate, pu_wi_1, pu_wi_2, nl_add, nl_ladd, nl_aa, nl_mul, nl_rmul, nl_mm, pu_qe0, pu_qe1, b3, g0, i1, i2, z6, rem, rem3, dv, g1, fx0, sh_72]
          all_goals try simp (maxSteps := 400000) (disch := omega) [nl_tle, nl_fle, nl_tlt, nl_flt, nl_teq, nl_feq, nl_sub, nl_ss, nl_lt, nl_llt, nl_ltt, nl_le, nl_lle, nl_lee, nl_eq, nl_leq, nl_ee, nl_div, nl_rem, nl_cl, nl_n1, nl_n2, nl_n3, nl_n4, nl_add, nl_ladd, nl_aa, nl_mul, nl_rmul, nl_mm, pu_wi_1, pu_wi_2, bX12_row_0, bX12_row_14, bX12_row_33, bX12_row_36, a_ald, a_cv, a_gi, a_gr, a_iadd, a_icgt, a_icne, a_idiv, a_iflt, a_ifne, a_ild, a_imul, a_irem, a_iret, a_ist, a_push, a_wi, sh_71, sh_72, pu_rv, pu_as, Value.category, pu_bk, pu_kl, pu_qe0, pu_qe1, b3, g0, i1, i2, z6, rem, rem3, dv, g1, fx0, sh_72]
        · have q0 : ∀ a j, ¬ a = 72 → (pz_rm (pu_wi (pu_tk N t) 72 (30632 + 601 * (2 * k + w)) (nI (t / 2))) (30632 + 601 * (2 * k + w)) (t / 2) (fun i => M.1 2 (2 * i) * 256 + M.1 2 (2 * i + 1))).1 a j = (pu_tk N t).1 a j := fun a j q => by
            rw [pz_rm_1 q, pu_wi_1, if_neg q]
          refine pu_Inv_of h ?_ ?_ (fun a j q => ?_) (fun a j q => ?_) (fun a j q => ?_) (fun j => ?_) (fun j => ?_) ⟨0, by omega, ?_, ?_, fun j hj => by omega⟩ (pu_ou_fr h.2.2.1 ?_ ?_ (fun j => ?_) (fun j => ?_)) ?_
          · exact b1
          · show N.2.2.2 = _
            rw [hN2]
          · show N.2.2.1 a j = _
            rw [hN2]
          · rw [q0 _ _ (by omega), pz_tk_o (by omega) (by omega), hN1 _ _ (by omega) (by omega) (by omega)]
          · show N.2.1 a j = _
            rw [hN2]
          · rw [q0 _ _ (by omega), pz_tk_o (by omega) (by omega), hN1 _ _ (by omega) (by omega) (by omega)]
          · rw [q0 _ _ (by omega), pz_tk_o (by omega) (by omega), hN1 _ _ (by omega) (by omega) (by omega)]
          · rw [q0 _ _ (by omega), pz_tk_o (by omega) (by omega), hN]
            simp [pu_wi_1]
            rfl
          · rw [q0 _ _ (by omega)]
            simp [pu_tk, pu_wi_1]
            rfl
          · rw [q0 _ _ (by omega), pz_tk_o (by omega) (by omega), hN1 _ _ (by omega) (by omega) (by omega)]
          · rw [q0 _ _ (by omega), pz_tk_o (by omega) (by omega), hN1 _ _ (by omega) (by omega) (by omega)]
          · rw [q0 _ _ (by omega), pz_tk_o (by omega) (by omega), hN1 _ _ (by omega) (by omega) (by omega)]
          · rw [q0 _ _ (by omega), pz_tk_o (by omega) (by omega), hN1 _ _ (by omega) (by omega) (by omega)]
          · have S := St_row (r := 2 * k + w) (m := t / 2) (w := fun i => M.1 2 (2 * i) * 256 + M.1 2 (2 * i + 1)) h.2.2.2.1 (by omega) (by omega) (fun i hi => by
              obtain ⟨b, c1, c2⟩ := W i hi
              show 0 ≤ (M.1 2 (2 * i) * 256 + M.1 2 (2 * i + 1)).toInt ∧ (M.1 2 (2 * i) * 256 + M.1 2 (2 * i + 1)).toInt < 65536
              rw [c2, nI_toInt (by omega)]
              omega)
            have E1 : pu_si (pz_rm (pu_wi (pu_tk N t) 72 (30632 + 601 * (2 * k + w)) (nI (t / 2))) (30632 + 601 * (2 * k + w)) (t / 2) (fun i => M.1 2 (2 * i) * 256 + M.1 2 (2 * i + 1))) 5 = pz_ri (pu_si M 5) (2 * k + w) (t / 2) (fun i => M.1 2 (2 * i) * 256 + M.1 2 (2 * i + 1)) := by
              funext a j
              by_cases q : 5 ≤ a ∧ a < 58
              · rw [← pu_ag5 _ a j q.1 q.2, q0 _ _ (by omega), pz_tk_o (by omega) (by omega), hN, pu_wi_1, if_neg (by omega)]
                unfold pz_ri
                rw [← pu_ag5 M a j q.1 q.2]
                by_cases q9 : a = 29
                · rw [if_pos q9, pz_km_1 (by omega), pu_wi_1, if_pos q9]
                · rw [if_neg q9]
                  by_cases q8 : a = 30
                  · rw [if_pos q8]
                    unfold pz_km
                    dsimp only
                    by_cases q7 : (2 * k + w) * 100 ≤ j ∧ j < (2 * k + w) * 100 + 100 ∧ j < (2 * k + w) * 100 + t / 2
                    · rw [if_pos ⟨q8, q7⟩, if_pos q7]
                    · rw [if_neg (fun z => q7 z.2), if_neg q7, pu_wi_1, if_neg q9]
                  · rw [if_neg q8, pz_km_1 q8, pu_wi_1, if_neg q9]
              · have z : ∀ X : pu_M, pu_si X 5 a j = 0 := fun X => if_neg q
                rw [z]
                unfold pz_ri
                rw [z, if_neg (by omega), if_neg (by omega)]
            have E2 : pu_sj (pz_rm (pu_wi (pu_tk N t) 72 (30632 + 601 * (2 * k + w)) (nI (t / 2))) (30632 + 601 * (2 * k + w)) (t / 2) (fun i => M.1 2 (2 * i) * 256 + M.1 2 (2 * i + 1))) 5 = pu_sj M 5 := pu_sj_eq (fun a j _ _ => by
              show N.2.1 a j = _
              rw [hN2])
            have E3 : (pz_rm (pu_wi (pu_tk N t) 72 (30632 + 601 * (2 * k + w)) (nI (t / 2))) (30632 + 601 * (2 * k + w)) (t / 2) (fun i => M.1 2 (2 * i) * 256 + M.1 2 (2 * i + 1))).1 72 = pz_rs (M.1 72) (2 * k + w) (t / 2) (fun i => M.1 2 (2 * i) * 256 + M.1 2 (2 * i + 1)) := by
              funext j
              unfold pz_rm pz_rs
              dsimp only
              by_cases q : j = 30632 + 601 * (2 * k + w)
              · rw [if_neg (by omega), if_pos q, pu_wi_1, if_pos rfl, if_pos q]
              · rw [if_neg q]
                by_cases q7 : 30632 + 601 * (2 * k + w) < j ∧ j ≤ 30632 + 601 * (2 * k + w) + t / 2
                · rw [if_pos ⟨rfl, q7⟩, if_pos q7]
                · rw [if_neg (fun z => q7 z.2), if_neg q7, pu_wi_1, if_pos rfl, if_neg q, pz_tk_o (by omega) (by omega), hN1 _ _ (by omega) (by omega) (by omega)]
            rw [E1, E2, E3]
            exact S
      · have c2 : t % 2 = 1 := by omega
        refine bad (-2) ?_ (fun N b1 b2 b3 => ?_)
        · rw [qX11_keepRow]
          simp [a_ent, bX11_keepRow_0, bX11_keepRow_16, bX11_keepRow_35, bX11_keepRow_38, a_ald, a_cs, a_cv, a_gi, a_gr, a_idiv, a_ifeq, a_ifne, a_ild, a_irem, a_iret, a_ist, a_push, fx_0_0 hx, fx_0_2 hx, fx_5_3 hx, sh_0, sh_1, sh_25, sh_3, sh_5, pu_rv, pu_as, Value.category, pu_bk, pu_kl, List.replicate, pu_wi_1, pu_wi_2, nl_add, nl_ladd, nl_aa, nl_mul, nl_rmul, nl_mm, pu_qe0, pu_qe1, e1, e5, t2, rem, c2]
          all_goals try simp (maxSteps := 400000) (disch := omega) [nl_tle, nl_fle, nl_tlt, nl_flt, nl_teq, nl_feq, nl_sub, nl_ss, nl_lt, nl_llt, nl_ltt, nl_le, nl_lle, nl_lee, nl_eq, nl_leq, nl_ee, nl_div, nl_rem, nl_cl, nl_n1, nl_n2, nl_n3, nl_n4, nl_add, nl_ladd, nl_aa, nl_mul, nl_rmul, nl_mm, pu_wi_1, pu_wi_2, bX11_keepRow_0, bX11_keepRow_16, bX11_keepRow_35, bX11_keepRow_38, a_ald, a_cs, a_cv, a_gi, a_gr, a_idiv, a_ifeq, a_ifne, a_ild, a_irem, a_iret, a_ist, a_push, fx_0_0 hx, fx_0_2 hx, fx_5_3 hx, sh_0, sh_1, sh_25, sh_3, sh_5, pu_rv, pu_as, Value.category, pu_bk, pu_kl, pu_qe0, pu_qe1, e1, e5, t2, rem, c2]
          all_goals try simp [bX11_keepRow_0, bX11_keepRow_16, bX11_keepRow_35, bX11_keepRow_38, a_ald, a_cs, a_cv, a_gi, a_gr, a_idiv, a_ifeq, a_ifne, a_ild, a_irem, a_iret, a_ist, a_push, fx_0_0 hx, fx_0_2 hx, fx_5_3 hx, sh_0, sh_1, sh_25, sh_3, sh_5, pu_rv, pu_as, Value.category, pu_bk, pu_kl, List.replicate, pu_wi_1, pu_wi_2, nl_add, nl_ladd, nl_aa, nl_mul, nl_rmul, nl_mm, pu_qe0, pu_qe1, e1, e5, t2, rem, c2]
          all_goals try simp (maxSteps := 400000) (disch := omega) [nl_tle, nl_fle, nl_tlt, nl_flt, nl_teq, nl_feq, nl_sub, nl_ss, nl_lt, nl_llt, nl_ltt, nl_le, nl_lle, nl_lee, nl_eq, nl_leq, nl_ee, nl_div, nl_rem, nl_cl, nl_n1, nl_n2, nl_n3, nl_n4, nl_add, nl_ladd, nl_aa, nl_mul, nl_rmul, nl_mm, pu_wi_1, pu_wi_2, bX11_keepRow_0, bX11_keepRow_16, bX11_keepRow_35, bX11_keepRow_38, a_ald, a_cs, a_cv, a_gi, a_gr, a_idiv, a_ifeq, a_ifne, a_ild, a_irem, a_iret, a_ist, a_push, fx_0_0 hx, fx_0_2 hx, fx_5_3 hx, sh_0, sh_1, sh_25, sh_3, sh_5, pu_rv, pu_as, Value.category, pu_bk, pu_kl, pu_qe0, pu_qe1, e1, e5, t2, rem, c2]
        · have g0 := r_isStreet b1 b2 (nI k)
          rw [pu_q1 hd] at g0
          have z6 : (pu_tk N t).1 71 6 = nI t := pz_tk_6
          have rem3 : nI (t % 2) = 1 := by rw [c2]; rfl
          generalize pu_tk N t = T at *
          rw [qX12_row]
          simp [a_ent, bX12_row_0, bX12_row_14, bX12_row_33, bX12_row_36, a_ald, a_cv, a_gi, a_gr, a_iadd, a_icgt, a_icne, a_idiv, a_iflt, a_ifne, a_ild, a_imul, a_irem, a_iret, a_ist, a_push, a_wi, sh_71, sh_72, pu_rv, pu_as, Value.category, pu_bk, pu_kl, List.replicate, pu_wi_1, pu_wi_2, nl_add, nl_ladd, nl_aa, nl_mul, nl_rmul, nl_mm, pu_qe0, pu_qe1, b3, g0, i1, i2, z6, rem, rem3]
          all_goals try simp (maxSteps := 400000) (disch := omega) [nl_tle, nl_fle, nl_tlt, nl_flt, nl_teq, nl_feq, nl_sub, nl_ss, nl_lt, nl_llt, nl_ltt, nl_le, nl_lle, nl_lee, nl_eq, nl_leq, nl_ee, nl_div, nl_rem, nl_cl, nl_n1, nl_n2, nl_n3, nl_n4, nl_add, nl_ladd, nl_aa, nl_mul, nl_rmul, nl_mm, pu_wi_1, pu_wi_2, bX12_row_0, bX12_row_14, bX12_row_33, bX12_row_36, a_ald, a_cv, a_gi, a_gr, a_iadd, a_icgt, a_icne, a_idiv, a_iflt, a_ifne, a_ild, a_imul, a_irem, a_iret, a_ist, a_push, a_wi, sh_71, sh_72, pu_rv, pu_as, Value.category, pu_bk, pu_kl, pu_qe0, pu_qe1, b3, g0, i1, i2, z6, rem, rem3]
          all_goals try simp [bX12_row_0, bX12_row_14, bX12_row_33, bX12_row_36, a_ald, a_cv, a_gi, a_gr, a_iadd, a_icgt, a_icne, a_idiv, a_iflt, a_ifne, a_ild, a_imul, a_irem, a_iret, a_ist, a_push, a_wi, sh_71, sh_72, pu_rv, pu_as, Value.category, pu_bk, pu_kl, List.replicate, pu_wi_1, pu_wi_2, nl_add, nl_ladd, nl_aa, nl_mul, nl_rmul, nl_mm, pu_qe0, pu_qe1, b3, g0, i1, i2, z6, rem, rem3]
          all_goals try simp (maxSteps := 400000) (disch := omega) [nl_tle, nl_fle, nl_tlt, nl_flt, nl_teq, nl_feq, nl_sub, nl_ss, nl_lt, nl_llt, nl_ltt, nl_le, nl_lle, nl_lee, nl_eq, nl_leq, nl_ee, nl_div, nl_rem, nl_cl, nl_n1, nl_n2, nl_n3, nl_n4, nl_add, nl_ladd, nl_aa, nl_mul, nl_rmul, nl_mm, pu_wi_1, pu_wi_2, bX12_row_0, bX12_row_14, bX12_row_33, bX12_row_36, a_ald, a_cv, a_gi, a_gr, a_iadd, a_icgt, a_icne, a_idiv, a_iflt, a_ifne, a_ild, a_imul, a_irem, a_iret, a_ist, a_push, a_wi, sh_71, sh_72, pu_rv, pu_as, Value.category, pu_bk, pu_kl, pu_qe0, pu_qe1, b3, g0, i1, i2, z6, rem, rem3]
    · rw [pu_q0 hy] at e5
      refine bad (-2) ?_ (fun N b1 b2 b3 => ?_)
      · rw [qX11_keepRow]
        simp [a_ent, bX11_keepRow_0, bX11_keepRow_16, bX11_keepRow_35, bX11_keepRow_38, a_ald, a_cs, a_cv, a_gi, a_gr, a_idiv, a_ifeq, a_ifne, a_ild, a_irem, a_iret, a_ist, a_push, fx_0_0 hx, fx_0_2 hx, fx_5_3 hx, sh_0, sh_1, sh_25, sh_3, sh_5, pu_rv, pu_as, Value.category, pu_bk, pu_kl, List.replicate, pu_wi_1, pu_wi_2, nl_add, nl_ladd, nl_aa, nl_mul, nl_rmul, nl_mm, pu_qe0, pu_qe1, e1, e5]
        all_goals try simp (maxSteps := 400000) (disch := omega) [nl_tle, nl_fle, nl_tlt, nl_flt, nl_teq, nl_feq, nl_sub, nl_ss, nl_lt, nl_llt, nl_ltt, nl_le, nl_lle, nl_lee, nl_eq, nl_leq, nl_ee, nl_div, nl_rem, nl_cl, nl_n1, nl_n2, nl_n3, nl_n4, nl_add, nl_ladd, nl_aa, nl_mul, nl_rmul, nl_mm, pu_wi_1, pu_wi_2, bX11_keepRow_0, bX11_keepRow_16, bX11_keepRow_35, bX11_keepRow_38, a_ald, a_cs, a_cv, a_gi, a_gr, a_idiv, a_ifeq, a_ifne, a_ild, a_irem, a_iret, a_ist, a_push, fx_0_0 hx, fx_0_2 hx, fx_5_3 hx, sh_0, sh_1, sh_25, sh_3, sh_5, pu_rv, pu_as, Value.category, pu_bk, pu_kl, pu_qe0, pu_qe1, e1, e5]
        all_goals try simp [bX11_keepRow_0, bX11_keepRow_16, bX11_keepRow_35, bX11_keepRow_38, a_ald, a_cs, a_cv, a_gi, a_gr, a_idiv, a_ifeq, a_ifne, a_ild, a_irem, a_iret, a_ist, a_push, fx_0_0 hx, fx_0_2 hx, fx_5_3 hx, sh_0, sh_1, sh_25, sh_3, sh_5, pu_rv, pu_as, Value.category, pu_bk, pu_kl, List.replicate, pu_wi_1, pu_wi_2, nl_add, nl_ladd, nl_aa, nl_mul, nl_rmul, nl_mm, pu_qe0, pu_qe1, e1, e5]
        all_goals try simp (maxSteps := 400000) (disch := omega) [nl_tle, nl_fle, nl_tlt, nl_flt, nl_teq, nl_feq, nl_sub, nl_ss, nl_lt, nl_llt, nl_ltt, nl_le, nl_lle, nl_lee, nl_eq, nl_leq, nl_ee, nl_div, nl_rem, nl_cl, nl_n1, nl_n2, nl_n3, nl_n4, nl_add, nl_ladd, nl_aa, nl_mul, nl_rmul, nl_mm, pu_wi_1, pu_wi_2, bX11_keepRow_0, bX11_keepRow_16, bX11_keepRow_35, bX11_keepRow_38, a_ald, a_cs, a_cv, a_gi, a_gr, a_idiv, a_ifeq, a_ifne, a_ild, a_irem, a_iret, a_ist, a_push, fx_0_0 hx, fx_0_2 hx, fx_5_3 hx, sh_0, sh_1, sh_25, sh_3, sh_5, pu_rv, pu_as, Value.category, pu_bk, pu_kl, pu_qe0, pu_qe1, e1, e5]
      · have g0 := r_isStreet b1 b2 (nI k)
        rw [pu_q1 hd] at g0
        by_cases z : y < 0
        · rw [qX12_row]
          simp [a_ent, bX12_row_0, bX12_row_14, bX12_row_33, bX12_row_36, a_ald, a_cv, a_gi, a_gr, a_iadd, a_icgt, a_icne, a_idiv, a_iflt, a_ifne, a_ild, a_imul, a_irem, a_iret, a_ist, a_push, a_wi, sh_71, sh_72, pu_rv, pu_as, Value.category, pu_bk, pu_kl, List.replicate, pu_wi_1, pu_wi_2, nl_add, nl_ladd, nl_aa, nl_mul, nl_rmul, nl_mm, pu_qe0, pu_qe1, b3, g0, z]
          all_goals try simp (maxSteps := 400000) (disch := omega) [nl_tle, nl_fle, nl_tlt, nl_flt, nl_teq, nl_feq, nl_sub, nl_ss, nl_lt, nl_llt, nl_ltt, nl_le, nl_lle, nl_lee, nl_eq, nl_leq, nl_ee, nl_div, nl_rem, nl_cl, nl_n1, nl_n2, nl_n3, nl_n4, nl_add, nl_ladd, nl_aa, nl_mul, nl_rmul, nl_mm, pu_wi_1, pu_wi_2, bX12_row_0, bX12_row_14, bX12_row_33, bX12_row_36, a_ald, a_cv, a_gi, a_gr, a_iadd, a_icgt, a_icne, a_idiv, a_iflt, a_ifne, a_ild, a_imul, a_irem, a_iret, a_ist, a_push, a_wi, sh_71, sh_72, pu_rv, pu_as, Value.category, pu_bk, pu_kl, pu_qe0, pu_qe1, b3, g0, z]
          all_goals try simp [bX12_row_0, bX12_row_14, bX12_row_33, bX12_row_36, a_ald, a_cv, a_gi, a_gr, a_iadd, a_icgt, a_icne, a_idiv, a_iflt, a_ifne, a_ild, a_imul, a_irem, a_iret, a_ist, a_push, a_wi, sh_71, sh_72, pu_rv, pu_as, Value.category, pu_bk, pu_kl, List.replicate, pu_wi_1, pu_wi_2, nl_add, nl_ladd, nl_aa, nl_mul, nl_rmul, nl_mm, pu_qe0, pu_qe1, b3, g0, z]
          all_goals try simp (maxSteps := 400000) (disch := omega) [nl_tle, nl_fle, nl_tlt, nl_flt, nl_teq, nl_feq, nl_sub, nl_ss, nl_lt, nl_llt, nl_ltt, nl_le, nl_lle, nl_lee, nl_eq, nl_leq, nl_ee, nl_div, nl_rem, nl_cl, nl_n1, nl_n2, nl_n3, nl_n4, nl_add, nl_ladd, nl_aa, nl_mul, nl_rmul, nl_mm, pu_wi_1, pu_wi_2, bX12_row_0, bX12_row_14, bX12_row_33, bX12_row_36, a_ald, a_cv, a_gi, a_gr, a_iadd, a_icgt, a_icne, a_idiv, a_iflt, a_ifne, a_ild, a_imul, a_irem, a_iret, a_ist, a_push, a_wi, sh_71, sh_72, pu_rv, pu_as, Value.category, pu_bk, pu_kl, pu_qe0, pu_qe1, b3, g0, z]
        · have z1 : 1 < y := by grind
          rw [qX12_row]
          simp [a_ent, bX12_row_0, bX12_row_14, bX12_row_33, bX12_row_36, a_ald, a_cv, a_gi, a_gr, a_iadd, a_icgt, a_icne, a_idiv, a_iflt, a_ifne, a_ild, a_imul, a_irem, a_iret, a_ist, a_push, a_wi, sh_71, sh_72, pu_rv, pu_as, Value.category, pu_bk, pu_kl, List.replicate, pu_wi_1, pu_wi_2, nl_add, nl_ladd, nl_aa, nl_mul, nl_rmul, nl_mm, pu_qe0, pu_qe1, b3, g0, z, z1]
          all_goals try simp (maxSteps := 400000) (disch := omega) [nl_tle, nl_fle, nl_tlt, nl_flt, nl_teq, nl_feq, nl_sub, nl_ss, nl_lt, nl_llt, nl_ltt, nl_le, nl_lle, nl_lee, nl_eq, nl_leq, nl_ee, nl_div, nl_rem, nl_cl, nl_n1, nl_n2, nl_n3, nl_n4, nl_add, nl_ladd, nl_aa, nl_mul, nl_rmul, nl_mm, pu_wi_1, pu_wi_2, bX12_row_0, bX12_row_14, bX12_row_33, bX12_row_36, a_ald, a_cv, a_gi, a_gr, a_iadd, a_icgt, a_icne, a_idiv, a_iflt, a_ifne, a_ild, a_imul, a_irem, a_iret, a_ist, a_push, a_wi, sh_71, sh_72, pu_rv, pu_as, Value.category, pu_bk, pu_kl, pu_qe0, pu_qe1, b3, g0, z, z1]
          all_goals try simp [bX12_row_0, bX12_row_14, bX12_row_33, bX12_row_36, a_ald, a_cv, a_gi, a_gr, a_iadd, a_icgt, a_icne, a_idiv, a_iflt, a_ifne, a_ild, a_imul, a_irem, a_iret, a_ist, a_push, a_wi, sh_71, sh_72, pu_rv, pu_as, Value.category, pu_bk, pu_kl, List.replicate, pu_wi_1, pu_wi_2, nl_add, nl_ladd, nl_aa, nl_mul, nl_rmul, nl_mm, pu_qe0, pu_qe1, b3, g0, z, z1]
          all_goals try simp (maxSteps := 400000) (disch := omega) [nl_tle, nl_fle, nl_tlt, nl_flt, nl_teq, nl_feq, nl_sub, nl_ss, nl_lt, nl_llt, nl_ltt, nl_le, nl_lle, nl_lee, nl_eq, nl_leq, nl_ee, nl_div, nl_rem, nl_cl, nl_n1, nl_n2, nl_n3, nl_n4, nl_add, nl_ladd, nl_aa, nl_mul, nl_rmul, nl_mm, pu_wi_1, pu_wi_2, bX12_row_0, bX12_row_14, bX12_row_33, bX12_row_36, a_ald, a_cv, a_gi, a_gr, a_iadd, a_icgt, a_icne, a_idiv, a_iflt, a_ifne, a_ild, a_imul, a_irem, a_iret, a_ist, a_push, a_wi, sh_71, sh_72, pu_rv, pu_as, Value.category, pu_bk, pu_kl, pu_qe0, pu_qe1, b3, g0, z, z1]
  · rw [pu_q0 hd] at e1
    refine bad (-1) ?_ (fun N b1 b2 b3 => ?_)
    · rw [qX11_keepRow]
      simp [a_ent, bX11_keepRow_0, bX11_keepRow_16, bX11_keepRow_35, bX11_keepRow_38, a_ald, a_cs, a_cv, a_gi, a_gr, a_idiv, a_ifeq, a_ifne, a_ild, a_irem, a_iret, a_ist, a_push, fx_0_0 hx, fx_0_2 hx, fx_5_3 hx, sh_0, sh_1, sh_25, sh_3, sh_5, pu_rv, pu_as, Value.category, pu_bk, pu_kl, List.replicate, pu_wi_1, pu_wi_2, nl_add, nl_ladd, nl_aa, nl_mul, nl_rmul, nl_mm, pu_qe0, pu_qe1, e1]
      all_goals try simp (maxSteps := 400000) (disch := omega) [nl_tle, nl_fle, nl_tlt, nl_flt, nl_teq, nl_feq, nl_sub, nl_ss, nl_lt, nl_llt, nl_ltt, nl_le, nl_lle, nl_lee, nl_eq, nl_leq, nl_ee, nl_div, nl_rem, nl_cl, nl_n1, nl_n2, nl_n3, nl_n4, nl_add, nl_ladd, nl_aa, nl_mul, nl_rmul, nl_mm, pu_wi_1, pu_wi_2, bX11_keepRow_0, bX11_keepRow_16, bX11_keepRow_35, bX11_keepRow_38, a_ald, a_cs, a_cv, a_gi, a_gr, a_idiv, a_ifeq, a_ifne, a_ild, a_irem, a_iret, a_ist, a_push, fx_0_0 hx, fx_0_2 hx, fx_5_3 hx, sh_0, sh_1, sh_25, sh_3, sh_5, pu_rv, pu_as, Value.category, pu_bk, pu_kl, pu_qe0, pu_qe1, e1]
      all_goals try simp [bX11_keepRow_0, bX11_keepRow_16, bX11_keepRow_35, bX11_keepRow_38, a_ald, a_cs, a_cv, a_gi, a_gr, a_idiv, a_ifeq, a_ifne, a_ild, a_irem, a_iret, a_ist, a_push, fx_0_0 hx, fx_0_2 hx, fx_5_3 hx, sh_0, sh_1, sh_25, sh_3, sh_5, pu_rv, pu_as, Value.category, pu_bk, pu_kl, List.replicate, pu_wi_1, pu_wi_2, nl_add, nl_ladd, nl_aa, nl_mul, nl_rmul, nl_mm, pu_qe0, pu_qe1, e1]
      all_goals try simp (maxSteps := 400000) (disch := omega) [nl_tle, nl_fle, nl_tlt, nl_flt, nl_teq, nl_feq, nl_sub, nl_ss, nl_lt, nl_llt, nl_ltt, nl_le, nl_lle, nl_lee, nl_eq, nl_leq, nl_ee, nl_div, nl_rem, nl_cl, nl_n1, nl_n2, nl_n3, nl_n4, nl_add, nl_ladd, nl_aa, nl_mul, nl_rmul, nl_mm, pu_wi_1, pu_wi_2, bX11_keepRow_0, bX11_keepRow_16, bX11_keepRow_35, bX11_keepRow_38, a_ald, a_cs, a_cv, a_gi, a_gr, a_idiv, a_ifeq, a_ifne, a_ild, a_irem, a_iret, a_ist, a_push, fx_0_0 hx, fx_0_2 hx, fx_5_3 hx, sh_0, sh_1, sh_25, sh_3, sh_5, pu_rv, pu_as, Value.category, pu_bk, pu_kl, pu_qe0, pu_qe1, e1]
    · have g0 := r_isStreet b1 b2 x
      rw [pu_q0 hd] at g0
      rw [qX12_row]
      simp [a_ent, bX12_row_0, bX12_row_14, bX12_row_33, bX12_row_36, a_ald, a_cv, a_gi, a_gr, a_iadd, a_icgt, a_icne, a_idiv, a_iflt, a_ifne, a_ild, a_imul, a_irem, a_iret, a_ist, a_push, a_wi, sh_71, sh_72, pu_rv, pu_as, Value.category, pu_bk, pu_kl, List.replicate, pu_wi_1, pu_wi_2, nl_add, nl_ladd, nl_aa, nl_mul, nl_rmul, nl_mm, pu_qe0, pu_qe1, b3, g0]
      all_goals try simp (maxSteps := 400000) (disch := omega) [nl_tle, nl_fle, nl_tlt, nl_flt, nl_teq, nl_feq, nl_sub, nl_ss, nl_lt, nl_llt, nl_ltt, nl_le, nl_lle, nl_lee, nl_eq, nl_leq, nl_ee, nl_div, nl_rem, nl_cl, nl_n1, nl_n2, nl_n3, nl_n4, nl_add, nl_ladd, nl_aa, nl_mul, nl_rmul, nl_mm, pu_wi_1, pu_wi_2, bX12_row_0, bX12_row_14, bX12_row_33, bX12_row_36, a_ald, a_cv, a_gi, a_gr, a_iadd, a_icgt, a_icne, a_idiv, a_iflt, a_ifne, a_ild, a_imul, a_irem, a_iret, a_ist, a_push, a_wi, sh_71, sh_72, pu_rv, pu_as, Value.category, pu_bk, pu_kl, pu_qe0, pu_qe1, b3, g0]
      all_goals try simp [bX12_row_0, bX12_row_14, bX12_row_33, bX12_row_36, a_ald, a_cv, a_gi, a_gr, a_iadd, a_icgt, a_icne, a_idiv, a_iflt, a_ifne, a_ild, a_imul, a_irem, a_iret, a_ist, a_push, a_wi, sh_71, sh_72, pu_rv, pu_as, Value.category, pu_bk, pu_kl, List.replicate, pu_wi_1, pu_wi_2, nl_add, nl_ladd, nl_aa, nl_mul, nl_rmul, nl_mm, pu_qe0, pu_qe1, b3, g0]
      all_goals try simp (maxSteps := 400000) (disch := omega) [nl_tle, nl_fle, nl_tlt, nl_flt, nl_teq, nl_feq, nl_sub, nl_ss, nl_lt, nl_llt, nl_ltt, nl_le, nl_lle, nl_lee, nl_eq, nl_leq, nl_ee, nl_div, nl_rem, nl_cl, nl_n1, nl_n2, nl_n3, nl_n4, nl_add, nl_ladd, nl_aa, nl_mul, nl_rmul, nl_mm, pu_wi_1, pu_wi_2, bX12_row_0, bX12_row_14, bX12_row_33, bX12_row_36, a_ald, a_cv, a_gi, a_gr, a_iadd, a_icgt, a_icne, a_idiv, a_iflt, a_ifne, a_ild, a_imul, a_irem, a_iret, a_ist, a_push, a_wi, sh_71, sh_72, pu_rv, pu_as, Value.category, pu_bk, pu_kl, pu_qe0, pu_qe1, b3, g0]
