/-! check -/
theorem op_check (y : Int32) : pu_op pu_Inv 224 355 [.int y] := by
  intro M h
  have hx := h.1
  have hI := pu_ag5 M
  have hr := pu_hR h
  have hw := pu_hS h
  obtain ⟨t, t1, t2, t3, t4⟩ := h.2.1
  have e5 := c_isDay y M
  by_cases hy : ¬ y < 0 ∧ ¬ 109574 < y
  · rw [pu_q1 hy] at e5
    obtain ⟨N, n1, n2, n3, n4⟩ := c_wholes hx hI hw y
    have hxN : pu_fx N := fun a k r q => by
      rw [n1.1]
      exact hx a k r q
    have hb : ∀ j, j < t → M.1 75 j &&& 255 = nI ((M.1 75 j &&& 255).toNatClampNeg) ∧ (M.1 75 j &&& 255).toNatClampNeg < 256 := fun j hj => by
      obtain ⟨b, b1, b2⟩ := pz_byte (M.1 75 j)
      rw [b2, nI_clamp (by omega)]
      exact ⟨rfl, b1⟩
    obtain ⟨P, p1, p2⟩ := c_check_l hw y (fun j => (M.1 75 j &&& 255).toNatClampNeg) t t1 202 0 (fun _ => False) N none (by omega) (by omega) hxN (fun a j q1 q2 => by rw [n1.2 a j (by omega)]; exact hI a j q1 q2) (by rw [n1.2 _ _ (by decide)]; exact t2) (fun j hj => by
      rw [n1.2 _ _ (by decide), t4 j hj]
      exact hb j hj) ⟨fun k k1 k2 _ => n2 k k1 k2, fun j hj hs => n3 j hj (hs.resolve_left (fun q => q))⟩
    rw [Nat.mul_zero, nI_0] at p2
    obtain ⟨v, hv⟩ : ∃ v, v = pz_ck (pu_si M 5) y (fun j => (M.1 75 j &&& 255).toNatClampNeg) t 202 0 (fun _ => False) := ⟨_, rfl⟩
    rw [← hv] at p2
    have hP2 : P.2 = M.2 := p1.1.trans n1.1
    have oP : ∀ a j, a ≠ 70 → P.1 a j = M.1 a j := fun a j q => (p1.2 a j q).trans (n1.2 a j q)
    have hxP : pu_fx P := fun a k r q => by
      rw [hP2]
      exact hx a k r q
    obtain ⟨Q, hQ⟩ : ∃ Q, Q = pu_wi P 1 0 0 := ⟨_, rfl⟩
    have hQ2 : Q.2 = M.2 := by rw [hQ]; exact hP2
    have oQ : ∀ a j, a ≠ 70 → a ≠ 1 → Q.1 a j = M.1 a j := fun a j q1 q2 => by
      rw [hQ, pu_wi_1, if_neg q2]
      exact oP a j q1
    have hxQ : pu_fx Q := fun a k r q => by
      rw [hQ2]
      exact hx a k r q
    have tk := e_X12_takes hxQ (w := t) (by rw [oQ _ _ (by decide) (by decide)]; exact t3) t1
    have oT : ∀ a j, a ≠ 70 → a ≠ 1 → ¬ (a = 71 ∧ (j = 4 ∨ j = 6)) → ¬ a = 76 → (pu_tk Q t).1 a j = M.1 a j := fun a j q1 q2 q3 q4 => by
      rw [pz_tk_o q3 q4]
      exact oQ a j q1 q2
    have hxT : pu_fx (pu_tk Q t) := hxQ
    have T6 : (pu_tk Q t).1 71 6 = nI t := pz_tk_6
    have Tb : ∀ j, j < t → (pu_tk Q t).1 76 j &&& 255 = M.1 75 j &&& 255 := fun j hj => by
      rw [pz_tk_b hj, oQ _ _ (by decide) (by decide)]
    have T4 : (pu_tk Q t).1 71 4 = 0 := by simp [pu_tk, pu_wi_1]
    have T2 : (pu_tk Q t).2 = M.2 := hQ2
    have T1 : (pu_tk Q t).1 1 0 = 0 := by
      rw [pz_tk_o (by omega) (by omega), hQ]
      simp [pu_wi_1]
    generalize pu_tk Q t = T at *
    have oS : ∀ a j, a ≠ 85 → (pz_sf T 200).1 a j = T.1 a j := fun a j q => if_neg (fun z => q z.1)
    have hrS : pu_Rel (pu_si M 5) (pu_sj M 5) ((pz_sf T 200).1 72) := by
      rw [show (pz_sf T 200).1 72 = M.1 72 from funext (fun j => by rw [oS _ _ (by decide), oT _ _ (by omega) (by omega) (by omega) (by omega)])]
      exact hr
    obtain ⟨R, r1, r2⟩ := r_check_l hw y hy (fun j => (M.1 75 j &&& 255).toNatClampNeg) t t1 202 0 (fun _ => False) (pz_sf T 200) none none none none none (by omega) (by omega) hxT hrS (by rw [oS _ _ (by decide)]; exact T6) (fun j hj => by
      rw [oS _ _ (by decide), Tb j hj]
      exact hb j hj) (fun j hj => ⟨fun q => q.elim, fun _ => if_pos ⟨rfl, hj⟩⟩)
    rw [← hv, nI_0] at r2
    have sl := r_seen_l hxT y none none none none none 200 0 (by omega)
    rw [show pz_sf T 0 = T by unfold pz_sf; simp, nI_0, r2] at sl
    refine ⟨v, Q, R, ?_, ?_, ?_⟩
    · have cr : pu_r 223 [some (.ref 0), some (.int y)] [] M = some (some (.int v), P) := by
        rw [qX11_checkRecords]
        simp [a_ent, bX11_checkRecords_0, a_ald, a_cv, a_gr, a_ild, a_ist, a_push, fx_0_2 hx, fx_0_7 hx, sh_0, sh_5, sh_70, pu_rv, pu_as, Value.category, pu_bk, pu_kl, List.replicate, pu_wi_1, pu_wi_2, nl_add, nl_ladd, nl_aa, nl_mul, nl_rmul, nl_mm, pu_qe0, pu_qe1, n4, p2]
        all_goals try simp (maxSteps := 400000) (disch := omega) [nl_tle, nl_fle, nl_tlt, nl_flt, nl_teq, nl_feq, nl_sub, nl_ss, nl_lt, nl_llt, nl_ltt, nl_le, nl_lle, nl_lee, nl_eq, nl_leq, nl_ee, nl_div, nl_rem, nl_cl, nl_n1, nl_n2, nl_n3, nl_n4, nl_add, nl_ladd, nl_aa, nl_mul, nl_rmul, nl_mm, pu_wi_1, pu_wi_2, bX11_checkRecords_0, a_ald, a_cv, a_gr, a_ild, a_ist, a_push, fx_0_2 hx, fx_0_7 hx, sh_0, sh_5, sh_70, pu_rv, pu_as, Value.category, pu_bk, pu_kl, pu_qe0, pu_qe1, n4, p2]
        all_goals try simp [bX11_checkRecords_0, a_ald, a_cv, a_gr, a_ild, a_ist, a_push, fx_0_2 hx, fx_0_7 hx, sh_0, sh_5, sh_70, pu_rv, pu_as, Value.category, pu_bk, pu_kl, List.replicate, pu_wi_1, pu_wi_2, nl_add, nl_ladd, nl_aa, nl_mul, nl_rmul, nl_mm, pu_qe0, pu_qe1, n4, p2]
        all_goals try simp (maxSteps := 400000) (disch := omega) [nl_tle, nl_fle, nl_tlt, nl_flt, nl_teq, nl_feq, nl_sub, nl_ss, nl_lt, nl_llt, nl_ltt, nl_le, nl_lle, nl_lee, nl_eq, nl_leq, nl_ee, nl_div, nl_rem, nl_cl, nl_n1, nl_n2, nl_n3, nl_n4, nl_add, nl_ladd, nl_aa, nl_mul, nl_rmul, nl_mm, pu_wi_1, pu_wi_2, bX11_checkRecords_0, a_ald, a_cv, a_gr, a_ild, a_ist, a_push, fx_0_2 hx, fx_0_7 hx, sh_0, sh_5, sh_70, pu_rv, pu_as, Value.category, pu_bk, pu_kl, pu_qe0, pu_qe1, n4, p2]
      have f0 := fx_0_0 hxP
      rw [hQ]
      rw [qX11_check]
      simp [a_ent, bX11_check_0, bX11_check_15, bX11_check_17, a_ald, a_cs, a_cv, a_gr, a_ifeq, a_ild, a_iret, a_ist, a_pi, a_push, sh_0, sh_1, sh_3, pu_rv, pu_as, Value.category, pu_bk, pu_kl, List.replicate, pu_wi_1, pu_wi_2, nl_add, nl_ladd, nl_aa, nl_mul, nl_rmul, nl_mm, pu_qe0, pu_qe1, e5, cr, f0]
      all_goals try simp (maxSteps := 400000) (disch := omega) [nl_tle, nl_fle, nl_tlt, nl_flt, nl_teq, nl_feq, nl_sub, nl_ss, nl_lt, nl_llt, nl_ltt, nl_le, nl_lle, nl_lee, nl_eq, nl_leq, nl_ee, nl_div, nl_rem, nl_cl, nl_n1, nl_n2, nl_n3, nl_n4, nl_add, nl_ladd, nl_aa, nl_mul, nl_rmul, nl_mm, pu_wi_1, pu_wi_2, bX11_check_0, bX11_check_15, bX11_check_17, a_ald, a_cs, a_cv, a_gr, a_ifeq, a_ild, a_iret, a_ist, a_pi, a_push, sh_0, sh_1, sh_3, pu_rv, pu_as, Value.category, pu_bk, pu_kl, pu_qe0, pu_qe1, e5, cr, f0]
      all_goals try simp [bX11_check_0, bX11_check_15, bX11_check_17, a_ald, a_cs, a_cv, a_gr, a_ifeq, a_ild, a_iret, a_ist, a_pi, a_push, sh_0, sh_1, sh_3, pu_rv, pu_as, Value.category, pu_bk, pu_kl, List.replicate, pu_wi_1, pu_wi_2, nl_add, nl_ladd, nl_aa, nl_mul, nl_rmul, nl_mm, pu_qe0, pu_qe1, e5, cr, f0]
      all_goals try simp (maxSteps := 400000) (disch := omega) [nl_tle, nl_fle, nl_tlt, nl_flt, nl_teq, nl_feq, nl_sub, nl_ss, nl_lt, nl_llt, nl_ltt, nl_le, nl_lle, nl_lee, nl_eq, nl_leq, nl_ee, nl_div, nl_rem, nl_cl, nl_n1, nl_n2, nl_n3, nl_n4, nl_add, nl_ladd, nl_aa, nl_mul, nl_rmul, nl_mm, pu_wi_1, pu_wi_2, bX11_check_0, bX11_check_15, bX11_check_17, a_ald, a_cs, a_cv, a_gr, a_ifeq, a_ild, a_iret, a_ist, a_pi, a_push, sh_0, sh_1, sh_3, pu_rv, pu_as, Value.category, pu_bk, pu_kl, pu_qe0, pu_qe1, e5, cr, f0]
    · have f6 := r_isDay y T
      rw [pu_q1 hy] at f6
      rw [qX12_check]
      simp [a_ent, bX12_check_0, bX12_check_14, a_ald, a_cs, a_cv, a_ifne, a_ild, a_iret, a_ist, a_push, sh_71, pu_rv, pu_as, Value.category, pu_bk, pu_kl, List.replicate, pu_wi_1, pu_wi_2, nl_add, nl_ladd, nl_aa, nl_mul, nl_rmul, nl_mm, pu_qe0, pu_qe1, tk, f6, sl]
      all_goals try simp (maxSteps := 400000) (disch := omega) [nl_tle, nl_fle, nl_tlt, nl_flt, nl_teq, nl_feq, nl_sub, nl_ss, nl_lt, nl_llt, nl_ltt, nl_le, nl_lle, nl_lee, nl_eq, nl_leq, nl_ee, nl_div, nl_rem, nl_cl, nl_n1, nl_n2, nl_n3, nl_n4, nl_add, nl_ladd, nl_aa, nl_mul, nl_rmul, nl_mm, pu_wi_1, pu_wi_2, bX12_check_0, bX12_check_14, a_ald, a_cs, a_cv, a_ifne, a_ild, a_iret, a_ist, a_push, sh_71, pu_rv, pu_as, Value.category, pu_bk, pu_kl, pu_qe0, pu_qe1, tk, f6, sl]
      all_goals try simp [bX12_check_0, bX12_check_14, a_ald, a_cs, a_cv, a_ifne, a_ild, a_iret, a_ist, a_push, sh_71, pu_rv, pu_as, Value.category, pu_bk, pu_kl, List.replicate, pu_wi_1, pu_wi_2, nl_add, nl_ladd, nl_aa, nl_mul, nl_rmul, nl_mm, pu_qe0, pu_qe1, tk, f6, sl]
      all_goals try simp (maxSteps := 400000) (disch := omega) [nl_tle, nl_fle, nl_tlt, nl_flt, nl_teq, nl_feq, nl_sub, nl_ss, nl_lt, nl_llt, nl_ltt, nl_le, nl_lle, nl_lee, nl_eq, nl_leq, nl_ee, nl_div, nl_rem, nl_cl, nl_n1, nl_n2, nl_n3, nl_n4, nl_add, nl_ladd, nl_aa, nl_mul, nl_rmul, nl_mm, pu_wi_1, pu_wi_2, bX12_check_0, bX12_check_14, a_ald, a_cs, a_cv, a_ifne, a_ild, a_iret, a_ist, a_push, sh_71, pu_rv, pu_as, Value.category, pu_bk, pu_kl, pu_qe0, pu_qe1, tk, f6, sl]
    · have oR : ∀ a j, a ≠ 85 → R.1 a j = T.1 a j := fun a j q => (r1.2 a j q).trans (oS a j q)
      refine pu_Inv_tk h (r1.1.trans T2) ?_ ?_ ?_ (fun a j q => ?_)
      · rw [oR _ _ (by decide)]
        exact T1
      · rw [oR _ _ (by decide)]
        exact T4
      · rw [oR _ _ (by decide), oT _ _ (by decide) (by decide) (by decide) (by decide)]
      · rw [oR _ _ (by omega), oT _ _ (by omega) (by omega) (by omega) (by omega)]
  · rw [pu_q0 hy] at e5
    obtain ⟨Q, hQ⟩ : ∃ Q, Q = pu_wi M 1 0 0 := ⟨_, rfl⟩
    have oQ : ∀ a j, a ≠ 1 → Q.1 a j = M.1 a j := fun a j q2 => by
      rw [hQ, pu_wi_1, if_neg q2]
    have hxQ : pu_fx Q := by rw [hQ]; exact hx
    have tk := e_X12_takes hxQ (w := t) (by rw [oQ _ _ (by decide)]; exact t3) t1
    refine ⟨-2, Q, pu_tk Q t, ?_, ?_, pu_Inv_tk h (by rw [hQ]; rfl) ?_ ?_ ?_ (fun a j q => ?_)⟩
    · have f0 := fx_0_0 hx
      rw [hQ]
      rw [qX11_check]
      simp [a_ent, bX11_check_0, bX11_check_15, bX11_check_17, a_ald, a_cs, a_cv, a_gr, a_ifeq, a_ild, a_iret, a_ist, a_pi, a_push, sh_0, sh_1, sh_3, pu_rv, pu_as, Value.category, pu_bk, pu_kl, List.replicate, pu_wi_1, pu_wi_2, nl_add, nl_ladd, nl_aa, nl_mul, nl_rmul, nl_mm, pu_qe0, pu_qe1, e5, f0]
      all_goals try simp (maxSteps := 400000) (disch := omega) [nl_tle, nl_fle, nl_tlt, nl_flt, nl_teq, nl_feq, nl_sub, nl_ss, nl_lt, nl_llt, nl_ltt, nl_le, nl_lle, nl_lee, nl_eq, nl_leq, nl_ee, nl_div, nl_rem, nl_cl, nl_n1, nl_n2, nl_n3, nl_n4, nl_add, nl_ladd, nl_aa, nl_mul, nl_rmul, nl_mm, pu_wi_1, pu_wi_2, bX11_check_0, bX11_check_15, bX11_check_17, a_ald, a_cs, a_cv, a_gr, a_ifeq, a_ild, a_iret, a_ist, a_pi, a_push, sh_0, sh_1, sh_3, pu_rv, pu_as, Value.category, pu_bk, pu_kl, pu_qe0, pu_qe1, e5, f0]
      all_goals try simp [bX11_check_0, bX11_check_15, bX11_check_17, a_ald, a_cs, a_cv, a_gr, a_ifeq, a_ild, a_iret, a_ist, a_pi, a_push, sh_0, sh_1, sh_3, pu_rv, pu_as, Value.category, pu_bk, pu_kl, List.replicate, pu_wi_1, pu_wi_2, nl_add, nl_ladd, nl_aa, nl_mul, nl_rmul, nl_mm, pu_qe0, pu_qe1, e5, f0]
      all_goals try simp (maxSteps := 400000) (disch := omega) [nl_tle, nl_fle, nl_tlt, nl_flt, nl_teq, nl_feq, nl_sub, nl_ss, nl_lt, nl_llt, nl_ltt, nl_le, nl_lle, nl_lee, nl_eq, nl_leq, nl_ee, nl_div, nl_rem, nl_cl, nl_n1, nl_n2, nl_n3, nl_n4, nl_add, nl_ladd, nl_aa, nl_mul, nl_rmul, nl_mm, pu_wi_1, pu_wi_2, bX11_check_0, bX11_check_15, bX11_check_17, a_ald, a_cs, a_cv, a_gr, a_ifeq, a_ild, a_iret, a_ist, a_pi, a_push, sh_0, sh_1, sh_3, pu_rv, pu_as, Value.category, pu_bk, pu_kl, pu_qe0, pu_qe1, e5, f0]
    · have f6 := r_isDay y (pu_tk Q t)
      rw [pu_q0 hy] at f6
      rw [qX12_check]
      simp [a_ent, bX12_check_0, bX12_check_14, a_ald, a_cs, a_cv, a_ifne, a_ild, a_iret, a_ist, a_push, sh_71, pu_rv, pu_as, Value.category, pu_bk, pu_kl, List.replicate, pu_wi_1, pu_wi_2, nl_add, nl_ladd, nl_aa, nl_mul, nl_rmul, nl_mm, pu_qe0, pu_qe1, tk, f6]
      all_goals try simp (maxSteps := 400000) (disch := omega) [nl_tle, nl_fle, nl_tlt, nl_flt, nl_teq, nl_feq, nl_sub, nl_ss, nl_lt, nl_llt, nl_ltt, nl_le, nl_lle, nl_lee, nl_eq, nl_leq, nl_ee, nl_div, nl_rem, nl_cl, nl_n1, nl_n2, nl_n3, nl_n4, nl_add, nl_ladd, nl_aa, nl_mul, nl_rmul, nl_mm, pu_wi_1, pu_wi_2, bX12_check_0, bX12_check_14, a_ald, a_cs, a_cv, a_ifne, a_ild, a_iret, a_ist, a_push, sh_71, pu_rv, pu_as, Value.category, pu_bk, pu_kl, pu_qe0, pu_qe1, tk, f6]
      all_goals try simp [bX12_check_0, bX12_check_14, a_ald, a_cs, a_cv, a_ifne, a_ild, a_iret, a_ist, a_push, sh_71, pu_rv, pu_as, Value.category, pu_bk, pu_kl, List.replicate, pu_wi_1, pu_wi_2, nl_add, nl_ladd, nl_aa, nl_mul, nl_rmul, nl_mm, pu_qe0, pu_qe1, tk, f6]
      all_goals try simp (maxSteps := 400000) (disch := omega) [nl_tle, nl_fle, nl_tlt, nl_flt, nl_teq, nl_feq, nl_sub, nl_ss, nl_lt, nl_llt, nl_ltt, nl_le, nl_lle, nl_lee, nl_eq, nl_leq, nl_ee, nl_div, nl_rem, nl_cl, nl_n1, nl_n2, nl_n3, nl_n4, nl_add, nl_ladd, nl_aa, nl_mul, nl_rmul, nl_mm, pu_wi_1, pu_wi_2, bX12_check_0, bX12_check_14, a_ald, a_cs, a_cv, a_ifne, a_ild, a_iret, a_ist, a_push, sh_71, pu_rv, pu_as, Value.category, pu_bk, pu_kl, pu_qe0, pu_qe1, tk, f6]
    · rw [pz_tk_o (by omega) (by omega), hQ]
      simp [pu_wi_1]
    · simp [pu_tk, pu_wi_1]
    · rw [pz_tk_o (by omega) (by omega), oQ _ _ (by decide)]
    · rw [pz_tk_o (by omega) (by omega), oQ _ _ (by omega)]
