/-! names up to the end, with the place -/
theorem c_toEndP_l (b : Nat → Nat) (t a : Nat) (sa : pu_sh a = (3, 3)) : ∀ (n i pos : Nat) (M : pu_M), pu_fx M → py_tv M b t → i + n = 3 → pos ≤ t → M.1 59 7 = nI pos → (∀ j, i ≤ j → j < 3 → M.2.1 a j = 0) → ∃ N, py_rf M N a i ∧ N.1 59 7 = nI (py_nq b t n pos) ∧ (∀ l, py_ns b t n pos = some l → ∀ k, k < n → N.2.1 a (i + k) = lN (pu_wv (l.getD k []))) ∧ pu_r 359 [some (.ref 59), some (.ref a), some (.int (nI i))] [] M = some (some (.int (pu_q (py_ns b t n pos ≠ none))), N)
  | 0, i, pos, M, hx, h, hn, hp, h7, hz => by
    have e : i = 3 := by omega
    subst e
    refine ⟨M, ⟨rfl, fun _ _ _ => rfl, fun _ _ _ => rfl⟩, h7, fun l hl => (by cases hl), ?_⟩
    rw [pu_q0 (fun z => z rfl)]
    have hc : 3 ≤ nI 3 := by decide
    rw [qX7_readToEnd_7]
    simp [bX7_readToEnd_7, bX7_readToEnd_67, bX7_readToEnd_29, bX7_readToEnd_45, bX7_readToEnd_59, bX7_readToEnd_61, a_al, a_ald, a_cv, a_gi, a_gr, a_iceq, a_icge, a_icne, a_ifne, a_ild, a_inc, a_lcmp, a_push, a_wl, a_zret, sh_1, sh_3, sh_59, pu_rv, pu_as, Value.category, pu_bk, pu_kl, List.replicate, pu_wi_1, pu_wi_2, nl_add, nl_ladd, nl_aa, nl_mul, nl_rmul, nl_mm, pu_qe0, pu_qe1, hc]
    all_goals try simp (maxSteps := 400000) (disch := omega) [nl_tle, nl_fle, nl_tlt, nl_flt, nl_teq, nl_feq, nl_sub, nl_ss, nl_lt, nl_llt, nl_ltt, nl_le, nl_lle, nl_lee, nl_eq, nl_leq, nl_ee, nl_div, nl_rem, nl_cl, nl_n1, nl_n2, nl_n3, nl_n4, nl_add, nl_ladd, nl_aa, nl_mul, nl_rmul, nl_mm, pu_wi_1, pu_wi_2, bX7_readToEnd_7, bX7_readToEnd_67, bX7_readToEnd_29, bX7_readToEnd_45, bX7_readToEnd_59, bX7_readToEnd_61, a_al, a_ald, a_cv, a_gi, a_gr, a_iceq, a_icge, a_icne, a_ifne, a_ild, a_inc, a_lcmp, a_push, a_wl, a_zret, sh_1, sh_3, sh_59, pu_rv, pu_as, Value.category, pu_bk, pu_kl, pu_qe0, pu_qe1, hc]
    all_goals try simp [bX7_readToEnd_7, bX7_readToEnd_67, bX7_readToEnd_29, bX7_readToEnd_45, bX7_readToEnd_59, bX7_readToEnd_61, a_al, a_ald, a_cv, a_gi, a_gr, a_iceq, a_icge, a_icne, a_ifne, a_ild, a_inc, a_lcmp, a_push, a_wl, a_zret, sh_1, sh_3, sh_59, pu_rv, pu_as, Value.category, pu_bk, pu_kl, List.replicate, pu_wi_1, pu_wi_2, nl_add, nl_ladd, nl_aa, nl_mul, nl_rmul, nl_mm, pu_qe0, pu_qe1, hc]
    all_goals try simp (maxSteps := 400000) (disch := omega) [nl_tle, nl_fle, nl_tlt, nl_flt, nl_teq, nl_feq, nl_sub, nl_ss, nl_lt, nl_llt, nl_ltt, nl_le, nl_lle, nl_lee, nl_eq, nl_leq, nl_ee, nl_div, nl_rem, nl_cl, nl_n1, nl_n2, nl_n3, nl_n4, nl_add, nl_ladd, nl_aa, nl_mul, nl_rmul, nl_mm, pu_wi_1, pu_wi_2, bX7_readToEnd_7, bX7_readToEnd_67, bX7_readToEnd_29, bX7_readToEnd_45, bX7_readToEnd_59, bX7_readToEnd_61, a_al, a_ald, a_cv, a_gi, a_gr, a_iceq, a_icge, a_icne, a_ifne, a_ild, a_inc, a_lcmp, a_push, a_wl, a_zret, sh_1, sh_3, sh_59, pu_rv, pu_as, Value.category, pu_bk, pu_kl, pu_qe0, pu_qe1, hc]
    all_goals try simp [bX7_readToEnd_7, bX7_readToEnd_67, bX7_readToEnd_29, bX7_readToEnd_45, bX7_readToEnd_59, bX7_readToEnd_61, a_al, a_ald, a_cv, a_gi, a_gr, a_iceq, a_icge, a_icne, a_ifne, a_ild, a_inc, a_lcmp, a_push, a_wl, a_zret, sh_1, sh_3, sh_59, pu_rv, pu_as, Value.category, pu_bk, pu_kl, List.replicate, pu_wi_1, pu_wi_2, nl_add, nl_ladd, nl_aa, nl_mul, nl_rmul, nl_mm, pu_qe0, pu_qe1, hc]
    all_goals try simp (maxSteps := 400000) (disch := omega) [nl_tle, nl_fle, nl_tlt, nl_flt, nl_teq, nl_feq, nl_sub, nl_ss, nl_lt, nl_llt, nl_ltt, nl_le, nl_lle, nl_lee, nl_eq, nl_leq, nl_ee, nl_div, nl_rem, nl_cl, nl_n1, nl_n2, nl_n3, nl_n4, nl_add, nl_ladd, nl_aa, nl_mul, nl_rmul, nl_mm, pu_wi_1, pu_wi_2, bX7_readToEnd_7, bX7_readToEnd_67, bX7_readToEnd_29, bX7_readToEnd_45, bX7_readToEnd_59, bX7_readToEnd_61, a_al, a_ald, a_cv, a_gi, a_gr, a_iceq, a_icge, a_icne, a_ifne, a_ild, a_inc, a_lcmp, a_push, a_wl, a_zret, sh_1, sh_3, sh_59, pu_rv, pu_as, Value.category, pu_bk, pu_kl, pu_qe0, pu_qe1, hc]
    all_goals try simp [bX7_readToEnd_7, bX7_readToEnd_67, bX7_readToEnd_29, bX7_readToEnd_45, bX7_readToEnd_59, bX7_readToEnd_61, a_al, a_ald, a_cv, a_gi, a_gr, a_iceq, a_icge, a_icne, a_ifne, a_ild, a_inc, a_lcmp, a_push, a_wl, a_zret, sh_1, sh_3, sh_59, pu_rv, pu_as, Value.category, pu_bk, pu_kl, List.replicate, pu_wi_1, pu_wi_2, nl_add, nl_ladd, nl_aa, nl_mul, nl_rmul, nl_mm, pu_qe0, pu_qe1, hc]
  | n + 1, i, pos, M, hx, h, hn, hp, h7, hz => by
    have hc : ¬ 3 ≤ nI i := nI_ge (b := 3) (by omega) (by omega)
    have e := c_readWord hx h hp h7
    have q := py_lw_l b t 12 pos hp
    have z0 := py_lw0 (b := b) hp
    have il : i < 3 := by omega
    unfold py_ns py_nq
    generalize hds : py_lw b t 12 pos = ds at *
    -- behind the word
    have t1 := h.1
    have t3 := h.2.2.1
    have hM1 : pu_fx (pu_wl (pu_wi M 59 7 (nI (pos + ds.length))) a i (lN (pu_wv ds))) := hx
    have tM1 : py_tv (pu_wl (pu_wi M 59 7 (nI (pos + ds.length))) a i (lN (pu_wv ds))) b t := py_tv_m h (by rw [py_wl_1, py_wi_o (by omega)]) (fun j => by rw [py_wl_1, py_wi_o (by omega)]) rfl
    have pM1 : (pu_wl (pu_wi M 59 7 (nI (pos + ds.length))) a i (lN (pu_wv ds))).1 59 7 = nI (pos + ds.length) := by
      rw [py_wl_1]
      simp [pu_wi_1]
    have fM1 : py_rf M (pu_wl (pu_wi M 59 7 (nI (pos + ds.length))) a i (lN (pu_wv ds))) a i := ⟨rfl, fun x j hj => by rw [py_wl_1, py_wi_o hj], fun x j hj => by rw [py_wl_o (by omega)]; rfl⟩
    have rM1 : (pu_wl (pu_wi M 59 7 (nI (pos + ds.length))) a i (lN (pu_wv ds))).2.1 a i = lN (pu_wv ds) := by
      rw [py_wl_3, if_pos rfl, if_pos rfl]
    have gM1 : (pu_wl (pu_wi M 59 7 (nI (pos + ds.length))) a i (lN (pu_wv ds))).2.2.1 59 6 = some 1 := t3
    have oM1 : (pu_wl (pu_wi M 59 7 (nI (pos + ds.length))) a i (lN (pu_wv ds))).1 1 0 = nI t := tM1.1
    have zM1 : ∀ j, i + 1 ≤ j → j < 3 → (pu_wl (pu_wi M 59 7 (nI (pos + ds.length))) a i (lN (pu_wv ds))).2.1 a j = 0 := fun j h1 h2 => by
      rw [py_wl_o (by omega)]
      exact hz j (by omega) h2
    by_cases c0 : ds = []
    · rw [if_pos c0, if_pos c0]
      have pM0 : nI (pos + ds.length) = nI pos := by rw [c0]; rfl
      generalize hM : pu_wl (pu_wi M 59 7 (nI (pos + ds.length))) a i (lN (pu_wv ds)) = M1 at *
      refine ⟨M1, fM1, pM1.trans pM0, fun l hl => (by cases hl), ?_⟩
      rw [pu_q0 (fun z => z rfl)]
      have w0 : lN (pu_wv ds) = 0 := by rw [z0]; exact c0
      rw [w0] at rM1 hM
      rw [qX7_readToEnd_7]
      simp [bX7_readToEnd_7, bX7_readToEnd_67, bX7_readToEnd_29, bX7_readToEnd_45, bX7_readToEnd_59, bX7_readToEnd_61, a_al, a_ald, a_cv, a_gi, a_gr, a_iceq, a_icge, a_icne, a_ifne, a_ild, a_inc, a_lcmp, a_push, a_wl, a_zret, sh_1, sh_3, sh_59, pu_rv, pu_as, Value.category, pu_bk, pu_kl, List.replicate, pu_wi_1, pu_wi_2, nl_add, nl_ladd, nl_aa, nl_mul, nl_rmul, nl_mm, pu_qe0, pu_qe1, hc, e, w0, sa, il, hM, rM1, py_cmp]
      all_goals try simp (maxSteps := 400000) (disch := omega) [nl_tle, nl_fle, nl_tlt, nl_flt, nl_teq, nl_feq, nl_sub, nl_ss, nl_lt, nl_llt, nl_ltt, nl_le, nl_lle, nl_lee, nl_eq, nl_leq, nl_ee, nl_div, nl_rem, nl_cl, nl_n1, nl_n2, nl_n3, nl_n4, nl_add, nl_ladd, nl_aa, nl_mul, nl_rmul, nl_mm, pu_wi_1, pu_wi_2, bX7_readToEnd_7, bX7_readToEnd_67, bX7_readToEnd_29, bX7_readToEnd_45, bX7_readToEnd_59, bX7_readToEnd_61, a_al, a_ald, a_cv, a_gi, a_gr, a_iceq, a_icge, a_icne, a_ifne, a_ild, a_inc, a_lcmp, a_push, a_wl, a_zret, sh_1, sh_3, sh_59, pu_rv, pu_as, Value.category, pu_bk, pu_kl, pu_qe0, pu_qe1, hc, e, w0, sa, il, hM, rM1, py_cmp]
      all_goals try simp [bX7_readToEnd_7, bX7_readToEnd_67, bX7_readToEnd_29, bX7_readToEnd_45, bX7_readToEnd_59, bX7_readToEnd_61, a_al, a_ald, a_cv, a_gi, a_gr, a_iceq, a_icge, a_icne, a_ifne, a_ild, a_inc, a_lcmp, a_push, a_wl, a_zret, sh_1, sh_3, sh_59, pu_rv, pu_as, Value.category, pu_bk, pu_kl, List.replicate, pu_wi_1, pu_wi_2, nl_add, nl_ladd, nl_aa, nl_mul, nl_rmul, nl_mm, pu_qe0, pu_qe1, hc, e, w0, sa, il, hM, rM1, py_cmp]
      all_goals try simp (maxSteps := 400000) (disch := omega) [nl_tle, nl_fle, nl_tlt, nl_flt, nl_teq, nl_feq, nl_sub, nl_ss, nl_lt, nl_llt, nl_ltt, nl_le, nl_lle, nl_lee, nl_eq, nl_leq, nl_ee, nl_div, nl_rem, nl_cl, nl_n1, nl_n2, nl_n3, nl_n4, nl_add, nl_ladd, nl_aa, nl_mul, nl_rmul, nl_mm, pu_wi_1, pu_wi_2, bX7_readToEnd_7, bX7_readToEnd_67, bX7_readToEnd_29, bX7_readToEnd_45, bX7_readToEnd_59, bX7_readToEnd_61, a_al, a_ald, a_cv, a_gi, a_gr, a_iceq, a_icge, a_icne, a_ifne, a_ild, a_inc, a_lcmp, a_push, a_wl, a_zret, sh_1, sh_3, sh_59, pu_rv, pu_as, Value.category, pu_bk, pu_kl, pu_qe0, pu_qe1, hc, e, w0, sa, il, hM, rM1, py_cmp]
      all_goals try simp [bX7_readToEnd_7, bX7_readToEnd_67, bX7_readToEnd_29, bX7_readToEnd_45, bX7_readToEnd_59, bX7_readToEnd_61, a_al, a_ald, a_cv, a_gi, a_gr, a_iceq, a_icge, a_icne, a_ifne, a_ild, a_inc, a_lcmp, a_push, a_wl, a_zret, sh_1, sh_3, sh_59, pu_rv, pu_as, Value.category, pu_bk, pu_kl, List.replicate, pu_wi_1, pu_wi_2, nl_add, nl_ladd, nl_aa, nl_mul, nl_rmul, nl_mm, pu_qe0, pu_qe1, hc, e, w0, sa, il, hM, rM1, py_cmp]
      all_goals try simp (maxSteps := 400000) (disch := omega) [nl_tle, nl_fle, nl_tlt, nl_flt, nl_teq, nl_feq, nl_sub, nl_ss, nl_lt, nl_llt, nl_ltt, nl_le, nl_lle, nl_lee, nl_eq, nl_leq, nl_ee, nl_div, nl_rem, nl_cl, nl_n1, nl_n2, nl_n3, nl_n4, nl_add, nl_ladd, nl_aa, nl_mul, nl_rmul, nl_mm, pu_wi_1, pu_wi_2, bX7_readToEnd_7, bX7_readToEnd_67, bX7_readToEnd_29, bX7_readToEnd_45, bX7_readToEnd_59, bX7_readToEnd_61, a_al, a_ald, a_cv, a_gi, a_gr, a_iceq, a_icge, a_icne, a_ifne, a_ild, a_inc, a_lcmp, a_push, a_wl, a_zret, sh_1, sh_3, sh_59, pu_rv, pu_as, Value.category, pu_bk, pu_kl, pu_qe0, pu_qe1, hc, e, w0, sa, il, hM, rM1, py_cmp]
      all_goals try simp [bX7_readToEnd_7, bX7_readToEnd_67, bX7_readToEnd_29, bX7_readToEnd_45, bX7_readToEnd_59, bX7_readToEnd_61, a_al, a_ald, a_cv, a_gi, a_gr, a_iceq, a_icge, a_icne, a_ifne, a_ild, a_inc, a_lcmp, a_push, a_wl, a_zret, sh_1, sh_3, sh_59, pu_rv, pu_as, Value.category, pu_bk, pu_kl, List.replicate, pu_wi_1, pu_wi_2, nl_add, nl_ladd, nl_aa, nl_mul, nl_rmul, nl_mm, pu_qe0, pu_qe1, hc, e, w0, sa, il, hM, rM1, py_cmp]
    · rw [if_neg c0, if_neg c0]
      have w0 : ¬ lN (pu_wv ds) = 0 := by rw [z0]; exact c0
      generalize hM : pu_wl (pu_wi M 59 7 (nI (pos + ds.length))) a i (lN (pu_wv ds)) = M1 at *
      by_cases c1 : pos + ds.length = t
      · rw [if_pos c1, if_pos c1]
        refine ⟨M1, fM1, by rw [pM1, c1], fun l hl k hk => ?_, ?_⟩
        · cases hl
          by_cases k0 : k = 0
          · subst k0
            exact rM1
          · rw [zM1 (i + k) (by omega) (by omega)]
            have : ([ds] : List (List Nat)).getD k [] = [] := by
              obtain ⟨k', rfl⟩ : ∃ k', k = k' + 1 := ⟨k - 1, by omega⟩
              simp
            rw [this]
            rfl
        · rw [pu_q1 (fun z => by cases z)]
          rw [c1] at pM1
          rw [qX7_readToEnd_7]
          simp [bX7_readToEnd_7, bX7_readToEnd_67, bX7_readToEnd_29, bX7_readToEnd_45, bX7_readToEnd_59, bX7_readToEnd_61, a_al, a_ald, a_cv, a_gi, a_gr, a_iceq, a_icge, a_icne, a_ifne, a_ild, a_inc, a_lcmp, a_push, a_wl, a_zret, sh_1, sh_3, sh_59, pu_rv, pu_as, Value.category, pu_bk, pu_kl, List.replicate, pu_wi_1, pu_wi_2, nl_add, nl_ladd, nl_aa, nl_mul, nl_rmul, nl_mm, pu_qe0, pu_qe1, hc, e, w0, sa, il, hM, rM1, py_cmp, gM1, oM1, pM1]
          all_goals try simp (maxSteps := 400000) (disch := omega) [nl_tle, nl_fle, nl_tlt, nl_flt, nl_teq, nl_feq, nl_sub, nl_ss, nl_lt, nl_llt, nl_ltt, nl_le, nl_lle, nl_lee, nl_eq, nl_leq, nl_ee, nl_div, nl_rem, nl_cl, nl_n1, nl_n2, nl_n3, nl_n4, nl_add, nl_ladd, nl_aa, nl_mul, nl_rmul, nl_mm, pu_wi_1, pu_wi_2, bX7_readToEnd_7, bX7_readToEnd_67, bX7_readToEnd_29, bX7_readToEnd_45, bX7_readToEnd_59, bX7_readToEnd_61, a_al, a_ald, a_cv, a_gi, a_gr, a_iceq, a_icge, a_icne, a_ifne, a_ild, a_inc, a_lcmp, a_push, a_wl, a_zret, sh_1, sh_3, sh_59, pu_rv, pu_as, Value.category, pu_bk, pu_kl, pu_qe0, pu_qe1, hc, e, w0, sa, il, hM, rM1, py_cmp, gM1, oM1, pM1]
          all_goals try simp [bX7_readToEnd_7, bX7_readToEnd_67, bX7_readToEnd_29, bX7_readToEnd_45, bX7_readToEnd_59, bX7_readToEnd_61, a_al, a_ald, a_cv, a_gi, a_gr, a_iceq, a_icge, a_icne, a_ifne, a_ild, a_inc, a_lcmp, a_push, a_wl, a_zret, sh_1, sh_3, sh_59, pu_rv, pu_as, Value.category, pu_bk, pu_kl, List.replicate, pu_wi_1, pu_wi_2, nl_add, nl_ladd, nl_aa, nl_mul, nl_rmul, nl_mm, pu_qe0, pu_qe1, hc, e, w0, sa, il, hM, rM1, py_cmp, gM1, oM1, pM1]
          all_goals try simp (maxSteps := 400000) (disch := omega) [nl_tle, nl_fle, nl_tlt, nl_flt, nl_teq, nl_feq, nl_sub, nl_ss, nl_lt, nl_llt, nl_ltt, nl_le, nl_lle, nl_lee, nl_eq, nl_leq, nl_ee, nl_div, nl_rem, nl_cl, nl_n1, nl_n2, nl_n3, nl_n4, nl_add, nl_ladd, nl_aa, nl_mul, nl_rmul, nl_mm, pu_wi_1, pu_wi_2, bX7_readToEnd_7, bX7_readToEnd_67, bX7_readToEnd_29, bX7_readToEnd_45, bX7_readToEnd_59, bX7_readToEnd_61, a_al, a_ald, a_cv, a_gi, a_gr, a_iceq, a_icge, a_icne, a_ifne, a_ild, a_inc, a_lcmp, a_push, a_wl, a_zret, sh_1, sh_3, sh_59, pu_rv, pu_as, Value.category, pu_bk, pu_kl, pu_qe0, pu_qe1, hc, e, w0, sa, il, hM, rM1, py_cmp, gM1, oM1, pM1]
          all_goals try simp [bX7_readToEnd_7, bX7_readToEnd_67, bX7_readToEnd_29, bX7_readToEnd_45, bX7_readToEnd_59, bX7_readToEnd_61, a_al, a_ald, a_cv, a_gi, a_gr, a_iceq, a_icge, a_icne, a_ifne, a_ild, a_inc, a_lcmp, a_push, a_wl, a_zret, sh_1, sh_3, sh_59, pu_rv, pu_as, Value.category, pu_bk, pu_kl, List.replicate, pu_wi_1, pu_wi_2, nl_add, nl_ladd, nl_aa, nl_mul, nl_rmul, nl_mm, pu_qe0, pu_qe1, hc, e, w0, sa, il, hM, rM1, py_cmp, gM1, oM1, pM1]
          all_goals try simp (maxSteps := 400000) (disch := omega) [nl_tle, nl_fle, nl_tlt, nl_flt, nl_teq, nl_feq, nl_sub, nl_ss, nl_lt, nl_llt, nl_ltt, nl_le, nl_lle, nl_lee, nl_eq, nl_leq, nl_ee, nl_div, nl_rem, nl_cl, nl_n1, nl_n2, nl_n3, nl_n4, nl_add, nl_ladd, nl_aa, nl_mul, nl_rmul, nl_mm, pu_wi_1, pu_wi_2, bX7_readToEnd_7, bX7_readToEnd_67, bX7_readToEnd_29, bX7_readToEnd_45, bX7_readToEnd_59, bX7_readToEnd_61, a_al, a_ald, a_cv, a_gi, a_gr, a_iceq, a_icge, a_icne, a_ifne, a_ild, a_inc, a_lcmp, a_push, a_wl, a_zret, sh_1, sh_3, sh_59, pu_rv, pu_as, Value.category, pu_bk, pu_kl, pu_qe0, pu_qe1, hc, e, w0, sa, il, hM, rM1, py_cmp, gM1, oM1, pM1]
          all_goals try simp [bX7_readToEnd_7, bX7_readToEnd_67, bX7_readToEnd_29, bX7_readToEnd_45, bX7_readToEnd_59, bX7_readToEnd_61, a_al, a_ald, a_cv, a_gi, a_gr, a_iceq, a_icge, a_icne, a_ifne, a_ild, a_inc, a_lcmp, a_push, a_wl, a_zret, sh_1, sh_3, sh_59, pu_rv, pu_as, Value.category, pu_bk, pu_kl, List.replicate, pu_wi_1, pu_wi_2, nl_add, nl_ladd, nl_aa, nl_mul, nl_rmul, nl_mm, pu_qe0, pu_qe1, hc, e, w0, sa, il, hM, rM1, py_cmp, gM1, oM1, pM1]
      · rw [if_neg c1, if_neg c1]
        have c1' : ¬ nI (pos + ds.length) = nI t := fun z => c1 (by rw [nI_eq (by have := h.2.1; omega) (by have := h.2.1; omega)] at z; exact z)
        by_cases c2 : n = 0
        · subst c2
          rw [if_pos rfl]
          have i2 : i = 2 := by omega
          subst i2
          refine ⟨M1, fM1, pM1, fun l hl => (by cases hl), ?_⟩
          rw [pu_q0 (fun z => z rfl)]
          have e2 : nI 2 = (2 : Int32) := rfl
          rw [qX7_readToEnd_7]
          simp [bX7_readToEnd_7, bX7_readToEnd_67, bX7_readToEnd_29, bX7_readToEnd_45, bX7_readToEnd_59, bX7_readToEnd_61, a_al, a_ald, a_cv, a_gi, a_gr, a_iceq, a_icge, a_icne, a_ifne, a_ild, a_inc, a_lcmp, a_push, a_wl, a_zret, sh_1, sh_3, sh_59, pu_rv, pu_as, Value.category, pu_bk, pu_kl, List.replicate, pu_wi_1, pu_wi_2, nl_add, nl_ladd, nl_aa, nl_mul, nl_rmul, nl_mm, pu_qe0, pu_qe1, hc, e, w0, sa, il, hM, rM1, py_cmp, gM1, oM1, pM1, c1', e2]
          all_goals try simp (maxSteps := 400000) (disch := omega) [nl_tle, nl_fle, nl_tlt, nl_flt, nl_teq, nl_feq, nl_sub, nl_ss, nl_lt, nl_llt, nl_ltt, nl_le, nl_lle, nl_lee, nl_eq, nl_leq, nl_ee, nl_div, nl_rem, nl_cl, nl_n1, nl_n2, nl_n3, nl_n4, nl_add, nl_ladd, nl_aa, nl_mul, nl_rmul, nl_mm, pu_wi_1, pu_wi_2, bX7_readToEnd_7, bX7_readToEnd_67, bX7_readToEnd_29, bX7_readToEnd_45, bX7_readToEnd_59, bX7_readToEnd_61, a_al, a_ald, a_cv, a_gi, a_gr, a_iceq, a_icge, a_icne, a_ifne, a_ild, a_inc, a_lcmp, a_push, a_wl, a_zret, sh_1, sh_3, sh_59, pu_rv, pu_as, Value.category, pu_bk, pu_kl, pu_qe0, pu_qe1, hc, e, w0, sa, il, hM, rM1, py_cmp, gM1, oM1, pM1, c1', e2]
          all_goals try simp [bX7_readToEnd_7, bX7_readToEnd_67, bX7_readToEnd_29, bX7_readToEnd_45, bX7_readToEnd_59, bX7_readToEnd_61, a_al, a_ald, a_cv, a_gi, a_gr, a_iceq, a_icge, a_icne, a_ifne, a_ild, a_inc, a_lcmp, a_push, a_wl, a_zret, sh_1, sh_3, sh_59, pu_rv, pu_as, Value.category, pu_bk, pu_kl, List.replicate, pu_wi_1, pu_wi_2, nl_add, nl_ladd, nl_aa, nl_mul, nl_rmul, nl_mm, pu_qe0, pu_qe1, hc, e, w0, sa, il, hM, rM1, py_cmp, gM1, oM1, pM1, c1', e2]
          all_goals try simp (maxSteps := 400000) (disch := omega) [nl_tle, nl_fle, nl_tlt, nl_flt, nl_teq, nl_feq, nl_sub, nl_ss, nl_lt, nl_llt, nl_ltt, nl_le, nl_lle, nl_lee, nl_eq, nl_leq, nl_ee, nl_div, nl_rem, nl_cl, nl_n1, nl_n2, nl_n3, nl_n4, nl_add, nl_ladd, nl_aa, nl_mul, nl_rmul, nl_mm, pu_wi_1, pu_wi_2, bX7_readToEnd_7, bX7_readToEnd_67, bX7_readToEnd_29, bX7_readToEnd_45, bX7_readToEnd_59, bX7_readToEnd_61, a_al, a_ald, a_cv, a_gi, a_gr, a_iceq, a_icge, a_icne, a_ifne, a_ild, a_inc, a_lcmp, a_push, a_wl, a_zret, sh_1, sh_3, sh_59, pu_rv, pu_as, Value.category, pu_bk, pu_kl, pu_qe0, pu_qe1, hc, e, w0, sa, il, hM, rM1, py_cmp, gM1, oM1, pM1, c1', e2]
          all_goals try simp [bX7_readToEnd_7, bX7_readToEnd_67, bX7_readToEnd_29, bX7_readToEnd_45, bX7_readToEnd_59, bX7_readToEnd_61, a_al, a_ald, a_cv, a_gi, a_gr, a_iceq, a_icge, a_icne, a_ifne, a_ild, a_inc, a_lcmp, a_push, a_wl, a_zret, sh_1, sh_3, sh_59, pu_rv, pu_as, Value.category, pu_bk, pu_kl, List.replicate, pu_wi_1, pu_wi_2, nl_add, nl_ladd, nl_aa, nl_mul, nl_rmul, nl_mm, pu_qe0, pu_qe1, hc, e, w0, sa, il, hM, rM1, py_cmp, gM1, oM1, pM1, c1', e2]
          all_goals try simp (maxSteps := 400000) (disch := omega) [nl_tle, nl_fle, nl_tlt, nl_flt, nl_teq, nl_feq, nl_sub, nl_ss, nl_lt, nl_llt, nl_ltt, nl_le, nl_lle, nl_lee, nl_eq, nl_leq, nl_ee, nl_div, nl_rem, nl_cl, nl_n1, nl_n2, nl_n3, nl_n4, nl_add, nl_ladd, nl_aa, nl_mul, nl_rmul, nl_mm, pu_wi_1, pu_wi_2, bX7_readToEnd_7, bX7_readToEnd_67, bX7_readToEnd_29, bX7_readToEnd_45, bX7_readToEnd_59, bX7_readToEnd_61, a_al, a_ald, a_cv, a_gi, a_gr, a_iceq, a_icge, a_icne, a_ifne, a_ild, a_inc, a_lcmp, a_push, a_wl, a_zret, sh_1, sh_3, sh_59, pu_rv, pu_as, Value.category, pu_bk, pu_kl, pu_qe0, pu_qe1, hc, e, w0, sa, il, hM, rM1, py_cmp, gM1, oM1, pM1, c1', e2]
          all_goals try simp [bX7_readToEnd_7, bX7_readToEnd_67, bX7_readToEnd_29, bX7_readToEnd_45, bX7_readToEnd_59, bX7_readToEnd_61, a_al, a_ald, a_cv, a_gi, a_gr, a_iceq, a_icge, a_icne, a_ifne, a_ild, a_inc, a_lcmp, a_push, a_wl, a_zret, sh_1, sh_3, sh_59, pu_rv, pu_as, Value.category, pu_bk, pu_kl, List.replicate, pu_wi_1, pu_wi_2, nl_add, nl_ladd, nl_aa, nl_mul, nl_rmul, nl_mm, pu_qe0, pu_qe1, hc, e, w0, sa, il, hM, rM1, py_cmp, gM1, oM1, pM1, c1', e2]
        · rw [if_neg c2, if_neg c2]
          have i2 : ¬ nI i = 2 := fun z => by
            rw [show (2 : Int32) = nI 2 from rfl, nI_eq (by omega) (by omega)] at z
            omega
          rcases c_readByte hM1 tM1 (by omega) pM1 32 (by omega) with ⟨r1, r2, r3⟩ | ⟨r1, r2⟩
          · rw [if_pos r2, if_pos r2]
            obtain ⟨N, n1, n4, n2, n3⟩ := c_toEndP_l b t a sa n (i + 1) (pos + ds.length + 1) (pu_wi M1 59 7 (nI (pos + ds.length + 1))) hM1 (py_tv_p tM1 _) (by omega) (by omega) (by simp [pu_wi_1]) (fun j h1 h2 => zM1 j h1 h2)
            refine ⟨N, ⟨n1.1.trans fM1.1, fun x j hj => by rw [n1.2.1 x j hj, py_wi_o hj]; exact fM1.2.1 x j hj, fun x j hj => by rw [n1.2.2 x j (by omega)]; exact fM1.2.2 x j hj⟩, n4, fun l hl k hk => ?_, ?_⟩
            · rw [Option.map_eq_some_iff] at hl
              obtain ⟨l2, h1, h2⟩ := hl
              rw [← h2]
              by_cases k0 : k = 0
              · subst k0
                rw [Nat.add_zero, n1.2.2 a i (by omega)]
                exact rM1
              · obtain ⟨k', rfl⟩ : ∃ k', k = k' + 1 := ⟨k - 1, by omega⟩
                have := n2 l2 h1 k' (by omega)
                rw [show i + (k' + 1) = i + 1 + k' by omega, this]
                rfl
            · have e3 : (Option.map (fun l => ds :: l) (py_ns b t n (pos + ds.length + 1)) ≠ none) = (py_ns b t n (pos + ds.length + 1) ≠ none) := by
                simp
              rw [e3]
              rw [show nI 32 = (32 : Int32) from rfl] at r3
              rw [qX7_readToEnd_7]
              simp [bX7_readToEnd_7, bX7_readToEnd_67, bX7_readToEnd_29, bX7_readToEnd_45, bX7_readToEnd_59, bX7_readToEnd_61, a_al, a_ald, a_cv, a_gi, a_gr, a_iceq, a_icge, a_icne, a_ifne, a_ild, a_inc, a_lcmp, a_push, a_wl, a_zret, sh_1, sh_3, sh_59, pu_rv, pu_as, Value.category, pu_bk, pu_kl, List.replicate, pu_wi_1, pu_wi_2, nl_add, nl_ladd, nl_aa, nl_mul, nl_rmul, nl_mm, pu_qe0, pu_qe1, hc, e, w0, sa, il, hM, rM1, py_cmp, gM1, oM1, pM1, c1', i2, r3, n3]
              all_goals try simp (maxSteps := 400000) (disch := omega) [nl_tle, nl_fle, nl_tlt, nl_flt, nl_teq, nl_feq, nl_sub, nl_ss, nl_lt, nl_llt, nl_ltt, nl_le, nl_lle, nl_lee, nl_eq, nl_leq, nl_ee, nl_div, nl_rem, nl_cl, nl_n1, nl_n2, nl_n3, nl_n4, nl_add, nl_ladd, nl_aa, nl_mul, nl_rmul, nl_mm, pu_wi_1, pu_wi_2, bX7_readToEnd_7, bX7_readToEnd_67, bX7_readToEnd_29, bX7_readToEnd_45, bX7_readToEnd_59, bX7_readToEnd_61, a_al, a_ald, a_cv, a_gi, a_gr, a_iceq, a_icge, a_icne, a_ifne, a_ild, a_inc, a_lcmp, a_push, a_wl, a_zret, sh_1, sh_3, sh_59, pu_rv, pu_as, Value.category, pu_bk, pu_kl, pu_qe0, pu_qe1, hc, e, w0, sa, il, hM, rM1, py_cmp, gM1, oM1, pM1, c1', i2, r3, n3]
              all_goals try simp [bX7_readToEnd_7, bX7_readToEnd_67, bX7_readToEnd_29, bX7_readToEnd_45, bX7_readToEnd_59, bX7_readToEnd_61, a_al, a_ald, a_cv, a_gi, a_gr, a_iceq, a_icge, a_icne, a_ifne, a_ild, a_inc, a_lcmp, a_push, a_wl, a_zret, sh_1, sh_3, sh_59, pu_rv, pu_as, Value.category, pu_bk, pu_kl, List.replicate, pu_wi_1, pu_wi_2, nl_add, nl_ladd, nl_aa, nl_mul, nl_rmul, nl_mm, pu_qe0, pu_qe1, hc, e, w0, sa, il, hM, rM1, py_cmp, gM1, oM1, pM1, c1', i2, r3, n3]
              all_goals try simp (maxSteps := 400000) (disch := omega) [nl_tle, nl_fle, nl_tlt, nl_flt, nl_teq, nl_feq, nl_sub, nl_ss, nl_lt, nl_llt, nl_ltt, nl_le, nl_lle, nl_lee, nl_eq, nl_leq, nl_ee, nl_div, nl_rem, nl_cl, nl_n1, nl_n2, nl_n3, nl_n4, nl_add, nl_ladd, nl_aa, nl_mul, nl_rmul, nl_mm, pu_wi_1, pu_wi_2, bX7_readToEnd_7, bX7_readToEnd_67, bX7_readToEnd_29, bX7_readToEnd_45, bX7_readToEnd_59, bX7_readToEnd_61, a_al, a_ald, a_cv, a_gi, a_gr, a_iceq, a_icge, a_icne, a_ifne, a_ild, a_inc, a_lcmp, a_push, a_wl, a_zret, sh_1, sh_3, sh_59, pu_rv, pu_as, Value.category, pu_bk, pu_kl, pu_qe0, pu_qe1, hc, e, w0, sa, il, hM, rM1, py_cmp, gM1, oM1, pM1, c1', i2, r3, n3]
              all_goals try simp [bX7_readToEnd_7, bX7_readToEnd_67, bX7_readToEnd_29, bX7_readToEnd_45, bX7_readToEnd_59, bX7_readToEnd_61, a_al, a_ald, a_cv, a_gi, a_gr, a_iceq, a_icge, a_icne, a_ifne, a_ild, a_inc, a_lcmp, a_push, a_wl, a_zret, sh_1, sh_3, sh_59, pu_rv, pu_as, Value.category, pu_bk, pu_kl, List.replicate, pu_wi_1, pu_wi_2, nl_add, nl_ladd, nl_aa, nl_mul, nl_rmul, nl_mm, pu_qe0, pu_qe1, hc, e, w0, sa, il, hM, rM1, py_cmp, gM1, oM1, pM1, c1', i2, r3, n3]
              all_goals try simp (maxSteps := 400000) (disch := omega) [nl_tle, nl_fle, nl_tlt, nl_flt, nl_teq, nl_feq, nl_sub, nl_ss, nl_lt, nl_llt, nl_ltt, nl_le, nl_lle, nl_lee, nl_eq, nl_leq, nl_ee, nl_div, nl_rem, nl_cl, nl_n1, nl_n2, nl_n3, nl_n4, nl_add, nl_ladd, nl_aa, nl_mul, nl_rmul, nl_mm, pu_wi_1, pu_wi_2, bX7_readToEnd_7, bX7_readToEnd_67, bX7_readToEnd_29, bX7_readToEnd_45, bX7_readToEnd_59, bX7_readToEnd_61, a_al, a_ald, a_cv, a_gi, a_gr, a_iceq, a_icge, a_icne, a_ifne, a_ild, a_inc, a_lcmp, a_push, a_wl, a_zret, sh_1, sh_3, sh_59, pu_rv, pu_as, Value.category, pu_bk, pu_kl, pu_qe0, pu_qe1, hc, e, w0, sa, il, hM, rM1, py_cmp, gM1, oM1, pM1, c1', i2, r3, n3]
              all_goals try simp [bX7_readToEnd_7, bX7_readToEnd_67, bX7_readToEnd_29, bX7_readToEnd_45, bX7_readToEnd_59, bX7_readToEnd_61, a_al, a_ald, a_cv, a_gi, a_gr, a_iceq, a_icge, a_icne, a_ifne, a_ild, a_inc, a_lcmp, a_push, a_wl, a_zret, sh_1, sh_3, sh_59, pu_rv, pu_as, Value.category, pu_bk, pu_kl, List.replicate, pu_wi_1, pu_wi_2, nl_add, nl_ladd, nl_aa, nl_mul, nl_rmul, nl_mm, pu_qe0, pu_qe1, hc, e, w0, sa, il, hM, rM1, py_cmp, gM1, oM1, pM1, c1', i2, r3, n3]
          · rw [if_neg (fun z => r1 ⟨by omega, z⟩), if_neg (fun z => r1 ⟨by omega, z⟩)]
            refine ⟨M1, fM1, pM1, fun l hl => (by cases hl), ?_⟩
            rw [pu_q0 (fun z => z rfl)]
            rw [show nI 32 = (32 : Int32) from rfl] at r2
            rw [qX7_readToEnd_7]
            simp [bX7_readToEnd_7, bX7_readToEnd_67, bX7_readToEnd_29, bX7_readToEnd_45, bX7_readToEnd_59, bX7_readToEnd_61, a_al, a_ald, a_cv, a_gi, a_gr, a_iceq, a_icge, a_icne, a_ifne, a_ild, a_inc, a_lcmp, a_push, a_wl, a_zret, sh_1, sh_3, sh_59, pu_rv, pu_as, Value.category, pu_bk, pu_kl, List.replicate, pu_wi_1, pu_wi_2, nl_add, nl_ladd, nl_aa, nl_mul, nl_rmul, nl_mm, pu_qe0, pu_qe1, hc, e, w0, sa, il, hM, rM1, py_cmp, gM1, oM1, pM1, c1', i2, r2]
            all_goals try simp (maxSteps := 400000) (disch := omega) [nl_tle, nl_fle, nl_tlt, nl_flt, nl_teq, nl_feq, nl_sub, nl_ss, nl_lt, nl_llt, nl_ltt, nl_le, nl_lle, nl_lee, nl_eq, nl_leq, nl_ee, nl_div, nl_rem, nl_cl, nl_n1, nl_n2, nl_n3, nl_n4, nl_add, nl_ladd, nl_aa, nl_mul, nl_rmul, nl_mm, pu_wi_1, pu_wi_2, bX7_readToEnd_7, bX7_readToEnd_67, bX7_readToEnd_29, bX7_readToEnd_45, bX7_readToEnd_59, bX7_readToEnd_61, a_al, a_ald, a_cv, a_gi, a_gr, a_iceq, a_icge, a_icne, a_ifne, a_ild, a_inc, a_lcmp, a_push, a_wl, a_zret, sh_1, sh_3, sh_59, pu_rv, pu_as, Value.category, pu_bk, pu_kl, pu_qe0, pu_qe1, hc, e, w0, sa, il, hM, rM1, py_cmp, gM1, oM1, pM1, c1', i2, r2]
            all_goals try simp [bX7_readToEnd_7, bX7_readToEnd_67, bX7_readToEnd_29, bX7_readToEnd_45, bX7_readToEnd_59, bX7_readToEnd_61, a_al, a_ald, a_cv, a_gi, a_gr, a_iceq, a_icge, a_icne, a_ifne, a_ild, a_inc, a_lcmp, a_push, a_wl, a_zret, sh_1, sh_3, sh_59, pu_rv, pu_as, Value.category, pu_bk, pu_kl, List.replicate, pu_wi_1, pu_wi_2, nl_add, nl_ladd, nl_aa, nl_mul, nl_rmul, nl_mm, pu_qe0, pu_qe1, hc, e, w0, sa, il, hM, rM1, py_cmp, gM1, oM1, pM1, c1', i2, r2]
            all_goals try simp (maxSteps := 400000) (disch := omega) [nl_tle, nl_fle, nl_tlt, nl_flt, nl_teq, nl_feq, nl_sub, nl_ss, nl_lt, nl_llt, nl_ltt, nl_le, nl_lle, nl_lee, nl_eq, nl_leq, nl_ee, nl_div, nl_rem, nl_cl, nl_n1, nl_n2, nl_n3, nl_n4, nl_add, nl_ladd, nl_aa, nl_mul, nl_rmul, nl_mm, pu_wi_1, pu_wi_2, bX7_readToEnd_7, bX7_readToEnd_67, bX7_readToEnd_29, bX7_readToEnd_45, bX7_readToEnd_59, bX7_readToEnd_61, a_al, a_ald, a_cv, a_gi, a_gr, a_iceq, a_icge, a_icne, a_ifne, a_ild, a_inc, a_lcmp, a_push, a_wl, a_zret, sh_1, sh_3, sh_59, pu_rv, pu_as, Value.category, pu_bk, pu_kl, pu_qe0, pu_qe1, hc, e, w0, sa, il, hM, rM1, py_cmp, gM1, oM1, pM1, c1', i2, r2]
            all_goals try simp [bX7_readToEnd_7, bX7_readToEnd_67, bX7_readToEnd_29, bX7_readToEnd_45, bX7_readToEnd_59, bX7_readToEnd_61, a_al, a_ald, a_cv, a_gi, a_gr, a_iceq, a_icge, a_icne, a_ifne, a_ild, a_inc, a_lcmp, a_push, a_wl, a_zret, sh_1, sh_3, sh_59, pu_rv, pu_as, Value.category, pu_bk, pu_kl, List.replicate, pu_wi_1, pu_wi_2, nl_add, nl_ladd, nl_aa, nl_mul, nl_rmul, nl_mm, pu_qe0, pu_qe1, hc, e, w0, sa, il, hM, rM1, py_cmp, gM1, oM1, pM1, c1', i2, r2]
            all_goals try simp (maxSteps := 400000) (disch := omega) [nl_tle, nl_fle, nl_tlt, nl_flt, nl_teq, nl_feq, nl_sub, nl_ss, nl_lt, nl_llt, nl_ltt, nl_le, nl_lle, nl_lee, nl_eq, nl_leq, nl_ee, nl_div, nl_rem, nl_cl, nl_n1, nl_n2, nl_n3, nl_n4, nl_add, nl_ladd, nl_aa, nl_mul, nl_rmul, nl_mm, pu_wi_1, pu_wi_2, bX7_readToEnd_7, bX7_readToEnd_67, bX7_readToEnd_29, bX7_readToEnd_45, bX7_readToEnd_59, bX7_readToEnd_61, a_al, a_ald, a_cv, a_gi, a_gr, a_iceq, a_icge, a_icne, a_ifne, a_ild, a_inc, a_lcmp, a_push, a_wl, a_zret, sh_1, sh_3, sh_59, pu_rv, pu_as, Value.category, pu_bk, pu_kl, pu_qe0, pu_qe1, hc, e, w0, sa, il, hM, rM1, py_cmp, gM1, oM1, pM1, c1', i2, r2]
            all_goals try simp [bX7_readToEnd_7, bX7_readToEnd_67, bX7_readToEnd_29, bX7_readToEnd_45, bX7_readToEnd_59, bX7_readToEnd_61, a_al, a_ald, a_cv, a_gi, a_gr, a_iceq, a_icge, a_icne, a_ifne, a_ild, a_inc, a_lcmp, a_push, a_wl, a_zret, sh_1, sh_3, sh_59, pu_rv, pu_as, Value.category, pu_bk, pu_kl, List.replicate, pu_wi_1, pu_wi_2, nl_add, nl_ladd, nl_aa, nl_mul, nl_rmul, nl_mm, pu_qe0, pu_qe1, hc, e, w0, sa, il, hM, rM1, py_cmp, gM1, oM1, pM1, c1', i2, r2]
theorem c_toEndP {M : pu_M} (b : Nat → Nat) (t a : Nat) (sa : pu_sh a = (3, 3)) (pos : Nat) (hx : pu_fx M) (h : py_tv M b t) (hp : pos ≤ t) (h7 : M.1 59 7 = nI pos) : ∃ N, py_rf M N a 0 ∧ N.1 59 7 = nI (py_nq b t 3 pos) ∧ (∀ l, py_ns b t 3 pos = some l → ∀ k, k < 3 → N.2.1 a k = lN (pu_wv (l.getD k []))) ∧ pu_r 26 [some (.ref 59), some (.ref a)] [] M = some (some (.int (pu_q (py_ns b t 3 pos ≠ none))), N) := by
  have e := c_fill3 (M := M) a sa
  have z : ∀ j, j < 3 → (py_z3 M a).2.1 a j = 0 := fun j hj => by
    unfold py_z3
    match j, hj with
    | 0, _ => rw [py_wl_o (by omega), py_wl_o (by omega), py_wl_3, if_pos rfl, if_pos rfl]
    | 1, _ => rw [py_wl_o (by omega), py_wl_3, if_pos rfl, if_pos rfl]
    | 2, _ => rw [py_wl_3, if_pos rfl, if_pos rfl]
    | j + 3, hj => omega
  obtain ⟨N, n1, n4, n2, n3⟩ := c_toEndP_l b t a sa 3 0 pos (py_z3 M a) hx (py_tv_m h rfl (fun _ => rfl) rfl) (by omega) hp h7 (fun j _ hj => z j hj)
  refine ⟨N, ⟨n1.1, n1.2.1, fun x j hj => ?_⟩, n4, fun l hl k hk => ?_, ?_⟩
  · rw [n1.2.2 x j hj]
    unfold py_z3
    rw [py_wl_o (by omega), py_wl_o (by omega), py_wl_o (by omega)]
  · have := n2 l hl k hk
    rw [Nat.zero_add] at this
    exact this
  · rw [nI_0] at n3
    rw [qX7_readToEnd]
    simp [a_ent, bX7_readToEnd_0, a_ald, a_cs, a_ist, a_push, pu_rv, pu_as, Value.category, pu_bk, pu_kl, List.replicate, pu_wi_1, pu_wi_2, nl_add, nl_ladd, nl_aa, nl_mul, nl_rmul, nl_mm, pu_qe0, pu_qe1, e, n3]
    all_goals try simp (maxSteps := 400000) (disch := omega) [nl_tle, nl_fle, nl_tlt, nl_flt, nl_teq, nl_feq, nl_sub, nl_ss, nl_lt, nl_llt, nl_ltt, nl_le, nl_lle, nl_lee, nl_eq, nl_leq, nl_ee, nl_div, nl_rem, nl_cl, nl_n1, nl_n2, nl_n3, nl_n4, nl_add, nl_ladd, nl_aa, nl_mul, nl_rmul, nl_mm, pu_wi_1, pu_wi_2, bX7_readToEnd_0, a_ald, a_cs, a_ist, a_push, pu_rv, pu_as, Value.category, pu_bk, pu_kl, pu_qe0, pu_qe1, e, n3]
    all_goals try simp [bX7_readToEnd_0, a_ald, a_cs, a_ist, a_push, pu_rv, pu_as, Value.category, pu_bk, pu_kl, List.replicate, pu_wi_1, pu_wi_2, nl_add, nl_ladd, nl_aa, nl_mul, nl_rmul, nl_mm, pu_qe0, pu_qe1, e, n3]
    all_goals try simp (maxSteps := 400000) (disch := omega) [nl_tle, nl_fle, nl_tlt, nl_flt, nl_teq, nl_feq, nl_sub, nl_ss, nl_lt, nl_llt, nl_ltt, nl_le, nl_lle, nl_lee, nl_eq, nl_leq, nl_ee, nl_div, nl_rem, nl_cl, nl_n1, nl_n2, nl_n3, nl_n4, nl_add, nl_ladd, nl_aa, nl_mul, nl_rmul, nl_mm, pu_wi_1, pu_wi_2, bX7_readToEnd_0, a_ald, a_cs, a_ist, a_push, pu_rv, pu_as, Value.category, pu_bk, pu_kl, pu_qe0, pu_qe1, e, n3]
    all_goals try simp [bX7_readToEnd_0, a_ald, a_cs, a_ist, a_push, pu_rv, pu_as, Value.category, pu_bk, pu_kl, List.replicate, pu_wi_1, pu_wi_2, nl_add, nl_ladd, nl_aa, nl_mul, nl_rmul, nl_mm, pu_qe0, pu_qe1, e, n3]
    all_goals try simp (maxSteps := 400000) (disch := omega) [nl_tle, nl_fle, nl_tlt, nl_flt, nl_teq, nl_feq, nl_sub, nl_ss, nl_lt, nl_llt, nl_ltt, nl_le, nl_lle, nl_lee, nl_eq, nl_leq, nl_ee, nl_div, nl_rem, nl_cl, nl_n1, nl_n2, nl_n3, nl_n4, nl_add, nl_ladd, nl_aa, nl_mul, nl_rmul, nl_mm, pu_wi_1, pu_wi_2, bX7_readToEnd_0, a_ald, a_cs, a_ist, a_push, pu_rv, pu_as, Value.category, pu_bk, pu_kl, pu_qe0, pu_qe1, e, n3]
    all_goals try simp [bX7_readToEnd_0, a_ald, a_cs, a_ist, a_push, pu_rv, pu_as, Value.category, pu_bk, pu_kl, List.replicate, pu_wi_1, pu_wi_2, nl_add, nl_ladd, nl_aa, nl_mul, nl_rmul, nl_mm, pu_qe0, pu_qe1, e, n3]
