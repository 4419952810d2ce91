/-! names up to the end of the text: the class -/
/-- the words of a name that stands from pos to the end, n words at most -/
def py_ns (b : Nat → Nat) (t : Nat) : Nat → Nat → Option (List (List Nat))
  | 0, _ => none
  | n + 1, pos => if py_lw b t 12 pos = [] then none else if pos + (py_lw b t 12 pos).length = t then some [py_lw b t 12 pos] else if n = 0 then none else if b (pos + (py_lw b t 12 pos).length) = 32 then (py_ns b t n (pos + (py_lw b t 12 pos).length + 1)).map (fun l => py_lw b t 12 pos :: l) else none
theorem py_ns_l (b : Nat → Nat) (t : Nat) : ∀ n pos l, pos ≤ t → py_ns b t n pos = some l → l.length ≤ n ∧ ∀ ds ∈ l, ds ≠ [] ∧ ds.length ≤ 12 ∧ ∀ d ∈ ds, d < 26
  | 0, pos, l, hp, h => by cases h
  | n + 1, pos, l, hp, h => by
    unfold py_ns at h
    have q := py_lw_l b t 12 pos hp
    by_cases c0 : py_lw b t 12 pos = []
    · rw [if_pos c0] at h
      cases h
    · rw [if_neg c0] at h
      by_cases c1 : pos + (py_lw b t 12 pos).length = t
      · rw [if_pos c1] at h
        cases h
        refine ⟨by simp, fun ds hds => ?_⟩
        rw [List.mem_singleton] at hds
        rw [hds]
        exact ⟨c0, q.1, q.2.2⟩
      · rw [if_neg c1] at h
        by_cases c2 : n = 0
        · rw [if_pos c2] at h
          cases h
        · rw [if_neg c2] at h
          by_cases c3 : b (pos + (py_lw b t 12 pos).length) = 32
          · rw [if_pos c3, Option.map_eq_some_iff] at h
            obtain ⟨l2, h1, h2⟩ := h
            have ih := py_ns_l b t n _ l2 (by omega) h1
            rw [← h2]
            refine ⟨by rw [List.length_cons]; omega, fun ds hds => ?_⟩
            rcases List.mem_cons.mp hds with z | z
            · rw [z]
              exact ⟨c0, q.1, q.2.2⟩
            · exact ih.2 ds z
          · rw [if_neg c3] at h
            cases h
theorem py_lw0 {b : Nat → Nat} {t pos : Nat} (hp : pos ≤ t) : (lN (pu_wv (py_lw b t 12 pos)) = 0) = (py_lw b t 12 pos = []) := by
  have q := py_lw_l b t 12 pos hp
  apply propext
  constructor
  · intro z
    have z2 : lN (pu_wv (py_lw b t 12 pos)) = lN 0 := z
    rw [pk_lEQ (py_wv_b q.1 q.2.2) (by decide)] at z2
    exact py_wv_inj q.2.2 (b := []) (fun _ h => by cases h) z2
  · intro z
    rw [z]
    rfl
/-- only the reader's place and the words from i on have changed -/
def py_rf (M N : pu_M) (a i : Nat) : Prop := N.2.2 = M.2.2 ∧ (∀ x j, ¬ (x = 59 ∧ j = 7) → N.1 x j = M.1 x j) ∧ (∀ x j, ¬ (x = a ∧ i ≤ j) → N.2.1 x j = M.2.1 x j)
theorem py_wl_3 (M : pu_M) (a i : Nat) (v : Int64) (b j : Nat) : (pu_wl M a i v).2.1 b j = if b = a then (if j = i then v else M.2.1 b j) else M.2.1 b j := rfl
theorem py_wl_1 (M : pu_M) (a i : Nat) (v : Int64) : (pu_wl M a i v).1 = M.1 := rfl
theorem py_wl_2 (M : pu_M) (a i : Nat) (v : Int64) : (pu_wl M a i v).2.2 = M.2.2 := rfl
theorem py_wl_o {M : pu_M} {a i : Nat} {v : Int64} {x j : Nat} (h : ¬ (x = a ∧ j = i)) : (pu_wl M a i v).2.1 x j = M.2.1 x j := by
  rw [py_wl_3]
  by_cases c : x = a
  · rw [if_pos c, if_neg (fun z => h ⟨c, z⟩)]
  · rw [if_neg c]
theorem py_tv_m {M N : pu_M} {b : Nat → Nat} {t : Nat} (h : py_tv M b t) (e1 : N.1 1 0 = M.1 1 0) (e2 : ∀ j, N.1 2 j = M.1 2 j) (e3 : N.2.2.1 59 6 = M.2.2.1 59 6) : py_tv N b t := ⟨by rw [e1]; exact h.1, h.2.1, by rw [e3]; exact h.2.2.1, fun j hj => by rw [e2]; exact h.2.2.2 j hj⟩
theorem c_toEnd_l (b : Nat → Nat) (t a : Nat) (sa : pu_sh a = (3, 3)) : ∀ (n i pos : Nat) (M : pu_M), pu_fx M → py_tv M b t → i + n = 3 → pos ≤ t → M.1 59 7 = nI pos → (∀ j, i ≤ j → j < 3 → M.2.1 a j = 0) → ∃ N, py_rf M N a i ∧ (∀ l, py_ns b t n pos = some l → ∀ k, k < n → N.2.1 a (i + k) = lN (pu_wv (l.getD k []))) ∧ pu_r 359 [some (.ref 59), some (.ref a), some (.int (nI i))] [] M = some (some (.int (pu_q (py_ns b t n pos ≠ none))), N)
  | 0, i, pos, M, hx, h, hn, hp, h7, hz => by
    have e : i = 3 := by omega
    subst e
    refine ⟨M, ⟨rfl, fun _ _ _ => rfl, fun _ _ _ => rfl⟩, fun l hl => (by cases hl), ?_⟩
    rw [pu_q0 (fun z => z rfl)]
    have hc : 3 ≤ nI 3 := by decide
    rw [qX7_readToEnd_7]
    simp [bX7_readToEnd_7, bX7_readToEnd_67, bX7_readToEnd_29, bX7_readToEnd_45, bX7_readToEnd_59, bX7_readToEnd_61, a_al, a_ald, a_cv, a_gi, a_gr, a_iceq, a_icge, a_icne, a_ifne, a_ild, a_inc, a_lcmp, a_push, a_wl, a_zret, sh_1, sh_3, sh_59, pu_rv, pu_as, Value.category, pu_bk, pu_kl, List.replicate, pu_wi_1, pu_wi_2, nl_add, nl_ladd, nl_aa, nl_mul, nl_rmul, nl_mm, pu_qe0, pu_qe1, hc]
    all_goals try simp (maxSteps := 400000) (disch := omega) [nl_tle, nl_fle, nl_tlt, nl_flt, nl_teq, nl_feq, nl_sub, nl_ss, nl_lt, nl_llt, nl_ltt, nl_le, nl_lle, nl_lee, nl_eq, nl_leq, nl_ee, nl_div, nl_rem, nl_cl, nl_n1, nl_n2, nl_n3, nl_n4, nl_add, nl_ladd, nl_aa, nl_mul, nl_rmul, nl_mm, pu_wi_1, pu_wi_2, bX7_readToEnd_7, bX7_readToEnd_67, bX7_readToEnd_29, bX7_readToEnd_45, bX7_readToEnd_59, bX7_readToEnd_61, a_al, a_ald, a_cv, a_gi, a_gr, a_iceq, a_icge, a_icne, a_ifne, a_ild, a_inc, a_lcmp, a_push, a_wl, a_zret, sh_1, sh_3, sh_59, pu_rv, pu_as, Value.category, pu_bk, pu_kl, pu_qe0, pu_qe1, hc]
    all_goals try simp [bX7_readToEnd_7, bX7_readToEnd_67, bX7_readToEnd_29, bX7_readToEnd_45, bX7_readToEnd_59, bX7_readToEnd_61, a_al, a_ald, a_cv, a_gi, a_gr, a_iceq, a_icge, a_icne, a_ifne, a_ild, a_inc, a_lcmp, a_push, a_wl, a_zret, sh_1, sh_3, sh_59, pu_rv, pu_as, Value.category, pu_bk, pu_kl, List.replicate, pu_wi_1, pu_wi_2, nl_add, nl_ladd, nl_aa, nl_mul, nl_rmul, nl_mm, pu_qe0, pu_qe1, hc]
    all_goals try simp (maxSteps := 400000) (disch := omega) [nl_tle, nl_fle, nl_tlt, nl_flt, nl_teq, nl_feq, nl_sub, nl_ss, nl_lt, nl_llt, nl_ltt, nl_le, nl_lle, nl_lee, nl_eq, nl_leq, nl_ee, nl_div, nl_rem, nl_cl, nl_n1, nl_n2, nl_n3, nl_n4, nl_add, nl_ladd, nl_aa, nl_mul, nl_rmul, nl_mm, pu_wi_1, pu_wi_2, bX7_readToEnd_7, bX7_readToEnd_67, bX7_readToEnd_29, bX7_readToEnd_45, bX7_readToEnd_59, bX7_readToEnd_61, a_al, a_ald, a_cv, a_gi, a_gr, a_iceq, a_icge, a_icne, a_ifne, a_ild, a_inc, a_lcmp, a_push, a_wl, a_zret, sh_1, sh_3, sh_59, pu_rv, pu_as, Value.category, pu_bk, pu_kl, pu_qe0, pu_qe1, hc]
  | n + 1, i, pos, M, hx, h, hn, hp, h7, hz => by
    have hc : ¬ 3 ≤ nI i := nI_ge (b := 3) (by omega) (by omega)
    have e := c_readWord hx h hp h7
    have q := py_lw_l b t 12 pos hp
    have z0 := py_lw0 (b := b) hp
    have il : i < 3 := by omega
    unfold py_ns
    generalize hds : py_lw b t 12 pos = ds at *
    -- behind the word
    have t1 := h.1
    have t3 := h.2.2.1
    have hM1 : pu_fx (pu_wl (pu_wi M 59 7 (nI (pos + ds.length))) a i (lN (pu_wv ds))) := hx
    have tM1 : py_tv (pu_wl (pu_wi M 59 7 (nI (pos + ds.length))) a i (lN (pu_wv ds))) b t := py_tv_m h (by rw [py_wl_1, py_wi_o (by omega)]) (fun j => by rw [py_wl_1, py_wi_o (by omega)]) rfl
    have pM1 : (pu_wl (pu_wi M 59 7 (nI (pos + ds.length))) a i (lN (pu_wv ds))).1 59 7 = nI (pos + ds.length) := by
      rw [py_wl_1]
      simp [pu_wi_1]
    have fM1 : py_rf M (pu_wl (pu_wi M 59 7 (nI (pos + ds.length))) a i (lN (pu_wv ds))) a i := ⟨rfl, fun x j hj => by rw [py_wl_1, py_wi_o hj], fun x j hj => by rw [py_wl_o (by omega)]; rfl⟩
    have rM1 : (pu_wl (pu_wi M 59 7 (nI (pos + ds.length))) a i (lN (pu_wv ds))).2.1 a i = lN (pu_wv ds) := by
      rw [py_wl_3, if_pos rfl, if_pos rfl]
    have gM1 : (pu_wl (pu_wi M 59 7 (nI (pos + ds.length))) a i (lN (pu_wv ds))).2.2.1 59 6 = some 1 := t3
    have oM1 : (pu_wl (pu_wi M 59 7 (nI (pos + ds.length))) a i (lN (pu_wv ds))).1 1 0 = nI t := tM1.1
    have zM1 : ∀ j, i + 1 ≤ j → j < 3 → (pu_wl (pu_wi M 59 7 (nI (pos + ds.length))) a i (lN (pu_wv ds))).2.1 a j = 0 := fun j h1 h2 => by
      rw [py_wl_o (by omega)]
      exact hz j (by omega) h2
    by_cases c0 : ds = []
    · rw [if_pos c0]
      generalize hM : pu_wl (pu_wi M 59 7 (nI (pos + ds.length))) a i (lN (pu_wv ds)) = M1 at *
      refine ⟨M1, fM1, fun l hl => (by cases hl), ?_⟩
      rw [pu_q0 (fun z => z rfl)]
      have w0 : lN (pu_wv ds) = 0 := by rw [z0]; exact c0
      rw [w0] at rM1 hM
      rw [qX7_readToEnd_7]
      simp [bX7_readToEnd_7, bX7_readToEnd_67, bX7_readToEnd_29, bX7_readToEnd_45, bX7_readToEnd_59, bX7_readToEnd_61, a_al, a_ald, a_cv, a_gi, a_gr, a_iceq, a_icge, a_icne, a_ifne, a_ild, a_inc, a_lcmp, a_push, a_wl, a_zret, sh_1, sh_3, sh_59, pu_rv, pu_as, Value.category, pu_bk, pu_kl, List.replicate, pu_wi_1, pu_wi_2, nl_add, nl_ladd, nl_aa, nl_mul, nl_rmul, nl_mm, pu_qe0, pu_qe1, hc, e, w0, sa, il, hM, rM1, py_cmp]
      all_goals try simp (maxSteps := 400000) (disch := omega) [nl_tle, nl_fle, nl_tlt, nl_flt, nl_teq, nl_feq, nl_sub, nl_ss, nl_lt, nl_llt, nl_ltt, nl_le, nl_lle, nl_lee, nl_eq, nl_leq, nl_ee, nl_div, nl_rem, nl_cl, nl_n1, nl_n2, nl_n3, nl_n4, nl_add, nl_ladd, nl_aa, nl_mul, nl_rmul, nl_mm, pu_wi_1, pu_wi_2, bX7_readToEnd_7, bX7_readToEnd_67, bX7_readToEnd_29, bX7_readToEnd_45, bX7_readToEnd_59, bX7_readToEnd_61, a_al, a_ald, a_cv, a_gi, a_gr, a_iceq, a_icge, a_icne, a_ifne, a_ild, a_inc, a_lcmp, a_push, a_wl, a_zret, sh_1, sh_3, sh_59, pu_rv, pu_as, Value.category, pu_bk, pu_kl, pu_qe0, pu_qe1, hc, e, w0, sa, il, hM, rM1, py_cmp]
      all_goals try simp [bX7_readToEnd_7, bX7_readToEnd_67, bX7_readToEnd_29, bX7_readToEnd_45, bX7_readToEnd_59, bX7_readToEnd_61, a_al, a_ald, a_cv, a_gi, a_gr, a_iceq, a_icge, a_icne, a_ifne, a_ild, a_inc, a_lcmp, a_push, a_wl, a_zret, sh_1, sh_3, sh_59, pu_rv, pu_as, Value.category, pu_bk, pu_kl, List.replicate, pu_wi_1, pu_wi_2, nl_add, nl_ladd, nl_aa, nl_mul, nl_rmul, nl_mm, pu_qe0, pu_qe1, hc, e, w0, sa, il, hM, rM1, py_cmp]
      all_goals try simp (maxSteps := 400000) (disch := omega) [nl_tle, nl_fle, nl_tlt, nl_flt, nl_teq, nl_feq, nl_sub, nl_ss, nl_lt, nl_llt, nl_ltt, nl_le, nl_lle, nl_lee, nl_eq, nl_leq, nl_ee, nl_div, nl_rem, nl_cl, nl_n1, nl_n2, nl_n3, nl_n4, nl_add, nl_ladd, nl_aa, nl_mul, nl_rmul, nl_mm, pu_wi_1, pu_wi_2, bX7_readToEnd_7, bX7_readToEnd_67, bX7_readToEnd_29, bX7_readToEnd_45, bX7_readToEnd_59, bX7_readToEnd_61, a_al, a_ald, a_cv, a_gi, a_gr, a_iceq, a_icge, a_icne, a_ifne, a_ild, a_inc, a_lcmp, a_push, a_wl, a_zret, sh_1, sh_3, sh_59, pu_rv, pu_as, Value.category, pu_bk, pu_kl, pu_qe0, pu_qe1, hc, e, w0, sa, il, hM, rM1, py_cmp]
    · rw [if_neg c0]
      have w0 : ¬ lN (pu_wv ds) = 0 := by rw [z0]; exact c0
      generalize hM : pu_wl (pu_wi M 59 7 (nI (pos + ds.length))) a i (lN (pu_wv ds)) = M1 at *
      by_cases c1 : pos + ds.length = t
      · rw [if_pos c1]
        refine ⟨M1, fM1, fun l hl k hk => ?_, ?_⟩
        · cases hl
          by_cases k0 : k = 0
          · subst k0
            exact rM1
          · rw [zM1 (i + k) (by omega) (by omega)]
            have : ([ds] : List (List Nat)).getD k [] = [] := by
              obtain ⟨k', rfl⟩ : ∃ k', k = k' + 1 := ⟨k - 1, by omega⟩
              simp
            rw [this]
            rfl
        · rw [pu_q1 (fun z => by cases z)]
          rw [c1] at pM1
          rw [qX7_readToEnd_7]
          simp [bX7_readToEnd_7, bX7_readToEnd_67, bX7_readToEnd_29, bX7_readToEnd_45, bX7_readToEnd_59, bX7_readToEnd_61, a_al, a_ald, a_cv, a_gi, a_gr, a_iceq, a_icge, a_icne, a_ifne, a_ild, a_inc, a_lcmp, a_push, a_wl, a_zret, sh_1, sh_3, sh_59, pu_rv, pu_as, Value.category, pu_bk, pu_kl, List.replicate, pu_wi_1, pu_wi_2, nl_add, nl_ladd, nl_aa, nl_mul, nl_rmul, nl_mm, pu_qe0, pu_qe1, hc, e, w0, sa, il, hM, rM1, py_cmp, gM1, oM1, pM1]
          all_goals try simp (maxSteps := 400000) (disch := omega) [nl_tle, nl_fle, nl_tlt, nl_flt, nl_teq, nl_feq, nl_sub, nl_ss, nl_lt, nl_llt, nl_ltt, nl_le, nl_lle, nl_lee, nl_eq, nl_leq, nl_ee, nl_div, nl_rem, nl_cl, nl_n1, nl_n2, nl_n3, nl_n4, nl_add, nl_ladd, nl_aa, nl_mul, nl_rmul, nl_mm, pu_wi_1, pu_wi_2, bX7_readToEnd_7, bX7_readToEnd_67, bX7_readToEnd_29, bX7_readToEnd_45, bX7_readToEnd_59, bX7_readToEnd_61, a_al, a_ald, a_cv, a_gi, a_gr, a_iceq, a_icge, a_icne, a_ifne, a_ild, a_inc, a_lcmp, a_push, a_wl, a_zret, sh_1, sh_3, sh_59, pu_rv, pu_as, Value.category, pu_bk, pu_kl, pu_qe0, pu_qe1, hc, e, w0, sa, il, hM, rM1, py_cmp, gM1, oM1, pM1]
          all_goals try simp [bX7_readToEnd_7, bX7_readToEnd_67, bX7_readToEnd_29, bX7_readToEnd_45, bX7_readToEnd_59, bX7_readToEnd_61, a_al, a_ald, a_cv, a_gi, a_gr, a_iceq, a_icge, a_icne, a_ifne, a_ild, a_inc, a_lcmp, a_push, a_wl, a_zret, sh_1, sh_3, sh_59, pu_rv, pu_as, Value.category, pu_bk, pu_kl, List.replicate, pu_wi_1, pu_wi_2, nl_add, nl_ladd, nl_aa, nl_mul, nl_rmul, nl_mm, pu_qe0, pu_qe1, hc, e, w0, sa, il, hM, rM1, py_cmp, gM1, oM1, pM1]
          all_goals try simp (maxSteps := 400000) (disch := omega) [nl_tle, nl_fle, nl_tlt, nl_flt, nl_teq, nl_feq, nl_sub, nl_ss, nl_lt, nl_llt, nl_ltt, nl_le, nl_lle, nl_lee, nl_eq, nl_leq, nl_ee, nl_div, nl_rem, nl_cl, nl_n1, nl_n2, nl_n3, nl_n4, nl_add, nl_ladd, nl_aa, nl_mul, nl_rmul, nl_mm, pu_wi_1, pu_wi_2, bX7_readToEnd_7, bX7_readToEnd_67, bX7_readToEnd_29, bX7_readToEnd_45, bX7_readToEnd_59, bX7_readToEnd_61, a_al, a_ald, a_cv, a_gi, a_gr, a_iceq, a_icge, a_icne, a_ifne, a_ild, a_inc, a_lcmp, a_push, a_wl, a_zret, sh_1, sh_3, sh_59, pu_rv, pu_as, Value.category, pu_bk, pu_kl, pu_qe0, pu_qe1, hc, e, w0, sa, il, hM, rM1, py_cmp, gM1, oM1, pM1]
      · rw [if_neg c1]
        have c1' : ¬ nI (pos + ds.length) = nI t := fun z => c1 (by rw [nI_eq (by have := h.2.1; omega) (by have := h.2.1; omega)] at z; exact z)
        by_cases c2 : n = 0
        · subst c2
          rw [if_pos rfl]
          have i2 : i = 2 := by omega
          subst i2
          refine ⟨M1, fM1, fun l hl => (by cases hl), ?_⟩
          rw [pu_q0 (fun z => z rfl)]
          have e2 : nI 2 = (2 : Int32) := rfl
          rw [qX7_readToEnd_7]
          simp [bX7_readToEnd_7, bX7_readToEnd_67, bX7_readToEnd_29, bX7_readToEnd_45, bX7_readToEnd_59, bX7_readToEnd_61, a_al, a_ald, a_cv, a_gi, a_gr, a_iceq, a_icge, a_icne, a_ifne, a_ild, a_inc, a_lcmp, a_push, a_wl, a_zret, sh_1, sh_3, sh_59, pu_rv, pu_as, Value.category, pu_bk, pu_kl, List.replicate, pu_wi_1, pu_wi_2, nl_add, nl_ladd, nl_aa, nl_mul, nl_rmul, nl_mm, pu_qe0, pu_qe1, hc, e, w0, sa, il, hM, rM1, py_cmp, gM1, oM1, pM1, c1', e2]
          all_goals try simp (maxSteps := 400000) (disch := omega) [nl_tle, nl_fle, nl_tlt, nl_flt, nl_teq, nl_feq, nl_sub, nl_ss, nl_lt, nl_llt, nl_ltt, nl_le, nl_lle, nl_lee, nl_eq, nl_leq, nl_ee, nl_div, nl_rem, nl_cl, nl_n1, nl_n2, nl_n3, nl_n4, nl_add, nl_ladd, nl_aa, nl_mul, nl_rmul, nl_mm, pu_wi_1, pu_wi_2, bX7_readToEnd_7, bX7_readToEnd_67, bX7_readToEnd_29, bX7_readToEnd_45, bX7_readToEnd_59, bX7_readToEnd_61, a_al, a_ald, a_cv, a_gi, a_gr, a_iceq, a_icge, a_icne, a_ifne, a_ild, a_inc, a_lcmp, a_push, a_wl, a_zret, sh_1, sh_3, sh_59, pu_rv, pu_as, Value.category, pu_bk, pu_kl, pu_qe0, pu_qe1, hc, e, w0, sa, il, hM, rM1, py_cmp, gM1, oM1, pM1, c1', e2]
          all_goals try simp [bX7_readToEnd_7, bX7_readToEnd_67, bX7_readToEnd_29, bX7_readToEnd_45, bX7_readToEnd_59, bX7_readToEnd_61, a_al, a_ald, a_cv, a_gi, a_gr, a_iceq, a_icge, a_icne, a_ifne, a_ild, a_inc, a_lcmp, a_push, a_wl, a_zret, sh_1, sh_3, sh_59, pu_rv, pu_as, Value.category, pu_bk, pu_kl, List.replicate, pu_wi_1, pu_wi_2, nl_add, nl_ladd, nl_aa, nl_mul, nl_rmul, nl_mm, pu_qe0, pu_qe1, hc, e, w0, sa, il, hM, rM1, py_cmp, gM1, oM1, pM1, c1', e2]
          all_goals try simp (maxSteps := 400000) (disch := omega) [nl_tle, nl_fle, nl_tlt, nl_flt, nl_teq, nl_feq, nl_sub, nl_ss, nl_lt, nl_llt, nl_ltt, nl_le, nl_lle, nl_lee, nl_eq, nl_leq, nl_ee, nl_div, nl_rem, nl_cl, nl_n1, nl_n2, nl_n3, nl_n4, nl_add, nl_ladd, nl_aa, nl_mul, nl_rmul, nl_mm, pu_wi_1, pu_wi_2, bX7_readToEnd_7, bX7_readToEnd_67, bX7_readToEnd_29, bX7_readToEnd_45, bX7_readToEnd_59, bX7_readToEnd_61, a_al, a_ald, a_cv, a_gi, a_gr, a_iceq, a_icge, a_icne, a_ifne, a_ild, a_inc, a_lcmp, a_push, a_wl, a_zret, sh_1, sh_3, sh_59, pu_rv, pu_as, Value.category, pu_bk, pu_kl, pu_qe0, pu_qe1, hc, e, w0, sa, il, hM, rM1, py_cmp, gM1, oM1, pM1, c1', e2]
        · rw [if_neg c2]
          have i2 : ¬ nI i = 2 := fun z => by
            rw [show (2 : Int32) = nI 2 from rfl, nI_eq (by omega) (by omega)] at z
            omega
          rcases c_readByte hM1 tM1 (by omega) pM1 32 (by omega) with ⟨r1, r2, r3⟩ | ⟨r1, r2⟩
          · rw [if_pos r2]
            obtain ⟨N, n1, n2, n3⟩ := c_toEnd_l b t a sa n (i + 1) (pos + ds.length + 1) (pu_wi M1 59 7 (nI (pos + ds.length + 1))) hM1 (py_tv_p tM1 _) (by omega) (by omega) (by simp [pu_wi_1]) (fun j h1 h2 => zM1 j h1 h2)
            refine ⟨N, ⟨n1.1.trans fM1.1, fun x j hj => by rw [n1.2.1 x j hj, py_wi_o hj]; exact fM1.2.1 x j hj, fun x j hj => by rw [n1.2.2 x j (by omega)]; exact fM1.2.2 x j hj⟩, fun l hl k hk => ?_, ?_⟩
            · rw [Option.map_eq_some_iff] at hl
              obtain ⟨l2, h1, h2⟩ := hl
              rw [← h2]
              by_cases k0 : k = 0
              · subst k0
                rw [Nat.add_zero, n1.2.2 a i (by omega)]
                exact rM1
              · obtain ⟨k', rfl⟩ : ∃ k', k = k' + 1 := ⟨k - 1, by omega⟩
                have := n2 l2 h1 k' (by omega)
                rw [show i + (k' + 1) = i + 1 + k' by omega, this]
                rfl
            · have e3 : (Option.map (fun l => ds :: l) (py_ns b t n (pos + ds.length + 1)) ≠ none) = (py_ns b t n (pos + ds.length + 1) ≠ none) := by
                simp
              rw [e3]
              rw [show nI 32 = (32 : Int32) from rfl] at r3
              rw [qX7_readToEnd_7]
              simp [bX7_readToEnd_7, bX7_readToEnd_67, bX7_readToEnd_29, bX7_readToEnd_45, bX7_readToEnd_59, bX7_readToEnd_61, a_al, a_ald, a_cv, a_gi, a_gr, a_iceq, a_icge, a_icne, a_ifne, a_ild, a_inc, a_lcmp, a_push, a_wl, a_zret, sh_1, sh_3, sh_59, pu_rv, pu_as, Value.category, pu_bk, pu_kl, List.replicate, pu_wi_1, pu_wi_2, nl_add, nl_ladd, nl_aa, nl_mul, nl_rmul, nl_mm, pu_qe0, pu_qe1, hc, e, w0, sa, il, hM, rM1, py_cmp, gM1, oM1, pM1, c1', i2, r3, n3]
              all_goals try simp (maxSteps := 400000) (disch := omega) [nl_tle, nl_fle, nl_tlt, nl_flt, nl_teq, nl_feq, nl_sub, nl_ss, nl_lt, nl_llt, nl_ltt, nl_le, nl_lle, nl_lee, nl_eq, nl_leq, nl_ee, nl_div, nl_rem, nl_cl, nl_n1, nl_n2, nl_n3, nl_n4, nl_add, nl_ladd, nl_aa, nl_mul, nl_rmul, nl_mm, pu_wi_1, pu_wi_2, bX7_readToEnd_7, bX7_readToEnd_67, bX7_readToEnd_29, bX7_readToEnd_45, bX7_readToEnd_59, bX7_readToEnd_61, a_al, a_ald, a_cv, a_gi, a_gr, a_iceq, a_icge, a_icne, a_ifne, a_ild, a_inc, a_lcmp, a_push, a_wl, a_zret, sh_1, sh_3, sh_59, pu_rv, pu_as, Value.category, pu_bk, pu_kl, pu_qe0, pu_qe1, hc, e, w0, sa, il, hM, rM1, py_cmp, gM1, oM1, pM1, c1', i2, r3, n3]
              all_goals try simp [bX7_readToEnd_7, bX7_readToEnd_67, bX7_readToEnd_29, bX7_readToEnd_45, bX7_readToEnd_59, bX7_readToEnd_61, a_al, a_ald, a_cv, a_gi, a_gr, a_iceq, a_icge, a_icne, a_ifne, a_ild, a_inc, a_lcmp, a_push, a_wl, a_zret, sh_1, sh_3, sh_59, pu_rv, pu_as, Value.category, pu_bk, pu_kl, List.replicate, pu_wi_1, pu_wi_2, nl_add, nl_ladd, nl_aa, nl_mul, nl_rmul, nl_mm, pu_qe0, pu_qe1, hc, e, w0, sa, il, hM, rM1, py_cmp, gM1, oM1, pM1, c1', i2, r3, n3]
              all_goals try simp (maxSteps := 400000) (disch := omega) [nl_tle, nl_fle, nl_tlt, nl_flt, nl_teq, nl_feq, nl_sub, nl_ss, nl_lt, nl_llt, nl_ltt, nl_le, nl_lle, nl_lee, nl_eq, nl_leq, nl_ee, nl_div, nl_rem, nl_cl, nl_n1, nl_n2, nl_n3, nl_n4, nl_add, nl_ladd, nl_aa, nl_mul, nl_rmul, nl_mm, pu_wi_1, pu_wi_2, bX7_readToEnd_7, bX7_readToEnd_67, bX7_readToEnd_29, bX7_readToEnd_45, bX7_readToEnd_59, bX7_readToEnd_61, a_al, a_ald, a_cv, a_gi, a_gr, a_iceq, a_icge, a_icne, a_ifne, a_ild, a_inc, a_lcmp, a_push, a_wl, a_zret, sh_1, sh_3, sh_59, pu_rv, pu_as, Value.category, pu_bk, pu_kl, pu_qe0, pu_qe1, hc, e, w0, sa, il, hM, rM1, py_cmp, gM1, oM1, pM1, c1', i2, r3, n3]
          · rw [if_neg (fun z => r1 ⟨by omega, z⟩)]
            refine ⟨M1, fM1, fun l hl => (by cases hl), ?_⟩
            rw [pu_q0 (fun z => z rfl)]
            rw [show nI 32 = (32 : Int32) from rfl] at r2
            rw [qX7_readToEnd_7]
            simp [bX7_readToEnd_7, bX7_readToEnd_67, bX7_readToEnd_29, bX7_readToEnd_45, bX7_readToEnd_59, bX7_readToEnd_61, a_al, a_ald, a_cv, a_gi, a_gr, a_iceq, a_icge, a_icne, a_ifne, a_ild, a_inc, a_lcmp, a_push, a_wl, a_zret, sh_1, sh_3, sh_59, pu_rv, pu_as, Value.category, pu_bk, pu_kl, List.replicate, pu_wi_1, pu_wi_2, nl_add, nl_ladd, nl_aa, nl_mul, nl_rmul, nl_mm, pu_qe0, pu_qe1, hc, e, w0, sa, il, hM, rM1, py_cmp, gM1, oM1, pM1, c1', i2, r2]
            all_goals try simp (maxSteps := 400000) (disch := omega) [nl_tle, nl_fle, nl_tlt, nl_flt, nl_teq, nl_feq, nl_sub, nl_ss, nl_lt, nl_llt, nl_ltt, nl_le, nl_lle, nl_lee, nl_eq, nl_leq, nl_ee, nl_div, nl_rem, nl_cl, nl_n1, nl_n2, nl_n3, nl_n4, nl_add, nl_ladd, nl_aa, nl_mul, nl_rmul, nl_mm, pu_wi_1, pu_wi_2, bX7_readToEnd_7, bX7_readToEnd_67, bX7_readToEnd_29, bX7_readToEnd_45, bX7_readToEnd_59, bX7_readToEnd_61, a_al, a_ald, a_cv, a_gi, a_gr, a_iceq, a_icge, a_icne, a_ifne, a_ild, a_inc, a_lcmp, a_push, a_wl, a_zret, sh_1, sh_3, sh_59, pu_rv, pu_as, Value.category, pu_bk, pu_kl, pu_qe0, pu_qe1, hc, e, w0, sa, il, hM, rM1, py_cmp, gM1, oM1, pM1, c1', i2, r2]
            all_goals try simp [bX7_readToEnd_7, bX7_readToEnd_67, bX7_readToEnd_29, bX7_readToEnd_45, bX7_readToEnd_59, bX7_readToEnd_61, a_al, a_ald, a_cv, a_gi, a_gr, a_iceq, a_icge, a_icne, a_ifne, a_ild, a_inc, a_lcmp, a_push, a_wl, a_zret, sh_1, sh_3, sh_59, pu_rv, pu_as, Value.category, pu_bk, pu_kl, List.replicate, pu_wi_1, pu_wi_2, nl_add, nl_ladd, nl_aa, nl_mul, nl_rmul, nl_mm, pu_qe0, pu_qe1, hc, e, w0, sa, il, hM, rM1, py_cmp, gM1, oM1, pM1, c1', i2, r2]
            all_goals try simp (maxSteps := 400000) (disch := omega) [nl_tle, nl_fle, nl_tlt, nl_flt, nl_teq, nl_feq, nl_sub, nl_ss, nl_lt, nl_llt, nl_ltt, nl_le, nl_lle, nl_lee, nl_eq, nl_leq, nl_ee, nl_div, nl_rem, nl_cl, nl_n1, nl_n2, nl_n3, nl_n4, nl_add, nl_ladd, nl_aa, nl_mul, nl_rmul, nl_mm, pu_wi_1, pu_wi_2, bX7_readToEnd_7, bX7_readToEnd_67, bX7_readToEnd_29, bX7_readToEnd_45, bX7_readToEnd_59, bX7_readToEnd_61, a_al, a_ald, a_cv, a_gi, a_gr, a_iceq, a_icge, a_icne, a_ifne, a_ild, a_inc, a_lcmp, a_push, a_wl, a_zret, sh_1, sh_3, sh_59, pu_rv, pu_as, Value.category, pu_bk, pu_kl, pu_qe0, pu_qe1, hc, e, w0, sa, il, hM, rM1, py_cmp, gM1, oM1, pM1, c1', i2, r2]
/-- three longs made 0 -/
def py_z3 (M : pu_M) (a : Nat) : pu_M := pu_wl (pu_wl (pu_wl M a 0 0) a 1 0) a 2 0
theorem c_fill3 {M : pu_M} (a : Nat) (sa : pu_sh a = (3, 3)) : pu_r 22 [some (.ref a), some (.long 0), none] [] M = some (none, py_z3 M a) := by
  have L3 : ∀ M : pu_M, pu_r 357 [some (.ref a), some (.long 0), none, some (.int 3), some (.int 3)] [] M = some (none, M) := fun M => by
    rw [qJ7_fill_d0a16_6]
    simp [bJ7_fill_d0a16_6, bJ7_fill_d0a16_22, a_ald, a_icge, a_ild, a_inc, a_lld, a_vret, a_wl, pu_rv, pu_as, Value.category, pu_bk, pu_kl, List.replicate, pu_wi_1, pu_wi_2, nl_add, nl_ladd, nl_aa, nl_mul, nl_rmul, nl_mm, pu_qe0, pu_qe1]
    all_goals try simp (maxSteps := 400000) (disch := omega) [nl_tle, nl_fle, nl_tlt, nl_flt, nl_teq, nl_feq, nl_sub, nl_ss, nl_lt, nl_llt, nl_ltt, nl_le, nl_lle, nl_lee, nl_eq, nl_leq, nl_ee, nl_div, nl_rem, nl_cl, nl_n1, nl_n2, nl_n3, nl_n4, nl_add, nl_ladd, nl_aa, nl_mul, nl_rmul, nl_mm, pu_wi_1, pu_wi_2, bJ7_fill_d0a16_6, bJ7_fill_d0a16_22, a_ald, a_icge, a_ild, a_inc, a_lld, a_vret, a_wl, pu_rv, pu_as, Value.category, pu_bk, pu_kl, pu_qe0, pu_qe1]
    all_goals try simp [bJ7_fill_d0a16_6, bJ7_fill_d0a16_22, a_ald, a_icge, a_ild, a_inc, a_lld, a_vret, a_wl, pu_rv, pu_as, Value.category, pu_bk, pu_kl, List.replicate, pu_wi_1, pu_wi_2, nl_add, nl_ladd, nl_aa, nl_mul, nl_rmul, nl_mm, pu_qe0, pu_qe1]
    all_goals try simp (maxSteps := 400000) (disch := omega) [nl_tle, nl_fle, nl_tlt, nl_flt, nl_teq, nl_feq, nl_sub, nl_ss, nl_lt, nl_llt, nl_ltt, nl_le, nl_lle, nl_lee, nl_eq, nl_leq, nl_ee, nl_div, nl_rem, nl_cl, nl_n1, nl_n2, nl_n3, nl_n4, nl_add, nl_ladd, nl_aa, nl_mul, nl_rmul, nl_mm, pu_wi_1, pu_wi_2, bJ7_fill_d0a16_6, bJ7_fill_d0a16_22, a_ald, a_icge, a_ild, a_inc, a_lld, a_vret, a_wl, pu_rv, pu_as, Value.category, pu_bk, pu_kl, pu_qe0, pu_qe1]
  have L2 : ∀ M : pu_M, pu_r 357 [some (.ref a), some (.long 0), none, some (.int 2), some (.int 3)] [] M = some (none, pu_wl M a 2 0) := fun M => by
    rw [qJ7_fill_d0a16_6]
    simp [bJ7_fill_d0a16_6, bJ7_fill_d0a16_22, a_ald, a_icge, a_ild, a_inc, a_lld, a_vret, a_wl, pu_rv, pu_as, Value.category, pu_bk, pu_kl, List.replicate, pu_wi_1, pu_wi_2, nl_add, nl_ladd, nl_aa, nl_mul, nl_rmul, nl_mm, pu_qe0, pu_qe1, sa, L3]
    all_goals try simp (maxSteps := 400000) (disch := omega) [nl_tle, nl_fle, nl_tlt, nl_flt, nl_teq, nl_feq, nl_sub, nl_ss, nl_lt, nl_llt, nl_ltt, nl_le, nl_lle, nl_lee, nl_eq, nl_leq, nl_ee, nl_div, nl_rem, nl_cl, nl_n1, nl_n2, nl_n3, nl_n4, nl_add, nl_ladd, nl_aa, nl_mul, nl_rmul, nl_mm, pu_wi_1, pu_wi_2, bJ7_fill_d0a16_6, bJ7_fill_d0a16_22, a_ald, a_icge, a_ild, a_inc, a_lld, a_vret, a_wl, pu_rv, pu_as, Value.category, pu_bk, pu_kl, pu_qe0, pu_qe1, sa, L3]
    all_goals try simp [bJ7_fill_d0a16_6, bJ7_fill_d0a16_22, a_ald, a_icge, a_ild, a_inc, a_lld, a_vret, a_wl, pu_rv, pu_as, Value.category, pu_bk, pu_kl, List.replicate, pu_wi_1, pu_wi_2, nl_add, nl_ladd, nl_aa, nl_mul, nl_rmul, nl_mm, pu_qe0, pu_qe1, sa, L3]
    all_goals try simp (maxSteps := 400000) (disch := omega) [nl_tle, nl_fle, nl_tlt, nl_flt, nl_teq, nl_feq, nl_sub, nl_ss, nl_lt, nl_llt, nl_ltt, nl_le, nl_lle, nl_lee, nl_eq, nl_leq, nl_ee, nl_div, nl_rem, nl_cl, nl_n1, nl_n2, nl_n3, nl_n4, nl_add, nl_ladd, nl_aa, nl_mul, nl_rmul, nl_mm, pu_wi_1, pu_wi_2, bJ7_fill_d0a16_6, bJ7_fill_d0a16_22, a_ald, a_icge, a_ild, a_inc, a_lld, a_vret, a_wl, pu_rv, pu_as, Value.category, pu_bk, pu_kl, pu_qe0, pu_qe1, sa, L3]
  have L1 : ∀ M : pu_M, pu_r 357 [some (.ref a), some (.long 0), none, some (.int 1), some (.int 3)] [] M = some (none, pu_wl (pu_wl M a 1 0) a 2 0) := fun M => by
    rw [qJ7_fill_d0a16_6]
    simp [bJ7_fill_d0a16_6, bJ7_fill_d0a16_22, a_ald, a_icge, a_ild, a_inc, a_lld, a_vret, a_wl, pu_rv, pu_as, Value.category, pu_bk, pu_kl, List.replicate, pu_wi_1, pu_wi_2, nl_add, nl_ladd, nl_aa, nl_mul, nl_rmul, nl_mm, pu_qe0, pu_qe1, sa, L2]
    all_goals try simp (maxSteps := 400000) (disch := omega) [nl_tle, nl_fle, nl_tlt, nl_flt, nl_teq, nl_feq, nl_sub, nl_ss, nl_lt, nl_llt, nl_ltt, nl_le, nl_lle, nl_lee, nl_eq, nl_leq, nl_ee, nl_div, nl_rem, nl_cl, nl_n1, nl_n2, nl_n3, nl_n4, nl_add, nl_ladd, nl_aa, nl_mul, nl_rmul, nl_mm, pu_wi_1, pu_wi_2, bJ7_fill_d0a16_6, bJ7_fill_d0a16_22, a_ald, a_icge, a_ild, a_inc, a_lld, a_vret, a_wl, pu_rv, pu_as, Value.category, pu_bk, pu_kl, pu_qe0, pu_qe1, sa, L2]
    all_goals try simp [bJ7_fill_d0a16_6, bJ7_fill_d0a16_22, a_ald, a_icge, a_ild, a_inc, a_lld, a_vret, a_wl, pu_rv, pu_as, Value.category, pu_bk, pu_kl, List.replicate, pu_wi_1, pu_wi_2, nl_add, nl_ladd, nl_aa, nl_mul, nl_rmul, nl_mm, pu_qe0, pu_qe1, sa, L2]
    all_goals try simp (maxSteps := 400000) (disch := omega) [nl_tle, nl_fle, nl_tlt, nl_flt, nl_teq, nl_feq, nl_sub, nl_ss, nl_lt, nl_llt, nl_ltt, nl_le, nl_lle, nl_lee, nl_eq, nl_leq, nl_ee, nl_div, nl_rem, nl_cl, nl_n1, nl_n2, nl_n3, nl_n4, nl_add, nl_ladd, nl_aa, nl_mul, nl_rmul, nl_mm, pu_wi_1, pu_wi_2, bJ7_fill_d0a16_6, bJ7_fill_d0a16_22, a_ald, a_icge, a_ild, a_inc, a_lld, a_vret, a_wl, pu_rv, pu_as, Value.category, pu_bk, pu_kl, pu_qe0, pu_qe1, sa, L2]
  have L0 : ∀ M : pu_M, pu_r 357 [some (.ref a), some (.long 0), none, some (.int 0), some (.int 3)] [] M = some (none, py_z3 M a) := fun M => by
    rw [qJ7_fill_d0a16_6]
    simp [bJ7_fill_d0a16_6, bJ7_fill_d0a16_22, a_ald, a_icge, a_ild, a_inc, a_lld, a_vret, a_wl, pu_rv, pu_as, Value.category, pu_bk, pu_kl, List.replicate, pu_wi_1, pu_wi_2, nl_add, nl_ladd, nl_aa, nl_mul, nl_rmul, nl_mm, pu_qe0, pu_qe1, sa, L1, py_z3]
    all_goals try simp (maxSteps := 400000) (disch := omega) [nl_tle, nl_fle, nl_tlt, nl_flt, nl_teq, nl_feq, nl_sub, nl_ss, nl_lt, nl_llt, nl_ltt, nl_le, nl_lle, nl_lee, nl_eq, nl_leq, nl_ee, nl_div, nl_rem, nl_cl, nl_n1, nl_n2, nl_n3, nl_n4, nl_add, nl_ladd, nl_aa, nl_mul, nl_rmul, nl_mm, pu_wi_1, pu_wi_2, bJ7_fill_d0a16_6, bJ7_fill_d0a16_22, a_ald, a_icge, a_ild, a_inc, a_lld, a_vret, a_wl, pu_rv, pu_as, Value.category, pu_bk, pu_kl, pu_qe0, pu_qe1, sa, L1, py_z3]
    all_goals try simp [bJ7_fill_d0a16_6, bJ7_fill_d0a16_22, a_ald, a_icge, a_ild, a_inc, a_lld, a_vret, a_wl, pu_rv, pu_as, Value.category, pu_bk, pu_kl, List.replicate, pu_wi_1, pu_wi_2, nl_add, nl_ladd, nl_aa, nl_mul, nl_rmul, nl_mm, pu_qe0, pu_qe1, sa, L1, py_z3]
    all_goals try simp (maxSteps := 400000) (disch := omega) [nl_tle, nl_fle, nl_tlt, nl_flt, nl_teq, nl_feq, nl_sub, nl_ss, nl_lt, nl_llt, nl_ltt, nl_le, nl_lle, nl_lee, nl_eq, nl_leq, nl_ee, nl_div, nl_rem, nl_cl, nl_n1, nl_n2, nl_n3, nl_n4, nl_add, nl_ladd, nl_aa, nl_mul, nl_rmul, nl_mm, pu_wi_1, pu_wi_2, bJ7_fill_d0a16_6, bJ7_fill_d0a16_22, a_ald, a_icge, a_ild, a_inc, a_lld, a_vret, a_wl, pu_rv, pu_as, Value.category, pu_bk, pu_kl, pu_qe0, pu_qe1, sa, L1, py_z3]
  have l3 : nI 3 = (3 : Int32) := rfl
  rw [qJ7_fill_d0a16]
  simp [a_ent, bJ7_fill_d0a16_0, a_ald, a_ist, a_len, a_push, pu_rv, pu_as, Value.category, pu_bk, pu_kl, List.replicate, pu_wi_1, pu_wi_2, nl_add, nl_ladd, nl_aa, nl_mul, nl_rmul, nl_mm, pu_qe0, pu_qe1, sa, L0, l3]
  all_goals try simp (maxSteps := 400000) (disch := omega) [nl_tle, nl_fle, nl_tlt, nl_flt, nl_teq, nl_feq, nl_sub, nl_ss, nl_lt, nl_llt, nl_ltt, nl_le, nl_lle, nl_lee, nl_eq, nl_leq, nl_ee, nl_div, nl_rem, nl_cl, nl_n1, nl_n2, nl_n3, nl_n4, nl_add, nl_ladd, nl_aa, nl_mul, nl_rmul, nl_mm, pu_wi_1, pu_wi_2, bJ7_fill_d0a16_0, a_ald, a_ist, a_len, a_push, pu_rv, pu_as, Value.category, pu_bk, pu_kl, pu_qe0, pu_qe1, sa, L0, l3]
  all_goals try simp [bJ7_fill_d0a16_0, a_ald, a_ist, a_len, a_push, pu_rv, pu_as, Value.category, pu_bk, pu_kl, List.replicate, pu_wi_1, pu_wi_2, nl_add, nl_ladd, nl_aa, nl_mul, nl_rmul, nl_mm, pu_qe0, pu_qe1, sa, L0, l3]
  all_goals try simp (maxSteps := 400000) (disch := omega) [nl_tle, nl_fle, nl_tlt, nl_flt, nl_teq, nl_feq, nl_sub, nl_ss, nl_lt, nl_llt, nl_ltt, nl_le, nl_lle, nl_lee, nl_eq, nl_leq, nl_ee, nl_div, nl_rem, nl_cl, nl_n1, nl_n2, nl_n3, nl_n4, nl_add, nl_ladd, nl_aa, nl_mul, nl_rmul, nl_mm, pu_wi_1, pu_wi_2, bJ7_fill_d0a16_0, a_ald, a_ist, a_len, a_push, pu_rv, pu_as, Value.category, pu_bk, pu_kl, pu_qe0, pu_qe1, sa, L0, l3]
theorem c_toEnd {M : pu_M} (b : Nat → Nat) (t a : Nat) (sa : pu_sh a = (3, 3)) (pos : Nat) (hx : pu_fx M) (h : py_tv M b t) (hp : pos ≤ t) (h7 : M.1 59 7 = nI pos) : ∃ N, py_rf M N a 0 ∧ (∀ l, py_ns b t 3 pos = some l → ∀ k, k < 3 → N.2.1 a k = lN (pu_wv (l.getD k []))) ∧ pu_r 26 [some (.ref 59), some (.ref a)] [] M = some (some (.int (pu_q (py_ns b t 3 pos ≠ none))), N) := by
  have e := c_fill3 (M := M) a sa
  have z : ∀ j, j < 3 → (py_z3 M a).2.1 a j = 0 := fun j hj => by
    unfold py_z3
    match j, hj with
    | 0, _ => rw [py_wl_o (by omega), py_wl_o (by omega), py_wl_3, if_pos rfl, if_pos rfl]
    | 1, _ => rw [py_wl_o (by omega), py_wl_3, if_pos rfl, if_pos rfl]
    | 2, _ => rw [py_wl_3, if_pos rfl, if_pos rfl]
    | j + 3, hj => omega
  obtain ⟨N, n1, n2, n3⟩ := c_toEnd_l b t a sa 3 0 pos (py_z3 M a) hx (py_tv_m h rfl (fun _ => rfl) rfl) (by omega) hp h7 (fun j _ hj => z j hj)
  refine ⟨N, ⟨n1.1, n1.2.1, fun x j hj => ?_⟩, fun l hl k hk => ?_, ?_⟩
  · rw [n1.2.2 x j hj]
    unfold py_z3
    rw [py_wl_o (by omega), py_wl_o (by omega), py_wl_o (by omega)]
  · have := n2 l hl k hk
    rw [Nat.zero_add] at this
    exact this
  · rw [nI_0] at n3
    rw [qX7_readToEnd]
    simp [a_ent, bX7_readToEnd_0, a_ald, a_cs, a_ist, a_push, pu_rv, pu_as, Value.category, pu_bk, pu_kl, List.replicate, pu_wi_1, pu_wi_2, nl_add, nl_ladd, nl_aa, nl_mul, nl_rmul, nl_mm, pu_qe0, pu_qe1, e, n3]
    all_goals try simp (maxSteps := 400000) (disch := omega) [nl_tle, nl_fle, nl_tlt, nl_flt, nl_teq, nl_feq, nl_sub, nl_ss, nl_lt, nl_llt, nl_ltt, nl_le, nl_lle, nl_lee, nl_eq, nl_leq, nl_ee, nl_div, nl_rem, nl_cl, nl_n1, nl_n2, nl_n3, nl_n4, nl_add, nl_ladd, nl_aa, nl_mul, nl_rmul, nl_mm, pu_wi_1, pu_wi_2, bX7_readToEnd_0, a_ald, a_cs, a_ist, a_push, pu_rv, pu_as, Value.category, pu_bk, pu_kl, pu_qe0, pu_qe1, e, n3]
    all_goals try simp [bX7_readToEnd_0, a_ald, a_cs, a_ist, a_push, pu_rv, pu_as, Value.category, pu_bk, pu_kl, List.replicate, pu_wi_1, pu_wi_2, nl_add, nl_ladd, nl_aa, nl_mul, nl_rmul, nl_mm, pu_qe0, pu_qe1, e, n3]
    all_goals try simp (maxSteps := 400000) (disch := omega) [nl_tle, nl_fle, nl_tlt, nl_flt, nl_teq, nl_feq, nl_sub, nl_ss, nl_lt, nl_llt, nl_ltt, nl_le, nl_lle, nl_lee, nl_eq, nl_leq, nl_ee, nl_div, nl_rem, nl_cl, nl_n1, nl_n2, nl_n3, nl_n4, nl_add, nl_ladd, nl_aa, nl_mul, nl_rmul, nl_mm, pu_wi_1, pu_wi_2, bX7_readToEnd_0, a_ald, a_cs, a_ist, a_push, pu_rv, pu_as, Value.category, pu_bk, pu_kl, pu_qe0, pu_qe1, e, n3]
