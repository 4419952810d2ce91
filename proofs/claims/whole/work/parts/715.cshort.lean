/-! SHORT forms kept: the class -/
theorem py_n2 (b : Nat → Nat) (t : Nat) : (∃ l, py_ns b t 2 0 = some l ∧ 2 ≤ l.length) ↔ (py_lw b t 12 0 ≠ [] ∧ ((py_lw b t 12 0).length < t ∧ b (py_lw b t 12 0).length = 32) ∧ py_lw b t 12 ((py_lw b t 12 0).length + 1) ≠ [] ∧ (py_lw b t 12 0).length + 1 + (py_lw b t 12 ((py_lw b t 12 0).length + 1)).length = t) ∧ py_ns b t 2 0 = some [py_lw b t 12 0, py_lw b t 12 ((py_lw b t 12 0).length + 1)] := by
  have q := py_lw_l b t 12 0 (by omega)
  have u2 : py_ns b t 2 0 = if py_lw b t 12 0 = [] then none else if 0 + (py_lw b t 12 0).length = t then some [py_lw b t 12 0] else if 1 = 0 then none else if b (0 + (py_lw b t 12 0).length) = 32 then (py_ns b t 1 (0 + (py_lw b t 12 0).length + 1)).map (fun l => py_lw b t 12 0 :: l) else none := rfl
  have u1 : ∀ p, py_ns b t 1 p = if py_lw b t 12 p = [] then none else if p + (py_lw b t 12 p).length = t then some [py_lw b t 12 p] else if 0 = 0 then none else if b (p + (py_lw b t 12 p).length) = 32 then (py_ns b t 0 (p + (py_lw b t 12 p).length + 1)).map (fun l => py_lw b t 12 p :: l) else none := fun p => rfl
  rw [Nat.zero_add] at u2
  constructor
  · rintro ⟨l, hl, g⟩
    rw [u2] at hl
    by_cases c0 : py_lw b t 12 0 = []
    · rw [if_pos c0] at hl
      cases hl
    rw [if_neg c0] at hl
    by_cases c1 : (py_lw b t 12 0).length = t
    · rw [if_pos c1] at hl
      cases hl
      simp at g
    rw [if_neg c1, if_neg (by omega)] at hl
    by_cases c2 : b (py_lw b t 12 0).length = 32
    rotate_left
    · rw [if_neg c2] at hl
      cases hl
    rw [if_pos c2, u1] at hl
    by_cases c3 : py_lw b t 12 ((py_lw b t 12 0).length + 1) = []
    · rw [if_pos c3] at hl
      cases hl
    rw [if_neg c3] at hl
    by_cases c4 : (py_lw b t 12 0).length + 1 + (py_lw b t 12 ((py_lw b t 12 0).length + 1)).length = t
    rotate_left
    · rw [if_neg c4, if_pos rfl] at hl
      cases hl
    refine ⟨⟨c0, ⟨by omega, c2⟩, c3, c4⟩, ?_⟩
    rw [u2, if_neg c0, if_neg c1, if_neg (by omega), if_pos c2, u1, if_neg c3, if_pos c4]
    rfl
  · rintro ⟨_, h⟩
    exact ⟨_, h, by simp⟩
theorem py_n2' (b : Nat → Nat) (t : Nat) (h : py_lw b t 12 0 ≠ [] ∧ ((py_lw b t 12 0).length < t ∧ b (py_lw b t 12 0).length = 32) ∧ py_lw b t 12 ((py_lw b t 12 0).length + 1) ≠ [] ∧ (py_lw b t 12 0).length + 1 + (py_lw b t 12 ((py_lw b t 12 0).length + 1)).length = t) : ∃ l, py_ns b t 2 0 = some l ∧ 2 ≤ l.length := by
  obtain ⟨c0, ⟨c1, c2⟩, c3, c4⟩ := h
  refine ⟨[py_lw b t 12 0, py_lw b t 12 ((py_lw b t 12 0).length + 1)], ?_, by simp⟩
  have u2 : py_ns b t 2 0 = if py_lw b t 12 0 = [] then none else if 0 + (py_lw b t 12 0).length = t then some [py_lw b t 12 0] else if 1 = 0 then none else if b (0 + (py_lw b t 12 0).length) = 32 then (py_ns b t 1 (0 + (py_lw b t 12 0).length + 1)).map (fun l => py_lw b t 12 0 :: l) else none := rfl
  have u1 : ∀ p, py_ns b t 1 p = if py_lw b t 12 p = [] then none else if p + (py_lw b t 12 p).length = t then some [py_lw b t 12 p] else if 0 = 0 then none else if b (p + (py_lw b t 12 p).length) = 32 then (py_ns b t 0 (p + (py_lw b t 12 p).length + 1)).map (fun l => py_lw b t 12 p :: l) else none := fun p => rfl
  rw [Nat.zero_add] at u2
  rw [u2, if_neg c0, if_neg (by omega), if_neg (by omega), if_pos c2, u1, if_neg c3, if_pos c4]
  rfl
theorem c_readPair {M : pu_M} (hx : pu_fx M) {b : Nat → Nat} {t : Nat} (ht : t ≤ 1200) (h1 : M.1 1 0 = nI t) (hb : ∀ j, j < t → M.1 2 j = nI (b j) ∧ b j < 256) : ∃ N, N.2.2.2 = M.2.2.2 ∧ (∀ a j, ¬ (a = 59 ∧ j = 6) → N.2.2.1 a j = M.2.2.1 a j) ∧ (∀ a j, a ≠ 59 → N.1 a j = M.1 a j) ∧ (∀ a j, a ≠ 60 → N.2.1 a j = M.2.1 a j) ∧ pu_fx N ∧ ((∃ l, py_ns b t 2 0 = some l ∧ 2 ≤ l.length) → N.2.1 60 0 = lN (pu_wv (py_lw b t 12 0)) ∧ N.2.1 60 1 = lN (pu_wv (py_lw b t 12 ((py_lw b t 12 0).length + 1)))) ∧ pu_r 36 [some (.ref 59), some (.ref 1)] [] M = some (some (.int (pu_q (∃ l, py_ns b t 2 0 = some l ∧ 2 ≤ l.length))), N) := by
  have hx1 : pu_fx (pu_wi (pu_wr M 59 6 (some 1)) 59 7 0) := py_fx_wr hx _
  have tv : py_tv (pu_wi (pu_wr M 59 6 (some 1)) 59 7 0) b t := ⟨by rw [py_wi_o (by omega)]; exact h1, ht, by show (pu_wr M 59 6 (some 1)).2.2.1 59 6 = some 1; rw [pu_wr_3, if_pos rfl, if_pos rfl], fun j hj => ⟨by rw [py_wi_o (by omega)]; exact (hb j hj).1, (hb j hj).2⟩⟩
  have b1 := c_begin (M := M)
  have g1 := fx_59_0 hx1
  have M1o : ∀ a j, a ≠ 59 → (pu_wi (pu_wr M 59 6 (some 1)) 59 7 0).1 a j = M.1 a j := fun a j ha => by rw [py_wi_o (by omega)]; rfl
  have M1r : ∀ a j, ¬ (a = 59 ∧ j = 6) → (pu_wi (pu_wr M 59 6 (some 1)) 59 7 0).2.2.1 a j = M.2.2.1 a j := fun a j hj => by
    show (pu_wr M 59 6 (some 1)).2.2.1 a j = _
    rw [pu_wr_3]
    by_cases c : a = 59
    · rw [if_pos c, if_neg (fun z => hj ⟨c, z⟩)]
    · rw [if_neg c]
  have M1s : (pu_wi (pu_wr M 59 6 (some 1)) 59 7 0).2.2.2 = M.2.2.2 := rfl
  have M1l : (pu_wi (pu_wr M 59 6 (some 1)) 59 7 0).2.1 = M.2.1 := rfl
  have M17 : (pu_wi (pu_wr M 59 6 (some 1)) 59 7 0).1 59 7 = nI 0 := by simp [pu_wi_1, nI_0]
  generalize pu_wi (pu_wr M 59 6 (some 1)) 59 7 0 = M1 at *
  have e1 := c_readWord hx1 tv (by omega) M17
  have z0 := py_lw0 (b := b) (t := t) (pos := 0) (by omega)
  have q := py_lw_l b t 12 0 (by omega)
  have iff1 := py_n2 b t
  have iff2 := py_n2' b t
  rw [Nat.zero_add] at e1
  generalize hds : py_lw b t 12 0 = ds at *
  have hx3 : pu_fx (pu_wl (pu_wi M1 59 7 (nI ds.length)) 60 0 (lN (pu_wv ds))) := hx1
  have tv3 : py_tv (pu_wl (pu_wi M1 59 7 (nI ds.length)) 60 0 (lN (pu_wv ds))) b t := py_tv_m tv (by rw [py_wl_1, py_wi_o (by omega)]) (fun j => by rw [py_wl_1, py_wi_o (by omega)]) rfl
  have M37 : (pu_wl (pu_wi M1 59 7 (nI ds.length)) 60 0 (lN (pu_wv ds))).1 59 7 = nI ds.length := by rw [py_wl_1]; simp [pu_wi_1]
  have M3o : ∀ a j, a ≠ 59 → (pu_wl (pu_wi M1 59 7 (nI ds.length)) 60 0 (lN (pu_wv ds))).1 a j = M.1 a j := fun a j ha => by rw [py_wl_1, py_wi_o (by omega), M1o a j ha]
  have M3l : ∀ a j, a ≠ 60 → (pu_wl (pu_wi M1 59 7 (nI ds.length)) 60 0 (lN (pu_wv ds))).2.1 a j = M.2.1 a j := fun a j ha => by rw [py_wl_o (by omega)]; show M1.2.1 a j = _; rw [M1l]
  have M30 : (pu_wl (pu_wi M1 59 7 (nI ds.length)) 60 0 (lN (pu_wv ds))).2.1 60 0 = lN (pu_wv ds) := by rw [py_wl_3, if_pos rfl, if_pos rfl]
  have M3r : (pu_wl (pu_wi M1 59 7 (nI ds.length)) 60 0 (lN (pu_wv ds))).2.2 = M1.2.2 := rfl
  have S3 := fx_59_0 hx3
  generalize hM3 : pu_wl (pu_wi M1 59 7 (nI ds.length)) 60 0 (lN (pu_wv ds)) = M3 at *
  have e2 := c_readByte hx3 tv3 (pos := ds.length) (by omega) M37 32 (by omega)
  rw [show nI 32 = (32 : Int32) from rfl] at e2
  rcases e2 with ⟨p1, p2, p3⟩ | ⟨p1, p3⟩
  · -- a blank
    have hx4 : pu_fx (pu_wi M3 59 7 (nI (ds.length + 1))) := hx3
    have tv4 := py_tv_p tv3 (nI (ds.length + 1))
    have e3 := c_readWord hx4 tv4 (pos := ds.length + 1) (by omega) (by simp [pu_wi_1])
    have z1 := py_lw0 (b := b) (t := t) (pos := ds.length + 1) (by omega)
    generalize hes : py_lw b t 12 (ds.length + 1) = es at *
    rw [py_wi_s] at e3
    have hx5 : pu_fx (pu_wl (pu_wi M3 59 7 (nI (ds.length + 1 + es.length))) 60 1 (lN (pu_wv es))) := hx3
    have a0 : (pu_wl (pu_wi M3 59 7 (nI (ds.length + 1 + es.length))) 60 1 (lN (pu_wv es))).2.1 60 0 = lN (pu_wv ds) := by rw [py_wl_o (by omega)]; exact M30
    have a1 : (pu_wl (pu_wi M3 59 7 (nI (ds.length + 1 + es.length))) 60 1 (lN (pu_wv es))).2.1 60 1 = lN (pu_wv es) := by rw [py_wl_3, if_pos rfl, if_pos rfl]
    have a7 : (pu_wl (pu_wi M3 59 7 (nI (ds.length + 1 + es.length))) 60 1 (lN (pu_wv es))).1 59 7 = nI (ds.length + 1 + es.length) := by rw [py_wl_1]; simp [pu_wi_1]
    have a10 : (pu_wl (pu_wi M3 59 7 (nI (ds.length + 1 + es.length))) 60 1 (lN (pu_wv es))).1 1 0 = nI t := by rw [py_wl_1, py_wi_o (by omega)]; exact tv3.1
    have a6 : (pu_wl (pu_wi M3 59 7 (nI (ds.length + 1 + es.length))) 60 1 (lN (pu_wv es))).2.2.1 59 6 = some 1 := tv3.2.2.1
    have ao : ∀ a j, a ≠ 59 → (pu_wl (pu_wi M3 59 7 (nI (ds.length + 1 + es.length))) 60 1 (lN (pu_wv es))).1 a j = M.1 a j := fun a j ha => by rw [py_wl_1, py_wi_o (by omega), M3o a j ha]
    have al : ∀ a j, a ≠ 60 → (pu_wl (pu_wi M3 59 7 (nI (ds.length + 1 + es.length))) 60 1 (lN (pu_wv es))).2.1 a j = M.2.1 a j := fun a j ha => by rw [py_wl_o (by omega)]; exact M3l a j ha
    have ar : (pu_wl (pu_wi M3 59 7 (nI (ds.length + 1 + es.length))) 60 1 (lN (pu_wv es))).2.2 = M1.2.2 := M3r
    have S5 := fx_59_0 hx5
    generalize hM5 : pu_wl (pu_wi M3 59 7 (nI (ds.length + 1 + es.length))) 60 1 (lN (pu_wv es)) = M5 at *
    refine ⟨M5, by rw [ar]; exact M1s, fun a j hj => by rw [ar]; exact M1r a j hj, ao, al, hx5, fun _ => ⟨a0, a1⟩, ?_⟩
    have le := (py_lw_l b t 12 (ds.length + 1) (by omega)).2.1
    rw [hes] at le
    by_cases c0 : ds = []
    · rw [pu_q0 (fun z => (iff1.mp z).1.1 c0)]
      have w0 : lN (pu_wv ds) = 0 := by rw [z0]; exact c0
      rw [w0] at a0 hM3 e1
      rw [qX7_readPair]
      simp [a_ent, bX7_readPair_0, bX7_readPair_39, bX7_readPair_76, bX7_readPair_77, a_al, a_ald, a_cv, a_gi, a_gr, a_icne, a_ifeq, a_ild, a_ist, a_lcmp, a_push, a_wl, a_zret, sh_1, sh_3, sh_59, sh_60, pu_rv, pu_as, Value.category, pu_bk, pu_kl, List.replicate, pu_wi_1, pu_wi_2, nl_add, nl_ladd, nl_aa, nl_mul, nl_rmul, nl_mm, pu_qe0, pu_qe1, b1, g1, e1, hM3, p3, S3, e3, hM5, S5, a0, py_cmp]
      all_goals try simp (maxSteps := 400000) (disch := omega) [nl_tle, nl_fle, nl_tlt, nl_flt, nl_teq, nl_feq, nl_sub, nl_ss, nl_lt, nl_llt, nl_ltt, nl_le, nl_lle, nl_lee, nl_eq, nl_leq, nl_ee, nl_div, nl_rem, nl_cl, nl_n1, nl_n2, nl_n3, nl_n4, nl_add, nl_ladd, nl_aa, nl_mul, nl_rmul, nl_mm, pu_wi_1, pu_wi_2, bX7_readPair_0, bX7_readPair_39, bX7_readPair_76, bX7_readPair_77, a_al, a_ald, a_cv, a_gi, a_gr, a_icne, a_ifeq, a_ild, a_ist, a_lcmp, a_push, a_wl, a_zret, sh_1, sh_3, sh_59, sh_60, pu_rv, pu_as, Value.category, pu_bk, pu_kl, pu_qe0, pu_qe1, b1, g1, e1, hM3, p3, S3, e3, hM5, S5, a0, py_cmp]
      all_goals try simp [bX7_readPair_0, bX7_readPair_39, bX7_readPair_76, bX7_readPair_77, a_al, a_ald, a_cv, a_gi, a_gr, a_icne, a_ifeq, a_ild, a_ist, a_lcmp, a_push, a_wl, a_zret, sh_1, sh_3, sh_59, sh_60, pu_rv, pu_as, Value.category, pu_bk, pu_kl, List.replicate, pu_wi_1, pu_wi_2, nl_add, nl_ladd, nl_aa, nl_mul, nl_rmul, nl_mm, pu_qe0, pu_qe1, b1, g1, e1, hM3, p3, S3, e3, hM5, S5, a0, py_cmp]
      all_goals try simp (maxSteps := 400000) (disch := omega) [nl_tle, nl_fle, nl_tlt, nl_flt, nl_teq, nl_feq, nl_sub, nl_ss, nl_lt, nl_llt, nl_ltt, nl_le, nl_lle, nl_lee, nl_eq, nl_leq, nl_ee, nl_div, nl_rem, nl_cl, nl_n1, nl_n2, nl_n3, nl_n4, nl_add, nl_ladd, nl_aa, nl_mul, nl_rmul, nl_mm, pu_wi_1, pu_wi_2, bX7_readPair_0, bX7_readPair_39, bX7_readPair_76, bX7_readPair_77, a_al, a_ald, a_cv, a_gi, a_gr, a_icne, a_ifeq, a_ild, a_ist, a_lcmp, a_push, a_wl, a_zret, sh_1, sh_3, sh_59, sh_60, pu_rv, pu_as, Value.category, pu_bk, pu_kl, pu_qe0, pu_qe1, b1, g1, e1, hM3, p3, S3, e3, hM5, S5, a0, py_cmp]
      all_goals try simp [bX7_readPair_0, bX7_readPair_39, bX7_readPair_76, bX7_readPair_77, a_al, a_ald, a_cv, a_gi, a_gr, a_icne, a_ifeq, a_ild, a_ist, a_lcmp, a_push, a_wl, a_zret, sh_1, sh_3, sh_59, sh_60, pu_rv, pu_as, Value.category, pu_bk, pu_kl, List.replicate, pu_wi_1, pu_wi_2, nl_add, nl_ladd, nl_aa, nl_mul, nl_rmul, nl_mm, pu_qe0, pu_qe1, b1, g1, e1, hM3, p3, S3, e3, hM5, S5, a0, py_cmp]
      all_goals try simp (maxSteps := 400000) (disch := omega) [nl_tle, nl_fle, nl_tlt, nl_flt, nl_teq, nl_feq, nl_sub, nl_ss, nl_lt, nl_llt, nl_ltt, nl_le, nl_lle, nl_lee, nl_eq, nl_leq, nl_ee, nl_div, nl_rem, nl_cl, nl_n1, nl_n2, nl_n3, nl_n4, nl_add, nl_ladd, nl_aa, nl_mul, nl_rmul, nl_mm, pu_wi_1, pu_wi_2, bX7_readPair_0, bX7_readPair_39, bX7_readPair_76, bX7_readPair_77, a_al, a_ald, a_cv, a_gi, a_gr, a_icne, a_ifeq, a_ild, a_ist, a_lcmp, a_push, a_wl, a_zret, sh_1, sh_3, sh_59, sh_60, pu_rv, pu_as, Value.category, pu_bk, pu_kl, pu_qe0, pu_qe1, b1, g1, e1, hM3, p3, S3, e3, hM5, S5, a0, py_cmp]
      all_goals try simp [bX7_readPair_0, bX7_readPair_39, bX7_readPair_76, bX7_readPair_77, a_al, a_ald, a_cv, a_gi, a_gr, a_icne, a_ifeq, a_ild, a_ist, a_lcmp, a_push, a_wl, a_zret, sh_1, sh_3, sh_59, sh_60, pu_rv, pu_as, Value.category, pu_bk, pu_kl, List.replicate, pu_wi_1, pu_wi_2, nl_add, nl_ladd, nl_aa, nl_mul, nl_rmul, nl_mm, pu_qe0, pu_qe1, b1, g1, e1, hM3, p3, S3, e3, hM5, S5, a0, py_cmp]
    have w0 : ¬ lN (pu_wv ds) = 0 := by rw [z0]; exact c0
    by_cases c1 : es = []
    · rw [pu_q0 (fun z => (iff1.mp z).1.2.2.1 c1)]
      have w1 : lN (pu_wv es) = 0 := by rw [z1]; exact c1
      rw [w1] at a1 hM5 e3
      rw [qX7_readPair]
      simp [a_ent, bX7_readPair_0, bX7_readPair_39, bX7_readPair_76, bX7_readPair_77, a_al, a_ald, a_cv, a_gi, a_gr, a_icne, a_ifeq, a_ild, a_ist, a_lcmp, a_push, a_wl, a_zret, sh_1, sh_3, sh_59, sh_60, pu_rv, pu_as, Value.category, pu_bk, pu_kl, List.replicate, pu_wi_1, pu_wi_2, nl_add, nl_ladd, nl_aa, nl_mul, nl_rmul, nl_mm, pu_qe0, pu_qe1, b1, g1, e1, hM3, p3, S3, e3, hM5, S5, a0, a1, w0, py_cmp]
      all_goals try simp (maxSteps := 400000) (disch := omega) [nl_tle, nl_fle, nl_tlt, nl_flt, nl_teq, nl_feq, nl_sub, nl_ss, nl_lt, nl_llt, nl_ltt, nl_le, nl_lle, nl_lee, nl_eq, nl_leq, nl_ee, nl_div, nl_rem, nl_cl, nl_n1, nl_n2, nl_n3, nl_n4, nl_add, nl_ladd, nl_aa, nl_mul, nl_rmul, nl_mm, pu_wi_1, pu_wi_2, bX7_readPair_0, bX7_readPair_39, bX7_readPair_76, bX7_readPair_77, a_al, a_ald, a_cv, a_gi, a_gr, a_icne, a_ifeq, a_ild, a_ist, a_lcmp, a_push, a_wl, a_zret, sh_1, sh_3, sh_59, sh_60, pu_rv, pu_as, Value.category, pu_bk, pu_kl, pu_qe0, pu_qe1, b1, g1, e1, hM3, p3, S3, e3, hM5, S5, a0, a1, w0, py_cmp]
      all_goals try simp [bX7_readPair_0, bX7_readPair_39, bX7_readPair_76, bX7_readPair_77, a_al, a_ald, a_cv, a_gi, a_gr, a_icne, a_ifeq, a_ild, a_ist, a_lcmp, a_push, a_wl, a_zret, sh_1, sh_3, sh_59, sh_60, pu_rv, pu_as, Value.category, pu_bk, pu_kl, List.replicate, pu_wi_1, pu_wi_2, nl_add, nl_ladd, nl_aa, nl_mul, nl_rmul, nl_mm, pu_qe0, pu_qe1, b1, g1, e1, hM3, p3, S3, e3, hM5, S5, a0, a1, w0, py_cmp]
      all_goals try simp (maxSteps := 400000) (disch := omega) [nl_tle, nl_fle, nl_tlt, nl_flt, nl_teq, nl_feq, nl_sub, nl_ss, nl_lt, nl_llt, nl_ltt, nl_le, nl_lle, nl_lee, nl_eq, nl_leq, nl_ee, nl_div, nl_rem, nl_cl, nl_n1, nl_n2, nl_n3, nl_n4, nl_add, nl_ladd, nl_aa, nl_mul, nl_rmul, nl_mm, pu_wi_1, pu_wi_2, bX7_readPair_0, bX7_readPair_39, bX7_readPair_76, bX7_readPair_77, a_al, a_ald, a_cv, a_gi, a_gr, a_icne, a_ifeq, a_ild, a_ist, a_lcmp, a_push, a_wl, a_zret, sh_1, sh_3, sh_59, sh_60, pu_rv, pu_as, Value.category, pu_bk, pu_kl, pu_qe0, pu_qe1, b1, g1, e1, hM3, p3, S3, e3, hM5, S5, a0, a1, w0, py_cmp]
      all_goals try simp [bX7_readPair_0, bX7_readPair_39, bX7_readPair_76, bX7_readPair_77, a_al, a_ald, a_cv, a_gi, a_gr, a_icne, a_ifeq, a_ild, a_ist, a_lcmp, a_push, a_wl, a_zret, sh_1, sh_3, sh_59, sh_60, pu_rv, pu_as, Value.category, pu_bk, pu_kl, List.replicate, pu_wi_1, pu_wi_2, nl_add, nl_ladd, nl_aa, nl_mul, nl_rmul, nl_mm, pu_qe0, pu_qe1, b1, g1, e1, hM3, p3, S3, e3, hM5, S5, a0, a1, w0, py_cmp]
      all_goals try simp (maxSteps := 400000) (disch := omega) [nl_tle, nl_fle, nl_tlt, nl_flt, nl_teq, nl_feq, nl_sub, nl_ss, nl_lt, nl_llt, nl_ltt, nl_le, nl_lle, nl_lee, nl_eq, nl_leq, nl_ee, nl_div, nl_rem, nl_cl, nl_n1, nl_n2, nl_n3, nl_n4, nl_add, nl_ladd, nl_aa, nl_mul, nl_rmul, nl_mm, pu_wi_1, pu_wi_2, bX7_readPair_0, bX7_readPair_39, bX7_readPair_76, bX7_readPair_77, a_al, a_ald, a_cv, a_gi, a_gr, a_icne, a_ifeq, a_ild, a_ist, a_lcmp, a_push, a_wl, a_zret, sh_1, sh_3, sh_59, sh_60, pu_rv, pu_as, Value.category, pu_bk, pu_kl, pu_qe0, pu_qe1, b1, g1, e1, hM3, p3, S3, e3, hM5, S5, a0, a1, w0, py_cmp]
      all_goals try simp [bX7_readPair_0, bX7_readPair_39, bX7_readPair_76, bX7_readPair_77, a_al, a_ald, a_cv, a_gi, a_gr, a_icne, a_ifeq, a_ild, a_ist, a_lcmp, a_push, a_wl, a_zret, sh_1, sh_3, sh_59, sh_60, pu_rv, pu_as, Value.category, pu_bk, pu_kl, List.replicate, pu_wi_1, pu_wi_2, nl_add, nl_ladd, nl_aa, nl_mul, nl_rmul, nl_mm, pu_qe0, pu_qe1, b1, g1, e1, hM3, p3, S3, e3, hM5, S5, a0, a1, w0, py_cmp]
    have w1 : ¬ lN (pu_wv es) = 0 := by rw [z1]; exact c1
    by_cases c2 : ds.length + 1 + es.length = t
    · rw [pu_q1 (iff2 ⟨c0, ⟨p1, p2⟩, c1, c2⟩)]
      have a7' : M5.1 59 7 = nI t := by rw [a7, c2]
      rw [qX7_readPair]
      simp [a_ent, bX7_readPair_0, bX7_readPair_39, bX7_readPair_76, bX7_readPair_77, a_al, a_ald, a_cv, a_gi, a_gr, a_icne, a_ifeq, a_ild, a_ist, a_lcmp, a_push, a_wl, a_zret, sh_1, sh_3, sh_59, sh_60, pu_rv, pu_as, Value.category, pu_bk, pu_kl, List.replicate, pu_wi_1, pu_wi_2, nl_add, nl_ladd, nl_aa, nl_mul, nl_rmul, nl_mm, pu_qe0, pu_qe1, b1, g1, e1, hM3, p3, S3, e3, hM5, S5, a0, a1, w0, w1, py_cmp, a6, a7', a10]
      all_goals try simp (maxSteps := 400000) (disch := omega) [nl_tle, nl_fle, nl_tlt, nl_flt, nl_teq, nl_feq, nl_sub, nl_ss, nl_lt, nl_llt, nl_ltt, nl_le, nl_lle, nl_lee, nl_eq, nl_leq, nl_ee, nl_div, nl_rem, nl_cl, nl_n1, nl_n2, nl_n3, nl_n4, nl_add, nl_ladd, nl_aa, nl_mul, nl_rmul, nl_mm, pu_wi_1, pu_wi_2, bX7_readPair_0, bX7_readPair_39, bX7_readPair_76, bX7_readPair_77, a_al, a_ald, a_cv, a_gi, a_gr, a_icne, a_ifeq, a_ild, a_ist, a_lcmp, a_push, a_wl, a_zret, sh_1, sh_3, sh_59, sh_60, pu_rv, pu_as, Value.category, pu_bk, pu_kl, pu_qe0, pu_qe1, b1, g1, e1, hM3, p3, S3, e3, hM5, S5, a0, a1, w0, w1, py_cmp, a6, a7', a10]
      all_goals try simp [bX7_readPair_0, bX7_readPair_39, bX7_readPair_76, bX7_readPair_77, a_al, a_ald, a_cv, a_gi, a_gr, a_icne, a_ifeq, a_ild, a_ist, a_lcmp, a_push, a_wl, a_zret, sh_1, sh_3, sh_59, sh_60, pu_rv, pu_as, Value.category, pu_bk, pu_kl, List.replicate, pu_wi_1, pu_wi_2, nl_add, nl_ladd, nl_aa, nl_mul, nl_rmul, nl_mm, pu_qe0, pu_qe1, b1, g1, e1, hM3, p3, S3, e3, hM5, S5, a0, a1, w0, w1, py_cmp, a6, a7', a10]
      all_goals try simp (maxSteps := 400000) (disch := omega) [nl_tle, nl_fle, nl_tlt, nl_flt, nl_teq, nl_feq, nl_sub, nl_ss, nl_lt, nl_llt, nl_ltt, nl_le, nl_lle, nl_lee, nl_eq, nl_leq, nl_ee, nl_div, nl_rem, nl_cl, nl_n1, nl_n2, nl_n3, nl_n4, nl_add, nl_ladd, nl_aa, nl_mul, nl_rmul, nl_mm, pu_wi_1, pu_wi_2, bX7_readPair_0, bX7_readPair_39, bX7_readPair_76, bX7_readPair_77, a_al, a_ald, a_cv, a_gi, a_gr, a_icne, a_ifeq, a_ild, a_ist, a_lcmp, a_push, a_wl, a_zret, sh_1, sh_3, sh_59, sh_60, pu_rv, pu_as, Value.category, pu_bk, pu_kl, pu_qe0, pu_qe1, b1, g1, e1, hM3, p3, S3, e3, hM5, S5, a0, a1, w0, w1, py_cmp, a6, a7', a10]
      all_goals try simp [bX7_readPair_0, bX7_readPair_39, bX7_readPair_76, bX7_readPair_77, a_al, a_ald, a_cv, a_gi, a_gr, a_icne, a_ifeq, a_ild, a_ist, a_lcmp, a_push, a_wl, a_zret, sh_1, sh_3, sh_59, sh_60, pu_rv, pu_as, Value.category, pu_bk, pu_kl, List.replicate, pu_wi_1, pu_wi_2, nl_add, nl_ladd, nl_aa, nl_mul, nl_rmul, nl_mm, pu_qe0, pu_qe1, b1, g1, e1, hM3, p3, S3, e3, hM5, S5, a0, a1, w0, w1, py_cmp, a6, a7', a10]
      all_goals try simp (maxSteps := 400000) (disch := omega) [nl_tle, nl_fle, nl_tlt, nl_flt, nl_teq, nl_feq, nl_sub, nl_ss, nl_lt, nl_llt, nl_ltt, nl_le, nl_lle, nl_lee, nl_eq, nl_leq, nl_ee, nl_div, nl_rem, nl_cl, nl_n1, nl_n2, nl_n3, nl_n4, nl_add, nl_ladd, nl_aa, nl_mul, nl_rmul, nl_mm, pu_wi_1, pu_wi_2, bX7_readPair_0, bX7_readPair_39, bX7_readPair_76, bX7_readPair_77, a_al, a_ald, a_cv, a_gi, a_gr, a_icne, a_ifeq, a_ild, a_ist, a_lcmp, a_push, a_wl, a_zret, sh_1, sh_3, sh_59, sh_60, pu_rv, pu_as, Value.category, pu_bk, pu_kl, pu_qe0, pu_qe1, b1, g1, e1, hM3, p3, S3, e3, hM5, S5, a0, a1, w0, w1, py_cmp, a6, a7', a10]
      all_goals try simp [bX7_readPair_0, bX7_readPair_39, bX7_readPair_76, bX7_readPair_77, a_al, a_ald, a_cv, a_gi, a_gr, a_icne, a_ifeq, a_ild, a_ist, a_lcmp, a_push, a_wl, a_zret, sh_1, sh_3, sh_59, sh_60, pu_rv, pu_as, Value.category, pu_bk, pu_kl, List.replicate, pu_wi_1, pu_wi_2, nl_add, nl_ladd, nl_aa, nl_mul, nl_rmul, nl_mm, pu_qe0, pu_qe1, b1, g1, e1, hM3, p3, S3, e3, hM5, S5, a0, a1, w0, w1, py_cmp, a6, a7', a10]
    · rw [pu_q0 (fun z => c2 (iff1.mp z).1.2.2.2)]
      have c3 : ¬ nI (ds.length + 1 + es.length) = nI t := fun z => by
        rw [nI_eq (by omega) (by omega)] at z
        exact c2 z
      rw [qX7_readPair]
      simp [a_ent, bX7_readPair_0, bX7_readPair_39, bX7_readPair_76, bX7_readPair_77, a_al, a_ald, a_cv, a_gi, a_gr, a_icne, a_ifeq, a_ild, a_ist, a_lcmp, a_push, a_wl, a_zret, sh_1, sh_3, sh_59, sh_60, pu_rv, pu_as, Value.category, pu_bk, pu_kl, List.replicate, pu_wi_1, pu_wi_2, nl_add, nl_ladd, nl_aa, nl_mul, nl_rmul, nl_mm, pu_qe0, pu_qe1, b1, g1, e1, hM3, p3, S3, e3, hM5, S5, a0, a1, w0, w1, py_cmp, a6, a7, a10, c3]
      all_goals try simp (maxSteps := 400000) (disch := omega) [nl_tle, nl_fle, nl_tlt, nl_flt, nl_teq, nl_feq, nl_sub, nl_ss, nl_lt, nl_llt, nl_ltt, nl_le, nl_lle, nl_lee, nl_eq, nl_leq, nl_ee, nl_div, nl_rem, nl_cl, nl_n1, nl_n2, nl_n3, nl_n4, nl_add, nl_ladd, nl_aa, nl_mul, nl_rmul, nl_mm, pu_wi_1, pu_wi_2, bX7_readPair_0, bX7_readPair_39, bX7_readPair_76, bX7_readPair_77, a_al, a_ald, a_cv, a_gi, a_gr, a_icne, a_ifeq, a_ild, a_ist, a_lcmp, a_push, a_wl, a_zret, sh_1, sh_3, sh_59, sh_60, pu_rv, pu_as, Value.category, pu_bk, pu_kl, pu_qe0, pu_qe1, b1, g1, e1, hM3, p3, S3, e3, hM5, S5, a0, a1, w0, w1, py_cmp, a6, a7, a10, c3]
      all_goals try simp [bX7_readPair_0, bX7_readPair_39, bX7_readPair_76, bX7_readPair_77, a_al, a_ald, a_cv, a_gi, a_gr, a_icne, a_ifeq, a_ild, a_ist, a_lcmp, a_push, a_wl, a_zret, sh_1, sh_3, sh_59, sh_60, pu_rv, pu_as, Value.category, pu_bk, pu_kl, List.replicate, pu_wi_1, pu_wi_2, nl_add, nl_ladd, nl_aa, nl_mul, nl_rmul, nl_mm, pu_qe0, pu_qe1, b1, g1, e1, hM3, p3, S3, e3, hM5, S5, a0, a1, w0, w1, py_cmp, a6, a7, a10, c3]
      all_goals try simp (maxSteps := 400000) (disch := omega) [nl_tle, nl_fle, nl_tlt, nl_flt, nl_teq, nl_feq, nl_sub, nl_ss, nl_lt, nl_llt, nl_ltt, nl_le, nl_lle, nl_lee, nl_eq, nl_leq, nl_ee, nl_div, nl_rem, nl_cl, nl_n1, nl_n2, nl_n3, nl_n4, nl_add, nl_ladd, nl_aa, nl_mul, nl_rmul, nl_mm, pu_wi_1, pu_wi_2, bX7_readPair_0, bX7_readPair_39, bX7_readPair_76, bX7_readPair_77, a_al, a_ald, a_cv, a_gi, a_gr, a_icne, a_ifeq, a_ild, a_ist, a_lcmp, a_push, a_wl, a_zret, sh_1, sh_3, sh_59, sh_60, pu_rv, pu_as, Value.category, pu_bk, pu_kl, pu_qe0, pu_qe1, b1, g1, e1, hM3, p3, S3, e3, hM5, S5, a0, a1, w0, w1, py_cmp, a6, a7, a10, c3]
      all_goals try simp [bX7_readPair_0, bX7_readPair_39, bX7_readPair_76, bX7_readPair_77, a_al, a_ald, a_cv, a_gi, a_gr, a_icne, a_ifeq, a_ild, a_ist, a_lcmp, a_push, a_wl, a_zret, sh_1, sh_3, sh_59, sh_60, pu_rv, pu_as, Value.category, pu_bk, pu_kl, List.replicate, pu_wi_1, pu_wi_2, nl_add, nl_ladd, nl_aa, nl_mul, nl_rmul, nl_mm, pu_qe0, pu_qe1, b1, g1, e1, hM3, p3, S3, e3, hM5, S5, a0, a1, w0, w1, py_cmp, a6, a7, a10, c3]
      all_goals try simp (maxSteps := 400000) (disch := omega) [nl_tle, nl_fle, nl_tlt, nl_flt, nl_teq, nl_feq, nl_sub, nl_ss, nl_lt, nl_llt, nl_ltt, nl_le, nl_lle, nl_lee, nl_eq, nl_leq, nl_ee, nl_div, nl_rem, nl_cl, nl_n1, nl_n2, nl_n3, nl_n4, nl_add, nl_ladd, nl_aa, nl_mul, nl_rmul, nl_mm, pu_wi_1, pu_wi_2, bX7_readPair_0, bX7_readPair_39, bX7_readPair_76, bX7_readPair_77, a_al, a_ald, a_cv, a_gi, a_gr, a_icne, a_ifeq, a_ild, a_ist, a_lcmp, a_push, a_wl, a_zret, sh_1, sh_3, sh_59, sh_60, pu_rv, pu_as, Value.category, pu_bk, pu_kl, pu_qe0, pu_qe1, b1, g1, e1, hM3, p3, S3, e3, hM5, S5, a0, a1, w0, w1, py_cmp, a6, a7, a10, c3]
      all_goals try simp [bX7_readPair_0, bX7_readPair_39, bX7_readPair_76, bX7_readPair_77, a_al, a_ald, a_cv, a_gi, a_gr, a_icne, a_ifeq, a_ild, a_ist, a_lcmp, a_push, a_wl, a_zret, sh_1, sh_3, sh_59, sh_60, pu_rv, pu_as, Value.category, pu_bk, pu_kl, List.replicate, pu_wi_1, pu_wi_2, nl_add, nl_ladd, nl_aa, nl_mul, nl_rmul, nl_mm, pu_qe0, pu_qe1, b1, g1, e1, hM3, p3, S3, e3, hM5, S5, a0, a1, w0, w1, py_cmp, a6, a7, a10, c3]
  · -- none
    have no : ¬ ∃ l, py_ns b t 2 0 = some l ∧ 2 ≤ l.length := fun z => p1 (iff1.mp z).1.2.1
    have e3 := c_readWord hx3 tv3 (pos := ds.length) (by omega) M37
    generalize hes : py_lw b t 12 ds.length = es at *
    have hx5 : pu_fx (pu_wl (pu_wi M3 59 7 (nI (ds.length + es.length))) 60 1 (lN (pu_wv es))) := hx3
    have a0 : (pu_wl (pu_wi M3 59 7 (nI (ds.length + es.length))) 60 1 (lN (pu_wv es))).2.1 60 0 = lN (pu_wv ds) := by rw [py_wl_o (by omega)]; exact M30
    have ao : ∀ a j, a ≠ 59 → (pu_wl (pu_wi M3 59 7 (nI (ds.length + es.length))) 60 1 (lN (pu_wv es))).1 a j = M.1 a j := fun a j ha => by rw [py_wl_1, py_wi_o (by omega), M3o a j ha]
    have al : ∀ a j, a ≠ 60 → (pu_wl (pu_wi M3 59 7 (nI (ds.length + es.length))) 60 1 (lN (pu_wv es))).2.1 a j = M.2.1 a j := fun a j ha => by rw [py_wl_o (by omega)]; exact M3l a j ha
    have ar : (pu_wl (pu_wi M3 59 7 (nI (ds.length + es.length))) 60 1 (lN (pu_wv es))).2.2 = M1.2.2 := M3r
    have S5 := fx_59_0 hx5
    generalize hM5 : pu_wl (pu_wi M3 59 7 (nI (ds.length + es.length))) 60 1 (lN (pu_wv es)) = M5 at *
    refine ⟨M5, by rw [ar]; exact M1s, fun a j hj => by rw [ar]; exact M1r a j hj, ao, al, hx5, fun z => absurd z no, ?_⟩
    rw [pu_q0 no]
    by_cases c0 : ds = []
    · have w0 : lN (pu_wv ds) = 0 := by rw [z0]; exact c0
      rw [w0] at a0 hM3 e1
      rw [qX7_readPair]
      simp [a_ent, bX7_readPair_0, bX7_readPair_39, bX7_readPair_76, bX7_readPair_77, a_al, a_ald, a_cv, a_gi, a_gr, a_icne, a_ifeq, a_ild, a_ist, a_lcmp, a_push, a_wl, a_zret, sh_1, sh_3, sh_59, sh_60, pu_rv, pu_as, Value.category, pu_bk, pu_kl, List.replicate, pu_wi_1, pu_wi_2, nl_add, nl_ladd, nl_aa, nl_mul, nl_rmul, nl_mm, pu_qe0, pu_qe1, b1, g1, e1, hM3, p3, S3, e3, hM5, S5, a0, py_cmp]
      all_goals try simp (maxSteps := 400000) (disch := omega) [nl_tle, nl_fle, nl_tlt, nl_flt, nl_teq, nl_feq, nl_sub, nl_ss, nl_lt, nl_llt, nl_ltt, nl_le, nl_lle, nl_lee, nl_eq, nl_leq, nl_ee, nl_div, nl_rem, nl_cl, nl_n1, nl_n2, nl_n3, nl_n4, nl_add, nl_ladd, nl_aa, nl_mul, nl_rmul, nl_mm, pu_wi_1, pu_wi_2, bX7_readPair_0, bX7_readPair_39, bX7_readPair_76, bX7_readPair_77, a_al, a_ald, a_cv, a_gi, a_gr, a_icne, a_ifeq, a_ild, a_ist, a_lcmp, a_push, a_wl, a_zret, sh_1, sh_3, sh_59, sh_60, pu_rv, pu_as, Value.category, pu_bk, pu_kl, pu_qe0, pu_qe1, b1, g1, e1, hM3, p3, S3, e3, hM5, S5, a0, py_cmp]
      all_goals try simp [bX7_readPair_0, bX7_readPair_39, bX7_readPair_76, bX7_readPair_77, a_al, a_ald, a_cv, a_gi, a_gr, a_icne, a_ifeq, a_ild, a_ist, a_lcmp, a_push, a_wl, a_zret, sh_1, sh_3, sh_59, sh_60, pu_rv, pu_as, Value.category, pu_bk, pu_kl, List.replicate, pu_wi_1, pu_wi_2, nl_add, nl_ladd, nl_aa, nl_mul, nl_rmul, nl_mm, pu_qe0, pu_qe1, b1, g1, e1, hM3, p3, S3, e3, hM5, S5, a0, py_cmp]
      all_goals try simp (maxSteps := 400000) (disch := omega) [nl_tle, nl_fle, nl_tlt, nl_flt, nl_teq, nl_feq, nl_sub, nl_ss, nl_lt, nl_llt, nl_ltt, nl_le, nl_lle, nl_lee, nl_eq, nl_leq, nl_ee, nl_div, nl_rem, nl_cl, nl_n1, nl_n2, nl_n3, nl_n4, nl_add, nl_ladd, nl_aa, nl_mul, nl_rmul, nl_mm, pu_wi_1, pu_wi_2, bX7_readPair_0, bX7_readPair_39, bX7_readPair_76, bX7_readPair_77, a_al, a_ald, a_cv, a_gi, a_gr, a_icne, a_ifeq, a_ild, a_ist, a_lcmp, a_push, a_wl, a_zret, sh_1, sh_3, sh_59, sh_60, pu_rv, pu_as, Value.category, pu_bk, pu_kl, pu_qe0, pu_qe1, b1, g1, e1, hM3, p3, S3, e3, hM5, S5, a0, py_cmp]
      all_goals try simp [bX7_readPair_0, bX7_readPair_39, bX7_readPair_76, bX7_readPair_77, a_al, a_ald, a_cv, a_gi, a_gr, a_icne, a_ifeq, a_ild, a_ist, a_lcmp, a_push, a_wl, a_zret, sh_1, sh_3, sh_59, sh_60, pu_rv, pu_as, Value.category, pu_bk, pu_kl, List.replicate, pu_wi_1, pu_wi_2, nl_add, nl_ladd, nl_aa, nl_mul, nl_rmul, nl_mm, pu_qe0, pu_qe1, b1, g1, e1, hM3, p3, S3, e3, hM5, S5, a0, py_cmp]
      all_goals try simp (maxSteps := 400000) (disch := omega) [nl_tle, nl_fle, nl_tlt, nl_flt, nl_teq, nl_feq, nl_sub, nl_ss, nl_lt, nl_llt, nl_ltt, nl_le, nl_lle, nl_lee, nl_eq, nl_leq, nl_ee, nl_div, nl_rem, nl_cl, nl_n1, nl_n2, nl_n3, nl_n4, nl_add, nl_ladd, nl_aa, nl_mul, nl_rmul, nl_mm, pu_wi_1, pu_wi_2, bX7_readPair_0, bX7_readPair_39, bX7_readPair_76, bX7_readPair_77, a_al, a_ald, a_cv, a_gi, a_gr, a_icne, a_ifeq, a_ild, a_ist, a_lcmp, a_push, a_wl, a_zret, sh_1, sh_3, sh_59, sh_60, pu_rv, pu_as, Value.category, pu_bk, pu_kl, pu_qe0, pu_qe1, b1, g1, e1, hM3, p3, S3, e3, hM5, S5, a0, py_cmp]
      all_goals try simp [bX7_readPair_0, bX7_readPair_39, bX7_readPair_76, bX7_readPair_77, a_al, a_ald, a_cv, a_gi, a_gr, a_icne, a_ifeq, a_ild, a_ist, a_lcmp, a_push, a_wl, a_zret, sh_1, sh_3, sh_59, sh_60, pu_rv, pu_as, Value.category, pu_bk, pu_kl, List.replicate, pu_wi_1, pu_wi_2, nl_add, nl_ladd, nl_aa, nl_mul, nl_rmul, nl_mm, pu_qe0, pu_qe1, b1, g1, e1, hM3, p3, S3, e3, hM5, S5, a0, py_cmp]
    · have w0 : ¬ lN (pu_wv ds) = 0 := by rw [z0]; exact c0
      rw [qX7_readPair]
      simp [a_ent, bX7_readPair_0, bX7_readPair_39, bX7_readPair_76, bX7_readPair_77, a_al, a_ald, a_cv, a_gi, a_gr, a_icne, a_ifeq, a_ild, a_ist, a_lcmp, a_push, a_wl, a_zret, sh_1, sh_3, sh_59, sh_60, pu_rv, pu_as, Value.category, pu_bk, pu_kl, List.replicate, pu_wi_1, pu_wi_2, nl_add, nl_ladd, nl_aa, nl_mul, nl_rmul, nl_mm, pu_qe0, pu_qe1, b1, g1, e1, hM3, p3, S3, e3, hM5, S5, a0, w0, py_cmp]
      all_goals try simp (maxSteps := 400000) (disch := omega) [nl_tle, nl_fle, nl_tlt, nl_flt, nl_teq, nl_feq, nl_sub, nl_ss, nl_lt, nl_llt, nl_ltt, nl_le, nl_lle, nl_lee, nl_eq, nl_leq, nl_ee, nl_div, nl_rem, nl_cl, nl_n1, nl_n2, nl_n3, nl_n4, nl_add, nl_ladd, nl_aa, nl_mul, nl_rmul, nl_mm, pu_wi_1, pu_wi_2, bX7_readPair_0, bX7_readPair_39, bX7_readPair_76, bX7_readPair_77, a_al, a_ald, a_cv, a_gi, a_gr, a_icne, a_ifeq, a_ild, a_ist, a_lcmp, a_push, a_wl, a_zret, sh_1, sh_3, sh_59, sh_60, pu_rv, pu_as, Value.category, pu_bk, pu_kl, pu_qe0, pu_qe1, b1, g1, e1, hM3, p3, S3, e3, hM5, S5, a0, w0, py_cmp]
      all_goals try simp [bX7_readPair_0, bX7_readPair_39, bX7_readPair_76, bX7_readPair_77, a_al, a_ald, a_cv, a_gi, a_gr, a_icne, a_ifeq, a_ild, a_ist, a_lcmp, a_push, a_wl, a_zret, sh_1, sh_3, sh_59, sh_60, pu_rv, pu_as, Value.category, pu_bk, pu_kl, List.replicate, pu_wi_1, pu_wi_2, nl_add, nl_ladd, nl_aa, nl_mul, nl_rmul, nl_mm, pu_qe0, pu_qe1, b1, g1, e1, hM3, p3, S3, e3, hM5, S5, a0, w0, py_cmp]
      all_goals try simp (maxSteps := 400000) (disch := omega) [nl_tle, nl_fle, nl_tlt, nl_flt, nl_teq, nl_feq, nl_sub, nl_ss, nl_lt, nl_llt, nl_ltt, nl_le, nl_lle, nl_lee, nl_eq, nl_leq, nl_ee, nl_div, nl_rem, nl_cl, nl_n1, nl_n2, nl_n3, nl_n4, nl_add, nl_ladd, nl_aa, nl_mul, nl_rmul, nl_mm, pu_wi_1, pu_wi_2, bX7_readPair_0, bX7_readPair_39, bX7_readPair_76, bX7_readPair_77, a_al, a_ald, a_cv, a_gi, a_gr, a_icne, a_ifeq, a_ild, a_ist, a_lcmp, a_push, a_wl, a_zret, sh_1, sh_3, sh_59, sh_60, pu_rv, pu_as, Value.category, pu_bk, pu_kl, pu_qe0, pu_qe1, b1, g1, e1, hM3, p3, S3, e3, hM5, S5, a0, w0, py_cmp]
      all_goals try simp [bX7_readPair_0, bX7_readPair_39, bX7_readPair_76, bX7_readPair_77, a_al, a_ald, a_cv, a_gi, a_gr, a_icne, a_ifeq, a_ild, a_ist, a_lcmp, a_push, a_wl, a_zret, sh_1, sh_3, sh_59, sh_60, pu_rv, pu_as, Value.category, pu_bk, pu_kl, List.replicate, pu_wi_1, pu_wi_2, nl_add, nl_ladd, nl_aa, nl_mul, nl_rmul, nl_mm, pu_qe0, pu_qe1, b1, g1, e1, hM3, p3, S3, e3, hM5, S5, a0, w0, py_cmp]
      all_goals try simp (maxSteps := 400000) (disch := omega) [nl_tle, nl_fle, nl_tlt, nl_flt, nl_teq, nl_feq, nl_sub, nl_ss, nl_lt, nl_llt, nl_ltt, nl_le, nl_lle, nl_lee, nl_eq, nl_leq, nl_ee, nl_div, nl_rem, nl_cl, nl_n1, nl_n2, nl_n3, nl_n4, nl_add, nl_ladd, nl_aa, nl_mul, nl_rmul, nl_mm, pu_wi_1, pu_wi_2, bX7_readPair_0, bX7_readPair_39, bX7_readPair_76, bX7_readPair_77, a_al, a_ald, a_cv, a_gi, a_gr, a_icne, a_ifeq, a_ild, a_ist, a_lcmp, a_push, a_wl, a_zret, sh_1, sh_3, sh_59, sh_60, pu_rv, pu_as, Value.category, pu_bk, pu_kl, pu_qe0, pu_qe1, b1, g1, e1, hM3, p3, S3, e3, hM5, S5, a0, w0, py_cmp]
      all_goals try simp [bX7_readPair_0, bX7_readPair_39, bX7_readPair_76, bX7_readPair_77, a_al, a_ald, a_cv, a_gi, a_gr, a_icne, a_ifeq, a_ild, a_ist, a_lcmp, a_push, a_wl, a_zret, sh_1, sh_3, sh_59, sh_60, pu_rv, pu_as, Value.category, pu_bk, pu_kl, List.replicate, pu_wi_1, pu_wi_2, nl_add, nl_ladd, nl_aa, nl_mul, nl_rmul, nl_mm, pu_qe0, pu_qe1, b1, g1, e1, hM3, p3, S3, e3, hM5, S5, a0, w0, py_cmp]
