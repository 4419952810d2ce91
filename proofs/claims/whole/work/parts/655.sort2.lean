/-! sort: the rest -/
def pz_wk (I : Nat → Nat → Int32) (c : Nat) : Prop := ∃ i, i < cW I ∧ I 54 i = I 55 c
def pz_q2 (I : Nat → Nat → Int32) (k : Nat) (q : pz_Q) : Prop := (∀ a, a < q.2 → q.1 a < cE I ∧ (pz_wk I (q.1 a) ∨ q.1 a < k)) ∧ (∀ a b, a < b → b < q.2 → q.1 a ≠ q.1 b) ∧ (∀ c, c < cE I → (pz_wk I c ∨ c < k) → ∃ a, a < q.2 ∧ q.1 a = c)
section
variable {M : pu_M} {I : Nat → Nat → Int32} {L : Nat → Nat → Int64}
theorem pz_q2_0 {q : pz_Q} (h : pz_qw I (cW I) 0 q) : pz_q2 I 0 q := by
  refine ⟨fun a ha => ⟨(h.1 a ha).1, Or.inl ?_⟩, h.2.1, fun c hc hs => h.2.2 c hc (Or.inl ?_)⟩
  · rcases (h.1 a ha).2 with q | q
    · exact q
    · omega
  · rcases hs with q | q
    · exact q
    · omega
theorem pz_q2_s {k : Nat} {q : pz_Q} (hk : k < cE I) (h : pz_q2 I k q) : (pz_wk I k → pz_q2 I (k + 1) q) ∧ (¬ pz_wk I k → pz_q2 I (k + 1) (pz_qa k q) ∧ q.2 + 1 ≤ cE I) := by
  refine ⟨fun e => ⟨fun a ha => ⟨(h.1 a ha).1, (h.1 a ha).2.imp id (fun y => by omega)⟩, h.2.1, fun c hc hs => h.2.2 c hc ?_⟩, fun e => ⟨⟨fun a ha => ?_, fun a b hab hb => ?_, fun c hc hs => ?_⟩, ?_⟩⟩
  · rcases hs with s | s
    · exact Or.inl s
    · by_cases z : c = k
      · rw [z]
        exact Or.inl e
      · exact Or.inr (by omega)
  · show (if a = q.2 then k else q.1 a) < cE I ∧ (pz_wk I (if a = q.2 then k else q.1 a) ∨ (if a = q.2 then k else q.1 a) < k + 1)
    have ha : a < q.2 + 1 := ha
    by_cases z : a = q.2
    · rw [if_pos z]
      exact ⟨hk, Or.inr (by omega)⟩
    · rw [if_neg z]
      exact ⟨(h.1 a (by omega)).1, (h.1 a (by omega)).2.imp id (fun y => by omega)⟩
  · have hb : b < q.2 + 1 := hb
    show (if a = q.2 then k else q.1 a) ≠ (if b = q.2 then k else q.1 b)
    rw [if_neg (by omega)]
    by_cases z : b = q.2
    · rw [if_pos z]
      intro y
      rcases (h.1 a (by omega)).2 with w | w
      · rw [y] at w
        exact e w
      · omega
    · rw [if_neg z]
      exact h.2.1 a b hab (by omega)
  · by_cases z : c = k
    · exact ⟨q.2, Nat.lt_succ_self _, by
        show (if q.2 = q.2 then k else q.1 q.2) = c
        rw [if_pos rfl, z]⟩
    · obtain ⟨a, a1, a2⟩ := h.2.2 c hc (hs.imp id (fun y => by omega))
      exact ⟨a, Nat.lt_succ_of_lt a1, by
        show (if a = q.2 then k else q.1 a) = c
        rw [if_neg (by omega), a2]⟩
  · refine pz_qa_new (fun a ha => (h.1 a ha).1) h.2.1 (fun a ha y => ?_) hk
    rcases (h.1 a ha).2 with w | w
    · rw [y] at w
      exact e w
    · omega
theorem pz_q2_e {q : pz_Q} (h : pz_q2 I (cE I) q) : q.2 = cE I := by
  have h1 := pu_pig (cE I) q.2 q.1 (fun a ha => (h.1 a ha).1) h.2.1
  have ex : ∀ c, ∃ a, c < cE I → (a < q.2 ∧ q.1 a = c) := fun c => by
    by_cases hc : c < cE I
    · obtain ⟨a, a1⟩ := h.2.2 c hc (Or.inr hc)
      exact ⟨a, fun _ => a1⟩
    · exact ⟨0, fun z => absurd z hc⟩
  have h2 := pu_pig q.2 (cE I) (fun c => Classical.choose (ex c)) (fun c hc => (Classical.choose_spec (ex c) hc).1) (fun a b hab hb e => by
    have x := (Classical.choose_spec (ex a) (by omega)).2
    have y := (Classical.choose_spec (ex b) hb).2
    have e : Classical.choose (ex a) = Classical.choose (ex b) := e
    rw [e, y] at x
    omega)
  omega
theorem c_when_l (hx : pu_fx M) (hw : pu_WF I L) (h5 : M.1 45 5 = nI (cW I)) (h54 : ∀ j, M.1 54 j = I 54 j) (e : Int32) : ∀ m i x, x = nI i → i + m = cW I → pu_r 416 [some (.ref 45), some (.int e), some (.int x)] [] M = some (some (.int (pu_f1 (fun i => I 54 i = e) m i)), M)
  | 0, i, x, hi, h => by
    subst hi
    have hW := wx_bW hw
    have hc : nI (cW I) ≤ nI i := nI_le (by omega) (by omega)
    rw [qX1_whenWalked_2]
    simp [bX1_whenWalked_2, bX1_whenWalked_28, bX1_whenWalked_22, a_ai, a_ald, a_gi, a_gr, a_icge, a_icne, a_ild, a_inc, a_iret, a_push, fx_45_16 hx, sh_45, sh_54, pu_rv, pu_as, Value.category, pu_bk, pu_kl, List.replicate, pu_wi_1, pu_wi_2, nl_add, nl_ladd, nl_aa, nl_mul, nl_rmul, nl_mm, pu_qe0, pu_qe1, h5, hc, pu_f1]
    all_goals try simp (maxSteps := 400000) (disch := omega) [nl_tle, nl_fle, nl_tlt, nl_flt, nl_teq, nl_feq, nl_sub, nl_ss, nl_lt, nl_llt, nl_ltt, nl_le, nl_lle, nl_lee, nl_eq, nl_leq, nl_ee, nl_div, nl_rem, nl_cl, nl_n1, nl_n2, nl_n3, nl_n4, nl_add, nl_ladd, nl_aa, nl_mul, nl_rmul, nl_mm, pu_wi_1, pu_wi_2, bX1_whenWalked_2, bX1_whenWalked_28, bX1_whenWalked_22, a_ai, a_ald, a_gi, a_gr, a_icge, a_icne, a_ild, a_inc, a_iret, a_push, fx_45_16 hx, sh_45, sh_54, pu_rv, pu_as, Value.category, pu_bk, pu_kl, pu_qe0, pu_qe1, h5, hc, pu_f1]
    all_goals try simp [bX1_whenWalked_2, bX1_whenWalked_28, bX1_whenWalked_22, a_ai, a_ald, a_gi, a_gr, a_icge, a_icne, a_ild, a_inc, a_iret, a_push, fx_45_16 hx, sh_45, sh_54, pu_rv, pu_as, Value.category, pu_bk, pu_kl, List.replicate, pu_wi_1, pu_wi_2, nl_add, nl_ladd, nl_aa, nl_mul, nl_rmul, nl_mm, pu_qe0, pu_qe1, h5, hc, pu_f1]
    all_goals try simp (maxSteps := 400000) (disch := omega) [nl_tle, nl_fle, nl_tlt, nl_flt, nl_teq, nl_feq, nl_sub, nl_ss, nl_lt, nl_llt, nl_ltt, nl_le, nl_lle, nl_lee, nl_eq, nl_leq, nl_ee, nl_div, nl_rem, nl_cl, nl_n1, nl_n2, nl_n3, nl_n4, nl_add, nl_ladd, nl_aa, nl_mul, nl_rmul, nl_mm, pu_wi_1, pu_wi_2, bX1_whenWalked_2, bX1_whenWalked_28, bX1_whenWalked_22, a_ai, a_ald, a_gi, a_gr, a_icge, a_icne, a_ild, a_inc, a_iret, a_push, fx_45_16 hx, sh_45, sh_54, pu_rv, pu_as, Value.category, pu_bk, pu_kl, pu_qe0, pu_qe1, h5, hc, pu_f1]
  | m + 1, i, x, hi, h => by
    subst hi
    have hW := wx_bW hw
    have hc : ¬ nI (cW I) ≤ nI i := nI_ge (by omega) (by omega)
    have ih := c_when_l hx hw h5 h54 e m (i + 1) _ rfl (by omega)
    have h4 := h54 i
    by_cases c1 : I 54 i = e
    · rw [pu_f1_t c1]
      rw [qX1_whenWalked_2]
      simp [bX1_whenWalked_2, bX1_whenWalked_28, bX1_whenWalked_22, a_ai, a_ald, a_gi, a_gr, a_icge, a_icne, a_ild, a_inc, a_iret, a_push, fx_45_16 hx, sh_45, sh_54, pu_rv, pu_as, Value.category, pu_bk, pu_kl, List.replicate, pu_wi_1, pu_wi_2, nl_add, nl_ladd, nl_aa, nl_mul, nl_rmul, nl_mm, pu_qe0, pu_qe1, h5, hc, h4, c1]
      all_goals try simp (maxSteps := 400000) (disch := omega) [nl_tle, nl_fle, nl_tlt, nl_flt, nl_teq, nl_feq, nl_sub, nl_ss, nl_lt, nl_llt, nl_ltt, nl_le, nl_lle, nl_lee, nl_eq, nl_leq, nl_ee, nl_div, nl_rem, nl_cl, nl_n1, nl_n2, nl_n3, nl_n4, nl_add, nl_ladd, nl_aa, nl_mul, nl_rmul, nl_mm, pu_wi_1, pu_wi_2, bX1_whenWalked_2, bX1_whenWalked_28, bX1_whenWalked_22, a_ai, a_ald, a_gi, a_gr, a_icge, a_icne, a_ild, a_inc, a_iret, a_push, fx_45_16 hx, sh_45, sh_54, pu_rv, pu_as, Value.category, pu_bk, pu_kl, pu_qe0, pu_qe1, h5, hc, h4, c1]
      all_goals try simp [bX1_whenWalked_2, bX1_whenWalked_28, bX1_whenWalked_22, a_ai, a_ald, a_gi, a_gr, a_icge, a_icne, a_ild, a_inc, a_iret, a_push, fx_45_16 hx, sh_45, sh_54, pu_rv, pu_as, Value.category, pu_bk, pu_kl, List.replicate, pu_wi_1, pu_wi_2, nl_add, nl_ladd, nl_aa, nl_mul, nl_rmul, nl_mm, pu_qe0, pu_qe1, h5, hc, h4, c1]
      all_goals try simp (maxSteps := 400000) (disch := omega) [nl_tle, nl_fle, nl_tlt, nl_flt, nl_teq, nl_feq, nl_sub, nl_ss, nl_lt, nl_llt, nl_ltt, nl_le, nl_lle, nl_lee, nl_eq, nl_leq, nl_ee, nl_div, nl_rem, nl_cl, nl_n1, nl_n2, nl_n3, nl_n4, nl_add, nl_ladd, nl_aa, nl_mul, nl_rmul, nl_mm, pu_wi_1, pu_wi_2, bX1_whenWalked_2, bX1_whenWalked_28, bX1_whenWalked_22, a_ai, a_ald, a_gi, a_gr, a_icge, a_icne, a_ild, a_inc, a_iret, a_push, fx_45_16 hx, sh_45, sh_54, pu_rv, pu_as, Value.category, pu_bk, pu_kl, pu_qe0, pu_qe1, h5, hc, h4, c1]
    · rw [pu_f1_f c1]
      rw [qX1_whenWalked_2]
      simp [bX1_whenWalked_2, bX1_whenWalked_28, bX1_whenWalked_22, a_ai, a_ald, a_gi, a_gr, a_icge, a_icne, a_ild, a_inc, a_iret, a_push, fx_45_16 hx, sh_45, sh_54, pu_rv, pu_as, Value.category, pu_bk, pu_kl, List.replicate, pu_wi_1, pu_wi_2, nl_add, nl_ladd, nl_aa, nl_mul, nl_rmul, nl_mm, pu_qe0, pu_qe1, h5, hc, h4, c1, ih]
      all_goals try simp (maxSteps := 400000) (disch := omega) [nl_tle, nl_fle, nl_tlt, nl_flt, nl_teq, nl_feq, nl_sub, nl_ss, nl_lt, nl_llt, nl_ltt, nl_le, nl_lle, nl_lee, nl_eq, nl_leq, nl_ee, nl_div, nl_rem, nl_cl, nl_n1, nl_n2, nl_n3, nl_n4, nl_add, nl_ladd, nl_aa, nl_mul, nl_rmul, nl_mm, pu_wi_1, pu_wi_2, bX1_whenWalked_2, bX1_whenWalked_28, bX1_whenWalked_22, a_ai, a_ald, a_gi, a_gr, a_icge, a_icne, a_ild, a_inc, a_iret, a_push, fx_45_16 hx, sh_45, sh_54, pu_rv, pu_as, Value.category, pu_bk, pu_kl, pu_qe0, pu_qe1, h5, hc, h4, c1, ih]
      all_goals try simp [bX1_whenWalked_2, bX1_whenWalked_28, bX1_whenWalked_22, a_ai, a_ald, a_gi, a_gr, a_icge, a_icne, a_ild, a_inc, a_iret, a_push, fx_45_16 hx, sh_45, sh_54, pu_rv, pu_as, Value.category, pu_bk, pu_kl, List.replicate, pu_wi_1, pu_wi_2, nl_add, nl_ladd, nl_aa, nl_mul, nl_rmul, nl_mm, pu_qe0, pu_qe1, h5, hc, h4, c1, ih]
      all_goals try simp (maxSteps := 400000) (disch := omega) [nl_tle, nl_fle, nl_tlt, nl_flt, nl_teq, nl_feq, nl_sub, nl_ss, nl_lt, nl_llt, nl_ltt, nl_le, nl_lle, nl_lee, nl_eq, nl_leq, nl_ee, nl_div, nl_rem, nl_cl, nl_n1, nl_n2, nl_n3, nl_n4, nl_add, nl_ladd, nl_aa, nl_mul, nl_rmul, nl_mm, pu_wi_1, pu_wi_2, bX1_whenWalked_2, bX1_whenWalked_28, bX1_whenWalked_22, a_ai, a_ald, a_gi, a_gr, a_icge, a_icne, a_ild, a_inc, a_iret, a_push, fx_45_16 hx, sh_45, sh_54, pu_rv, pu_as, Value.category, pu_bk, pu_kl, pu_qe0, pu_qe1, h5, hc, h4, c1, ih]
theorem c_sf_l (hw : pu_WF I L) : ∀ (m k : Nat) (q : pz_Q) (M : pu_M), k + m = cE I → pu_fx M → M.1 45 5 = nI (cW I) → M.1 45 6 = nI (cE I) → (∀ j, M.1 55 j = I 55 j) → (∀ j, M.1 54 j = I 54 j) → pz_cs M I q → pz_q2 I k q → ∃ N, pz_57 M N ∧ pz_cs N I (pz_qf I m k q) ∧ pz_q2 I (cE I) (pz_qf I m k q) ∧ pu_r 423 [some (.ref 45), some (.int (nI k))] [] M = some (some (.int (nI (pz_qf I m k q).2)), pu_wi N 45 6 0)
  | 0, k, q, M, h, hx, h5, h6, h55, h54, hc, hq => by
    have hE := wx_bE hw
    have z : nI (cE I) ≤ nI k := nI_le (by omega) (by omega)
    have e : k = cE I := by omega
    subst e
    refine ⟨M, ⟨rfl, fun _ _ _ _ _ => rfl⟩, hc, hq, ?_⟩
    have h7 := hc.1
    rw [qX1_sortLetters_33]
    simp [bX1_sortLetters_33, bX1_sortLetters_66, bX1_sortLetters_60, a_ai, a_ald, a_cv, a_gi, a_gr, a_icge, a_icne, a_ild, a_inc, a_iret, a_pi, a_push, fx_45_17 hx, sh_45, sh_55, pu_rv, pu_as, Value.category, pu_bk, pu_kl, List.replicate, pu_wi_1, pu_wi_2, nl_add, nl_ladd, nl_aa, nl_mul, nl_rmul, nl_mm, pu_qe0, pu_qe1, h6, z, h7, pz_qf]
    all_goals try simp (maxSteps := 400000) (disch := omega) [nl_tle, nl_fle, nl_tlt, nl_flt, nl_teq, nl_feq, nl_sub, nl_ss, nl_lt, nl_llt, nl_ltt, nl_le, nl_lle, nl_lee, nl_eq, nl_leq, nl_ee, nl_div, nl_rem, nl_cl, nl_n1, nl_n2, nl_n3, nl_n4, nl_add, nl_ladd, nl_aa, nl_mul, nl_rmul, nl_mm, pu_wi_1, pu_wi_2, bX1_sortLetters_33, bX1_sortLetters_66, bX1_sortLetters_60, a_ai, a_ald, a_cv, a_gi, a_gr, a_icge, a_icne, a_ild, a_inc, a_iret, a_pi, a_push, fx_45_17 hx, sh_45, sh_55, pu_rv, pu_as, Value.category, pu_bk, pu_kl, pu_qe0, pu_qe1, h6, z, h7, pz_qf]
    all_goals try simp [bX1_sortLetters_33, bX1_sortLetters_66, bX1_sortLetters_60, a_ai, a_ald, a_cv, a_gi, a_gr, a_icge, a_icne, a_ild, a_inc, a_iret, a_pi, a_push, fx_45_17 hx, sh_45, sh_55, pu_rv, pu_as, Value.category, pu_bk, pu_kl, List.replicate, pu_wi_1, pu_wi_2, nl_add, nl_ladd, nl_aa, nl_mul, nl_rmul, nl_mm, pu_qe0, pu_qe1, h6, z, h7, pz_qf]
    all_goals try simp (maxSteps := 400000) (disch := omega) [nl_tle, nl_fle, nl_tlt, nl_flt, nl_teq, nl_feq, nl_sub, nl_ss, nl_lt, nl_llt, nl_ltt, nl_le, nl_lle, nl_lee, nl_eq, nl_leq, nl_ee, nl_div, nl_rem, nl_cl, nl_n1, nl_n2, nl_n3, nl_n4, nl_add, nl_ladd, nl_aa, nl_mul, nl_rmul, nl_mm, pu_wi_1, pu_wi_2, bX1_sortLetters_33, bX1_sortLetters_66, bX1_sortLetters_60, a_ai, a_ald, a_cv, a_gi, a_gr, a_icge, a_icne, a_ild, a_inc, a_iret, a_pi, a_push, fx_45_17 hx, sh_45, sh_55, pu_rv, pu_as, Value.category, pu_bk, pu_kl, pu_qe0, pu_qe1, h6, z, h7, pz_qf]
  | m + 1, k, q, M, h, hx, h5, h6, h55, h54, hc, hq => by
    have hE := wx_bE hw
    have hW := wx_bW hw
    have z : ¬ nI (cE I) ≤ nI k := nI_ge (by omega) (by omega)
    obtain ⟨s1, s2⟩ := pz_q2_s (by omega) hq
    have h5k := h55 k
    have ew := c_when_l hx hw h5 h54 (I 55 k) (cW I) 0 0 rfl (by omega)
    have ew2 : pu_r 203 [some (.ref 45), some (.int (I 55 k))] [] M = some (some (.int (pu_f1 (fun i => I 54 i = I 55 k) (cW I) 0)), M) := by
      rw [qX1_whenWalked]
      simp [a_ent, bX1_whenWalked_0, a_ist, a_push, pu_rv, pu_as, Value.category, pu_bk, pu_kl, List.replicate, pu_wi_1, pu_wi_2, nl_add, nl_ladd, nl_aa, nl_mul, nl_rmul, nl_mm, pu_qe0, pu_qe1, ew]
      all_goals try simp (maxSteps := 400000) (disch := omega) [nl_tle, nl_fle, nl_tlt, nl_flt, nl_teq, nl_feq, nl_sub, nl_ss, nl_lt, nl_llt, nl_ltt, nl_le, nl_lle, nl_lee, nl_eq, nl_leq, nl_ee, nl_div, nl_rem, nl_cl, nl_n1, nl_n2, nl_n3, nl_n4, nl_add, nl_ladd, nl_aa, nl_mul, nl_rmul, nl_mm, pu_wi_1, pu_wi_2, bX1_whenWalked_0, a_ist, a_push, pu_rv, pu_as, Value.category, pu_bk, pu_kl, pu_qe0, pu_qe1, ew]
      all_goals try simp [bX1_whenWalked_0, a_ist, a_push, pu_rv, pu_as, Value.category, pu_bk, pu_kl, List.replicate, pu_wi_1, pu_wi_2, nl_add, nl_ladd, nl_aa, nl_mul, nl_rmul, nl_mm, pu_qe0, pu_qe1, ew]
      all_goals try simp (maxSteps := 400000) (disch := omega) [nl_tle, nl_fle, nl_tlt, nl_flt, nl_teq, nl_feq, nl_sub, nl_ss, nl_lt, nl_llt, nl_ltt, nl_le, nl_lle, nl_lee, nl_eq, nl_leq, nl_ee, nl_div, nl_rem, nl_cl, nl_n1, nl_n2, nl_n3, nl_n4, nl_add, nl_ladd, nl_aa, nl_mul, nl_rmul, nl_mm, pu_wi_1, pu_wi_2, bX1_whenWalked_0, a_ist, a_push, pu_rv, pu_as, Value.category, pu_bk, pu_kl, pu_qe0, pu_qe1, ew]
    rw [pz_qf]
    rcases pu_f1_spec (fun i => I 54 i = I 55 k) (cW I) 0 with ⟨y1, y2⟩ | ⟨l, _, y1, y2, y3, _⟩
    · have nw : ¬ ∃ i, i < cW I ∧ I 54 i = I 55 k := fun ⟨i, i1, i2⟩ => y2 i (by omega) (by omega) i2
      rw [if_neg nw]
      obtain ⟨s3, s4⟩ := s2 nw
      obtain ⟨N, n1, n2, n3⟩ := c_addSorted hx q k hc (by omega) (by omega) h5k
      obtain ⟨O, o1, o2, o3, o4⟩ := c_sf_l hw m (k + 1) (pz_qa k q) N (by omega) (pz_57_x n1 hx) (by rw [n1.2 _ _ (by omega) (by omega) (by omega)]; exact h5) (by rw [n1.2 _ _ (by omega) (by omega) (by omega)]; exact h6) (fun j => by rw [n1.2 _ _ (by omega) (by omega) (by omega)]; exact h55 j) (fun j => by rw [n1.2 _ _ (by omega) (by omega) (by omega)]; exact h54 j) n2 s3
      refine ⟨O, pz_57_t n1 o1, o2, o3, ?_⟩
      rw [y1] at ew2
      rw [qX1_sortLetters_33]
      simp [bX1_sortLetters_33, bX1_sortLetters_66, bX1_sortLetters_60, a_ai, a_ald, a_cv, a_gi, a_gr, a_icge, a_icne, a_ild, a_inc, a_iret, a_pi, a_push, fx_45_17 hx, sh_45, sh_55, pu_rv, pu_as, Value.category, pu_bk, pu_kl, List.replicate, pu_wi_1, pu_wi_2, nl_add, nl_ladd, nl_aa, nl_mul, nl_rmul, nl_mm, pu_qe0, pu_qe1, h6, z, h5k, ew2, n3, o4]
      all_goals try simp (maxSteps := 400000) (disch := omega) [nl_tle, nl_fle, nl_tlt, nl_flt, nl_teq, nl_feq, nl_sub, nl_ss, nl_lt, nl_llt, nl_ltt, nl_le, nl_lle, nl_lee, nl_eq, nl_leq, nl_ee, nl_div, nl_rem, nl_cl, nl_n1, nl_n2, nl_n3, nl_n4, nl_add, nl_ladd, nl_aa, nl_mul, nl_rmul, nl_mm, pu_wi_1, pu_wi_2, bX1_sortLetters_33, bX1_sortLetters_66, bX1_sortLetters_60, a_ai, a_ald, a_cv, a_gi, a_gr, a_icge, a_icne, a_ild, a_inc, a_iret, a_pi, a_push, fx_45_17 hx, sh_45, sh_55, pu_rv, pu_as, Value.category, pu_bk, pu_kl, pu_qe0, pu_qe1, h6, z, h5k, ew2, n3, o4]
      all_goals try simp [bX1_sortLetters_33, bX1_sortLetters_66, bX1_sortLetters_60, a_ai, a_ald, a_cv, a_gi, a_gr, a_icge, a_icne, a_ild, a_inc, a_iret, a_pi, a_push, fx_45_17 hx, sh_45, sh_55, pu_rv, pu_as, Value.category, pu_bk, pu_kl, List.replicate, pu_wi_1, pu_wi_2, nl_add, nl_ladd, nl_aa, nl_mul, nl_rmul, nl_mm, pu_qe0, pu_qe1, h6, z, h5k, ew2, n3, o4]
      all_goals try simp (maxSteps := 400000) (disch := omega) [nl_tle, nl_fle, nl_tlt, nl_flt, nl_teq, nl_feq, nl_sub, nl_ss, nl_lt, nl_llt, nl_ltt, nl_le, nl_lle, nl_lee, nl_eq, nl_leq, nl_ee, nl_div, nl_rem, nl_cl, nl_n1, nl_n2, nl_n3, nl_n4, nl_add, nl_ladd, nl_aa, nl_mul, nl_rmul, nl_mm, pu_wi_1, pu_wi_2, bX1_sortLetters_33, bX1_sortLetters_66, bX1_sortLetters_60, a_ai, a_ald, a_cv, a_gi, a_gr, a_icge, a_icne, a_ild, a_inc, a_iret, a_pi, a_push, fx_45_17 hx, sh_45, sh_55, pu_rv, pu_as, Value.category, pu_bk, pu_kl, pu_qe0, pu_qe1, h6, z, h5k, ew2, n3, o4]
    · have nw : ∃ i, i < cW I ∧ I 54 i = I 55 k := ⟨l, by omega, y3⟩
      rw [if_pos nw]
      obtain ⟨O, o1, o2, o3, o4⟩ := c_sf_l hw m (k + 1) q M (by omega) hx h5 h6 h55 h54 hc (s1 nw)
      refine ⟨O, o1, o2, o3, ?_⟩
      rw [y2] at ew2
      have n1 : ¬ nI l = -1 := fun q => by rw [nl_n1 l (by omega)] at q; exact q
      rw [qX1_sortLetters_33]
      simp [bX1_sortLetters_33, bX1_sortLetters_66, bX1_sortLetters_60, a_ai, a_ald, a_cv, a_gi, a_gr, a_icge, a_icne, a_ild, a_inc, a_iret, a_pi, a_push, fx_45_17 hx, sh_45, sh_55, pu_rv, pu_as, Value.category, pu_bk, pu_kl, List.replicate, pu_wi_1, pu_wi_2, nl_add, nl_ladd, nl_aa, nl_mul, nl_rmul, nl_mm, pu_qe0, pu_qe1, h6, z, h5k, ew2, n1, o4]
      all_goals try simp (maxSteps := 400000) (disch := omega) [nl_tle, nl_fle, nl_tlt, nl_flt, nl_teq, nl_feq, nl_sub, nl_ss, nl_lt, nl_llt, nl_ltt, nl_le, nl_lle, nl_lee, nl_eq, nl_leq, nl_ee, nl_div, nl_rem, nl_cl, nl_n1, nl_n2, nl_n3, nl_n4, nl_add, nl_ladd, nl_aa, nl_mul, nl_rmul, nl_mm, pu_wi_1, pu_wi_2, bX1_sortLetters_33, bX1_sortLetters_66, bX1_sortLetters_60, a_ai, a_ald, a_cv, a_gi, a_gr, a_icge, a_icne, a_ild, a_inc, a_iret, a_pi, a_push, fx_45_17 hx, sh_45, sh_55, pu_rv, pu_as, Value.category, pu_bk, pu_kl, pu_qe0, pu_qe1, h6, z, h5k, ew2, n1, o4]
      all_goals try simp [bX1_sortLetters_33, bX1_sortLetters_66, bX1_sortLetters_60, a_ai, a_ald, a_cv, a_gi, a_gr, a_icge, a_icne, a_ild, a_inc, a_iret, a_pi, a_push, fx_45_17 hx, sh_45, sh_55, pu_rv, pu_as, Value.category, pu_bk, pu_kl, List.replicate, pu_wi_1, pu_wi_2, nl_add, nl_ladd, nl_aa, nl_mul, nl_rmul, nl_mm, pu_qe0, pu_qe1, h6, z, h5k, ew2, n1, o4]
      all_goals try simp (maxSteps := 400000) (disch := omega) [nl_tle, nl_fle, nl_tlt, nl_flt, nl_teq, nl_feq, nl_sub, nl_ss, nl_lt, nl_llt, nl_ltt, nl_le, nl_lle, nl_lee, nl_eq, nl_leq, nl_ee, nl_div, nl_rem, nl_cl, nl_n1, nl_n2, nl_n3, nl_n4, nl_add, nl_ladd, nl_aa, nl_mul, nl_rmul, nl_mm, pu_wi_1, pu_wi_2, bX1_sortLetters_33, bX1_sortLetters_66, bX1_sortLetters_60, a_ai, a_ald, a_cv, a_gi, a_gr, a_icge, a_icne, a_ild, a_inc, a_iret, a_pi, a_push, fx_45_17 hx, sh_45, sh_55, pu_rv, pu_as, Value.category, pu_bk, pu_kl, pu_qe0, pu_qe1, h6, z, h5k, ew2, n1, o4]
/-! the reference's loops -/
def pz_rq (M : pu_M) (I : Nat → Nat → Int32) (q : pz_Q) : Prop := ∀ j, j < q.2 → M.1 72 (59888 + 2 * j) = nI (q.1 j) ∧ M.1 72 (59888 + 2 * j + 1) = I 55 (q.1 j)
def pz_72 (M N : pu_M) : Prop := N.2 = M.2 ∧ ∀ a j, ¬ (a = 72 ∧ 59888 ≤ j ∧ j < 60008) → N.1 a j = M.1 a j
theorem pz_72_t {M N O : pu_M} (h1 : pz_72 M N) (h2 : pz_72 N O) : pz_72 M O := ⟨h2.1.trans h1.1, fun a j q1 => (h2.2 a j q1).trans (h1.2 a j q1)⟩
theorem pz_72_x {M N : pu_M} (h : pz_72 M N) (hx : pu_fx M) : pu_fx N := fun a k r q => by
  rw [h.1]
  exact hx a k r q
/-- one letter more -/
theorem pz_rq_a (q : pz_Q) (k : Nat) (hc : pz_rq M I q) (hl : q.2 < 60) : pz_72 M (pu_wi (pu_wi M 72 (59888 + 2 * q.2) (nI k)) 72 (59888 + 2 * q.2 + 1) (I 55 k)) ∧ pz_rq (pu_wi (pu_wi M 72 (59888 + 2 * q.2) (nI k)) 72 (59888 + 2 * q.2 + 1) (I 55 k)) I (pz_qa k q) := by
  refine ⟨⟨rfl, fun a j h => ?_⟩, fun j hj => ?_⟩
  · simp only [pu_wi_1]
    grind
  · have hj : j < q.2 + 1 := hj
    simp only [pu_wi_1, pz_qa]
    by_cases e : j = q.2
    · subst e
      simp (disch := omega) [nl_feq]
    · have := hc j (by omega)
      simp (disch := omega) [nl_feq, e]
      exact this
/-- what the reference's loops read -/
def pz_rd (M : pu_M) (I : Nat → Nat → Int32) : Prop := M.1 72 12 = nI (cW I) ∧ (∀ k, k < cE I → M.1 72 (59528 + k) = I 55 k) ∧ (∀ i, i < cW I → M.1 72 (59788 + i) = I 54 i)
theorem pz_rd_t {M N : pu_M} (hw : pu_WF I L) (h : pz_72 M N) (g : pz_rd M I) : pz_rd N I := by
  have hE := wx_bE hw
  have hW := wx_bW hw
  exact ⟨by rw [h.2 _ _ (by omega)]; exact g.1, fun k hk => by rw [h.2 _ _ (by omega)]; exact g.2.1 k hk, fun k hk => by rw [h.2 _ _ (by omega)]; exact g.2.2 k hk⟩
theorem r_si_l (hw : pu_WF I L) (i : Nat) (hi : i < cW I) : ∀ (m k : Nat) (q : pz_Q) (M : pu_M), k + m = cE I → pu_fx M → pz_rd M I → pz_rq M I q → pz_qw I i k q → ∃ N t, pz_72 M N ∧ pz_rq N I (pz_qi I (I 54 i) m k q) ∧ pz_qw I i (cE I) (pz_qi I (I 54 i) m k q) ∧ pu_r 530 [some (.ref 71), some (.int (nI (cE I))), some (.int (nI q.2)), some (.int (nI i)), some (.int (nI k))] [] M = pu_r 529 [some (.ref 71), some (.int (nI (cE I))), some (.int (nI (pz_qi I (I 54 i) m k q).2)), some (.int (nI (i + 1))), t] [] N
  | 0, k, q, M, h, hx, hd, hc, hq => by
    have hE := wx_bE hw
    have z : nI (cE I) ≤ nI k := nI_le (by omega) (by omega)
    have e : k = cE I := by omega
    subst e
    refine ⟨M, some (.int (nI (cE I))), ⟨rfl, fun _ _ _ => rfl⟩, hc, hq, ?_⟩
    rw [qX12_sort_26]
    simp [bX12_sort_26, bX12_sort_107, bX12_sort_59, bX12_sort_97, bX12_sort_101, a_ai, a_ald, a_gr, a_iadd, a_iceq, a_icge, a_ild, a_imul, a_inc, a_push, a_wi, fx_71_0 hx, sh_71, sh_72, pu_rv, pu_as, Value.category, pu_bk, pu_kl, List.replicate, pu_wi_1, pu_wi_2, nl_add, nl_ladd, nl_aa, nl_mul, nl_rmul, nl_mm, pu_qe0, pu_qe1, z, pz_qi]
    all_goals try simp (maxSteps := 400000) (disch := omega) [nl_tle, nl_fle, nl_tlt, nl_flt, nl_teq, nl_feq, nl_sub, nl_ss, nl_lt, nl_llt, nl_ltt, nl_le, nl_lle, nl_lee, nl_eq, nl_leq, nl_ee, nl_div, nl_rem, nl_cl, nl_n1, nl_n2, nl_n3, nl_n4, nl_add, nl_ladd, nl_aa, nl_mul, nl_rmul, nl_mm, pu_wi_1, pu_wi_2, bX12_sort_26, bX12_sort_107, bX12_sort_59, bX12_sort_97, bX12_sort_101, a_ai, a_ald, a_gr, a_iadd, a_iceq, a_icge, a_ild, a_imul, a_inc, a_push, a_wi, fx_71_0 hx, sh_71, sh_72, pu_rv, pu_as, Value.category, pu_bk, pu_kl, pu_qe0, pu_qe1, z, pz_qi]
    all_goals try simp [bX12_sort_26, bX12_sort_107, bX12_sort_59, bX12_sort_97, bX12_sort_101, a_ai, a_ald, a_gr, a_iadd, a_iceq, a_icge, a_ild, a_imul, a_inc, a_push, a_wi, fx_71_0 hx, sh_71, sh_72, pu_rv, pu_as, Value.category, pu_bk, pu_kl, List.replicate, pu_wi_1, pu_wi_2, nl_add, nl_ladd, nl_aa, nl_mul, nl_rmul, nl_mm, pu_qe0, pu_qe1, z, pz_qi]
    all_goals try simp (maxSteps := 400000) (disch := omega) [nl_tle, nl_fle, nl_tlt, nl_flt, nl_teq, nl_feq, nl_sub, nl_ss, nl_lt, nl_llt, nl_ltt, nl_le, nl_lle, nl_lee, nl_eq, nl_leq, nl_ee, nl_div, nl_rem, nl_cl, nl_n1, nl_n2, nl_n3, nl_n4, nl_add, nl_ladd, nl_aa, nl_mul, nl_rmul, nl_mm, pu_wi_1, pu_wi_2, bX12_sort_26, bX12_sort_107, bX12_sort_59, bX12_sort_97, bX12_sort_101, a_ai, a_ald, a_gr, a_iadd, a_iceq, a_icge, a_ild, a_imul, a_inc, a_push, a_wi, fx_71_0 hx, sh_71, sh_72, pu_rv, pu_as, Value.category, pu_bk, pu_kl, pu_qe0, pu_qe1, z, pz_qi]
  | m + 1, k, q, M, h, hx, hd, hc, hq => by
    have hE := wx_bE hw
    have hW := wx_bW hw
    have z : ¬ nI (cE I) ≤ nI k := nI_ge (by omega) (by omega)
    obtain ⟨s1, s2⟩ := pz_qw_s hw hi (by omega) hq
    have a1 := hd.2.1 k (by omega)
    have a2 := hd.2.2 i hi
    by_cases e : I 55 k = I 54 i
    · rw [if_pos e] at s1
      have s3 := s2 e
      obtain ⟨n1, n2⟩ := pz_rq_a q k hc (by omega)
      obtain ⟨O, t, o1, o2, o3, o4⟩ := r_si_l hw i hi m (k + 1) (pz_qa k q) _ (by omega) (pz_72_x n1 hx) (pz_rd_t hw n1 hd) n2 s1
      refine ⟨O, t, pz_72_t n1 o1, ?_, ?_, ?_⟩
      · rw [pz_qi, if_pos e]
        exact o2
      · rw [pz_qi, if_pos e]
        exact o3
      · rw [pz_qi, if_pos e, ← o4]
        have i1 : 59888 + 2 * q.2 ≠ 59528 + k := by omega
        rw [e] at a1
        show _ = pu_r _ [some (.ref 71), some (.int (nI (cE I))), some (.int (nI (q.2 + 1))), some (.int (nI i)), some (.int (nI (k + 1)))] [] _
        rw [qX12_sort_26]
        simp [bX12_sort_26, bX12_sort_107, bX12_sort_59, bX12_sort_97, bX12_sort_101, a_ai, a_ald, a_gr, a_iadd, a_iceq, a_icge, a_ild, a_imul, a_inc, a_push, a_wi, fx_71_0 hx, sh_71, sh_72, pu_rv, pu_as, Value.category, pu_bk, pu_kl, List.replicate, pu_wi_1, pu_wi_2, nl_add, nl_ladd, nl_aa, nl_mul, nl_rmul, nl_mm, pu_qe0, pu_qe1, z, a1, a2, e]
        all_goals try simp (maxSteps := 400000) (disch := omega) [nl_tle, nl_fle, nl_tlt, nl_flt, nl_teq, nl_feq, nl_sub, nl_ss, nl_lt, nl_llt, nl_ltt, nl_le, nl_lle, nl_lee, nl_eq, nl_leq, nl_ee, nl_div, nl_rem, nl_cl, nl_n1, nl_n2, nl_n3, nl_n4, nl_add, nl_ladd, nl_aa, nl_mul, nl_rmul, nl_mm, pu_wi_1, pu_wi_2, bX12_sort_26, bX12_sort_107, bX12_sort_59, bX12_sort_97, bX12_sort_101, a_ai, a_ald, a_gr, a_iadd, a_iceq, a_icge, a_ild, a_imul, a_inc, a_push, a_wi, fx_71_0 hx, sh_71, sh_72, pu_rv, pu_as, Value.category, pu_bk, pu_kl, pu_qe0, pu_qe1, z, a1, a2, e]
        all_goals try simp [bX12_sort_26, bX12_sort_107, bX12_sort_59, bX12_sort_97, bX12_sort_101, a_ai, a_ald, a_gr, a_iadd, a_iceq, a_icge, a_ild, a_imul, a_inc, a_push, a_wi, fx_71_0 hx, sh_71, sh_72, pu_rv, pu_as, Value.category, pu_bk, pu_kl, List.replicate, pu_wi_1, pu_wi_2, nl_add, nl_ladd, nl_aa, nl_mul, nl_rmul, nl_mm, pu_qe0, pu_qe1, z, a1, a2, e]
        all_goals try simp (maxSteps := 400000) (disch := omega) [nl_tle, nl_fle, nl_tlt, nl_flt, nl_teq, nl_feq, nl_sub, nl_ss, nl_lt, nl_llt, nl_ltt, nl_le, nl_lle, nl_lee, nl_eq, nl_leq, nl_ee, nl_div, nl_rem, nl_cl, nl_n1, nl_n2, nl_n3, nl_n4, nl_add, nl_ladd, nl_aa, nl_mul, nl_rmul, nl_mm, pu_wi_1, pu_wi_2, bX12_sort_26, bX12_sort_107, bX12_sort_59, bX12_sort_97, bX12_sort_101, a_ai, a_ald, a_gr, a_iadd, a_iceq, a_icge, a_ild, a_imul, a_inc, a_push, a_wi, fx_71_0 hx, sh_71, sh_72, pu_rv, pu_as, Value.category, pu_bk, pu_kl, pu_qe0, pu_qe1, z, a1, a2, e]
    · rw [if_neg e] at s1
      obtain ⟨O, t, o1, o2, o3, o4⟩ := r_si_l hw i hi m (k + 1) q M (by omega) hx hd hc s1
      refine ⟨O, t, o1, ?_, ?_, ?_⟩
      · rw [pz_qi, if_neg e]
        exact o2
      · rw [pz_qi, if_neg e]
        exact o3
      · rw [pz_qi, if_neg e, ← o4]
        rw [qX12_sort_26]
        simp [bX12_sort_26, bX12_sort_107, bX12_sort_59, bX12_sort_97, bX12_sort_101, a_ai, a_ald, a_gr, a_iadd, a_iceq, a_icge, a_ild, a_imul, a_inc, a_push, a_wi, fx_71_0 hx, sh_71, sh_72, pu_rv, pu_as, Value.category, pu_bk, pu_kl, List.replicate, pu_wi_1, pu_wi_2, nl_add, nl_ladd, nl_aa, nl_mul, nl_rmul, nl_mm, pu_qe0, pu_qe1, z, a1, a2, e]
        all_goals try simp (maxSteps := 400000) (disch := omega) [nl_tle, nl_fle, nl_tlt, nl_flt, nl_teq, nl_feq, nl_sub, nl_ss, nl_lt, nl_llt, nl_ltt, nl_le, nl_lle, nl_lee, nl_eq, nl_leq, nl_ee, nl_div, nl_rem, nl_cl, nl_n1, nl_n2, nl_n3, nl_n4, nl_add, nl_ladd, nl_aa, nl_mul, nl_rmul, nl_mm, pu_wi_1, pu_wi_2, bX12_sort_26, bX12_sort_107, bX12_sort_59, bX12_sort_97, bX12_sort_101, a_ai, a_ald, a_gr, a_iadd, a_iceq, a_icge, a_ild, a_imul, a_inc, a_push, a_wi, fx_71_0 hx, sh_71, sh_72, pu_rv, pu_as, Value.category, pu_bk, pu_kl, pu_qe0, pu_qe1, z, a1, a2, e]
        all_goals try simp [bX12_sort_26, bX12_sort_107, bX12_sort_59, bX12_sort_97, bX12_sort_101, a_ai, a_ald, a_gr, a_iadd, a_iceq, a_icge, a_ild, a_imul, a_inc, a_push, a_wi, fx_71_0 hx, sh_71, sh_72, pu_rv, pu_as, Value.category, pu_bk, pu_kl, List.replicate, pu_wi_1, pu_wi_2, nl_add, nl_ladd, nl_aa, nl_mul, nl_rmul, nl_mm, pu_qe0, pu_qe1, z, a1, a2, e]
        all_goals try simp (maxSteps := 400000) (disch := omega) [nl_tle, nl_fle, nl_tlt, nl_flt, nl_teq, nl_feq, nl_sub, nl_ss, nl_lt, nl_llt, nl_ltt, nl_le, nl_lle, nl_lee, nl_eq, nl_leq, nl_ee, nl_div, nl_rem, nl_cl, nl_n1, nl_n2, nl_n3, nl_n4, nl_add, nl_ladd, nl_aa, nl_mul, nl_rmul, nl_mm, pu_wi_1, pu_wi_2, bX12_sort_26, bX12_sort_107, bX12_sort_59, bX12_sort_97, bX12_sort_101, a_ai, a_ald, a_gr, a_iadd, a_iceq, a_icge, a_ild, a_imul, a_inc, a_push, a_wi, fx_71_0 hx, sh_71, sh_72, pu_rv, pu_as, Value.category, pu_bk, pu_kl, pu_qe0, pu_qe1, z, a1, a2, e]
end
