/-! sort: letters in the order of the walk -/
abbrev pz_Q : Type := (Nat → Nat) × Nat
def pz_qa (k : Nat) (q : pz_Q) : pz_Q := (fun j => if j = q.2 then k else q.1 j, q.2 + 1)
/-- the letters of door e, from k on -/
def pz_qi (I : Nat → Nat → Int32) (e : Int32) : Nat → Nat → pz_Q → pz_Q
  | 0, _, q => q
  | m + 1, k, q => pz_qi I e m (k + 1) (if I 55 k = e then pz_qa k q else q)
def pz_qo (I : Nat → Nat → Int32) : Nat → Nat → pz_Q → pz_Q
  | 0, _, q => q
  | m + 1, i, q => pz_qo I m (i + 1) (pz_qi I (I 54 i) (cE I) 0 q)
/-- the letters of doors that were not walked -/
noncomputable def pz_qf (I : Nat → Nat → Int32) : Nat → Nat → pz_Q → pz_Q
  | 0, _, q => q
  | m + 1, k, q => pz_qf I m (k + 1) (@ite _ (∃ i, i < cW I ∧ I 54 i = I 55 k) (Classical.propDecidable _) q (pz_qa k q))
/-- the letters so far: those of the first i doors of the walk, and those of door i below k -/
def pz_qw (I : Nat → Nat → Int32) (i k : Nat) (q : pz_Q) : Prop := (∀ a, a < q.2 → q.1 a < cE I ∧ ((∃ l, l < i ∧ I 54 l = I 55 (q.1 a)) ∨ (I 54 i = I 55 (q.1 a) ∧ q.1 a < k))) ∧ (∀ a b, a < b → b < q.2 → q.1 a ≠ q.1 b) ∧ (∀ c, c < cE I → ((∃ l, l < i ∧ I 54 l = I 55 c) ∨ (I 54 i = I 55 c ∧ c < k)) → ∃ a, a < q.2 ∧ q.1 a = c)
section
variable {M : pu_M} {I : Nat → Nat → Int32} {L : Nat → Nat → Int64}
theorem pz_qa_new {q : pz_Q} {k n : Nat} (h1 : ∀ a, a < q.2 → q.1 a < n) (h2 : ∀ a b, a < b → b < q.2 → q.1 a ≠ q.1 b) (h3 : ∀ a, a < q.2 → q.1 a ≠ k) (hk : k < n) : q.2 + 1 ≤ n :=
  pu_pig n (q.2 + 1) (pz_qa k q).1 (fun a ha => by
    show (if a = q.2 then k else q.1 a) < n
    split
    · exact hk
    · exact h1 a (by omega)) (fun a b hab hb => by
    show (if a = q.2 then k else q.1 a) ≠ (if b = q.2 then k else q.1 b)
    rw [if_neg (by omega)]
    by_cases e : b = q.2
    · rw [if_pos e]
      exact h3 a (by omega)
    · rw [if_neg e]
      exact h2 a b hab (by omega))
theorem pz_qw_s (hw : pu_WF I L) {i k : Nat} {q : pz_Q} (hi : i < cW I) (hk : k < cE I) (h : pz_qw I i k q) : pz_qw I i (k + 1) (if I 55 k = I 54 i then pz_qa k q else q) ∧ (I 55 k = I 54 i → q.2 + 1 ≤ cE I) := by
  have dist := wx_ew hw
  have old : ∀ a, a < q.2 → I 55 k = I 54 i → q.1 a ≠ k := fun a ha e z => by
    rcases (h.1 a ha).2 with ⟨l, l1, l2⟩ | ⟨_, l2⟩
    · rw [z, e] at l2
      exact dist l i l1 hi l2
    · omega
  refine ⟨?_, fun e => pz_qa_new (fun a ha => (h.1 a ha).1) h.2.1 (fun a ha => old a ha e) hk⟩
  by_cases e : I 55 k = I 54 i
  · rw [if_pos e]
    refine ⟨fun a ha => ?_, fun a b hab hb => ?_, fun c hc hs => ?_⟩
    · show (if a = q.2 then k else q.1 a) < cE I ∧ ((∃ l, l < i ∧ I 54 l = I 55 (if a = q.2 then k else q.1 a)) ∨ (I 54 i = I 55 (if a = q.2 then k else q.1 a) ∧ (if a = q.2 then k else q.1 a) < k + 1))
      have ha : a < q.2 + 1 := ha
      by_cases z : a = q.2
      · rw [if_pos z]
        exact ⟨hk, Or.inr ⟨e.symm, by omega⟩⟩
      · rw [if_neg z]
        refine ⟨(h.1 a (by omega)).1, (h.1 a (by omega)).2.imp id (fun y => ⟨y.1, by omega⟩)⟩
    · have hb : b < q.2 + 1 := hb
      show (if a = q.2 then k else q.1 a) ≠ (if b = q.2 then k else q.1 b)
      rw [if_neg (by omega)]
      by_cases z : b = q.2
      · rw [if_pos z]
        exact old a (by omega) e
      · rw [if_neg z]
        exact h.2.1 a b hab (by omega)
    · by_cases z : c = k
      · exact ⟨q.2, Nat.lt_succ_self _, by
          show (if q.2 = q.2 then k else q.1 q.2) = c
          rw [if_pos rfl, z]⟩
      · obtain ⟨a, a1, a2⟩ := h.2.2 c hc (hs.imp id (fun y => ⟨y.1, by omega⟩))
        exact ⟨a, Nat.lt_succ_of_lt a1, by
          show (if a = q.2 then k else q.1 a) = c
          rw [if_neg (by omega), a2]⟩
  · rw [if_neg e]
    refine ⟨fun a ha => ⟨(h.1 a ha).1, (h.1 a ha).2.imp id (fun y => ⟨y.1, by omega⟩)⟩, h.2.1, fun c hc hs => h.2.2 c hc (hs.imp id (fun y => ⟨y.1, ?_⟩))⟩
    have : c ≠ k := fun z => e (by rw [← z]; exact y.1.symm)
    omega
/-- the two memories that keep the letters sorted so far -/
def pz_cs (M : pu_M) (I : Nat → Nat → Int32) (q : pz_Q) : Prop := M.1 45 7 = nI q.2 ∧ ∀ j, j < q.2 → M.1 56 j = nI (q.1 j) ∧ M.1 57 j = I 55 (q.1 j)
/-- cells 56, 57 and the count alone have changed -/
def pz_57 (M N : pu_M) : Prop := N.2 = M.2 ∧ ∀ a j, ¬ (a = 45 ∧ j = 7) → a ≠ 56 → a ≠ 57 → N.1 a j = M.1 a j
theorem pz_57_t {M N O : pu_M} (h1 : pz_57 M N) (h2 : pz_57 N O) : pz_57 M O := ⟨h2.1.trans h1.1, fun a j q1 q2 q3 => (h2.2 a j q1 q2 q3).trans (h1.2 a j q1 q2 q3)⟩
theorem pz_57_x {M N : pu_M} (h : pz_57 M N) (hx : pu_fx M) : pu_fx N := fun a k r q => by
  rw [h.1]
  exact hx a k r q
theorem c_addSorted (hx : pu_fx M) (q : pz_Q) (k : Nat) (hc : pz_cs M I q) (hl : q.2 < 60) (hk : k < 60) (h55 : M.1 55 k = I 55 k) : ∃ N, pz_57 M N ∧ pz_cs N I (pz_qa k q) ∧ pu_r 213 [some (.ref 45), some (.int (nI k))] [] M = some (none, N) := by
  have c : ¬ 60 ≤ nI q.2 := nI_ge (b := 60) hl (by omega)
  refine ⟨pu_wi (pu_wi (pu_wi M 56 q.2 (nI k)) 57 q.2 (I 55 k)) 45 7 (nI (q.2 + 1)), ⟨rfl, fun a j q1 q2 q3 => ?_⟩, ⟨?_, fun j hj => ?_⟩, ?_⟩
  · simp only [pu_wi_1]
    grind
  · simp [pu_wi_1, pz_qa]
  · have hj : j < q.2 + 1 := hj
    have := hc.2 j
    simp only [pu_wi_1, pz_qa]
    by_cases e : j = q.2
    · simp [e]
    · simp [e]
      exact this (by omega)
  · have h7 := hc.1
    rw [qX1_addSorted]
    simp [a_ent, bX1_addSorted_0, bX1_addSorted_44, bX1_addSorted_41, a_ai, a_ald, a_dup, a_gi, a_gr, a_iadd, a_icge, a_ild, a_pi, a_push, a_vret, a_wi, fx_45_17 hx, fx_45_18 hx, fx_45_19 hx, sh_45, sh_55, sh_56, sh_57, pu_rv, pu_as, Value.category, pu_bk, pu_kl, List.replicate, pu_wi_1, pu_wi_2, nl_add, nl_ladd, nl_aa, nl_mul, nl_rmul, nl_mm, pu_qe0, pu_qe1, h7, c, h55]
    all_goals try simp (maxSteps := 400000) (disch := omega) [nl_tle, nl_fle, nl_tlt, nl_flt, nl_teq, nl_feq, nl_sub, nl_ss, nl_lt, nl_llt, nl_ltt, nl_le, nl_lle, nl_lee, nl_eq, nl_leq, nl_ee, nl_div, nl_rem, nl_cl, nl_n1, nl_n2, nl_n3, nl_n4, nl_add, nl_ladd, nl_aa, nl_mul, nl_rmul, nl_mm, pu_wi_1, pu_wi_2, bX1_addSorted_0, bX1_addSorted_44, bX1_addSorted_41, a_ai, a_ald, a_dup, a_gi, a_gr, a_iadd, a_icge, a_ild, a_pi, a_push, a_vret, a_wi, fx_45_17 hx, fx_45_18 hx, fx_45_19 hx, sh_45, sh_55, sh_56, sh_57, pu_rv, pu_as, Value.category, pu_bk, pu_kl, pu_qe0, pu_qe1, h7, c, h55]
    all_goals try simp [bX1_addSorted_0, bX1_addSorted_44, bX1_addSorted_41, a_ai, a_ald, a_dup, a_gi, a_gr, a_iadd, a_icge, a_ild, a_pi, a_push, a_vret, a_wi, fx_45_17 hx, fx_45_18 hx, fx_45_19 hx, sh_45, sh_55, sh_56, sh_57, pu_rv, pu_as, Value.category, pu_bk, pu_kl, List.replicate, pu_wi_1, pu_wi_2, nl_add, nl_ladd, nl_aa, nl_mul, nl_rmul, nl_mm, pu_qe0, pu_qe1, h7, c, h55]
    all_goals try simp (maxSteps := 400000) (disch := omega) [nl_tle, nl_fle, nl_tlt, nl_flt, nl_teq, nl_feq, nl_sub, nl_ss, nl_lt, nl_llt, nl_ltt, nl_le, nl_lle, nl_lee, nl_eq, nl_leq, nl_ee, nl_div, nl_rem, nl_cl, nl_n1, nl_n2, nl_n3, nl_n4, nl_add, nl_ladd, nl_aa, nl_mul, nl_rmul, nl_mm, pu_wi_1, pu_wi_2, bX1_addSorted_0, bX1_addSorted_44, bX1_addSorted_41, a_ai, a_ald, a_dup, a_gi, a_gr, a_iadd, a_icge, a_ild, a_pi, a_push, a_vret, a_wi, fx_45_17 hx, fx_45_18 hx, fx_45_19 hx, sh_45, sh_55, sh_56, sh_57, pu_rv, pu_as, Value.category, pu_bk, pu_kl, pu_qe0, pu_qe1, h7, c, h55]
theorem c_sl_l (hw : pu_WF I L) (i : Nat) (hi : i < cW I) : ∀ (m k : Nat) (q : pz_Q) (M : pu_M), k + m = cE I → pu_fx M → M.1 45 6 = nI (cE I) → (∀ j, M.1 55 j = I 55 j) → pz_cs M I q → pz_qw I i k q → ∃ N, pz_57 M N ∧ pz_cs N I (pz_qi I (I 54 i) m k q) ∧ pz_qw I i (cE I) (pz_qi I (I 54 i) m k q) ∧ pu_r 421 [some (.ref 45), some (.int (I 54 i)), some (.int (nI k))] [] M = some (none, N)
  | 0, k, q, M, h, hx, h6, h55, hc, hq => by
    have hE := wx_bE hw
    have z : nI (cE I) ≤ nI k := nI_le (by omega) (by omega)
    have e : k = cE I := by omega
    subst e
    refine ⟨M, ⟨rfl, fun _ _ _ _ _ => rfl⟩, hc, hq, ?_⟩
    rw [qX1_sortLettersOf_2]
    simp [bX1_sortLettersOf_2, bX1_sortLettersOf_31, bX1_sortLettersOf_25, a_ai, a_ald, a_cv, a_gi, a_gr, a_icge, a_icne, a_ild, a_inc, a_vret, fx_45_17 hx, sh_45, sh_55, pu_rv, pu_as, Value.category, pu_bk, pu_kl, List.replicate, pu_wi_1, pu_wi_2, nl_add, nl_ladd, nl_aa, nl_mul, nl_rmul, nl_mm, pu_qe0, pu_qe1, h6, z]
    all_goals try simp (maxSteps := 400000) (disch := omega) [nl_tle, nl_fle, nl_tlt, nl_flt, nl_teq, nl_feq, nl_sub, nl_ss, nl_lt, nl_llt, nl_ltt, nl_le, nl_lle, nl_lee, nl_eq, nl_leq, nl_ee, nl_div, nl_rem, nl_cl, nl_n1, nl_n2, nl_n3, nl_n4, nl_add, nl_ladd, nl_aa, nl_mul, nl_rmul, nl_mm, pu_wi_1, pu_wi_2, bX1_sortLettersOf_2, bX1_sortLettersOf_31, bX1_sortLettersOf_25, a_ai, a_ald, a_cv, a_gi, a_gr, a_icge, a_icne, a_ild, a_inc, a_vret, fx_45_17 hx, sh_45, sh_55, pu_rv, pu_as, Value.category, pu_bk, pu_kl, pu_qe0, pu_qe1, h6, z]
    all_goals try simp [bX1_sortLettersOf_2, bX1_sortLettersOf_31, bX1_sortLettersOf_25, a_ai, a_ald, a_cv, a_gi, a_gr, a_icge, a_icne, a_ild, a_inc, a_vret, fx_45_17 hx, sh_45, sh_55, pu_rv, pu_as, Value.category, pu_bk, pu_kl, List.replicate, pu_wi_1, pu_wi_2, nl_add, nl_ladd, nl_aa, nl_mul, nl_rmul, nl_mm, pu_qe0, pu_qe1, h6, z]
    all_goals try simp (maxSteps := 400000) (disch := omega) [nl_tle, nl_fle, nl_tlt, nl_flt, nl_teq, nl_feq, nl_sub, nl_ss, nl_lt, nl_llt, nl_ltt, nl_le, nl_lle, nl_lee, nl_eq, nl_leq, nl_ee, nl_div, nl_rem, nl_cl, nl_n1, nl_n2, nl_n3, nl_n4, nl_add, nl_ladd, nl_aa, nl_mul, nl_rmul, nl_mm, pu_wi_1, pu_wi_2, bX1_sortLettersOf_2, bX1_sortLettersOf_31, bX1_sortLettersOf_25, a_ai, a_ald, a_cv, a_gi, a_gr, a_icge, a_icne, a_ild, a_inc, a_vret, fx_45_17 hx, sh_45, sh_55, pu_rv, pu_as, Value.category, pu_bk, pu_kl, pu_qe0, pu_qe1, h6, z]
  | m + 1, k, q, M, h, hx, h6, h55, hc, hq => by
    have hE := wx_bE hw
    have z : ¬ nI (cE I) ≤ nI k := nI_ge (by omega) (by omega)
    obtain ⟨s1, s2⟩ := pz_qw_s hw hi (by omega) hq
    have h5 := h55 k
    by_cases e : I 55 k = I 54 i
    · rw [if_pos e] at s1
      have s3 := s2 e
      obtain ⟨N, n1, n2, n3⟩ := c_addSorted hx q k hc (by omega) (by omega) h5
      obtain ⟨O, o1, o2, o3, o4⟩ := c_sl_l hw i hi m (k + 1) (pz_qa k q) N (by omega) (pz_57_x n1 hx) (by rw [n1.2 _ _ (by omega) (by omega) (by omega)]; exact h6) (fun j => by rw [n1.2 _ _ (by omega) (by omega) (by omega)]; exact h55 j) n2 s1
      refine ⟨O, pz_57_t n1 o1, ?_, ?_, ?_⟩
      · rw [pz_qi, if_pos e]
        exact o2
      · rw [pz_qi, if_pos e]
        exact o3
      · rw [qX1_sortLettersOf_2]
        simp [bX1_sortLettersOf_2, bX1_sortLettersOf_31, bX1_sortLettersOf_25, a_ai, a_ald, a_cv, a_gi, a_gr, a_icge, a_icne, a_ild, a_inc, a_vret, fx_45_17 hx, sh_45, sh_55, pu_rv, pu_as, Value.category, pu_bk, pu_kl, List.replicate, pu_wi_1, pu_wi_2, nl_add, nl_ladd, nl_aa, nl_mul, nl_rmul, nl_mm, pu_qe0, pu_qe1, h6, z, h5, e, n3, o4]
        all_goals try simp (maxSteps := 400000) (disch := omega) [nl_tle, nl_fle, nl_tlt, nl_flt, nl_teq, nl_feq, nl_sub, nl_ss, nl_lt, nl_llt, nl_ltt, nl_le, nl_lle, nl_lee, nl_eq, nl_leq, nl_ee, nl_div, nl_rem, nl_cl, nl_n1, nl_n2, nl_n3, nl_n4, nl_add, nl_ladd, nl_aa, nl_mul, nl_rmul, nl_mm, pu_wi_1, pu_wi_2, bX1_sortLettersOf_2, bX1_sortLettersOf_31, bX1_sortLettersOf_25, a_ai, a_ald, a_cv, a_gi, a_gr, a_icge, a_icne, a_ild, a_inc, a_vret, fx_45_17 hx, sh_45, sh_55, pu_rv, pu_as, Value.category, pu_bk, pu_kl, pu_qe0, pu_qe1, h6, z, h5, e, n3, o4]
        all_goals try simp [bX1_sortLettersOf_2, bX1_sortLettersOf_31, bX1_sortLettersOf_25, a_ai, a_ald, a_cv, a_gi, a_gr, a_icge, a_icne, a_ild, a_inc, a_vret, fx_45_17 hx, sh_45, sh_55, pu_rv, pu_as, Value.category, pu_bk, pu_kl, List.replicate, pu_wi_1, pu_wi_2, nl_add, nl_ladd, nl_aa, nl_mul, nl_rmul, nl_mm, pu_qe0, pu_qe1, h6, z, h5, e, n3, o4]
        all_goals try simp (maxSteps := 400000) (disch := omega) [nl_tle, nl_fle, nl_tlt, nl_flt, nl_teq, nl_feq, nl_sub, nl_ss, nl_lt, nl_llt, nl_ltt, nl_le, nl_lle, nl_lee, nl_eq, nl_leq, nl_ee, nl_div, nl_rem, nl_cl, nl_n1, nl_n2, nl_n3, nl_n4, nl_add, nl_ladd, nl_aa, nl_mul, nl_rmul, nl_mm, pu_wi_1, pu_wi_2, bX1_sortLettersOf_2, bX1_sortLettersOf_31, bX1_sortLettersOf_25, a_ai, a_ald, a_cv, a_gi, a_gr, a_icge, a_icne, a_ild, a_inc, a_vret, fx_45_17 hx, sh_45, sh_55, pu_rv, pu_as, Value.category, pu_bk, pu_kl, pu_qe0, pu_qe1, h6, z, h5, e, n3, o4]
    · rw [if_neg e] at s1
      obtain ⟨O, o1, o2, o3, o4⟩ := c_sl_l hw i hi m (k + 1) q M (by omega) hx h6 h55 hc s1
      refine ⟨O, o1, ?_, ?_, ?_⟩
      · rw [pz_qi, if_neg e]
        exact o2
      · rw [pz_qi, if_neg e]
        exact o3
      · rw [qX1_sortLettersOf_2]
        simp [bX1_sortLettersOf_2, bX1_sortLettersOf_31, bX1_sortLettersOf_25, a_ai, a_ald, a_cv, a_gi, a_gr, a_icge, a_icne, a_ild, a_inc, a_vret, fx_45_17 hx, sh_45, sh_55, pu_rv, pu_as, Value.category, pu_bk, pu_kl, List.replicate, pu_wi_1, pu_wi_2, nl_add, nl_ladd, nl_aa, nl_mul, nl_rmul, nl_mm, pu_qe0, pu_qe1, h6, z, h5, e, o4]
        all_goals try simp (maxSteps := 400000) (disch := omega) [nl_tle, nl_fle, nl_tlt, nl_flt, nl_teq, nl_feq, nl_sub, nl_ss, nl_lt, nl_llt, nl_ltt, nl_le, nl_lle, nl_lee, nl_eq, nl_leq, nl_ee, nl_div, nl_rem, nl_cl, nl_n1, nl_n2, nl_n3, nl_n4, nl_add, nl_ladd, nl_aa, nl_mul, nl_rmul, nl_mm, pu_wi_1, pu_wi_2, bX1_sortLettersOf_2, bX1_sortLettersOf_31, bX1_sortLettersOf_25, a_ai, a_ald, a_cv, a_gi, a_gr, a_icge, a_icne, a_ild, a_inc, a_vret, fx_45_17 hx, sh_45, sh_55, pu_rv, pu_as, Value.category, pu_bk, pu_kl, pu_qe0, pu_qe1, h6, z, h5, e, o4]
        all_goals try simp [bX1_sortLettersOf_2, bX1_sortLettersOf_31, bX1_sortLettersOf_25, a_ai, a_ald, a_cv, a_gi, a_gr, a_icge, a_icne, a_ild, a_inc, a_vret, fx_45_17 hx, sh_45, sh_55, pu_rv, pu_as, Value.category, pu_bk, pu_kl, List.replicate, pu_wi_1, pu_wi_2, nl_add, nl_ladd, nl_aa, nl_mul, nl_rmul, nl_mm, pu_qe0, pu_qe1, h6, z, h5, e, o4]
        all_goals try simp (maxSteps := 400000) (disch := omega) [nl_tle, nl_fle, nl_tlt, nl_flt, nl_teq, nl_feq, nl_sub, nl_ss, nl_lt, nl_llt, nl_ltt, nl_le, nl_lle, nl_lee, nl_eq, nl_leq, nl_ee, nl_div, nl_rem, nl_cl, nl_n1, nl_n2, nl_n3, nl_n4, nl_add, nl_ladd, nl_aa, nl_mul, nl_rmul, nl_mm, pu_wi_1, pu_wi_2, bX1_sortLettersOf_2, bX1_sortLettersOf_31, bX1_sortLettersOf_25, a_ai, a_ald, a_cv, a_gi, a_gr, a_icge, a_icne, a_ild, a_inc, a_vret, fx_45_17 hx, sh_45, sh_55, pu_rv, pu_as, Value.category, pu_bk, pu_kl, pu_qe0, pu_qe1, h6, z, h5, e, o4]
theorem pz_qw_n {i : Nat} {q : pz_Q} (h : pz_qw I i (cE I) q) : pz_qw I (i + 1) 0 q := by
  refine ⟨fun a ha => ⟨(h.1 a ha).1, Or.inl ?_⟩, h.2.1, fun c hc hs => h.2.2 c hc ?_⟩
  · rcases (h.1 a ha).2 with ⟨l, l1, l2⟩ | ⟨l1, _⟩
    · exact ⟨l, by omega, l2⟩
    · exact ⟨i, by omega, l1⟩
  · rcases hs with ⟨l, l1, l2⟩ | ⟨_, z⟩
    · by_cases e : l = i
      · rw [e] at l2
        exact Or.inr ⟨l2, hc⟩
      · exact Or.inl ⟨l, by omega, l2⟩
    · omega
theorem c_so_l (hw : pu_WF I L) : ∀ (m i : Nat) (q : pz_Q) (M : pu_M), i + m = cW I → pu_fx M → M.1 45 5 = nI (cW I) → M.1 45 6 = nI (cE I) → (∀ j, M.1 55 j = I 55 j) → (∀ j, M.1 54 j = I 54 j) → pz_cs M I q → pz_qw I i 0 q → ∃ N, pz_57 M N ∧ pz_cs N I (pz_qo I m i q) ∧ pz_qw I (cW I) 0 (pz_qo I m i q) ∧ pu_r 422 [some (.ref 45), some (.int (nI i))] [] M = pu_r 423 [some (.ref 45), some (.int (nI 0))] [] N
  | 0, i, q, M, h, hx, h5, h6, h55, h54, hc, hq => by
    have hW := wx_bW hw
    have z : nI (cW I) ≤ nI i := nI_le (by omega) (by omega)
    have e : i = cW I := by omega
    subst e
    refine ⟨M, ⟨rfl, fun _ _ _ _ _ => rfl⟩, hc, hq, ?_⟩
    rw [nI_0]
    rw [qX1_sortLetters_7]
    simp [bX1_sortLetters_7, bX1_sortLetters_31, a_ai, a_ald, a_cv, a_gi, a_gr, a_icge, a_ild, a_inc, a_ist, a_push, fx_45_16 hx, sh_45, sh_54, pu_rv, pu_as, Value.category, pu_bk, pu_kl, List.replicate, pu_wi_1, pu_wi_2, nl_add, nl_ladd, nl_aa, nl_mul, nl_rmul, nl_mm, pu_qe0, pu_qe1, h5, z]
    all_goals try simp (maxSteps := 400000) (disch := omega) [nl_tle, nl_fle, nl_tlt, nl_flt, nl_teq, nl_feq, nl_sub, nl_ss, nl_lt, nl_llt, nl_ltt, nl_le, nl_lle, nl_lee, nl_eq, nl_leq, nl_ee, nl_div, nl_rem, nl_cl, nl_n1, nl_n2, nl_n3, nl_n4, nl_add, nl_ladd, nl_aa, nl_mul, nl_rmul, nl_mm, pu_wi_1, pu_wi_2, bX1_sortLetters_7, bX1_sortLetters_31, a_ai, a_ald, a_cv, a_gi, a_gr, a_icge, a_ild, a_inc, a_ist, a_push, fx_45_16 hx, sh_45, sh_54, pu_rv, pu_as, Value.category, pu_bk, pu_kl, pu_qe0, pu_qe1, h5, z]
    all_goals try simp [bX1_sortLetters_7, bX1_sortLetters_31, a_ai, a_ald, a_cv, a_gi, a_gr, a_icge, a_ild, a_inc, a_ist, a_push, fx_45_16 hx, sh_45, sh_54, pu_rv, pu_as, Value.category, pu_bk, pu_kl, List.replicate, pu_wi_1, pu_wi_2, nl_add, nl_ladd, nl_aa, nl_mul, nl_rmul, nl_mm, pu_qe0, pu_qe1, h5, z]
    all_goals try simp (maxSteps := 400000) (disch := omega) [nl_tle, nl_fle, nl_tlt, nl_flt, nl_teq, nl_feq, nl_sub, nl_ss, nl_lt, nl_llt, nl_ltt, nl_le, nl_lle, nl_lee, nl_eq, nl_leq, nl_ee, nl_div, nl_rem, nl_cl, nl_n1, nl_n2, nl_n3, nl_n4, nl_add, nl_ladd, nl_aa, nl_mul, nl_rmul, nl_mm, pu_wi_1, pu_wi_2, bX1_sortLetters_7, bX1_sortLetters_31, a_ai, a_ald, a_cv, a_gi, a_gr, a_icge, a_ild, a_inc, a_ist, a_push, fx_45_16 hx, sh_45, sh_54, pu_rv, pu_as, Value.category, pu_bk, pu_kl, pu_qe0, pu_qe1, h5, z]
  | m + 1, i, q, M, h, hx, h5, h6, h55, h54, hc, hq => by
    have hW := wx_bW hw
    have z : ¬ nI (cW I) ≤ nI i := nI_ge (by omega) (by omega)
    have h4 := h54 i
    obtain ⟨N, n1, n2, n3, n4⟩ := c_sl_l hw i (by omega) (cE I) 0 q M (by omega) hx h6 h55 hc hq
    rw [nI_0] at n4
    have n5 : pu_r 214 [some (.ref 45), some (.int (I 54 i))] [] M = some (none, N) := by
      rw [qX1_sortLettersOf]
      simp [a_ent, bX1_sortLettersOf_0, a_ist, a_push, pu_rv, pu_as, Value.category, pu_bk, pu_kl, List.replicate, pu_wi_1, pu_wi_2, nl_add, nl_ladd, nl_aa, nl_mul, nl_rmul, nl_mm, pu_qe0, pu_qe1, n4]
      all_goals try simp (maxSteps := 400000) (disch := omega) [nl_tle, nl_fle, nl_tlt, nl_flt, nl_teq, nl_feq, nl_sub, nl_ss, nl_lt, nl_llt, nl_ltt, nl_le, nl_lle, nl_lee, nl_eq, nl_leq, nl_ee, nl_div, nl_rem, nl_cl, nl_n1, nl_n2, nl_n3, nl_n4, nl_add, nl_ladd, nl_aa, nl_mul, nl_rmul, nl_mm, pu_wi_1, pu_wi_2, bX1_sortLettersOf_0, a_ist, a_push, pu_rv, pu_as, Value.category, pu_bk, pu_kl, pu_qe0, pu_qe1, n4]
      all_goals try simp [bX1_sortLettersOf_0, a_ist, a_push, pu_rv, pu_as, Value.category, pu_bk, pu_kl, List.replicate, pu_wi_1, pu_wi_2, nl_add, nl_ladd, nl_aa, nl_mul, nl_rmul, nl_mm, pu_qe0, pu_qe1, n4]
      all_goals try simp (maxSteps := 400000) (disch := omega) [nl_tle, nl_fle, nl_tlt, nl_flt, nl_teq, nl_feq, nl_sub, nl_ss, nl_lt, nl_llt, nl_ltt, nl_le, nl_lle, nl_lee, nl_eq, nl_leq, nl_ee, nl_div, nl_rem, nl_cl, nl_n1, nl_n2, nl_n3, nl_n4, nl_add, nl_ladd, nl_aa, nl_mul, nl_rmul, nl_mm, pu_wi_1, pu_wi_2, bX1_sortLettersOf_0, a_ist, a_push, pu_rv, pu_as, Value.category, pu_bk, pu_kl, pu_qe0, pu_qe1, n4]
    obtain ⟨O, o1, o2, o3, o4⟩ := c_so_l hw m (i + 1) (pz_qi I (I 54 i) (cE I) 0 q) N (by omega) (pz_57_x n1 hx) (by rw [n1.2 _ _ (by omega) (by omega) (by omega)]; exact h5) (by rw [n1.2 _ _ (by omega) (by omega) (by omega)]; exact h6) (fun j => by rw [n1.2 _ _ (by omega) (by omega) (by omega)]; exact h55 j) (fun j => by rw [n1.2 _ _ (by omega) (by omega) (by omega)]; exact h54 j) n2 (pz_qw_n n3)
    refine ⟨O, pz_57_t n1 o1, o2, o3, ?_⟩
    rw [← o4]
    rw [qX1_sortLetters_7]
    simp [bX1_sortLetters_7, bX1_sortLetters_31, a_ai, a_ald, a_cv, a_gi, a_gr, a_icge, a_ild, a_inc, a_ist, a_push, fx_45_16 hx, sh_45, sh_54, pu_rv, pu_as, Value.category, pu_bk, pu_kl, List.replicate, pu_wi_1, pu_wi_2, nl_add, nl_ladd, nl_aa, nl_mul, nl_rmul, nl_mm, pu_qe0, pu_qe1, h5, z, h4, n5]
    all_goals try simp (maxSteps := 400000) (disch := omega) [nl_tle, nl_fle, nl_tlt, nl_flt, nl_teq, nl_feq, nl_sub, nl_ss, nl_lt, nl_llt, nl_ltt, nl_le, nl_lle, nl_lee, nl_eq, nl_leq, nl_ee, nl_div, nl_rem, nl_cl, nl_n1, nl_n2, nl_n3, nl_n4, nl_add, nl_ladd, nl_aa, nl_mul, nl_rmul, nl_mm, pu_wi_1, pu_wi_2, bX1_sortLetters_7, bX1_sortLetters_31, a_ai, a_ald, a_cv, a_gi, a_gr, a_icge, a_ild, a_inc, a_ist, a_push, fx_45_16 hx, sh_45, sh_54, pu_rv, pu_as, Value.category, pu_bk, pu_kl, pu_qe0, pu_qe1, h5, z, h4, n5]
    all_goals try simp [bX1_sortLetters_7, bX1_sortLetters_31, a_ai, a_ald, a_cv, a_gi, a_gr, a_icge, a_ild, a_inc, a_ist, a_push, fx_45_16 hx, sh_45, sh_54, pu_rv, pu_as, Value.category, pu_bk, pu_kl, List.replicate, pu_wi_1, pu_wi_2, nl_add, nl_ladd, nl_aa, nl_mul, nl_rmul, nl_mm, pu_qe0, pu_qe1, h5, z, h4, n5]
    all_goals try simp (maxSteps := 400000) (disch := omega) [nl_tle, nl_fle, nl_tlt, nl_flt, nl_teq, nl_feq, nl_sub, nl_ss, nl_lt, nl_llt, nl_ltt, nl_le, nl_lle, nl_lee, nl_eq, nl_leq, nl_ee, nl_div, nl_rem, nl_cl, nl_n1, nl_n2, nl_n3, nl_n4, nl_add, nl_ladd, nl_aa, nl_mul, nl_rmul, nl_mm, pu_wi_1, pu_wi_2, bX1_sortLetters_7, bX1_sortLetters_31, a_ai, a_ald, a_cv, a_gi, a_gr, a_icge, a_ild, a_inc, a_ist, a_push, fx_45_16 hx, sh_45, sh_54, pu_rv, pu_as, Value.category, pu_bk, pu_kl, pu_qe0, pu_qe1, h5, z, h4, n5]
end
