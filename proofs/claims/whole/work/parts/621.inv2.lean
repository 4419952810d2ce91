/-! the invariant, and how it is kept -/
def pu_Inv (M : pu_M) : Prop := pu_fx M ∧ pu_tp M ∧ pu_ou M ∧ pu_St (pu_si M 5) (pu_sj M 5) (M.1 72) ∧ pu_im pu_St M
theorem pu_ag5 (M : pu_M) : pu_ag M (pu_si M 5) := by
  intro a j h1 h2
  unfold pu_si
  rw [if_pos ⟨h1, h2⟩, show a - 5 + 5 = a by omega]
theorem pu_al5 (M : pu_M) : pu_al M (pu_sj M 5) := by
  intro a j h1 h2
  unfold pu_sj
  rw [if_pos ⟨h1, h2⟩, show a - 5 + 5 = a by omega]
theorem pu_si_eq {M N : pu_M} (h : ∀ a j, 5 ≤ a → a < 58 → N.1 a j = M.1 a j) : pu_si N 5 = pu_si M 5 := by
  funext a j
  unfold pu_si
  split
  · rename_i q
    exact h _ _ (by omega) (by omega)
  · rfl
theorem pu_sj_eq {M N : pu_M} (h : ∀ a j, 5 ≤ a → a < 58 → N.2.1 a j = M.2.1 a j) : pu_sj N 5 = pu_sj M 5 := by
  funext a j
  unfold pu_sj
  split
  · rename_i q
    exact h _ _ (by omega) (by omega)
  · rfl
theorem pu_im_fr2 {St : (Nat → Nat → Int32) → (Nat → Nat → Int64) → (Nat → Int32) → Prop} {M N : pu_M} (h : pu_im St M) (e1 : N.2.2.2 = M.2.2.2) (e2 : ∀ a j, a = 58 ∨ 86 ≤ a → N.2.2.1 a j = M.2.2.1 a j) (h2 : ∀ a j, 86 ≤ a → N.1 a j = M.1 a j) (h3 : ∀ a j, 86 ≤ a → N.2.1 a j = M.2.1 a j) (h4 : ∀ j, N.1 74 j = M.1 74 j) (h5 : ∀ j, N.1 73 j = M.1 73 j) : pu_im St N := by
  refine ⟨by rw [e1]; exact h.1, fun k hk => ?_, fun k l b hk hl => ?_, ?_⟩
  · rcases h.2.1 k hk with q | ⟨i, q1, q2, q3, q4, q5, q6⟩
    · exact Or.inl ⟨by rw [e2 _ _ (Or.inl rfl)]; exact q.1, by rw [h4]; exact q.2⟩
    · refine Or.inr ⟨i, q1, by rw [e2 _ _ (Or.inl rfl)]; exact q2, by rw [h4]; exact q3, by rw [e1]; exact q4, fun a j r b1 b2 b3 => by rw [e2 _ _ (Or.inr (by omega))]; exact q5 a j r b1 b2 b3, ?_⟩
      have f1 : pu_si N (86 + 53 * i) = pu_si M (86 + 53 * i) := by
        funext a j
        unfold pu_si
        split
        · exact h2 _ _ (by omega)
        · rfl
      have f2 : pu_sj N (86 + 53 * i) = pu_sj M (86 + 53 * i) := by
        funext a j
        unfold pu_sj
        split
        · exact h3 _ _ (by omega)
        · rfl
      have f3 : (fun q => N.1 73 (70000 * k + q)) = (fun q => M.1 73 (70000 * k + q)) := by
        funext q
        exact h5 _
      rw [f1, f2, f3]
      exact q6
  · rw [e2 _ _ (Or.inl rfl), e2 _ _ (Or.inl rfl)]
    exact h.2.2.1 k l b hk hl
  · obtain ⟨f, f1, f2⟩ := h.2.2.2
    exact ⟨f, by rw [e1]; exact f1, fun k hk => by rw [e2 _ _ (Or.inl rfl)]; exact f2 k hk⟩
theorem pu_Inv_of {M N : pu_M} (h : pu_Inv M) (hfx : pu_fx N) (e1 : N.2.2.2 = M.2.2.2) (e2 : ∀ a j, a = 58 ∨ 86 ≤ a → N.2.2.1 a j = M.2.2.1 a j) (h2 : ∀ a j, 86 ≤ a → N.1 a j = M.1 a j) (h3 : ∀ a j, 86 ≤ a → N.2.1 a j = M.2.1 a j) (h4 : ∀ j, N.1 74 j = M.1 74 j) (h5 : ∀ j, N.1 73 j = M.1 73 j) (ht : pu_tp N) (hu : pu_ou N) (hS : pu_St (pu_si N 5) (pu_sj N 5) (N.1 72)) : pu_Inv N :=
  ⟨hfx, ht, hu, hS, pu_im_fr2 h.2.2.2.2 e1 e2 h2 h3 h4 h5⟩
/-- nothing of the office has changed -/
theorem pu_Inv_sc {M N : pu_M} (h : pu_Inv M) (hfx : pu_fx N) (e1 : N.2.2.2 = M.2.2.2) (e2 : ∀ a j, a = 58 ∨ 86 ≤ a → N.2.2.1 a j = M.2.2.1 a j) (h2 : ∀ a j, (5 ≤ a ∧ a < 58) ∨ 86 ≤ a ∨ a = 72 ∨ a = 73 ∨ a = 74 → N.1 a j = M.1 a j) (h3 : ∀ a j, a < 58 ∨ 86 ≤ a → N.2.1 a j = M.2.1 a j) (ht : pu_tp N) (hu : pu_ou N) : pu_Inv N := by
  refine pu_Inv_of h hfx e1 e2 (fun a j q => h2 a j (Or.inr (Or.inl q))) (fun a j q => h3 a j (Or.inr q)) (fun j => h2 _ j (by simp)) (fun j => h2 _ j (by simp)) ht hu ?_
  rw [pu_si_eq (fun a j a1 a2 => h2 a j (Or.inl ⟨a1, a2⟩)), pu_sj_eq (fun a j a1 a2 => h3 a j (Or.inl a2)), show N.1 72 = M.1 72 from funext (fun j => h2 72 j (by simp))]
  exact h.2.2.2.1
theorem op_end (n : Int32) : pu_op pu_Inv 15 230 [.int n] := by
  intro M h
  obtain ⟨t, t1, t2, t3, t4⟩ := h.2.1
  have hx := h.1
  by_cases c1 : n < 0
  · refine ⟨0, M, M, ?_, ?_, h⟩
    · rw [qX11_end]
      simp [a_ent, bX11_end_0, bX11_end_15, bX11_end_17, a_ald, a_gi, a_gr, a_icle, a_iflt, a_ild, a_pi, a_push, a_zret, fx_0_0 hx, sh_0, sh_1, sh_3, pu_rv, pu_as, Value.category, pu_bk, pu_kl, List.replicate, pu_wi_1, pu_wi_2, nl_add, nl_ladd, nl_aa, nl_mul, nl_rmul, nl_mm, pu_qe0, pu_qe1, c1]
      all_goals try simp (maxSteps := 400000) (disch := omega) [nl_tle, nl_fle, nl_tlt, nl_flt, nl_teq, nl_feq, nl_sub, nl_ss, nl_lt, nl_llt, nl_ltt, nl_le, nl_lle, nl_lee, nl_eq, nl_leq, nl_ee, nl_div, nl_rem, nl_cl, nl_n1, nl_n2, nl_n3, nl_n4, nl_add, nl_ladd, nl_aa, nl_mul, nl_rmul, nl_mm, pu_wi_1, pu_wi_2, c1]
    · rw [show pu_as (.ref 71 :: [.int n]) = [some (.ref 71), some (.int n)] from rfl, e_X12_end]
      simp [c1]
  · by_cases c2 : nI t < n
    · have c3 : ¬ n ≤ nI t := Int32.not_le.mpr c2
      refine ⟨0, M, M, ?_, ?_, h⟩
      · rw [qX11_end]
        simp [a_ent, bX11_end_0, bX11_end_15, bX11_end_17, a_ald, a_gi, a_gr, a_icle, a_iflt, a_ild, a_pi, a_push, a_zret, fx_0_0 hx, sh_0, sh_1, sh_3, pu_rv, pu_as, Value.category, pu_bk, pu_kl, List.replicate, pu_wi_1, pu_wi_2, nl_add, nl_ladd, nl_aa, nl_mul, nl_rmul, nl_mm, pu_qe0, pu_qe1, c1, c3, t2]
        all_goals try simp (maxSteps := 400000) (disch := omega) [nl_tle, nl_fle, nl_tlt, nl_flt, nl_teq, nl_feq, nl_sub, nl_ss, nl_lt, nl_llt, nl_ltt, nl_le, nl_lle, nl_lee, nl_eq, nl_leq, nl_ee, nl_div, nl_rem, nl_cl, nl_n1, nl_n2, nl_n3, nl_n4, nl_add, nl_ladd, nl_aa, nl_mul, nl_rmul, nl_mm, pu_wi_1, pu_wi_2, c1, c3, t2]
      · rw [show pu_as (.ref 71 :: [.int n]) = [some (.ref 71), some (.int n)] from rfl, e_X12_end]
        simp [c1, c3, t3]
    · have c3 : n ≤ nI t := Int32.not_lt.mp c2
      obtain ⟨j, hj, rfl⟩ := nI_of2 (x := n) (M := nI t) (n := t) (nI_toInt (by omega)) c1 c3
      refine ⟨1, pu_wi M 1 0 (nI j), pu_wi (pu_wi M 1 0 (nI j)) 71 4 (nI j), ?_, ?_, ?_⟩
      · rw [qX11_end]
        simp [a_ent, bX11_end_0, bX11_end_15, bX11_end_17, a_ald, a_gi, a_gr, a_icle, a_iflt, a_ild, a_pi, a_push, a_zret, fx_0_0 hx, sh_0, sh_1, sh_3, pu_rv, pu_as, Value.category, pu_bk, pu_kl, List.replicate, pu_wi_1, pu_wi_2, nl_add, nl_ladd, nl_aa, nl_mul, nl_rmul, nl_mm, pu_qe0, pu_qe1, c1, c3, t2]
        all_goals try simp (maxSteps := 400000) (disch := omega) [nl_tle, nl_fle, nl_tlt, nl_flt, nl_teq, nl_feq, nl_sub, nl_ss, nl_lt, nl_llt, nl_ltt, nl_le, nl_lle, nl_lee, nl_eq, nl_leq, nl_ee, nl_div, nl_rem, nl_cl, nl_n1, nl_n2, nl_n3, nl_n4, nl_add, nl_ladd, nl_aa, nl_mul, nl_rmul, nl_mm, pu_wi_1, pu_wi_2, c1, c3, t2]
      · rw [show pu_as (.ref 71 :: [.int (nI j)]) = [some (.ref 71), some (.int (nI j))] from rfl, e_X12_end]
        simp [c1, c3, t3, pu_wi_1]
      · refine pu_Inv_sc h hx rfl (fun a j _ => rfl) (fun a j q => ?_) (fun a j _ => rfl) ⟨j, by omega, ?_, ?_, fun i hi => ?_⟩ (pu_ou_fr h.2.2.1 ?_ ?_ (fun j => ?_) (fun j => ?_))
        · simp only [pu_wi_1]
          grind
        · simp [pu_wi_1]
        · simp [pu_wi_1]
        · simp only [pu_wi_1]
          simp
          exact t4 i (by omega)
        · simp [pu_wi_1]
        · simp [pu_wi_1]
        · simp [pu_wi_1]
        · simp [pu_wi_1]
theorem op_take : pu_op pu_Inv 17 231 [] := by
  intro M h
  obtain ⟨w, w1, w2, w3, w4⟩ := h.2.2.1
  have hx := h.1
  refine ⟨nI w, _, _, e_X11_take hx w2 w1, e_X12_take (M := pu_wi (pu_ci M 4 0 2 0 w) 1 0 (nI w)) hx (w := w) (by simpa [pu_wi_1, pu_ci_1] using w3) w1, ?_⟩
  refine pu_Inv_sc h hx rfl (fun a j _ => rfl) (fun a j q => ?_) (fun a j _ => rfl) ⟨w, w1, ?_, ?_, fun i hi => ?_⟩ (pu_ou_fr h.2.2.1 ?_ ?_ (fun j => ?_) (fun j => ?_))
  · simp only [pu_cb_1, pu_wi_1, pu_ci_1]
    grind
  · simp [pu_wi_1, pu_cb_1, pu_ci_1]
  · simp [pu_wi_1, pu_cb_1, pu_ci_1]
  · simp [pu_wi_1, pu_cb_1, pu_ci_1, hi, pu_by255, w4]
  · simp [pu_wi_1, pu_cb_1, pu_ci_1]
  · simp [pu_wi_1, pu_cb_1, pu_ci_1]
  · simp [pu_wi_1, pu_cb_1, pu_ci_1]
  · simp [pu_wi_1, pu_cb_1, pu_ci_1]
theorem op_out (i : Int32) : pu_op pu_Inv 226 232 [.int i] := by
  intro M h
  obtain ⟨w, w1, w2, w3, w4⟩ := h.2.2.1
  have hx := h.1
  refine ⟨_, M, M, e_X11_out hx w2 w1 i, ?_, h⟩
  refine (e_X12_out hx w3 w1 i).trans ?_
  rcases pk_ix i (n := w) (by omega) with q | q | ⟨j, hj, rfl⟩
  · simp [q]
  · have h0 : ¬ i < 0 := fun z => absurd (Int32.lt_of_le_of_lt q z) (nI_pos (by omega))
    simp [q, h0]
  · have e : (nI j).toNatClampNeg = j := nI_clamp (by omega)
    rw [e, w4 j hj]
