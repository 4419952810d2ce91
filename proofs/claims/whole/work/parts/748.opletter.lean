/-! an address read, both sides -/
theorem py_wo_b {b : Nat → Nat} {t : Nat} (h : py_sw b t 3 0 ≠ none) : 16 ≤ py_wo b t ∧ py_wo b t < 160000 := by
  have sb := py_sq_b b t 3 0 (Nat.zero_le t)
  have db := py_d1_b b t 3 (py_sq b t 3 0) (by omega)
  have d0 := db.2.2.2.mpr (sb.2.2 h)
  have lb := py_nl2_b b t (py_d1 b t 3 (py_sq b t 3 0)).2 (by omega)
  have d1 := db.1
  unfold py_wo
  omega
theorem py_adr {M : pu_M} (h : pu_Inv M) : ∃ (ok : Prop) (fl : Int32) (nm tw : Nat → Int64) (w x k : Nat) (N : pu_M), py_cA M N fl ∧ (ok → (16 ≤ w ∧ w < 160000 ∧ x < 5 ∧ k < 100) ∧ N.1 59 2 = nI w ∧ N.1 59 3 = (if x = 0 then -1 else nI x) ∧ N.1 59 4 = nI k ∧ (∀ j, j < 3 → N.2.1 60 j = nm j) ∧ (∀ j, j < 3 → N.2.1 61 j = tw j)) ∧ pu_r 171 [some (.ref 0)] [] M = some (some (.int (pu_q ok)), N) ∧ ∀ Q : pu_M, pu_fx Q → Q.1 72 = M.1 72 → Q.1 71 4 = M.1 71 4 → (∀ j, Q.1 75 j = M.1 75 j) → ∃ R, py_cB Q R fl ∧ (ok → R.1 71 17 = nI w ∧ R.1 71 18 = nI x ∧ R.1 71 19 = nI k ∧ (∀ j, j < 3 → pu_Wd (R.1 78) (12 * j) (nm j)) ∧ (∀ j, j < 3 → pu_Wd (R.1 82) (12 * j) (tw j))) ∧ pu_r 314 [some (.ref 71)] [] Q = some (some (.int (pu_q ok)), R) := by
  obtain ⟨t, t1, t2, t3, t4⟩ := h.2.1
  obtain ⟨N, n1, n2, n3⟩ := c_readAddress h t1 t2 t4
  have S0 : pu_St (pu_si M 5) (pu_sj M 5) (M.1 72) := h.2.2.2.1
  have RF : ∀ Q : pu_M, pu_fx Q → Q.1 72 = M.1 72 → Q.1 71 4 = M.1 71 4 → (∀ j, Q.1 75 j = M.1 75 j) → _ := fun Q q1 q2 q3 q4 => r_readsAddress (I := pu_si M 5) (L := pu_sj M 5) (b := py_by M) (t := t) q1 (by rw [q2]; exact S0) t1 (by rw [q3]; exact t3) (fun j hj => by rw [q4]; exact py_by_b M j)
  by_cases ok : py_ok (py_by M) t
  · obtain ⟨l1, hl1⟩ : ∃ l, py_sw (py_by M) t 3 0 = some l := by
      cases hl : py_sw (py_by M) t 3 0 with
      | none => exact absurd hl ok.1
      | some l => exact ⟨l, rfl⟩
    obtain ⟨l2, hl2⟩ : ∃ l, py_ns (py_by M) t 3 ((py_xx (py_by M) t).2.1 + 2) = some l := by
      cases hl : py_ns (py_by M) t 3 ((py_xx (py_by M) t).2.1 + 2) with
      | none => exact absurd hl ok.2.2.2.2
      | some l => exact ⟨l, rfl⟩
    have wb := py_wo_b ok.1
    have sb := py_sq_b (py_by M) t 3 0 (Nat.zero_le t)
    have db := py_d1_b (py_by M) t 3 (py_sq (py_by M) t 3 0) (by omega)
    have lb := py_nl2_b (py_by M) t (py_d1 (py_by M) t 3 (py_sq (py_by M) t 3 0)).2 (by omega)
    have xb := py_x_b (py_by M) t (py_p3 (py_by M) t) (by unfold py_p3; omega)
    obtain ⟨m2, m3, m4, m5, m6⟩ := n2 ok
    refine ⟨_, _, _, _, py_wo (py_by M) t, (py_xx (py_by M) t).2.2.1, (py_xx (py_by M) t).2.2.2, N, n1, fun _ => ⟨⟨wb.1, wb.2, xb.2.2.1, xb.2.2.2⟩, m2, m3, m4, m5 l1 hl1, m6 l2 hl2⟩, n3, fun Q q1 q2 q3 q4 => ?_⟩
    obtain ⟨R, r1, r2, r3⟩ := RF Q q1 q2 q3 q4
    obtain ⟨s1, s2, s3, s4, s5⟩ := r2 ok
    exact ⟨R, r1, fun _ => ⟨s1, s2, s3, s4 l1 hl1, s5 l2 hl2⟩, r3⟩
  · refine ⟨_, _, fun _ => 0, fun _ => 0, 0, 0, 0, N, n1, fun z => absurd z ok, n3, fun Q q1 q2 q3 q4 => ?_⟩
    obtain ⟨R, r1, r2, r3⟩ := RF Q q1 q2 q3 q4
    exact ⟨R, r1, fun z => absurd z ok, r3⟩
theorem py_Inv_ad {M N Q R F : pu_M} {fl : Int32} (h : pu_Inv M) (n : py_cA M N fl) (q2 : Q.2 = N.2) (qf : ∀ a j, ¬ (5 ≤ a ∧ a < 58) → ¬ (62 ≤ a ∧ a ≤ 68) → Q.1 a j = N.1 a j) (r : py_cB Q R fl) (f2 : F.2 = R.2) (ff : ∀ a j, a ≤ 77 ∨ 86 ≤ a → a ≠ 72 → ¬ (a = 71 ∧ (j = 21 ∨ j = 22)) → F.1 a j = R.1 a j) (hS : pu_St (pu_si F 5) (pu_sj F 5) (F.1 72)) : pu_Inv F := by
  obtain ⟨n1, n2, n3, n4, n5, n6, n7⟩ := n
  obtain ⟨r1, r2, r3, r4⟩ := r
  have E2 : F.2 = N.2 := by rw [f2, r1, q2]
  have C : ∀ a j, a ≤ 77 ∨ 86 ≤ a → a ≠ 72 → a ≠ 59 → a ≠ 76 → ¬ (a = 71 ∧ (j = 4 ∨ j = 6 ∨ j = 17 ∨ j = 18 ∨ j = 19 ∨ j = 20 ∨ j = 21 ∨ j = 22)) → ¬ (5 ≤ a ∧ a < 58) → ¬ (62 ≤ a ∧ a ≤ 68) → F.1 a j = N.1 a j := fun a j c1 c2 c3 c4 c5 c6 c7 => by
    rw [ff a j c1 c2 (by omega), r2 a j (by omega) c4 (by omega) (by omega) (by omega), qf a j c6 c7]
  refine py_Inv_tk h (pz_fx_of n6 E2) (by rw [E2, n1]) (fun a j ha => by rw [E2, n2 a j (by omega)]) (fun a j ha => by rw [E2, n4 a j (by omega) (by omega)]) ?_ ?_ (fun a j ha => ?_) hS
  · rw [C 1 0 (by omega) (by omega) (by omega) (by omega) (by omega) (by omega) (by omega)]
    exact n5
  · rw [ff 71 4 (by omega) (by omega) (by omega)]
    exact r3
  · rw [C a j (by omega) (by omega) (by omega) (by omega) (by omega) (by omega) (by omega), n3 a j (by omega) (by omega) (by omega)]
/-- the office with its fault, behind an address -/
theorem py_St_ad {M N Q R : pu_M} {fl : Int32} (h : pu_Inv M) (n : py_cA M N fl) (q72 : Q.1 72 = N.1 72) (r : py_cB Q R fl) : pu_St (pu_si N 5) (pu_sj M 5) (R.1 72) := by
  obtain ⟨n1, n2, n3, n4, n5, n6, n7⟩ := n
  obtain ⟨r1, r2, r3, r4⟩ := r
  refine St_fault h.2.2.2.1 (fun x j hj => ?_) (fun j hj => ?_) ?_
  · by_cases z : 5 ≤ x ∧ x < 58
    · rw [← pu_ag5 N x j z.1 z.2, ← pu_ag5 M x j z.1 z.2, n3 x j (by omega) (by omega) hj]
    · unfold pu_si
      rw [if_neg z, if_neg z]
  · rw [r2 72 j (by omega) (by omega) (by omega) (by omega) (by omega), q72, n3 72 j (by omega) (by omega) (by omega)]
  · rw [r4, ← pu_ag5 N 45 0 (by omega) (by omega), n7]
section
variable {I J : Nat → Nat → Int32} {L : Nat → Nat → Int64} {s s' : Nat → Int32}
theorem St_letter (h : pu_St I L s) (hn : cE I < 60) {v : Int32} (F : ∀ x j, ¬ (x = 45 ∧ j = 6) → ¬ (x = 55 ∧ j = cE I) → J x j = I x j) (v6 : J 45 6 = nI (cE I + 1)) (v55 : J 55 (cE I) = v) (G : ∀ j, j ≠ 10 → j ≠ 59528 + cE I → s' j = s j) (g10 : s' 10 = nI (cE I + 1)) (g : s' (59528 + cE I) = v) : pu_St J L s' := by
  have hw := h.1
  have hr := h.2
  have bQ := wx_bQ hw
  have bR := wx_bR hw
  have bS := wx_bS hw
  have bW := wx_bW hw
  have bO := wx_bO hw
  have cE' : cE J = cE I + 1 := pz_cc v6 (by omega)
  have cQ' : cQ J = cQ I := by unfold cQ; rw [F 45 2 (by omega) (by omega)]
  have cR' : cR J = cR I := by unfold cR; rw [F 45 3 (by omega) (by omega)]
  have cS' : cS J = cS I := by unfold cS; rw [F 45 4 (by omega) (by omega)]
  have cW' : cW J = cW I := by unfold cW; rw [F 45 5 (by omega) (by omega)]
  have cO' : cO J = cO I := by unfold cO; rw [F 45 7 (by omega) (by omega)]
  rw [pu_dk_e (I := I) (I' := J) (fun a j ha => F a j (by omega) (by omega))]
  refine St_desk h (fun j hj => G j (by omega) (by omega)) ⟨⟨?_, ?_, ?_, ?_, ?_, ?_⟩, ⟨by omega, by omega, by omega, by omega, by omega, by omega⟩, fun k hk => ?_, fun a b hab hb => ?_⟩ ⟨?_, ?_, ?_, ?_, ?_, ?_, ?_, ?_⟩ ⟨fun k hk => ?_, fun k hk => ?_, fun k hk => ?_, fun k hk => ?_, fun k hk => ?_, fun k hk => ?_, fun k hk => ?_, fun k hk => ?_, fun k hk => ?_, fun k hk => ?_⟩
  · rw [F 45 2 (by omega) (by omega), cQ']; exact wx_cQ hw
  · rw [F 45 3 (by omega) (by omega), cR']; exact wx_cR hw
  · rw [F 45 4 (by omega) (by omega), cS']; exact wx_cS hw
  · rw [F 45 5 (by omega) (by omega), cW']; exact wx_cW hw
  · rw [cE']; exact v6
  · rw [F 45 7 (by omega) (by omega), cO']; exact wx_cO hw
  · rw [cS'] at hk
    rw [F 53 k (by omega) (by omega)]; exact wx_es hw k hk
  · rw [cW'] at hb
    rw [F 54 a (by omega) (by omega), F 54 b (by omega) (by omega)]; exact wx_ew hw a b hab hb
  · rw [G 9 (by omega) (by omega), cS']; exact rl_h9 hr
  · rw [cE']; exact g10
  · rw [G 11 (by omega) (by omega), cQ']; exact rl_h11 hr
  · rw [G 12 (by omega) (by omega), cW']; exact rl_h12 hr
  · rw [G 13 (by omega) (by omega), cO']; exact rl_h13 hr
  · rw [G 14 (by omega) (by omega), cR']; exact rl_h14 hr
  · rw [G 15 (by omega) (by omega), F 45 0 (by omega) (by omega)]; exact rl_h15 hr
  · rw [G 16 (by omega) (by omega), F 45 1 (by omega) (by omega)]; exact rl_h16 hr
  · rw [cS'] at hk
    rw [G _ (by omega) (by omega), F 52 k (by omega) (by omega)]; exact rl_eS0 hr k hk
  · rw [cS'] at hk
    rw [G _ (by omega) (by omega), F 53 k (by omega) (by omega)]; exact rl_eS1 hr k hk
  · rw [cE'] at hk
    by_cases z : k = cE I
    · rw [z, v55]; exact g
    · rw [G _ (by omega) (by omega), F 55 k (by omega) (by omega)]; exact rl_eE hr k (by omega)
  · rw [cQ'] at hk
    rw [G _ (by omega) (by omega), F 46 k (by omega) (by omega)]; exact rl_eQ0 hr k hk
  · rw [cQ'] at hk
    rw [G _ (by omega) (by omega), F 47 k (by omega) (by omega)]; exact rl_eQ1 hr k hk
  · rw [cW'] at hk
    rw [G _ (by omega) (by omega), F 54 k (by omega) (by omega)]; exact rl_eW hr k hk
  · rw [cO'] at hk
    rw [G _ (by omega) (by omega), F 56 k (by omega) (by omega)]; exact rl_eO0 hr k hk
  · rw [cO'] at hk
    rw [G _ (by omega) (by omega), F 57 k (by omega) (by omega)]; exact rl_eO1 hr k hk
  · rw [cR'] at hk
    rw [G _ (by omega) (by omega), F 49 k (by omega) (by omega)]; exact rl_eR0 hr k hk
  · rw [cR'] at hk
    rw [G _ (by omega) (by omega), F 50 k (by omega) (by omega)]; exact rl_eR1 hr k hk
end
/-! letter, both sides -/
set_option maxRecDepth 8000 in
theorem op_letter (y : Int32) : pu_op pu_Inv 212 329 [.int y] := by
  intro M h
  have hx := h.1
  have hI := pu_ag5 M
  have hL := pu_al5 M
  obtain ⟨ok, fl, nm, tw, w, x, k, N, n1, n2, n3, RF⟩ := py_adr h
  obtain ⟨m1, m2, m3, m4, m5, m6, m7⟩ := id n1
  have N72 : N.1 72 = M.1 72 := funext (fun j => m3 72 j (by omega) (by omega) (by omega))
  -- the reference from a memory with this row and tape
  have RG : ∀ Q : pu_M, Q.2 = N.2 → (∀ a j, ¬ (5 ≤ a ∧ a < 58) → ¬ (62 ≤ a ∧ a ≤ 68) → Q.1 a j = N.1 a j) → ∃ R, py_cB Q R fl ∧ (ok → R.1 71 17 = nI w ∧ R.1 71 18 = nI x ∧ R.1 71 19 = nI k ∧ (∀ j, j < 3 → pu_Wd (R.1 78) (12 * j) (nm j)) ∧ (∀ j, j < 3 → pu_Wd (R.1 82) (12 * j) (tw j))) ∧ pu_r 314 [some (.ref 71)] [] Q = some (some (.int (pu_q ok)), R) ∧ pu_fx R ∧ pu_St (pu_si N 5) (pu_sj M 5) (R.1 72) := fun Q q2 qf => by
    have q72 : Q.1 72 = N.1 72 := funext (fun j => qf 72 j (by omega) (by omega))
    obtain ⟨R, r1, r2, r3⟩ := RF Q (pz_fx_of m6 q2) (by rw [q72]; exact N72) (by rw [qf 71 4 (by omega) (by omega)]; exact m3 71 4 (by omega) (by omega) (by omega)) (fun j => by rw [qf 75 j (by omega) (by omega)]; exact m3 75 j (by omega) (by omega) (by omega))
    exact ⟨R, r1, r2, r3, pz_fx_of (pz_fx_of m6 q2) r1.1, py_St_ad h n1 q72 r1⟩
  -- where only the address was read
  have ST : ∀ F R : pu_M, ∀ Q : pu_M, Q.2 = N.2 → (∀ a j, ¬ (62 ≤ a ∧ a ≤ 68) → Q.1 a j = N.1 a j) → py_cB Q R fl → pu_St (pu_si N 5) (pu_sj M 5) (R.1 72) → F.2 = R.2 → (∀ a j, ¬ (a = 71 ∧ (j = 21 ∨ j = 22)) → F.1 a j = R.1 a j) → pu_Inv F := fun F R Q q2 qf rb S f2 ff => by
    refine py_Inv_ad h n1 q2 (fun a j _ c => qf a j c) rb f2 (fun a j _ _ c => ff a j c) ?_
    rw [show pu_si F 5 = pu_si N 5 from pu_si_eq (fun a j h1 h2 => by rw [ff a j (by omega), rb.2.1 a j (by omega) (by omega) (by omega) (by omega) (by omega), qf a j (by omega)]), show pu_sj F 5 = pu_sj M 5 from pu_sj_eq (fun a j h1 h2 => by rw [f2, rb.1, q2, m4 a j (by omega) (by omega)]), show F.1 72 = R.1 72 from funext (fun j => ff 72 j (by omega))]
    exact S
  by_cases hok : ok
  rotate_left
  · obtain ⟨R, r1, r2, r3, hxR, SR⟩ := RG N rfl (fun _ _ _ _ => rfl)
    rw [pu_q0 hok] at n3 r3
    refine ⟨-2, N, R, ?_, ?_, ST R R N rfl (fun _ _ _ => rfl) r1 SR rfl (fun _ _ _ => rfl)⟩
    · rw [qX11_letter]
      simp [a_ent, bX11_letter_0, bX11_letter_14, bX11_letter_17, bX11_letter_30, bX11_letter_48, a_ald, a_cs, a_cv, a_gi, a_gr, a_iclt, a_icne, a_ifeq, a_ifne, a_ild, a_iret, a_ist, a_push, sh_0, sh_45, sh_5, pu_rv, pu_as, Value.category, pu_bk, pu_kl, List.replicate, pu_wi_1, pu_wi_2, nl_add, nl_ladd, nl_aa, nl_mul, nl_rmul, nl_mm, pu_qe0, pu_qe1, n3]
      all_goals try simp (maxSteps := 400000) (disch := omega) [nl_tle, nl_fle, nl_tlt, nl_flt, nl_teq, nl_feq, nl_sub, nl_ss, nl_lt, nl_llt, nl_ltt, nl_le, nl_lle, nl_lee, nl_eq, nl_leq, nl_ee, nl_div, nl_rem, nl_cl, nl_n1, nl_n2, nl_n3, nl_n4, nl_add, nl_ladd, nl_aa, nl_mul, nl_rmul, nl_mm, pu_wi_1, pu_wi_2, bX11_letter_0, bX11_letter_14, bX11_letter_17, bX11_letter_30, bX11_letter_48, a_ald, a_cs, a_cv, a_gi, a_gr, a_iclt, a_icne, a_ifeq, a_ifne, a_ild, a_iret, a_ist, a_push, sh_0, sh_45, sh_5, pu_rv, pu_as, Value.category, pu_bk, pu_kl, pu_qe0, pu_qe1, n3]
      all_goals try simp [bX11_letter_0, bX11_letter_14, bX11_letter_17, bX11_letter_30, bX11_letter_48, a_ald, a_cs, a_cv, a_gi, a_gr, a_iclt, a_icne, a_ifeq, a_ifne, a_ild, a_iret, a_ist, a_push, sh_0, sh_45, sh_5, pu_rv, pu_as, Value.category, pu_bk, pu_kl, List.replicate, pu_wi_1, pu_wi_2, nl_add, nl_ladd, nl_aa, nl_mul, nl_rmul, nl_mm, pu_qe0, pu_qe1, n3]
      all_goals try simp (maxSteps := 400000) (disch := omega) [nl_tle, nl_fle, nl_tlt, nl_flt, nl_teq, nl_feq, nl_sub, nl_ss, nl_lt, nl_llt, nl_ltt, nl_le, nl_lle, nl_lee, nl_eq, nl_leq, nl_ee, nl_div, nl_rem, nl_cl, nl_n1, nl_n2, nl_n3, nl_n4, nl_add, nl_ladd, nl_aa, nl_mul, nl_rmul, nl_mm, pu_wi_1, pu_wi_2, bX11_letter_0, bX11_letter_14, bX11_letter_17, bX11_letter_30, bX11_letter_48, a_ald, a_cs, a_cv, a_gi, a_gr, a_iclt, a_icne, a_ifeq, a_ifne, a_ild, a_iret, a_ist, a_push, sh_0, sh_45, sh_5, pu_rv, pu_as, Value.category, pu_bk, pu_kl, pu_qe0, pu_qe1, n3]
      all_goals try simp [bX11_letter_0, bX11_letter_14, bX11_letter_17, bX11_letter_30, bX11_letter_48, a_ald, a_cs, a_cv, a_gi, a_gr, a_iclt, a_icne, a_ifeq, a_ifne, a_ild, a_iret, a_ist, a_push, sh_0, sh_45, sh_5, pu_rv, pu_as, Value.category, pu_bk, pu_kl, List.replicate, pu_wi_1, pu_wi_2, nl_add, nl_ladd, nl_aa, nl_mul, nl_rmul, nl_mm, pu_qe0, pu_qe1, n3]
      all_goals try simp (maxSteps := 400000) (disch := omega) [nl_tle, nl_fle, nl_tlt, nl_flt, nl_teq, nl_feq, nl_sub, nl_ss, nl_lt, nl_llt, nl_ltt, nl_le, nl_lle, nl_lee, nl_eq, nl_leq, nl_ee, nl_div, nl_rem, nl_cl, nl_n1, nl_n2, nl_n3, nl_n4, nl_add, nl_ladd, nl_aa, nl_mul, nl_rmul, nl_mm, pu_wi_1, pu_wi_2, bX11_letter_0, bX11_letter_14, bX11_letter_17, bX11_letter_30, bX11_letter_48, a_ald, a_cs, a_cv, a_gi, a_gr, a_iclt, a_icne, a_ifeq, a_ifne, a_ild, a_iret, a_ist, a_push, sh_0, sh_45, sh_5, pu_rv, pu_as, Value.category, pu_bk, pu_kl, pu_qe0, pu_qe1, n3]
      all_goals try simp [bX11_letter_0, bX11_letter_14, bX11_letter_17, bX11_letter_30, bX11_letter_48, a_ald, a_cs, a_cv, a_gi, a_gr, a_iclt, a_icne, a_ifeq, a_ifne, a_ild, a_iret, a_ist, a_push, sh_0, sh_45, sh_5, pu_rv, pu_as, Value.category, pu_bk, pu_kl, List.replicate, pu_wi_1, pu_wi_2, nl_add, nl_ladd, nl_aa, nl_mul, nl_rmul, nl_mm, pu_qe0, pu_qe1, n3]
    · rw [qX12_letter]
      simp [a_ent, bX12_letter_0, bX12_letter_14, bX12_letter_17, bX12_letter_30, bX12_letter_45, a_ai, a_ald, a_cs, a_cv, a_dup2, a_gr, a_iadd, a_icne, a_ifeq, a_ifne, a_ild, a_iret, a_ist, a_push, a_wi, sh_71, sh_72, pu_rv, pu_as, Value.category, pu_bk, pu_kl, List.replicate, pu_wi_1, pu_wi_2, nl_add, nl_ladd, nl_aa, nl_mul, nl_rmul, nl_mm, pu_qe0, pu_qe1, r3]
      all_goals try simp (maxSteps := 400000) (disch := omega) [nl_tle, nl_fle, nl_tlt, nl_flt, nl_teq, nl_feq, nl_sub, nl_ss, nl_lt, nl_llt, nl_ltt, nl_le, nl_lle, nl_lee, nl_eq, nl_leq, nl_ee, nl_div, nl_rem, nl_cl, nl_n1, nl_n2, nl_n3, nl_n4, nl_add, nl_ladd, nl_aa, nl_mul, nl_rmul, nl_mm, pu_wi_1, pu_wi_2, bX12_letter_0, bX12_letter_14, bX12_letter_17, bX12_letter_30, bX12_letter_45, a_ai, a_ald, a_cs, a_cv, a_dup2, a_gr, a_iadd, a_icne, a_ifeq, a_ifne, a_ild, a_iret, a_ist, a_push, a_wi, sh_71, sh_72, pu_rv, pu_as, Value.category, pu_bk, pu_kl, pu_qe0, pu_qe1, r3]
      all_goals try simp [bX12_letter_0, bX12_letter_14, bX12_letter_17, bX12_letter_30, bX12_letter_45, a_ai, a_ald, a_cs, a_cv, a_dup2, a_gr, a_iadd, a_icne, a_ifeq, a_ifne, a_ild, a_iret, a_ist, a_push, a_wi, sh_71, sh_72, pu_rv, pu_as, Value.category, pu_bk, pu_kl, List.replicate, pu_wi_1, pu_wi_2, nl_add, nl_ladd, nl_aa, nl_mul, nl_rmul, nl_mm, pu_qe0, pu_qe1, r3]
      all_goals try simp (maxSteps := 400000) (disch := omega) [nl_tle, nl_fle, nl_tlt, nl_flt, nl_teq, nl_feq, nl_sub, nl_ss, nl_lt, nl_llt, nl_ltt, nl_le, nl_lle, nl_lee, nl_eq, nl_leq, nl_ee, nl_div, nl_rem, nl_cl, nl_n1, nl_n2, nl_n3, nl_n4, nl_add, nl_ladd, nl_aa, nl_mul, nl_rmul, nl_mm, pu_wi_1, pu_wi_2, bX12_letter_0, bX12_letter_14, bX12_letter_17, bX12_letter_30, bX12_letter_45, a_ai, a_ald, a_cs, a_cv, a_dup2, a_gr, a_iadd, a_icne, a_ifeq, a_ifne, a_ild, a_iret, a_ist, a_push, a_wi, sh_71, sh_72, pu_rv, pu_as, Value.category, pu_bk, pu_kl, pu_qe0, pu_qe1, r3]
      all_goals try simp [bX12_letter_0, bX12_letter_14, bX12_letter_17, bX12_letter_30, bX12_letter_45, a_ai, a_ald, a_cs, a_cv, a_dup2, a_gr, a_iadd, a_icne, a_ifeq, a_ifne, a_ild, a_iret, a_ist, a_push, a_wi, sh_71, sh_72, pu_rv, pu_as, Value.category, pu_bk, pu_kl, List.replicate, pu_wi_1, pu_wi_2, nl_add, nl_ladd, nl_aa, nl_mul, nl_rmul, nl_mm, pu_qe0, pu_qe1, r3]
      all_goals try simp (maxSteps := 400000) (disch := omega) [nl_tle, nl_fle, nl_tlt, nl_flt, nl_teq, nl_feq, nl_sub, nl_ss, nl_lt, nl_llt, nl_ltt, nl_le, nl_lle, nl_lee, nl_eq, nl_leq, nl_ee, nl_div, nl_rem, nl_cl, nl_n1, nl_n2, nl_n3, nl_n4, nl_add, nl_ladd, nl_aa, nl_mul, nl_rmul, nl_mm, pu_wi_1, pu_wi_2, bX12_letter_0, bX12_letter_14, bX12_letter_17, bX12_letter_30, bX12_letter_45, a_ai, a_ald, a_cs, a_cv, a_dup2, a_gr, a_iadd, a_icne, a_ifeq, a_ifne, a_ild, a_iret, a_ist, a_push, a_wi, sh_71, sh_72, pu_rv, pu_as, Value.category, pu_bk, pu_kl, pu_qe0, pu_qe1, r3]
      all_goals try simp [bX12_letter_0, bX12_letter_14, bX12_letter_17, bX12_letter_30, bX12_letter_45, a_ai, a_ald, a_cs, a_cv, a_dup2, a_gr, a_iadd, a_icne, a_ifeq, a_ifne, a_ild, a_iret, a_ist, a_push, a_wi, sh_71, sh_72, pu_rv, pu_as, Value.category, pu_bk, pu_kl, List.replicate, pu_wi_1, pu_wi_2, nl_add, nl_ladd, nl_aa, nl_mul, nl_rmul, nl_mm, pu_qe0, pu_qe1, r3]
  have r3q := pu_q1 hok
  rw [r3q] at n3
  have e5 := c_isDay y N
  by_cases hy : ¬ y < 0 ∧ ¬ 109574 < y
  rotate_left
  · obtain ⟨R, r1, r2, r3, hxR, SR⟩ := RG N rfl (fun _ _ _ _ => rfl)
    rw [r3q] at r3
    have e6 := r_isDay y R
    rw [pu_q0 hy] at e5 e6
    refine ⟨-2, N, R, ?_, ?_, ST R R N rfl (fun _ _ _ => rfl) r1 SR rfl (fun _ _ _ => rfl)⟩
    · rw [qX11_letter]
      simp [a_ent, bX11_letter_0, bX11_letter_14, bX11_letter_17, bX11_letter_30, bX11_letter_48, a_ald, a_cs, a_cv, a_gi, a_gr, a_iclt, a_icne, a_ifeq, a_ifne, a_ild, a_iret, a_ist, a_push, sh_0, sh_45, sh_5, pu_rv, pu_as, Value.category, pu_bk, pu_kl, List.replicate, pu_wi_1, pu_wi_2, nl_add, nl_ladd, nl_aa, nl_mul, nl_rmul, nl_mm, pu_qe0, pu_qe1, n3, e5]
      all_goals try simp (maxSteps := 400000) (disch := omega) [nl_tle, nl_fle, nl_tlt, nl_flt, nl_teq, nl_feq, nl_sub, nl_ss, nl_lt, nl_llt, nl_ltt, nl_le, nl_lle, nl_lee, nl_eq, nl_leq, nl_ee, nl_div, nl_rem, nl_cl, nl_n1, nl_n2, nl_n3, nl_n4, nl_add, nl_ladd, nl_aa, nl_mul, nl_rmul, nl_mm, pu_wi_1, pu_wi_2, bX11_letter_0, bX11_letter_14, bX11_letter_17, bX11_letter_30, bX11_letter_48, a_ald, a_cs, a_cv, a_gi, a_gr, a_iclt, a_icne, a_ifeq, a_ifne, a_ild, a_iret, a_ist, a_push, sh_0, sh_45, sh_5, pu_rv, pu_as, Value.category, pu_bk, pu_kl, pu_qe0, pu_qe1, n3, e5]
      all_goals try simp [bX11_letter_0, bX11_letter_14, bX11_letter_17, bX11_letter_30, bX11_letter_48, a_ald, a_cs, a_cv, a_gi, a_gr, a_iclt, a_icne, a_ifeq, a_ifne, a_ild, a_iret, a_ist, a_push, sh_0, sh_45, sh_5, pu_rv, pu_as, Value.category, pu_bk, pu_kl, List.replicate, pu_wi_1, pu_wi_2, nl_add, nl_ladd, nl_aa, nl_mul, nl_rmul, nl_mm, pu_qe0, pu_qe1, n3, e5]
      all_goals try simp (maxSteps := 400000) (disch := omega) [nl_tle, nl_fle, nl_tlt, nl_flt, nl_teq, nl_feq, nl_sub, nl_ss, nl_lt, nl_llt, nl_ltt, nl_le, nl_lle, nl_lee, nl_eq, nl_leq, nl_ee, nl_div, nl_rem, nl_cl, nl_n1, nl_n2, nl_n3, nl_n4, nl_add, nl_ladd, nl_aa, nl_mul, nl_rmul, nl_mm, pu_wi_1, pu_wi_2, bX11_letter_0, bX11_letter_14, bX11_letter_17, bX11_letter_30, bX11_letter_48, a_ald, a_cs, a_cv, a_gi, a_gr, a_iclt, a_icne, a_ifeq, a_ifne, a_ild, a_iret, a_ist, a_push, sh_0, sh_45, sh_5, pu_rv, pu_as, Value.category, pu_bk, pu_kl, pu_qe0, pu_qe1, n3, e5]
      all_goals try simp [bX11_letter_0, bX11_letter_14, bX11_letter_17, bX11_letter_30, bX11_letter_48, a_ald, a_cs, a_cv, a_gi, a_gr, a_iclt, a_icne, a_ifeq, a_ifne, a_ild, a_iret, a_ist, a_push, sh_0, sh_45, sh_5, pu_rv, pu_as, Value.category, pu_bk, pu_kl, List.replicate, pu_wi_1, pu_wi_2, nl_add, nl_ladd, nl_aa, nl_mul, nl_rmul, nl_mm, pu_qe0, pu_qe1, n3, e5]
      all_goals try simp (maxSteps := 400000) (disch := omega) [nl_tle, nl_fle, nl_tlt, nl_flt, nl_teq, nl_feq, nl_sub, nl_ss, nl_lt, nl_llt, nl_ltt, nl_le, nl_lle, nl_lee, nl_eq, nl_leq, nl_ee, nl_div, nl_rem, nl_cl, nl_n1, nl_n2, nl_n3, nl_n4, nl_add, nl_ladd, nl_aa, nl_mul, nl_rmul, nl_mm, pu_wi_1, pu_wi_2, bX11_letter_0, bX11_letter_14, bX11_letter_17, bX11_letter_30, bX11_letter_48, a_ald, a_cs, a_cv, a_gi, a_gr, a_iclt, a_icne, a_ifeq, a_ifne, a_ild, a_iret, a_ist, a_push, sh_0, sh_45, sh_5, pu_rv, pu_as, Value.category, pu_bk, pu_kl, pu_qe0, pu_qe1, n3, e5]
      all_goals try simp [bX11_letter_0, bX11_letter_14, bX11_letter_17, bX11_letter_30, bX11_letter_48, a_ald, a_cs, a_cv, a_gi, a_gr, a_iclt, a_icne, a_ifeq, a_ifne, a_ild, a_iret, a_ist, a_push, sh_0, sh_45, sh_5, pu_rv, pu_as, Value.category, pu_bk, pu_kl, List.replicate, pu_wi_1, pu_wi_2, nl_add, nl_ladd, nl_aa, nl_mul, nl_rmul, nl_mm, pu_qe0, pu_qe1, n3, e5]
    · rw [qX12_letter]
      simp [a_ent, bX12_letter_0, bX12_letter_14, bX12_letter_17, bX12_letter_30, bX12_letter_45, a_ai, a_ald, a_cs, a_cv, a_dup2, a_gr, a_iadd, a_icne, a_ifeq, a_ifne, a_ild, a_iret, a_ist, a_push, a_wi, sh_71, sh_72, pu_rv, pu_as, Value.category, pu_bk, pu_kl, List.replicate, pu_wi_1, pu_wi_2, nl_add, nl_ladd, nl_aa, nl_mul, nl_rmul, nl_mm, pu_qe0, pu_qe1, r3, e6]
      all_goals try simp (maxSteps := 400000) (disch := omega) [nl_tle, nl_fle, nl_tlt, nl_flt, nl_teq, nl_feq, nl_sub, nl_ss, nl_lt, nl_llt, nl_ltt, nl_le, nl_lle, nl_lee, nl_eq, nl_leq, nl_ee, nl_div, nl_rem, nl_cl, nl_n1, nl_n2, nl_n3, nl_n4, nl_add, nl_ladd, nl_aa, nl_mul, nl_rmul, nl_mm, pu_wi_1, pu_wi_2, bX12_letter_0, bX12_letter_14, bX12_letter_17, bX12_letter_30, bX12_letter_45, a_ai, a_ald, a_cs, a_cv, a_dup2, a_gr, a_iadd, a_icne, a_ifeq, a_ifne, a_ild, a_iret, a_ist, a_push, a_wi, sh_71, sh_72, pu_rv, pu_as, Value.category, pu_bk, pu_kl, pu_qe0, pu_qe1, r3, e6]
      all_goals try simp [bX12_letter_0, bX12_letter_14, bX12_letter_17, bX12_letter_30, bX12_letter_45, a_ai, a_ald, a_cs, a_cv, a_dup2, a_gr, a_iadd, a_icne, a_ifeq, a_ifne, a_ild, a_iret, a_ist, a_push, a_wi, sh_71, sh_72, pu_rv, pu_as, Value.category, pu_bk, pu_kl, List.replicate, pu_wi_1, pu_wi_2, nl_add, nl_ladd, nl_aa, nl_mul, nl_rmul, nl_mm, pu_qe0, pu_qe1, r3, e6]
      all_goals try simp (maxSteps := 400000) (disch := omega) [nl_tle, nl_fle, nl_tlt, nl_flt, nl_teq, nl_feq, nl_sub, nl_ss, nl_lt, nl_llt, nl_ltt, nl_le, nl_lle, nl_lee, nl_eq, nl_leq, nl_ee, nl_div, nl_rem, nl_cl, nl_n1, nl_n2, nl_n3, nl_n4, nl_add, nl_ladd, nl_aa, nl_mul, nl_rmul, nl_mm, pu_wi_1, pu_wi_2, bX12_letter_0, bX12_letter_14, bX12_letter_17, bX12_letter_30, bX12_letter_45, a_ai, a_ald, a_cs, a_cv, a_dup2, a_gr, a_iadd, a_icne, a_ifeq, a_ifne, a_ild, a_iret, a_ist, a_push, a_wi, sh_71, sh_72, pu_rv, pu_as, Value.category, pu_bk, pu_kl, pu_qe0, pu_qe1, r3, e6]
      all_goals try simp [bX12_letter_0, bX12_letter_14, bX12_letter_17, bX12_letter_30, bX12_letter_45, a_ai, a_ald, a_cs, a_cv, a_dup2, a_gr, a_iadd, a_icne, a_ifeq, a_ifne, a_ild, a_iret, a_ist, a_push, a_wi, sh_71, sh_72, pu_rv, pu_as, Value.category, pu_bk, pu_kl, List.replicate, pu_wi_1, pu_wi_2, nl_add, nl_ladd, nl_aa, nl_mul, nl_rmul, nl_mm, pu_qe0, pu_qe1, r3, e6]
      all_goals try simp (maxSteps := 400000) (disch := omega) [nl_tle, nl_fle, nl_tlt, nl_flt, nl_teq, nl_feq, nl_sub, nl_ss, nl_lt, nl_llt, nl_ltt, nl_le, nl_lle, nl_lee, nl_eq, nl_leq, nl_ee, nl_div, nl_rem, nl_cl, nl_n1, nl_n2, nl_n3, nl_n4, nl_add, nl_ladd, nl_aa, nl_mul, nl_rmul, nl_mm, pu_wi_1, pu_wi_2, bX12_letter_0, bX12_letter_14, bX12_letter_17, bX12_letter_30, bX12_letter_45, a_ai, a_ald, a_cs, a_cv, a_dup2, a_gr, a_iadd, a_icne, a_ifeq, a_ifne, a_ild, a_iret, a_ist, a_push, a_wi, sh_71, sh_72, pu_rv, pu_as, Value.category, pu_bk, pu_kl, pu_qe0, pu_qe1, r3, e6]
      all_goals try simp [bX12_letter_0, bX12_letter_14, bX12_letter_17, bX12_letter_30, bX12_letter_45, a_ai, a_ald, a_cs, a_cv, a_dup2, a_gr, a_iadd, a_icne, a_ifeq, a_ifne, a_ild, a_iret, a_ist, a_push, a_wi, sh_71, sh_72, pu_rv, pu_as, Value.category, pu_bk, pu_kl, List.replicate, pu_wi_1, pu_wi_2, nl_add, nl_ladd, nl_aa, nl_mul, nl_rmul, nl_mm, pu_qe0, pu_qe1, r3, e6]
  rw [pu_q1 hy] at e5
  obtain ⟨⟨w1, w2, x5, k1⟩, c2, c3, c4, c5, c6⟩ := n2 hok
  -- the office behind the address
  obtain ⟨R0, _, _, _, _, S0⟩ := RG N rfl (fun _ _ _ _ => rfl)
  have hwN : pu_WF (pu_si N 5) (pu_sj M 5) := S0.1
  have hIN := pu_ag5 N
  have hLN : pu_al N (pu_sj M 5) := fun a j q1 q2 => by rw [m4 a j (by omega) (by omega)]; exact hL a j q1 q2
  obtain ⟨V, v1, v2⟩ := c_sure m6 hIN hLN hwN nm tw c5 c6 (by omega) (by omega) x5 k1 c2 c3 c4 y hy
  have hxV : pu_fx V := pz_fx_of m6 v1.1
  -- the reference's answer
  have RS : ∀ Q R : pu_M, py_cB Q R fl → (ok → R.1 71 17 = nI w ∧ R.1 71 18 = nI x ∧ R.1 71 19 = nI k ∧ (∀ j, j < 3 → pu_Wd (R.1 78) (12 * j) (nm j)) ∧ (∀ j, j < 3 → pu_Wd (R.1 82) (12 * j) (tw j))) → pu_fx R → pu_St (pu_si N 5) (pu_sj M 5) (R.1 72) → ∃ v, pu_r 319 [some (.ref 71), some (.int y)] [] R = some (some (.int (py_sv (pu_si N 5) (pu_sj M 5) nm tw w x k y)), pu_wi R 71 21 v) := fun Q R rb rv hxR SR => by
    obtain ⟨s1, s2, s3, s4, s5⟩ := rv hok
    obtain ⟨v, _, _, e⟩ := r_sure hxR SR.2 hwN nm tw s4 s5 x5 k1 s1 s2 s3 y
    exact ⟨v, e⟩
  generalize py_sv (pu_si N 5) (pu_sj M 5) nm tw w x k y = rr at *
  have vE : V.1 45 6 = nI (cE (pu_si N 5)) := by rw [v1.2 45 6 (by omega), hIN 45 6 (by omega) (by omega)]; exact wx_cE hwN
  have bE := wx_bE hwN
  have f2 := fx_0_2 hxV
  have f6 := fx_5_6 hxV
  by_cases hm : rr = -1
  · obtain ⟨R, r1, r2, r3, hxR, SR⟩ := RG V v1.1 (fun a j _ c => v1.2 a j c)
    rw [r3q] at r3
    obtain ⟨v, es⟩ := RS V R r1 r2 hxR SR
    have e6 := r_isDay y R
    rw [pu_q1 hy] at e6
    rw [hm] at v2 es
    refine ⟨-1, V, pu_wi R 71 21 v, ?_, ?_, ST _ R V v1.1 (fun a j c => v1.2 a j c) r1 SR rfl (fun a j c => py_wi_o (by omega))⟩
    · rw [qX11_letter]
      simp [a_ent, bX11_letter_0, bX11_letter_14, bX11_letter_17, bX11_letter_30, bX11_letter_48, a_ald, a_cs, a_cv, a_gi, a_gr, a_iclt, a_icne, a_ifeq, a_ifne, a_ild, a_iret, a_ist, a_push, sh_0, sh_45, sh_5, pu_rv, pu_as, Value.category, pu_bk, pu_kl, List.replicate, pu_wi_1, pu_wi_2, nl_add, nl_ladd, nl_aa, nl_mul, nl_rmul, nl_mm, pu_qe0, pu_qe1, n3, e5, v2]
      all_goals try simp (maxSteps := 400000) (disch := omega) [nl_tle, nl_fle, nl_tlt, nl_flt, nl_teq, nl_feq, nl_sub, nl_ss, nl_lt, nl_llt, nl_ltt, nl_le, nl_lle, nl_lee, nl_eq, nl_leq, nl_ee, nl_div, nl_rem, nl_cl, nl_n1, nl_n2, nl_n3, nl_n4, nl_add, nl_ladd, nl_aa, nl_mul, nl_rmul, nl_mm, pu_wi_1, pu_wi_2, bX11_letter_0, bX11_letter_14, bX11_letter_17, bX11_letter_30, bX11_letter_48, a_ald, a_cs, a_cv, a_gi, a_gr, a_iclt, a_icne, a_ifeq, a_ifne, a_ild, a_iret, a_ist, a_push, sh_0, sh_45, sh_5, pu_rv, pu_as, Value.category, pu_bk, pu_kl, pu_qe0, pu_qe1, n3, e5, v2]
      all_goals try simp [bX11_letter_0, bX11_letter_14, bX11_letter_17, bX11_letter_30, bX11_letter_48, a_ald, a_cs, a_cv, a_gi, a_gr, a_iclt, a_icne, a_ifeq, a_ifne, a_ild, a_iret, a_ist, a_push, sh_0, sh_45, sh_5, pu_rv, pu_as, Value.category, pu_bk, pu_kl, List.replicate, pu_wi_1, pu_wi_2, nl_add, nl_ladd, nl_aa, nl_mul, nl_rmul, nl_mm, pu_qe0, pu_qe1, n3, e5, v2]
      all_goals try simp (maxSteps := 400000) (disch := omega) [nl_tle, nl_fle, nl_tlt, nl_flt, nl_teq, nl_feq, nl_sub, nl_ss, nl_lt, nl_llt, nl_ltt, nl_le, nl_lle, nl_lee, nl_eq, nl_leq, nl_ee, nl_div, nl_rem, nl_cl, nl_n1, nl_n2, nl_n3, nl_n4, nl_add, nl_ladd, nl_aa, nl_mul, nl_rmul, nl_mm, pu_wi_1, pu_wi_2, bX11_letter_0, bX11_letter_14, bX11_letter_17, bX11_letter_30, bX11_letter_48, a_ald, a_cs, a_cv, a_gi, a_gr, a_iclt, a_icne, a_ifeq, a_ifne, a_ild, a_iret, a_ist, a_push, sh_0, sh_45, sh_5, pu_rv, pu_as, Value.category, pu_bk, pu_kl, pu_qe0, pu_qe1, n3, e5, v2]
      all_goals try simp [bX11_letter_0, bX11_letter_14, bX11_letter_17, bX11_letter_30, bX11_letter_48, a_ald, a_cs, a_cv, a_gi, a_gr, a_iclt, a_icne, a_ifeq, a_ifne, a_ild, a_iret, a_ist, a_push, sh_0, sh_45, sh_5, pu_rv, pu_as, Value.category, pu_bk, pu_kl, List.replicate, pu_wi_1, pu_wi_2, nl_add, nl_ladd, nl_aa, nl_mul, nl_rmul, nl_mm, pu_qe0, pu_qe1, n3, e5, v2]
      all_goals try simp (maxSteps := 400000) (disch := omega) [nl_tle, nl_fle, nl_tlt, nl_flt, nl_teq, nl_feq, nl_sub, nl_ss, nl_lt, nl_llt, nl_ltt, nl_le, nl_lle, nl_lee, nl_eq, nl_leq, nl_ee, nl_div, nl_rem, nl_cl, nl_n1, nl_n2, nl_n3, nl_n4, nl_add, nl_ladd, nl_aa, nl_mul, nl_rmul, nl_mm, pu_wi_1, pu_wi_2, bX11_letter_0, bX11_letter_14, bX11_letter_17, bX11_letter_30, bX11_letter_48, a_ald, a_cs, a_cv, a_gi, a_gr, a_iclt, a_icne, a_ifeq, a_ifne, a_ild, a_iret, a_ist, a_push, sh_0, sh_45, sh_5, pu_rv, pu_as, Value.category, pu_bk, pu_kl, pu_qe0, pu_qe1, n3, e5, v2]
      all_goals try simp [bX11_letter_0, bX11_letter_14, bX11_letter_17, bX11_letter_30, bX11_letter_48, a_ald, a_cs, a_cv, a_gi, a_gr, a_iclt, a_icne, a_ifeq, a_ifne, a_ild, a_iret, a_ist, a_push, sh_0, sh_45, sh_5, pu_rv, pu_as, Value.category, pu_bk, pu_kl, List.replicate, pu_wi_1, pu_wi_2, nl_add, nl_ladd, nl_aa, nl_mul, nl_rmul, nl_mm, pu_qe0, pu_qe1, n3, e5, v2]
    · rw [qX12_letter]
      simp [a_ent, bX12_letter_0, bX12_letter_14, bX12_letter_17, bX12_letter_30, bX12_letter_45, a_ai, a_ald, a_cs, a_cv, a_dup2, a_gr, a_iadd, a_icne, a_ifeq, a_ifne, a_ild, a_iret, a_ist, a_push, a_wi, sh_71, sh_72, pu_rv, pu_as, Value.category, pu_bk, pu_kl, List.replicate, pu_wi_1, pu_wi_2, nl_add, nl_ladd, nl_aa, nl_mul, nl_rmul, nl_mm, pu_qe0, pu_qe1, r3, e6, es]
      all_goals try simp (maxSteps := 400000) (disch := omega) [nl_tle, nl_fle, nl_tlt, nl_flt, nl_teq, nl_feq, nl_sub, nl_ss, nl_lt, nl_llt, nl_ltt, nl_le, nl_lle, nl_lee, nl_eq, nl_leq, nl_ee, nl_div, nl_rem, nl_cl, nl_n1, nl_n2, nl_n3, nl_n4, nl_add, nl_ladd, nl_aa, nl_mul, nl_rmul, nl_mm, pu_wi_1, pu_wi_2, bX12_letter_0, bX12_letter_14, bX12_letter_17, bX12_letter_30, bX12_letter_45, a_ai, a_ald, a_cs, a_cv, a_dup2, a_gr, a_iadd, a_icne, a_ifeq, a_ifne, a_ild, a_iret, a_ist, a_push, a_wi, sh_71, sh_72, pu_rv, pu_as, Value.category, pu_bk, pu_kl, pu_qe0, pu_qe1, r3, e6, es]
      all_goals try simp [bX12_letter_0, bX12_letter_14, bX12_letter_17, bX12_letter_30, bX12_letter_45, a_ai, a_ald, a_cs, a_cv, a_dup2, a_gr, a_iadd, a_icne, a_ifeq, a_ifne, a_ild, a_iret, a_ist, a_push, a_wi, sh_71, sh_72, pu_rv, pu_as, Value.category, pu_bk, pu_kl, List.replicate, pu_wi_1, pu_wi_2, nl_add, nl_ladd, nl_aa, nl_mul, nl_rmul, nl_mm, pu_qe0, pu_qe1, r3, e6, es]
      all_goals try simp (maxSteps := 400000) (disch := omega) [nl_tle, nl_fle, nl_tlt, nl_flt, nl_teq, nl_feq, nl_sub, nl_ss, nl_lt, nl_llt, nl_ltt, nl_le, nl_lle, nl_lee, nl_eq, nl_leq, nl_ee, nl_div, nl_rem, nl_cl, nl_n1, nl_n2, nl_n3, nl_n4, nl_add, nl_ladd, nl_aa, nl_mul, nl_rmul, nl_mm, pu_wi_1, pu_wi_2, bX12_letter_0, bX12_letter_14, bX12_letter_17, bX12_letter_30, bX12_letter_45, a_ai, a_ald, a_cs, a_cv, a_dup2, a_gr, a_iadd, a_icne, a_ifeq, a_ifne, a_ild, a_iret, a_ist, a_push, a_wi, sh_71, sh_72, pu_rv, pu_as, Value.category, pu_bk, pu_kl, pu_qe0, pu_qe1, r3, e6, es]
      all_goals try simp [bX12_letter_0, bX12_letter_14, bX12_letter_17, bX12_letter_30, bX12_letter_45, a_ai, a_ald, a_cs, a_cv, a_dup2, a_gr, a_iadd, a_icne, a_ifeq, a_ifne, a_ild, a_iret, a_ist, a_push, a_wi, sh_71, sh_72, pu_rv, pu_as, Value.category, pu_bk, pu_kl, List.replicate, pu_wi_1, pu_wi_2, nl_add, nl_ladd, nl_aa, nl_mul, nl_rmul, nl_mm, pu_qe0, pu_qe1, r3, e6, es]
      all_goals try simp (maxSteps := 400000) (disch := omega) [nl_tle, nl_fle, nl_tlt, nl_flt, nl_teq, nl_feq, nl_sub, nl_ss, nl_lt, nl_llt, nl_ltt, nl_le, nl_lle, nl_lee, nl_eq, nl_leq, nl_ee, nl_div, nl_rem, nl_cl, nl_n1, nl_n2, nl_n3, nl_n4, nl_add, nl_ladd, nl_aa, nl_mul, nl_rmul, nl_mm, pu_wi_1, pu_wi_2, bX12_letter_0, bX12_letter_14, bX12_letter_17, bX12_letter_30, bX12_letter_45, a_ai, a_ald, a_cs, a_cv, a_dup2, a_gr, a_iadd, a_icne, a_ifeq, a_ifne, a_ild, a_iret, a_ist, a_push, a_wi, sh_71, sh_72, pu_rv, pu_as, Value.category, pu_bk, pu_kl, pu_qe0, pu_qe1, r3, e6, es]
      all_goals try simp [bX12_letter_0, bX12_letter_14, bX12_letter_17, bX12_letter_30, bX12_letter_45, a_ai, a_ald, a_cs, a_cv, a_dup2, a_gr, a_iadd, a_icne, a_ifeq, a_ifne, a_ild, a_iret, a_ist, a_push, a_wi, sh_71, sh_72, pu_rv, pu_as, Value.category, pu_bk, pu_kl, List.replicate, pu_wi_1, pu_wi_2, nl_add, nl_ladd, nl_aa, nl_mul, nl_rmul, nl_mm, pu_qe0, pu_qe1, r3, e6, es]
  by_cases he : cE (pu_si N 5) < 60
  rotate_left
  · obtain ⟨R, r1, r2, r3, hxR, SR⟩ := RG V v1.1 (fun a j _ c => v1.2 a j c)
    rw [r3q] at r3
    obtain ⟨v, es⟩ := RS V R r1 r2 hxR SR
    have e6 := r_isDay y R
    rw [pu_q1 hy] at e6
    have h10 := rl_h10 SR.2
    have e60 : cE (pu_si N 5) = 60 := by omega
    rw [e60, show nI 60 = (60 : Int32) from rfl] at h10 vE
    have h10' : (pu_wi R 71 21 v).1 72 10 = 60 := by rw [py_wi_o (by omega)]; exact h10
    have fR : (pu_wi R 71 21 v).2.2.1 71 0 = some 72 := fx_71_0 hxR
    generalize hW : pu_wi R 71 21 v = W at *
    refine ⟨-6, V, W, ?_, ?_, ST W R V v1.1 (fun a j c => v1.2 a j c) r1 SR (by rw [← hW]; rfl) (fun a j c => by rw [← hW]; exact py_wi_o (by omega))⟩
    · rw [qX11_letter]
      simp [a_ent, bX11_letter_0, bX11_letter_14, bX11_letter_17, bX11_letter_30, bX11_letter_48, a_ald, a_cs, a_cv, a_gi, a_gr, a_iclt, a_icne, a_ifeq, a_ifne, a_ild, a_iret, a_ist, a_push, sh_0, sh_45, sh_5, pu_rv, pu_as, Value.category, pu_bk, pu_kl, List.replicate, pu_wi_1, pu_wi_2, nl_add, nl_ladd, nl_aa, nl_mul, nl_rmul, nl_mm, pu_qe0, pu_qe1, n3, e5, v2, hm, f2, f6, vE]
      all_goals try simp (maxSteps := 400000) (disch := omega) [nl_tle, nl_fle, nl_tlt, nl_flt, nl_teq, nl_feq, nl_sub, nl_ss, nl_lt, nl_llt, nl_ltt, nl_le, nl_lle, nl_lee, nl_eq, nl_leq, nl_ee, nl_div, nl_rem, nl_cl, nl_n1, nl_n2, nl_n3, nl_n4, nl_add, nl_ladd, nl_aa, nl_mul, nl_rmul, nl_mm, pu_wi_1, pu_wi_2, bX11_letter_0, bX11_letter_14, bX11_letter_17, bX11_letter_30, bX11_letter_48, a_ald, a_cs, a_cv, a_gi, a_gr, a_iclt, a_icne, a_ifeq, a_ifne, a_ild, a_iret, a_ist, a_push, sh_0, sh_45, sh_5, pu_rv, pu_as, Value.category, pu_bk, pu_kl, pu_qe0, pu_qe1, n3, e5, v2, hm, f2, f6, vE]
      all_goals try simp [bX11_letter_0, bX11_letter_14, bX11_letter_17, bX11_letter_30, bX11_letter_48, a_ald, a_cs, a_cv, a_gi, a_gr, a_iclt, a_icne, a_ifeq, a_ifne, a_ild, a_iret, a_ist, a_push, sh_0, sh_45, sh_5, pu_rv, pu_as, Value.category, pu_bk, pu_kl, List.replicate, pu_wi_1, pu_wi_2, nl_add, nl_ladd, nl_aa, nl_mul, nl_rmul, nl_mm, pu_qe0, pu_qe1, n3, e5, v2, hm, f2, f6, vE]
      all_goals try simp (maxSteps := 400000) (disch := omega) [nl_tle, nl_fle, nl_tlt, nl_flt, nl_teq, nl_feq, nl_sub, nl_ss, nl_lt, nl_llt, nl_ltt, nl_le, nl_lle, nl_lee, nl_eq, nl_leq, nl_ee, nl_div, nl_rem, nl_cl, nl_n1, nl_n2, nl_n3, nl_n4, nl_add, nl_ladd, nl_aa, nl_mul, nl_rmul, nl_mm, pu_wi_1, pu_wi_2, bX11_letter_0, bX11_letter_14, bX11_letter_17, bX11_letter_30, bX11_letter_48, a_ald, a_cs, a_cv, a_gi, a_gr, a_iclt, a_icne, a_ifeq, a_ifne, a_ild, a_iret, a_ist, a_push, sh_0, sh_45, sh_5, pu_rv, pu_as, Value.category, pu_bk, pu_kl, pu_qe0, pu_qe1, n3, e5, v2, hm, f2, f6, vE]
      all_goals try simp [bX11_letter_0, bX11_letter_14, bX11_letter_17, bX11_letter_30, bX11_letter_48, a_ald, a_cs, a_cv, a_gi, a_gr, a_iclt, a_icne, a_ifeq, a_ifne, a_ild, a_iret, a_ist, a_push, sh_0, sh_45, sh_5, pu_rv, pu_as, Value.category, pu_bk, pu_kl, List.replicate, pu_wi_1, pu_wi_2, nl_add, nl_ladd, nl_aa, nl_mul, nl_rmul, nl_mm, pu_qe0, pu_qe1, n3, e5, v2, hm, f2, f6, vE]
      all_goals try simp (maxSteps := 400000) (disch := omega) [nl_tle, nl_fle, nl_tlt, nl_flt, nl_teq, nl_feq, nl_sub, nl_ss, nl_lt, nl_llt, nl_ltt, nl_le, nl_lle, nl_lee, nl_eq, nl_leq, nl_ee, nl_div, nl_rem, nl_cl, nl_n1, nl_n2, nl_n3, nl_n4, nl_add, nl_ladd, nl_aa, nl_mul, nl_rmul, nl_mm, pu_wi_1, pu_wi_2, bX11_letter_0, bX11_letter_14, bX11_letter_17, bX11_letter_30, bX11_letter_48, a_ald, a_cs, a_cv, a_gi, a_gr, a_iclt, a_icne, a_ifeq, a_ifne, a_ild, a_iret, a_ist, a_push, sh_0, sh_45, sh_5, pu_rv, pu_as, Value.category, pu_bk, pu_kl, pu_qe0, pu_qe1, n3, e5, v2, hm, f2, f6, vE]
      all_goals try simp [bX11_letter_0, bX11_letter_14, bX11_letter_17, bX11_letter_30, bX11_letter_48, a_ald, a_cs, a_cv, a_gi, a_gr, a_iclt, a_icne, a_ifeq, a_ifne, a_ild, a_iret, a_ist, a_push, sh_0, sh_45, sh_5, pu_rv, pu_as, Value.category, pu_bk, pu_kl, List.replicate, pu_wi_1, pu_wi_2, nl_add, nl_ladd, nl_aa, nl_mul, nl_rmul, nl_mm, pu_qe0, pu_qe1, n3, e5, v2, hm, f2, f6, vE]
    · rw [qX12_letter]
      simp [a_ent, bX12_letter_0, bX12_letter_14, bX12_letter_17, bX12_letter_30, bX12_letter_45, a_ai, a_ald, a_cs, a_cv, a_dup2, a_gr, a_iadd, a_icne, a_ifeq, a_ifne, a_ild, a_iret, a_ist, a_push, a_wi, sh_71, sh_72, pu_rv, pu_as, Value.category, pu_bk, pu_kl, List.replicate, pu_wi_1, pu_wi_2, nl_add, nl_ladd, nl_aa, nl_mul, nl_rmul, nl_mm, pu_qe0, pu_qe1, r3, e6, es, hm, fR, h10']
      all_goals try simp (maxSteps := 400000) (disch := omega) [nl_tle, nl_fle, nl_tlt, nl_flt, nl_teq, nl_feq, nl_sub, nl_ss, nl_lt, nl_llt, nl_ltt, nl_le, nl_lle, nl_lee, nl_eq, nl_leq, nl_ee, nl_div, nl_rem, nl_cl, nl_n1, nl_n2, nl_n3, nl_n4, nl_add, nl_ladd, nl_aa, nl_mul, nl_rmul, nl_mm, pu_wi_1, pu_wi_2, bX12_letter_0, bX12_letter_14, bX12_letter_17, bX12_letter_30, bX12_letter_45, a_ai, a_ald, a_cs, a_cv, a_dup2, a_gr, a_iadd, a_icne, a_ifeq, a_ifne, a_ild, a_iret, a_ist, a_push, a_wi, sh_71, sh_72, pu_rv, pu_as, Value.category, pu_bk, pu_kl, pu_qe0, pu_qe1, r3, e6, es, hm, fR, h10']
      all_goals try simp [bX12_letter_0, bX12_letter_14, bX12_letter_17, bX12_letter_30, bX12_letter_45, a_ai, a_ald, a_cs, a_cv, a_dup2, a_gr, a_iadd, a_icne, a_ifeq, a_ifne, a_ild, a_iret, a_ist, a_push, a_wi, sh_71, sh_72, pu_rv, pu_as, Value.category, pu_bk, pu_kl, List.replicate, pu_wi_1, pu_wi_2, nl_add, nl_ladd, nl_aa, nl_mul, nl_rmul, nl_mm, pu_qe0, pu_qe1, r3, e6, es, hm, fR, h10']
      all_goals try simp (maxSteps := 400000) (disch := omega) [nl_tle, nl_fle, nl_tlt, nl_flt, nl_teq, nl_feq, nl_sub, nl_ss, nl_lt, nl_llt, nl_ltt, nl_le, nl_lle, nl_lee, nl_eq, nl_leq, nl_ee, nl_div, nl_rem, nl_cl, nl_n1, nl_n2, nl_n3, nl_n4, nl_add, nl_ladd, nl_aa, nl_mul, nl_rmul, nl_mm, pu_wi_1, pu_wi_2, bX12_letter_0, bX12_letter_14, bX12_letter_17, bX12_letter_30, bX12_letter_45, a_ai, a_ald, a_cs, a_cv, a_dup2, a_gr, a_iadd, a_icne, a_ifeq, a_ifne, a_ild, a_iret, a_ist, a_push, a_wi, sh_71, sh_72, pu_rv, pu_as, Value.category, pu_bk, pu_kl, pu_qe0, pu_qe1, r3, e6, es, hm, fR, h10']
      all_goals try simp [bX12_letter_0, bX12_letter_14, bX12_letter_17, bX12_letter_30, bX12_letter_45, a_ai, a_ald, a_cs, a_cv, a_dup2, a_gr, a_iadd, a_icne, a_ifeq, a_ifne, a_ild, a_iret, a_ist, a_push, a_wi, sh_71, sh_72, pu_rv, pu_as, Value.category, pu_bk, pu_kl, List.replicate, pu_wi_1, pu_wi_2, nl_add, nl_ladd, nl_aa, nl_mul, nl_rmul, nl_mm, pu_qe0, pu_qe1, r3, e6, es, hm, fR, h10']
      all_goals try simp (maxSteps := 400000) (disch := omega) [nl_tle, nl_fle, nl_tlt, nl_flt, nl_teq, nl_feq, nl_sub, nl_ss, nl_lt, nl_llt, nl_ltt, nl_le, nl_lle, nl_lee, nl_eq, nl_leq, nl_ee, nl_div, nl_rem, nl_cl, nl_n1, nl_n2, nl_n3, nl_n4, nl_add, nl_ladd, nl_aa, nl_mul, nl_rmul, nl_mm, pu_wi_1, pu_wi_2, bX12_letter_0, bX12_letter_14, bX12_letter_17, bX12_letter_30, bX12_letter_45, a_ai, a_ald, a_cs, a_cv, a_dup2, a_gr, a_iadd, a_icne, a_ifeq, a_ifne, a_ild, a_iret, a_ist, a_push, a_wi, sh_71, sh_72, pu_rv, pu_as, Value.category, pu_bk, pu_kl, pu_qe0, pu_qe1, r3, e6, es, hm, fR, h10']
      all_goals try simp [bX12_letter_0, bX12_letter_14, bX12_letter_17, bX12_letter_30, bX12_letter_45, a_ai, a_ald, a_cs, a_cv, a_dup2, a_gr, a_iadd, a_icne, a_ifeq, a_ifne, a_ild, a_iret, a_ist, a_push, a_wi, sh_71, sh_72, pu_rv, pu_as, Value.category, pu_bk, pu_kl, List.replicate, pu_wi_1, pu_wi_2, nl_add, nl_ladd, nl_aa, nl_mul, nl_rmul, nl_mm, pu_qe0, pu_qe1, r3, e6, es, hm, fR, h10']
  -- a letter more
  have A : pu_r 211 [some (.ref 45), some (.int rr)] [] V = some (some (.int (nI (cE (pu_si N 5) + 1))), pu_wi (pu_wi V 55 (cE (pu_si N 5)) rr) 45 6 (nI (cE (pu_si N 5) + 1))) := by
    have hx := hxV
    rw [qX1_addLetter]
    simp [a_ent, bX1_addLetter_0, bX1_addLetter_29, a_ald, a_dup, a_gi, a_gr, a_iadd, a_icge, a_ild, a_iret, a_pi, a_push, a_wi, fx_45_17 hx, sh_45, sh_55, pu_rv, pu_as, Value.category, pu_bk, pu_kl, List.replicate, pu_wi_1, pu_wi_2, nl_add, nl_ladd, nl_aa, nl_mul, nl_rmul, nl_mm, pu_qe0, pu_qe1, vE, he]
    all_goals try simp (maxSteps := 400000) (disch := omega) [nl_tle, nl_fle, nl_tlt, nl_flt, nl_teq, nl_feq, nl_sub, nl_ss, nl_lt, nl_llt, nl_ltt, nl_le, nl_lle, nl_lee, nl_eq, nl_leq, nl_ee, nl_div, nl_rem, nl_cl, nl_n1, nl_n2, nl_n3, nl_n4, nl_add, nl_ladd, nl_aa, nl_mul, nl_rmul, nl_mm, pu_wi_1, pu_wi_2, bX1_addLetter_0, bX1_addLetter_29, a_ald, a_dup, a_gi, a_gr, a_iadd, a_icge, a_ild, a_iret, a_pi, a_push, a_wi, fx_45_17 hx, sh_45, sh_55, pu_rv, pu_as, Value.category, pu_bk, pu_kl, pu_qe0, pu_qe1, vE, he]
    all_goals try simp [bX1_addLetter_0, bX1_addLetter_29, a_ald, a_dup, a_gi, a_gr, a_iadd, a_icge, a_ild, a_iret, a_pi, a_push, a_wi, fx_45_17 hx, sh_45, sh_55, pu_rv, pu_as, Value.category, pu_bk, pu_kl, List.replicate, pu_wi_1, pu_wi_2, nl_add, nl_ladd, nl_aa, nl_mul, nl_rmul, nl_mm, pu_qe0, pu_qe1, vE, he]
    all_goals try simp (maxSteps := 400000) (disch := omega) [nl_tle, nl_fle, nl_tlt, nl_flt, nl_teq, nl_feq, nl_sub, nl_ss, nl_lt, nl_llt, nl_ltt, nl_le, nl_lle, nl_lee, nl_eq, nl_leq, nl_ee, nl_div, nl_rem, nl_cl, nl_n1, nl_n2, nl_n3, nl_n4, nl_add, nl_ladd, nl_aa, nl_mul, nl_rmul, nl_mm, pu_wi_1, pu_wi_2, bX1_addLetter_0, bX1_addLetter_29, a_ald, a_dup, a_gi, a_gr, a_iadd, a_icge, a_ild, a_iret, a_pi, a_push, a_wi, fx_45_17 hx, sh_45, sh_55, pu_rv, pu_as, Value.category, pu_bk, pu_kl, pu_qe0, pu_qe1, vE, he]
    all_goals try simp [bX1_addLetter_0, bX1_addLetter_29, a_ald, a_dup, a_gi, a_gr, a_iadd, a_icge, a_ild, a_iret, a_pi, a_push, a_wi, fx_45_17 hx, sh_45, sh_55, pu_rv, pu_as, Value.category, pu_bk, pu_kl, List.replicate, pu_wi_1, pu_wi_2, nl_add, nl_ladd, nl_aa, nl_mul, nl_rmul, nl_mm, pu_qe0, pu_qe1, vE, he]
    all_goals try simp (maxSteps := 400000) (disch := omega) [nl_tle, nl_fle, nl_tlt, nl_flt, nl_teq, nl_feq, nl_sub, nl_ss, nl_lt, nl_llt, nl_ltt, nl_le, nl_lle, nl_lee, nl_eq, nl_leq, nl_ee, nl_div, nl_rem, nl_cl, nl_n1, nl_n2, nl_n3, nl_n4, nl_add, nl_ladd, nl_aa, nl_mul, nl_rmul, nl_mm, pu_wi_1, pu_wi_2, bX1_addLetter_0, bX1_addLetter_29, a_ald, a_dup, a_gi, a_gr, a_iadd, a_icge, a_ild, a_iret, a_pi, a_push, a_wi, fx_45_17 hx, sh_45, sh_55, pu_rv, pu_as, Value.category, pu_bk, pu_kl, pu_qe0, pu_qe1, vE, he]
    all_goals try simp [bX1_addLetter_0, bX1_addLetter_29, a_ald, a_dup, a_gi, a_gr, a_iadd, a_icge, a_ild, a_iret, a_pi, a_push, a_wi, fx_45_17 hx, sh_45, sh_55, pu_rv, pu_as, Value.category, pu_bk, pu_kl, List.replicate, pu_wi_1, pu_wi_2, nl_add, nl_ladd, nl_aa, nl_mul, nl_rmul, nl_mm, pu_qe0, pu_qe1, vE, he]
  have he' : nI (cE (pu_si N 5)) < 60 := nI_lt (b := 60) he (by omega)
  obtain ⟨Q, hQ⟩ : ∃ Q, Q = pu_wi (pu_wi V 55 (cE (pu_si N 5)) rr) 45 6 (nI (cE (pu_si N 5) + 1)) := ⟨_, rfl⟩
  rw [← hQ] at A
  have Qo : ∀ a j, ¬ (a = 45 ∧ j = 6) → ¬ (a = 55 ∧ j = cE (pu_si N 5)) → Q.1 a j = V.1 a j := fun a j c1 c2 => by rw [hQ, py_wi_o c1, py_wi_o c2]
  have Q2 : Q.2 = N.2 := by rw [hQ]; exact v1.1
  have Q6 : Q.1 45 6 = nI (cE (pu_si N 5) + 1) := by rw [hQ]; simp [pu_wi_1]
  have Q55 : Q.1 55 (cE (pu_si N 5)) = rr := by rw [hQ, py_wi_o (by omega)]; simp [pu_wi_1]
  obtain ⟨R, r1, r2, r3, hxR, SR⟩ := RG Q Q2 (fun a j c d => by rw [Qo a j (by omega) (by omega)]; exact v1.2 a j d)
  rw [r3q] at r3
  obtain ⟨v, es⟩ := RS Q R r1 r2 hxR SR
  have e6 := r_isDay y R
  rw [pu_q1 hy] at e6
  have h10 := rl_h10 SR.2
  have h10' : (pu_wi R 71 21 v).1 72 10 = nI (cE (pu_si N 5)) := by rw [py_wi_o (by omega)]; exact h10
  have W2 : (pu_wi R 71 21 v).2 = R.2 := rfl
  have Wo : ∀ a j, ¬ (a = 71 ∧ j = 21) → (pu_wi R 71 21 v).1 a j = R.1 a j := fun a j c => py_wi_o c
  generalize hW : pu_wi R 71 21 v = W at *
  have hxW : pu_fx W := pz_fx_of hxR W2
  have fR := fx_71_0 hxW
  have n60 : ¬ nI (cE (pu_si N 5)) = 60 := fun z => by
    rw [show (60 : Int32) = nI 60 from rfl, nI_eq (by omega) (by omega)] at z
    omega
  refine ⟨nI (cE (pu_si N 5) + 1), Q, pu_wi (pu_wi W 72 (59528 + cE (pu_si N 5)) rr) 72 10 (nI (cE (pu_si N 5) + 1)), ?_, ?_, ?_⟩
  · rw [qX11_letter]
    simp [a_ent, bX11_letter_0, bX11_letter_14, bX11_letter_17, bX11_letter_30, bX11_letter_48, a_ald, a_cs, a_cv, a_gi, a_gr, a_iclt, a_icne, a_ifeq, a_ifne, a_ild, a_iret, a_ist, a_push, sh_0, sh_45, sh_5, pu_rv, pu_as, Value.category, pu_bk, pu_kl, List.replicate, pu_wi_1, pu_wi_2, nl_add, nl_ladd, nl_aa, nl_mul, nl_rmul, nl_mm, pu_qe0, pu_qe1, n3, e5, v2, hm, f2, f6, vE, he', he, A]
    all_goals try simp (maxSteps := 400000) (disch := omega) [nl_tle, nl_fle, nl_tlt, nl_flt, nl_teq, nl_feq, nl_sub, nl_ss, nl_lt, nl_llt, nl_ltt, nl_le, nl_lle, nl_lee, nl_eq, nl_leq, nl_ee, nl_div, nl_rem, nl_cl, nl_n1, nl_n2, nl_n3, nl_n4, nl_add, nl_ladd, nl_aa, nl_mul, nl_rmul, nl_mm, pu_wi_1, pu_wi_2, bX11_letter_0, bX11_letter_14, bX11_letter_17, bX11_letter_30, bX11_letter_48, a_ald, a_cs, a_cv, a_gi, a_gr, a_iclt, a_icne, a_ifeq, a_ifne, a_ild, a_iret, a_ist, a_push, sh_0, sh_45, sh_5, pu_rv, pu_as, Value.category, pu_bk, pu_kl, pu_qe0, pu_qe1, n3, e5, v2, hm, f2, f6, vE, he', he, A]
    all_goals try simp [bX11_letter_0, bX11_letter_14, bX11_letter_17, bX11_letter_30, bX11_letter_48, a_ald, a_cs, a_cv, a_gi, a_gr, a_iclt, a_icne, a_ifeq, a_ifne, a_ild, a_iret, a_ist, a_push, sh_0, sh_45, sh_5, pu_rv, pu_as, Value.category, pu_bk, pu_kl, List.replicate, pu_wi_1, pu_wi_2, nl_add, nl_ladd, nl_aa, nl_mul, nl_rmul, nl_mm, pu_qe0, pu_qe1, n3, e5, v2, hm, f2, f6, vE, he', he, A]
    all_goals try simp (maxSteps := 400000) (disch := omega) [nl_tle, nl_fle, nl_tlt, nl_flt, nl_teq, nl_feq, nl_sub, nl_ss, nl_lt, nl_llt, nl_ltt, nl_le, nl_lle, nl_lee, nl_eq, nl_leq, nl_ee, nl_div, nl_rem, nl_cl, nl_n1, nl_n2, nl_n3, nl_n4, nl_add, nl_ladd, nl_aa, nl_mul, nl_rmul, nl_mm, pu_wi_1, pu_wi_2, bX11_letter_0, bX11_letter_14, bX11_letter_17, bX11_letter_30, bX11_letter_48, a_ald, a_cs, a_cv, a_gi, a_gr, a_iclt, a_icne, a_ifeq, a_ifne, a_ild, a_iret, a_ist, a_push, sh_0, sh_45, sh_5, pu_rv, pu_as, Value.category, pu_bk, pu_kl, pu_qe0, pu_qe1, n3, e5, v2, hm, f2, f6, vE, he', he, A]
    all_goals try simp [bX11_letter_0, bX11_letter_14, bX11_letter_17, bX11_letter_30, bX11_letter_48, a_ald, a_cs, a_cv, a_gi, a_gr, a_iclt, a_icne, a_ifeq, a_ifne, a_ild, a_iret, a_ist, a_push, sh_0, sh_45, sh_5, pu_rv, pu_as, Value.category, pu_bk, pu_kl, List.replicate, pu_wi_1, pu_wi_2, nl_add, nl_ladd, nl_aa, nl_mul, nl_rmul, nl_mm, pu_qe0, pu_qe1, n3, e5, v2, hm, f2, f6, vE, he', he, A]
    all_goals try simp (maxSteps := 400000) (disch := omega) [nl_tle, nl_fle, nl_tlt, nl_flt, nl_teq, nl_feq, nl_sub, nl_ss, nl_lt, nl_llt, nl_ltt, nl_le, nl_lle, nl_lee, nl_eq, nl_leq, nl_ee, nl_div, nl_rem, nl_cl, nl_n1, nl_n2, nl_n3, nl_n4, nl_add, nl_ladd, nl_aa, nl_mul, nl_rmul, nl_mm, pu_wi_1, pu_wi_2, bX11_letter_0, bX11_letter_14, bX11_letter_17, bX11_letter_30, bX11_letter_48, a_ald, a_cs, a_cv, a_gi, a_gr, a_iclt, a_icne, a_ifeq, a_ifne, a_ild, a_iret, a_ist, a_push, sh_0, sh_45, sh_5, pu_rv, pu_as, Value.category, pu_bk, pu_kl, pu_qe0, pu_qe1, n3, e5, v2, hm, f2, f6, vE, he', he, A]
    all_goals try simp [bX11_letter_0, bX11_letter_14, bX11_letter_17, bX11_letter_30, bX11_letter_48, a_ald, a_cs, a_cv, a_gi, a_gr, a_iclt, a_icne, a_ifeq, a_ifne, a_ild, a_iret, a_ist, a_push, sh_0, sh_45, sh_5, pu_rv, pu_as, Value.category, pu_bk, pu_kl, List.replicate, pu_wi_1, pu_wi_2, nl_add, nl_ladd, nl_aa, nl_mul, nl_rmul, nl_mm, pu_qe0, pu_qe1, n3, e5, v2, hm, f2, f6, vE, he', he, A]
  · rw [qX12_letter]
    simp [a_ent, bX12_letter_0, bX12_letter_14, bX12_letter_17, bX12_letter_30, bX12_letter_45, a_ai, a_ald, a_cs, a_cv, a_dup2, a_gr, a_iadd, a_icne, a_ifeq, a_ifne, a_ild, a_iret, a_ist, a_push, a_wi, sh_71, sh_72, pu_rv, pu_as, Value.category, pu_bk, pu_kl, List.replicate, pu_wi_1, pu_wi_2, nl_add, nl_ladd, nl_aa, nl_mul, nl_rmul, nl_mm, pu_qe0, pu_qe1, r3, e6, es, hm, fR, h10', n60]
    all_goals try simp (maxSteps := 400000) (disch := omega) [nl_tle, nl_fle, nl_tlt, nl_flt, nl_teq, nl_feq, nl_sub, nl_ss, nl_lt, nl_llt, nl_ltt, nl_le, nl_lle, nl_lee, nl_eq, nl_leq, nl_ee, nl_div, nl_rem, nl_cl, nl_n1, nl_n2, nl_n3, nl_n4, nl_add, nl_ladd, nl_aa, nl_mul, nl_rmul, nl_mm, pu_wi_1, pu_wi_2, bX12_letter_0, bX12_letter_14, bX12_letter_17, bX12_letter_30, bX12_letter_45, a_ai, a_ald, a_cs, a_cv, a_dup2, a_gr, a_iadd, a_icne, a_ifeq, a_ifne, a_ild, a_iret, a_ist, a_push, a_wi, sh_71, sh_72, pu_rv, pu_as, Value.category, pu_bk, pu_kl, pu_qe0, pu_qe1, r3, e6, es, hm, fR, h10', n60]
    all_goals try simp [bX12_letter_0, bX12_letter_14, bX12_letter_17, bX12_letter_30, bX12_letter_45, a_ai, a_ald, a_cs, a_cv, a_dup2, a_gr, a_iadd, a_icne, a_ifeq, a_ifne, a_ild, a_iret, a_ist, a_push, a_wi, sh_71, sh_72, pu_rv, pu_as, Value.category, pu_bk, pu_kl, List.replicate, pu_wi_1, pu_wi_2, nl_add, nl_ladd, nl_aa, nl_mul, nl_rmul, nl_mm, pu_qe0, pu_qe1, r3, e6, es, hm, fR, h10', n60]
    all_goals try simp (maxSteps := 400000) (disch := omega) [nl_tle, nl_fle, nl_tlt, nl_flt, nl_teq, nl_feq, nl_sub, nl_ss, nl_lt, nl_llt, nl_ltt, nl_le, nl_lle, nl_lee, nl_eq, nl_leq, nl_ee, nl_div, nl_rem, nl_cl, nl_n1, nl_n2, nl_n3, nl_n4, nl_add, nl_ladd, nl_aa, nl_mul, nl_rmul, nl_mm, pu_wi_1, pu_wi_2, bX12_letter_0, bX12_letter_14, bX12_letter_17, bX12_letter_30, bX12_letter_45, a_ai, a_ald, a_cs, a_cv, a_dup2, a_gr, a_iadd, a_icne, a_ifeq, a_ifne, a_ild, a_iret, a_ist, a_push, a_wi, sh_71, sh_72, pu_rv, pu_as, Value.category, pu_bk, pu_kl, pu_qe0, pu_qe1, r3, e6, es, hm, fR, h10', n60]
    all_goals try simp [bX12_letter_0, bX12_letter_14, bX12_letter_17, bX12_letter_30, bX12_letter_45, a_ai, a_ald, a_cs, a_cv, a_dup2, a_gr, a_iadd, a_icne, a_ifeq, a_ifne, a_ild, a_iret, a_ist, a_push, a_wi, sh_71, sh_72, pu_rv, pu_as, Value.category, pu_bk, pu_kl, List.replicate, pu_wi_1, pu_wi_2, nl_add, nl_ladd, nl_aa, nl_mul, nl_rmul, nl_mm, pu_qe0, pu_qe1, r3, e6, es, hm, fR, h10', n60]
    all_goals try simp (maxSteps := 400000) (disch := omega) [nl_tle, nl_fle, nl_tlt, nl_flt, nl_teq, nl_feq, nl_sub, nl_ss, nl_lt, nl_llt, nl_ltt, nl_le, nl_lle, nl_lee, nl_eq, nl_leq, nl_ee, nl_div, nl_rem, nl_cl, nl_n1, nl_n2, nl_n3, nl_n4, nl_add, nl_ladd, nl_aa, nl_mul, nl_rmul, nl_mm, pu_wi_1, pu_wi_2, bX12_letter_0, bX12_letter_14, bX12_letter_17, bX12_letter_30, bX12_letter_45, a_ai, a_ald, a_cs, a_cv, a_dup2, a_gr, a_iadd, a_icne, a_ifeq, a_ifne, a_ild, a_iret, a_ist, a_push, a_wi, sh_71, sh_72, pu_rv, pu_as, Value.category, pu_bk, pu_kl, pu_qe0, pu_qe1, r3, e6, es, hm, fR, h10', n60]
    all_goals try simp [bX12_letter_0, bX12_letter_14, bX12_letter_17, bX12_letter_30, bX12_letter_45, a_ai, a_ald, a_cs, a_cv, a_dup2, a_gr, a_iadd, a_icne, a_ifeq, a_ifne, a_ild, a_iret, a_ist, a_push, a_wi, sh_71, sh_72, pu_rv, pu_as, Value.category, pu_bk, pu_kl, List.replicate, pu_wi_1, pu_wi_2, nl_add, nl_ladd, nl_aa, nl_mul, nl_rmul, nl_mm, pu_qe0, pu_qe1, r3, e6, es, hm, fR, h10', n60]
  · have J5 : ∀ a j, a ≠ 72 → ¬ (a = 71 ∧ (j = 21 ∨ j = 22)) → (pu_wi (pu_wi W 72 (59528 + cE (pu_si N 5)) rr) 72 10 (nI (cE (pu_si N 5) + 1))).1 a j = R.1 a j := fun a j c1 c2 => by rw [py_wi_o (by omega), py_wi_o (by omega), Wo a j (by omega)]
    have JQ : ∀ a j, 5 ≤ a → a < 58 → pu_si (pu_wi (pu_wi W 72 (59528 + cE (pu_si N 5)) rr) 72 10 (nI (cE (pu_si N 5) + 1))) 5 a j = Q.1 a j := fun a j c1 c2 => by rw [← pu_ag5 _ a j c1 c2, J5 a j (by omega) (by omega), r1.2.1 a j (by omega) (by omega) (by omega) (by omega) (by omega)]
    refine py_Inv_ad h n1 Q2 (fun a j c d => by rw [Qo a j (by omega) (by omega)]; exact v1.2 a j d) r1 W2 (fun a j _ c d => J5 a j c d) ?_
    rw [show pu_sj (pu_wi (pu_wi W 72 (59528 + cE (pu_si N 5)) rr) 72 10 (nI (cE (pu_si N 5) + 1))) 5 = pu_sj M 5 from pu_sj_eq (fun a j h1 h2 => by show W.2.1 a j = _; rw [W2, r1.1, Q2, m4 a j (by omega) (by omega)])]
    refine St_letter (v := rr) SR he (fun a j c1 c2 => ?_) ?_ ?_ (fun j c1 c2 => ?_) ?_ ?_
    · by_cases z : 5 ≤ a ∧ a < 58
      · rw [JQ a j z.1 z.2, Qo a j c1 c2, v1.2 a j (by omega)]
        exact hIN a j z.1 z.2
      · unfold pu_si
        rw [if_neg z, if_neg z]
    · rw [JQ 45 6 (by omega) (by omega)]; exact Q6
    · rw [JQ 55 _ (by omega) (by omega)]; exact Q55
    · rw [py_wi_o (by omega), py_wi_o (by omega), Wo 72 j (by omega)]
    · simp [pu_wi_1]
    · rw [py_wi_o (by omega)]
      simp [pu_wi_1]
