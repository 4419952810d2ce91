/-! call, both sides -/
section
variable {I J : Nat → Nat → Int32} {L : Nat → Nat → Int64} {s s' : Nat → Int32}
theorem py_sv_T (hw : pu_WF I L) {nm tw : Nat → Int64} {w x k Y i j d y : Nat} (hw0 : 0 < w) (hwl : w < 2147483648) (t : py_tT I L nm tw w x k Y i j d y) (g : ∀ e, e < d → ¬ py_tT I L nm tw w x k Y i j e y) : py_sv I L nm tw w x k (nI y) = nI d := by
  obtain ⟨⟨hi, hj, hd, hy⟩, a, b, c, e⟩ := id t
  have bK := wx_bK hw
  have bU := wx_bU hw
  have s := pu_on (x := I 20 i) (n := cK I) ⟨(wx_ns hw i hi).1, (wx_ns hw i hi).2⟩
  have s2 := s.2
  have ss := py_ss_of hw hi a
  have n1 : ¬ I 20 i = -1 := fun z => by rw [s.1, nl_n1 _ (by omega)] at z; exact z
  have f1 : py_u1 I (I 20 i) w (nI y) = nI j := by
    unfold py_u1
    rcases pu_f1_spec (py_uN I (I 20 i) w (nI y)) (cU I) 0 with ⟨_, r⟩ | ⟨l, _, hl, r, r2, _⟩
    · exact absurd b (r j (by omega) (by omega))
    · rw [r]
      rw [s.1] at r2 b
      rw [py_uN_u hw s2 hw0 hwl (by omega) hj r2 b]
  have n2 : ¬ nI j = -1 := fun z => by rw [nl_n1 _ (by omega)] at z; exact z
  unfold py_sv
  rw [ss, if_neg n1, f1, if_neg n2, nl_cl _ (by omega)]
  unfold py_td
  rcases pu_f1_spec (fun d => py_tl I x k (pu_sl0 I j / 2) d ∧ pu_sd I d (nI y)) (cD I) 0 with ⟨_, r⟩ | ⟨l, _, hl, r, r2, r3⟩
  · exact absurd ⟨c, e⟩ (r d (by omega) (by omega))
  · rw [r]
    rcases Nat.lt_trichotomy l d with h | h | h
    · exact absurd ⟨⟨hi, hj, by omega, hy⟩, a, b, r2.1, r2.2⟩ (g l h)
    · rw [h]
    · exact absurd ⟨c, e⟩ (r3 d (by omega) h)
theorem py_sv_F (hw : pu_WF I L) {nm tw : Nat → Int64} {w x k Y y : Nat} (hy : y < Y) (h : py_sv I L nm tw w x k (nI y) ≠ -1) : ∃ i j d, py_tT I L nm tw w x k Y i j d y := by
  have bU := wx_bU hw
  unfold py_sv at h
  by_cases c1 : py_ss I L nm tw (nI y) = -1
  · rw [if_pos c1] at h
    exact absurd rfl h
  · rw [if_neg c1] at h
    by_cases c2 : py_u1 I (py_ss I L nm tw (nI y)) w (nI y) = -1
    · rw [if_pos c2] at h
      exact absurd rfl h
    · rw [if_neg c2] at h
      rcases py_ss_s hw nm tw (nI y) with ⟨q, _⟩ | ⟨i, i1, i2, i3⟩
      · exact absurd q c1
      · rw [i3] at h c2
        unfold py_u1 at h c2
        rcases pu_f1_spec (py_uN I (I 20 i) w (nI y)) (cU I) 0 with ⟨r, _⟩ | ⟨j, _, hj, r, r2, _⟩
        · exact absurd r c2
        · rw [r, nl_cl _ (by omega)] at h
          unfold py_td at h
          rcases pu_f1_spec (fun d => py_tl I x k (pu_sl0 I j / 2) d ∧ pu_sd I d (nI y)) (cD I) 0 with ⟨q, _⟩ | ⟨d, _, hd, q, q2, _⟩
          · exact absurd q h
          · exact ⟨i, j, d, ⟨i1, by omega, by omega, hy⟩, i2, r2, q2.1, q2.2⟩
/-- what the class found is what the days say -/
theorem py_tV_e (hw : pu_WF I L) {nm tw : Nat → Int64} {w x k Y : Nat} (hY : Y ≤ 109574) (hw0 : 0 < w) (hwl : w < 2147483648) {od oo : Int32} (h : py_tV I L nm tw w x k Y (fun _ _ _ => True) od oo) : (oo = -1 ∧ ∀ d, d < Y → py_sv I L nm tw w x k (nI d) = -1) ∨ ∃ y, y < Y ∧ od = nI y ∧ oo ≠ -1 ∧ oo = py_sv I L nm tw w x k (nI y) ∧ ∀ e, y < e → e < Y → py_sv I L nm tw w x k (nI e) = -1 := by
  have bD := wx_bD hw
  rcases h.2 with ⟨a, b⟩ | ⟨i, j, d, y, t, a, b, c⟩
  · refine Or.inl ⟨b, fun d hd => Classical.byContradiction (fun z => ?_)⟩
    obtain ⟨i, j, e, t⟩ := py_sv_F hw hd z
    have := h.1 i j e d trivial t
    rw [a] at this
    have m1 : (-1 : Int32).toInt = -1 := by decide
    omega
  · have yY := t.1.2.2.2
    have dD := t.1.2.2.1
    refine Or.inr ⟨y, yY, a, ?_, ?_, fun e h1 h2 => Classical.byContradiction (fun z => ?_)⟩
    · rw [b]
      exact fun z => by rw [nl_n1 _ (by omega)] at z; exact z
    · rw [b, py_sv_T hw hw0 hwl t c]
    · obtain ⟨i', j', e', t'⟩ := py_sv_F hw h2 z
      have := h.1 i' j' e' e trivial t'
      rw [a, nl_n0 (a := y) (by omega)] at this
      omega
theorem St_ended (h : pu_St I L s) (F : ∀ x j, ¬ (x = 45 ∧ j = 1) → J x j = I x j) (G : ∀ j, j ≠ 16 → s' j = s j) (g : s' 16 = J 45 1) : pu_St J L s' := by
  have hw := h.1
  have hr := h.2
  have bQ := wx_bQ hw
  have bR := wx_bR hw
  have bS := wx_bS hw
  have bW := wx_bW hw
  have bO := wx_bO hw
  have bE := wx_bE hw
  have cE' : cE J = cE I := by unfold cE; rw [F 45 6 (by omega)]
  have cQ' : cQ J = cQ I := by unfold cQ; rw [F 45 2 (by omega)]
  have cR' : cR J = cR I := by unfold cR; rw [F 45 3 (by omega)]
  have cS' : cS J = cS I := by unfold cS; rw [F 45 4 (by omega)]
  have cW' : cW J = cW I := by unfold cW; rw [F 45 5 (by omega)]
  have cO' : cO J = cO I := by unfold cO; rw [F 45 7 (by omega)]
  rw [pu_dk_e (I := I) (I' := J) (fun a j ha => F a j (by omega))]
  refine St_desk h (fun j hj => G j (by omega)) ⟨⟨?_, ?_, ?_, ?_, ?_, ?_⟩, ⟨by omega, by omega, by omega, by omega, by omega, by omega⟩, fun k hk => ?_, fun a b hab hb => ?_⟩ ⟨?_, ?_, ?_, ?_, ?_, ?_, ?_, ?_⟩ ⟨fun k hk => ?_, fun k hk => ?_, fun k hk => ?_, fun k hk => ?_, fun k hk => ?_, fun k hk => ?_, fun k hk => ?_, fun k hk => ?_, fun k hk => ?_, fun k hk => ?_⟩
  · rw [F 45 2 (by omega), cQ']; exact wx_cQ hw
  · rw [F 45 3 (by omega), cR']; exact wx_cR hw
  · rw [F 45 4 (by omega), cS']; exact wx_cS hw
  · rw [F 45 5 (by omega), cW']; exact wx_cW hw
  · rw [F 45 6 (by omega), cE']; exact wx_cE hw
  · rw [F 45 7 (by omega), cO']; exact wx_cO hw
  · rw [cS'] at hk
    rw [F 53 k (by omega)]; exact wx_es hw k hk
  · rw [cW'] at hb
    rw [F 54 a (by omega), F 54 b (by omega)]; exact wx_ew hw a b hab hb
  · rw [G 9 (by omega), cS']; exact rl_h9 hr
  · rw [G 10 (by omega), cE']; exact rl_h10 hr
  · rw [G 11 (by omega), cQ']; exact rl_h11 hr
  · rw [G 12 (by omega), cW']; exact rl_h12 hr
  · rw [G 13 (by omega), cO']; exact rl_h13 hr
  · rw [G 14 (by omega), cR']; exact rl_h14 hr
  · rw [G 15 (by omega), F 45 0 (by omega)]; exact rl_h15 hr
  · exact g
  · rw [cS'] at hk
    rw [G _ (by omega), F 52 k (by omega)]; exact rl_eS0 hr k hk
  · rw [cS'] at hk
    rw [G _ (by omega), F 53 k (by omega)]; exact rl_eS1 hr k hk
  · rw [cE'] at hk
    rw [G _ (by omega), F 55 k (by omega)]; exact rl_eE hr k hk
  · rw [cQ'] at hk
    rw [G _ (by omega), F 46 k (by omega)]; exact rl_eQ0 hr k hk
  · rw [cQ'] at hk
    rw [G _ (by omega), F 47 k (by omega)]; exact rl_eQ1 hr k hk
  · rw [cW'] at hk
    rw [G _ (by omega), F 54 k (by omega)]; exact rl_eW hr k hk
  · rw [cO'] at hk
    rw [G _ (by omega), F 56 k (by omega)]; exact rl_eO0 hr k hk
  · rw [cO'] at hk
    rw [G _ (by omega), F 57 k (by omega)]; exact rl_eO1 hr k hk
  · rw [cR'] at hk
    rw [G _ (by omega), F 49 k (by omega)]; exact rl_eR0 hr k hk
  · rw [cR'] at hk
    rw [G _ (by omega), F 50 k (by omega)]; exact rl_eR1 hr k hk
end
/-- behind an address, the class's own object (cell 0) changed too -/
theorem py_Inv_a0 {M N Q R F : pu_M} {fl : Int32} (h : pu_Inv M) (n : py_cA M N fl) (q2 : Q.2 = N.2) (qf : ∀ a j, a ≠ 0 → ¬ (5 ≤ a ∧ a < 58) → ¬ (62 ≤ a ∧ a ≤ 68) → Q.1 a j = N.1 a j) (r : py_cB Q R fl) (f2 : F.2 = R.2) (ff : ∀ a j, a ≤ 77 ∨ 86 ≤ a → a ≠ 72 → ¬ (a = 71 ∧ (j = 21 ∨ j = 22)) → F.1 a j = R.1 a j) (hS : pu_St (pu_si F 5) (pu_sj F 5) (F.1 72)) : pu_Inv F := by
  obtain ⟨n1, n2, n3, n4, n5, n6, n7⟩ := n
  obtain ⟨r1, r2, r3, r4⟩ := r
  have E2 : F.2 = N.2 := by rw [f2, r1, q2]
  have C : ∀ a j, a ≠ 0 → a ≤ 77 ∨ 86 ≤ a → a ≠ 72 → a ≠ 59 → a ≠ 76 → ¬ (a = 71 ∧ (j = 4 ∨ j = 6 ∨ j = 17 ∨ j = 18 ∨ j = 19 ∨ j = 20 ∨ j = 21 ∨ j = 22)) → ¬ (5 ≤ a ∧ a < 58) → ¬ (62 ≤ a ∧ a ≤ 68) → F.1 a j = N.1 a j := fun a j c0 c1 c2 c3 c4 c5 c6 c7 => by
    rw [ff a j c1 c2 (by omega), r2 a j (by omega) c4 (by omega) (by omega) (by omega), qf a j c0 c6 c7]
  refine py_Inv_tk h (pz_fx_of n6 E2) (by rw [E2, n1]) (fun a j ha => by rw [E2, n2 a j (by omega)]) (fun a j ha => by rw [E2, n4 a j (by omega) (by omega)]) ?_ ?_ (fun a j ha => ?_) hS
  · rw [C 1 0 (by omega) (by omega) (by omega) (by omega) (by omega) (by omega) (by omega) (by omega)]
    exact n5
  · rw [ff 71 4 (by omega) (by omega) (by omega)]
    exact r3
  · rw [C a j (by omega) (by omega) (by omega) (by omega) (by omega) (by omega) (by omega) (by omega), n3 a j (by omega) (by omega) (by omega)]
set_option maxRecDepth 8000 in
theorem op_call (y : Int32) : pu_op pu_Inv 190 327 [.int y] := by
  intro M h
  have hx := h.1
  have hI := pu_ag5 M
  have hL := pu_al5 M
  obtain ⟨ok, fl, nm, tw, w, x, k, N, n1, n2, n3, RF⟩ := py_adr h
  obtain ⟨m1, m2, m3, m4, m5, m6, m7⟩ := id n1
  have N72 : N.1 72 = M.1 72 := funext (fun j => m3 72 j (by omega) (by omega) (by omega))
  -- the reference from a memory with this row and tape
  have RG : ∀ Q : pu_M, Q.2 = N.2 → (∀ a j, a ≠ 0 → ¬ (5 ≤ a ∧ a < 58) → ¬ (62 ≤ a ∧ a ≤ 68) → Q.1 a j = N.1 a j) → ∃ R, py_cB Q R fl ∧ (ok → R.1 71 17 = nI w ∧ R.1 71 18 = nI x ∧ R.1 71 19 = nI k ∧ (∀ j, j < 3 → pu_Wd (R.1 78) (12 * j) (nm j)) ∧ (∀ j, j < 3 → pu_Wd (R.1 82) (12 * j) (tw j))) ∧ pu_r 314 [some (.ref 71)] [] Q = some (some (.int (pu_q ok)), R) ∧ pu_fx R ∧ pu_St (pu_si N 5) (pu_sj M 5) (R.1 72) := fun Q q2 qf => by
    have q72 : Q.1 72 = N.1 72 := funext (fun j => qf 72 j (by omega) (by omega) (by omega))
    obtain ⟨R, r1, r2, r3⟩ := RF Q (pz_fx_of m6 q2) (by rw [q72]; exact N72) (by rw [qf 71 4 (by omega) (by omega) (by omega)]; exact m3 71 4 (by omega) (by omega) (by omega)) (fun j => by rw [qf 75 j (by omega) (by omega) (by omega)]; exact m3 75 j (by omega) (by omega) (by omega))
    exact ⟨R, r1, r2, r3, pz_fx_of (pz_fx_of m6 q2) r1.1, py_St_ad h n1 q72 r1⟩
  -- where only the address was read
  have ST : ∀ F R : pu_M, ∀ Q : pu_M, Q.2 = N.2 → (∀ a j, a ≠ 0 → ¬ (62 ≤ a ∧ a ≤ 68) → Q.1 a j = N.1 a j) → py_cB Q R fl → pu_St (pu_si N 5) (pu_sj M 5) (R.1 72) → F.2 = R.2 → (∀ a j, ¬ (a = 71 ∧ (j = 21 ∨ j = 22)) → F.1 a j = R.1 a j) → pu_Inv F := fun F R Q q2 qf rb S f2 ff => by
    refine py_Inv_a0 h n1 q2 (fun a j z _ c => qf a j z c) rb f2 (fun a j _ _ c => ff a j c) ?_
    rw [show pu_si F 5 = pu_si N 5 from pu_si_eq (fun a j h1 h2 => by rw [ff a j (by omega), rb.2.1 a j (by omega) (by omega) (by omega) (by omega) (by omega), qf a j (by omega) (by omega)]), show pu_sj F 5 = pu_sj M 5 from pu_sj_eq (fun a j h1 h2 => by rw [f2, rb.1, q2, m4 a j (by omega) (by omega)]), show F.1 72 = R.1 72 from funext (fun j => ff 72 j (by omega))]
    exact S
  by_cases hok : ok
  rotate_left
  · obtain ⟨R, r1, r2, r3, hxR, SR⟩ := RG N rfl (fun _ _ _ _ _ => rfl)
    rw [pu_q0 hok] at n3 r3
    refine ⟨-2, N, R, ?_, ?_, ST R R N rfl (fun _ _ _ _ => rfl) r1 SR rfl (fun _ _ _ => rfl)⟩
    · rw [qX11_call]
      simp [a_ent, bX11_call_0, bX11_call_14, bX11_call_17, bX11_call_30, bX11_call_45, a_ald, a_cs, a_cv, a_gi, a_gr, a_iadd, a_iceq, a_icne, a_ifeq, a_ifne, a_ild, a_iret, a_ist, a_isub, a_pi, a_push, sh_0, sh_45, sh_5, pu_rv, pu_as, Value.category, pu_bk, pu_kl, List.replicate, pu_wi_1, pu_wi_2, nl_add, nl_ladd, nl_aa, nl_mul, nl_rmul, nl_mm, pu_qe0, pu_qe1, n3]
      all_goals try simp (maxSteps := 400000) (disch := omega) [nl_tle, nl_fle, nl_tlt, nl_flt, nl_teq, nl_feq, nl_sub, nl_ss, nl_lt, nl_llt, nl_ltt, nl_le, nl_lle, nl_lee, nl_eq, nl_leq, nl_ee, nl_div, nl_rem, nl_cl, nl_n1, nl_n2, nl_n3, nl_n4, nl_add, nl_ladd, nl_aa, nl_mul, nl_rmul, nl_mm, pu_wi_1, pu_wi_2, bX11_call_0, bX11_call_14, bX11_call_17, bX11_call_30, bX11_call_45, a_ald, a_cs, a_cv, a_gi, a_gr, a_iadd, a_iceq, a_icne, a_ifeq, a_ifne, a_ild, a_iret, a_ist, a_isub, a_pi, a_push, sh_0, sh_45, sh_5, pu_rv, pu_as, Value.category, pu_bk, pu_kl, pu_qe0, pu_qe1, n3]
      all_goals try simp [bX11_call_0, bX11_call_14, bX11_call_17, bX11_call_30, bX11_call_45, a_ald, a_cs, a_cv, a_gi, a_gr, a_iadd, a_iceq, a_icne, a_ifeq, a_ifne, a_ild, a_iret, a_ist, a_isub, a_pi, a_push, sh_0, sh_45, sh_5, pu_rv, pu_as, Value.category, pu_bk, pu_kl, List.replicate, pu_wi_1, pu_wi_2, nl_add, nl_ladd, nl_aa, nl_mul, nl_rmul, nl_mm, pu_qe0, pu_qe1, n3]
      all_goals try simp (maxSteps := 400000) (disch := omega) [nl_tle, nl_fle, nl_tlt, nl_flt, nl_teq, nl_feq, nl_sub, nl_ss, nl_lt, nl_llt, nl_ltt, nl_le, nl_lle, nl_lee, nl_eq, nl_leq, nl_ee, nl_div, nl_rem, nl_cl, nl_n1, nl_n2, nl_n3, nl_n4, nl_add, nl_ladd, nl_aa, nl_mul, nl_rmul, nl_mm, pu_wi_1, pu_wi_2, bX11_call_0, bX11_call_14, bX11_call_17, bX11_call_30, bX11_call_45, a_ald, a_cs, a_cv, a_gi, a_gr, a_iadd, a_iceq, a_icne, a_ifeq, a_ifne, a_ild, a_iret, a_ist, a_isub, a_pi, a_push, sh_0, sh_45, sh_5, pu_rv, pu_as, Value.category, pu_bk, pu_kl, pu_qe0, pu_qe1, n3]
      all_goals try simp [bX11_call_0, bX11_call_14, bX11_call_17, bX11_call_30, bX11_call_45, a_ald, a_cs, a_cv, a_gi, a_gr, a_iadd, a_iceq, a_icne, a_ifeq, a_ifne, a_ild, a_iret, a_ist, a_isub, a_pi, a_push, sh_0, sh_45, sh_5, pu_rv, pu_as, Value.category, pu_bk, pu_kl, List.replicate, pu_wi_1, pu_wi_2, nl_add, nl_ladd, nl_aa, nl_mul, nl_rmul, nl_mm, pu_qe0, pu_qe1, n3]
      all_goals try simp (maxSteps := 400000) (disch := omega) [nl_tle, nl_fle, nl_tlt, nl_flt, nl_teq, nl_feq, nl_sub, nl_ss, nl_lt, nl_llt, nl_ltt, nl_le, nl_lle, nl_lee, nl_eq, nl_leq, nl_ee, nl_div, nl_rem, nl_cl, nl_n1, nl_n2, nl_n3, nl_n4, nl_add, nl_ladd, nl_aa, nl_mul, nl_rmul, nl_mm, pu_wi_1, pu_wi_2, bX11_call_0, bX11_call_14, bX11_call_17, bX11_call_30, bX11_call_45, a_ald, a_cs, a_cv, a_gi, a_gr, a_iadd, a_iceq, a_icne, a_ifeq, a_ifne, a_ild, a_iret, a_ist, a_isub, a_pi, a_push, sh_0, sh_45, sh_5, pu_rv, pu_as, Value.category, pu_bk, pu_kl, pu_qe0, pu_qe1, n3]
      all_goals try simp [bX11_call_0, bX11_call_14, bX11_call_17, bX11_call_30, bX11_call_45, a_ald, a_cs, a_cv, a_gi, a_gr, a_iadd, a_iceq, a_icne, a_ifeq, a_ifne, a_ild, a_iret, a_ist, a_isub, a_pi, a_push, sh_0, sh_45, sh_5, pu_rv, pu_as, Value.category, pu_bk, pu_kl, List.replicate, pu_wi_1, pu_wi_2, nl_add, nl_ladd, nl_aa, nl_mul, nl_rmul, nl_mm, pu_qe0, pu_qe1, n3]
    · rw [qX12_call]
      simp [a_ent, bX12_call_0, bX12_call_14, bX12_call_17, bX12_call_30, a_ald, a_cs, a_cv, a_iceq, a_ifeq, a_ifne, a_ild, a_iret, a_ist, a_push, sh_71, pu_rv, pu_as, Value.category, pu_bk, pu_kl, List.replicate, pu_wi_1, pu_wi_2, nl_add, nl_ladd, nl_aa, nl_mul, nl_rmul, nl_mm, pu_qe0, pu_qe1, r3]
      all_goals try simp (maxSteps := 400000) (disch := omega) [nl_tle, nl_fle, nl_tlt, nl_flt, nl_teq, nl_feq, nl_sub, nl_ss, nl_lt, nl_llt, nl_ltt, nl_le, nl_lle, nl_lee, nl_eq, nl_leq, nl_ee, nl_div, nl_rem, nl_cl, nl_n1, nl_n2, nl_n3, nl_n4, nl_add, nl_ladd, nl_aa, nl_mul, nl_rmul, nl_mm, pu_wi_1, pu_wi_2, bX12_call_0, bX12_call_14, bX12_call_17, bX12_call_30, a_ald, a_cs, a_cv, a_iceq, a_ifeq, a_ifne, a_ild, a_iret, a_ist, a_push, sh_71, pu_rv, pu_as, Value.category, pu_bk, pu_kl, pu_qe0, pu_qe1, r3]
      all_goals try simp [bX12_call_0, bX12_call_14, bX12_call_17, bX12_call_30, a_ald, a_cs, a_cv, a_iceq, a_ifeq, a_ifne, a_ild, a_iret, a_ist, a_push, sh_71, pu_rv, pu_as, Value.category, pu_bk, pu_kl, List.replicate, pu_wi_1, pu_wi_2, nl_add, nl_ladd, nl_aa, nl_mul, nl_rmul, nl_mm, pu_qe0, pu_qe1, r3]
      all_goals try simp (maxSteps := 400000) (disch := omega) [nl_tle, nl_fle, nl_tlt, nl_flt, nl_teq, nl_feq, nl_sub, nl_ss, nl_lt, nl_llt, nl_ltt, nl_le, nl_lle, nl_lee, nl_eq, nl_leq, nl_ee, nl_div, nl_rem, nl_cl, nl_n1, nl_n2, nl_n3, nl_n4, nl_add, nl_ladd, nl_aa, nl_mul, nl_rmul, nl_mm, pu_wi_1, pu_wi_2, bX12_call_0, bX12_call_14, bX12_call_17, bX12_call_30, a_ald, a_cs, a_cv, a_iceq, a_ifeq, a_ifne, a_ild, a_iret, a_ist, a_push, sh_71, pu_rv, pu_as, Value.category, pu_bk, pu_kl, pu_qe0, pu_qe1, r3]
      all_goals try simp [bX12_call_0, bX12_call_14, bX12_call_17, bX12_call_30, a_ald, a_cs, a_cv, a_iceq, a_ifeq, a_ifne, a_ild, a_iret, a_ist, a_push, sh_71, pu_rv, pu_as, Value.category, pu_bk, pu_kl, List.replicate, pu_wi_1, pu_wi_2, nl_add, nl_ladd, nl_aa, nl_mul, nl_rmul, nl_mm, pu_qe0, pu_qe1, r3]
      all_goals try simp (maxSteps := 400000) (disch := omega) [nl_tle, nl_fle, nl_tlt, nl_flt, nl_teq, nl_feq, nl_sub, nl_ss, nl_lt, nl_llt, nl_ltt, nl_le, nl_lle, nl_lee, nl_eq, nl_leq, nl_ee, nl_div, nl_rem, nl_cl, nl_n1, nl_n2, nl_n3, nl_n4, nl_add, nl_ladd, nl_aa, nl_mul, nl_rmul, nl_mm, pu_wi_1, pu_wi_2, bX12_call_0, bX12_call_14, bX12_call_17, bX12_call_30, a_ald, a_cs, a_cv, a_iceq, a_ifeq, a_ifne, a_ild, a_iret, a_ist, a_push, sh_71, pu_rv, pu_as, Value.category, pu_bk, pu_kl, pu_qe0, pu_qe1, r3]
      all_goals try simp [bX12_call_0, bX12_call_14, bX12_call_17, bX12_call_30, a_ald, a_cs, a_cv, a_iceq, a_ifeq, a_ifne, a_ild, a_iret, a_ist, a_push, sh_71, pu_rv, pu_as, Value.category, pu_bk, pu_kl, List.replicate, pu_wi_1, pu_wi_2, nl_add, nl_ladd, nl_aa, nl_mul, nl_rmul, nl_mm, pu_qe0, pu_qe1, r3]
  have r3q := pu_q1 hok
  rw [r3q] at n3
  have e5 := c_isDay y N
  by_cases hy : ¬ y < 0 ∧ ¬ 109574 < y
  rotate_left
  · obtain ⟨R, r1, r2, r3, hxR, SR⟩ := RG N rfl (fun _ _ _ _ _ => rfl)
    rw [r3q] at r3
    have e6 := r_isDay y R
    rw [pu_q0 hy] at e5 e6
    refine ⟨-2, N, R, ?_, ?_, ST R R N rfl (fun _ _ _ _ => rfl) r1 SR rfl (fun _ _ _ => rfl)⟩
    · rw [qX11_call]
      simp [a_ent, bX11_call_0, bX11_call_14, bX11_call_17, bX11_call_30, bX11_call_45, a_ald, a_cs, a_cv, a_gi, a_gr, a_iadd, a_iceq, a_icne, a_ifeq, a_ifne, a_ild, a_iret, a_ist, a_isub, a_pi, a_push, sh_0, sh_45, sh_5, pu_rv, pu_as, Value.category, pu_bk, pu_kl, List.replicate, pu_wi_1, pu_wi_2, nl_add, nl_ladd, nl_aa, nl_mul, nl_rmul, nl_mm, pu_qe0, pu_qe1, n3, e5]
      all_goals try simp (maxSteps := 400000) (disch := omega) [nl_tle, nl_fle, nl_tlt, nl_flt, nl_teq, nl_feq, nl_sub, nl_ss, nl_lt, nl_llt, nl_ltt, nl_le, nl_lle, nl_lee, nl_eq, nl_leq, nl_ee, nl_div, nl_rem, nl_cl, nl_n1, nl_n2, nl_n3, nl_n4, nl_add, nl_ladd, nl_aa, nl_mul, nl_rmul, nl_mm, pu_wi_1, pu_wi_2, bX11_call_0, bX11_call_14, bX11_call_17, bX11_call_30, bX11_call_45, a_ald, a_cs, a_cv, a_gi, a_gr, a_iadd, a_iceq, a_icne, a_ifeq, a_ifne, a_ild, a_iret, a_ist, a_isub, a_pi, a_push, sh_0, sh_45, sh_5, pu_rv, pu_as, Value.category, pu_bk, pu_kl, pu_qe0, pu_qe1, n3, e5]
      all_goals try simp [bX11_call_0, bX11_call_14, bX11_call_17, bX11_call_30, bX11_call_45, a_ald, a_cs, a_cv, a_gi, a_gr, a_iadd, a_iceq, a_icne, a_ifeq, a_ifne, a_ild, a_iret, a_ist, a_isub, a_pi, a_push, sh_0, sh_45, sh_5, pu_rv, pu_as, Value.category, pu_bk, pu_kl, List.replicate, pu_wi_1, pu_wi_2, nl_add, nl_ladd, nl_aa, nl_mul, nl_rmul, nl_mm, pu_qe0, pu_qe1, n3, e5]
      all_goals try simp (maxSteps := 400000) (disch := omega) [nl_tle, nl_fle, nl_tlt, nl_flt, nl_teq, nl_feq, nl_sub, nl_ss, nl_lt, nl_llt, nl_ltt, nl_le, nl_lle, nl_lee, nl_eq, nl_leq, nl_ee, nl_div, nl_rem, nl_cl, nl_n1, nl_n2, nl_n3, nl_n4, nl_add, nl_ladd, nl_aa, nl_mul, nl_rmul, nl_mm, pu_wi_1, pu_wi_2, bX11_call_0, bX11_call_14, bX11_call_17, bX11_call_30, bX11_call_45, a_ald, a_cs, a_cv, a_gi, a_gr, a_iadd, a_iceq, a_icne, a_ifeq, a_ifne, a_ild, a_iret, a_ist, a_isub, a_pi, a_push, sh_0, sh_45, sh_5, pu_rv, pu_as, Value.category, pu_bk, pu_kl, pu_qe0, pu_qe1, n3, e5]
      all_goals try simp [bX11_call_0, bX11_call_14, bX11_call_17, bX11_call_30, bX11_call_45, a_ald, a_cs, a_cv, a_gi, a_gr, a_iadd, a_iceq, a_icne, a_ifeq, a_ifne, a_ild, a_iret, a_ist, a_isub, a_pi, a_push, sh_0, sh_45, sh_5, pu_rv, pu_as, Value.category, pu_bk, pu_kl, List.replicate, pu_wi_1, pu_wi_2, nl_add, nl_ladd, nl_aa, nl_mul, nl_rmul, nl_mm, pu_qe0, pu_qe1, n3, e5]
      all_goals try simp (maxSteps := 400000) (disch := omega) [nl_tle, nl_fle, nl_tlt, nl_flt, nl_teq, nl_feq, nl_sub, nl_ss, nl_lt, nl_llt, nl_ltt, nl_le, nl_lle, nl_lee, nl_eq, nl_leq, nl_ee, nl_div, nl_rem, nl_cl, nl_n1, nl_n2, nl_n3, nl_n4, nl_add, nl_ladd, nl_aa, nl_mul, nl_rmul, nl_mm, pu_wi_1, pu_wi_2, bX11_call_0, bX11_call_14, bX11_call_17, bX11_call_30, bX11_call_45, a_ald, a_cs, a_cv, a_gi, a_gr, a_iadd, a_iceq, a_icne, a_ifeq, a_ifne, a_ild, a_iret, a_ist, a_isub, a_pi, a_push, sh_0, sh_45, sh_5, pu_rv, pu_as, Value.category, pu_bk, pu_kl, pu_qe0, pu_qe1, n3, e5]
      all_goals try simp [bX11_call_0, bX11_call_14, bX11_call_17, bX11_call_30, bX11_call_45, a_ald, a_cs, a_cv, a_gi, a_gr, a_iadd, a_iceq, a_icne, a_ifeq, a_ifne, a_ild, a_iret, a_ist, a_isub, a_pi, a_push, sh_0, sh_45, sh_5, pu_rv, pu_as, Value.category, pu_bk, pu_kl, List.replicate, pu_wi_1, pu_wi_2, nl_add, nl_ladd, nl_aa, nl_mul, nl_rmul, nl_mm, pu_qe0, pu_qe1, n3, e5]
    · rw [qX12_call]
      simp [a_ent, bX12_call_0, bX12_call_14, bX12_call_17, bX12_call_30, a_ald, a_cs, a_cv, a_iceq, a_ifeq, a_ifne, a_ild, a_iret, a_ist, a_push, sh_71, pu_rv, pu_as, Value.category, pu_bk, pu_kl, List.replicate, pu_wi_1, pu_wi_2, nl_add, nl_ladd, nl_aa, nl_mul, nl_rmul, nl_mm, pu_qe0, pu_qe1, r3, e6]
      all_goals try simp (maxSteps := 400000) (disch := omega) [nl_tle, nl_fle, nl_tlt, nl_flt, nl_teq, nl_feq, nl_sub, nl_ss, nl_lt, nl_llt, nl_ltt, nl_le, nl_lle, nl_lee, nl_eq, nl_leq, nl_ee, nl_div, nl_rem, nl_cl, nl_n1, nl_n2, nl_n3, nl_n4, nl_add, nl_ladd, nl_aa, nl_mul, nl_rmul, nl_mm, pu_wi_1, pu_wi_2, bX12_call_0, bX12_call_14, bX12_call_17, bX12_call_30, a_ald, a_cs, a_cv, a_iceq, a_ifeq, a_ifne, a_ild, a_iret, a_ist, a_push, sh_71, pu_rv, pu_as, Value.category, pu_bk, pu_kl, pu_qe0, pu_qe1, r3, e6]
      all_goals try simp [bX12_call_0, bX12_call_14, bX12_call_17, bX12_call_30, a_ald, a_cs, a_cv, a_iceq, a_ifeq, a_ifne, a_ild, a_iret, a_ist, a_push, sh_71, pu_rv, pu_as, Value.category, pu_bk, pu_kl, List.replicate, pu_wi_1, pu_wi_2, nl_add, nl_ladd, nl_aa, nl_mul, nl_rmul, nl_mm, pu_qe0, pu_qe1, r3, e6]
      all_goals try simp (maxSteps := 400000) (disch := omega) [nl_tle, nl_fle, nl_tlt, nl_flt, nl_teq, nl_feq, nl_sub, nl_ss, nl_lt, nl_llt, nl_ltt, nl_le, nl_lle, nl_lee, nl_eq, nl_leq, nl_ee, nl_div, nl_rem, nl_cl, nl_n1, nl_n2, nl_n3, nl_n4, nl_add, nl_ladd, nl_aa, nl_mul, nl_rmul, nl_mm, pu_wi_1, pu_wi_2, bX12_call_0, bX12_call_14, bX12_call_17, bX12_call_30, a_ald, a_cs, a_cv, a_iceq, a_ifeq, a_ifne, a_ild, a_iret, a_ist, a_push, sh_71, pu_rv, pu_as, Value.category, pu_bk, pu_kl, pu_qe0, pu_qe1, r3, e6]
      all_goals try simp [bX12_call_0, bX12_call_14, bX12_call_17, bX12_call_30, a_ald, a_cs, a_cv, a_iceq, a_ifeq, a_ifne, a_ild, a_iret, a_ist, a_push, sh_71, pu_rv, pu_as, Value.category, pu_bk, pu_kl, List.replicate, pu_wi_1, pu_wi_2, nl_add, nl_ladd, nl_aa, nl_mul, nl_rmul, nl_mm, pu_qe0, pu_qe1, r3, e6]
      all_goals try simp (maxSteps := 400000) (disch := omega) [nl_tle, nl_fle, nl_tlt, nl_flt, nl_teq, nl_feq, nl_sub, nl_ss, nl_lt, nl_llt, nl_ltt, nl_le, nl_lle, nl_lee, nl_eq, nl_leq, nl_ee, nl_div, nl_rem, nl_cl, nl_n1, nl_n2, nl_n3, nl_n4, nl_add, nl_ladd, nl_aa, nl_mul, nl_rmul, nl_mm, pu_wi_1, pu_wi_2, bX12_call_0, bX12_call_14, bX12_call_17, bX12_call_30, a_ald, a_cs, a_cv, a_iceq, a_ifeq, a_ifne, a_ild, a_iret, a_ist, a_push, sh_71, pu_rv, pu_as, Value.category, pu_bk, pu_kl, pu_qe0, pu_qe1, r3, e6]
      all_goals try simp [bX12_call_0, bX12_call_14, bX12_call_17, bX12_call_30, a_ald, a_cs, a_cv, a_iceq, a_ifeq, a_ifne, a_ild, a_iret, a_ist, a_push, sh_71, pu_rv, pu_as, Value.category, pu_bk, pu_kl, List.replicate, pu_wi_1, pu_wi_2, nl_add, nl_ladd, nl_aa, nl_mul, nl_rmul, nl_mm, pu_qe0, pu_qe1, r3, e6]
  rw [pu_q1 hy] at e5
  obtain ⟨⟨w1, w2, x5, k1⟩, c2, c3, c4, c5, c6⟩ := n2 hok
  -- the office behind the address
  obtain ⟨R0, _, _, _, _, S0⟩ := RG N rfl (fun _ _ _ _ _ => rfl)
  have hwN : pu_WF (pu_si N 5) (pu_sj M 5) := S0.1
  have hIN := pu_ag5 N
  have hLN : pu_al N (pu_sj M 5) := fun a j q1 q2 => by rw [m4 a j (by omega) (by omega)]; exact hL a j q1 q2
  obtain ⟨V, v1, v2⟩ := c_sure m6 hIN hLN hwN nm tw c5 c6 (by omega) (by omega) x5 k1 c2 c3 c4 y hy
  have hxV : pu_fx V := pz_fx_of m6 v1.1
  have t9 : (109574 : Int32).toInt = 109574 := by decide
  obtain ⟨Y, hYl, hYe⟩ : ∃ Y, Y ≤ 109574 ∧ y = nI Y := by
    have q1 := Int32.le_iff_toInt_le.mp (Int32.not_lt.mp hy.1)
    have q2 := Int32.le_iff_toInt_le.mp (Int32.not_lt.mp hy.2)
    have z0 : (0 : Int32).toInt = 0 := by decide
    have := pu_on (x := y) (n := 109575) ⟨by omega, by omega⟩
    exact ⟨_, by omega, this.1⟩
  have GV : py_G V (pu_si N 5) (pu_sj M 5) nm tw w x k := ⟨hxV, fun a j q1 q2 => by rw [v1.2 a j (by omega)]; exact hIN a j q1 q2, fun a j q1 q2 => by rw [v1.1]; exact hLN a j q1 q2, fun j hj => by rw [v1.1]; exact c5 j hj, fun j hj => by rw [v1.1]; exact c6 j hj, by rw [v1.2 59 2 (by omega)]; exact c2, by rw [v1.2 59 3 (by omega)]; exact c3, by rw [v1.2 59 4 (by omega)]; exact c4⟩
  have HR : ∀ R : pu_M, (ok → R.1 71 17 = nI w ∧ R.1 71 18 = nI x ∧ R.1 71 19 = nI k ∧ (∀ j, j < 3 → pu_Wd (R.1 78) (12 * j) (nm j)) ∧ (∀ j, j < 3 → pu_Wd (R.1 82) (12 * j) (tw j))) → pu_fx R → pu_St (pu_si N 5) (pu_sj M 5) (R.1 72) → py_H R (pu_si N 5) (pu_sj M 5) nm tw w x k := fun R rv hxR SR => by
    obtain ⟨s1, s2, s3, s4, s5⟩ := rv hok
    exact ⟨hxR, SR.2, s4, s5, s1, s2, s3⟩
  have RS : ∀ R : pu_M, py_H R (pu_si N 5) (pu_sj M 5) nm tw w x k → ∃ v, pu_r 319 [some (.ref 71), some (.int y)] [] R = some (some (.int (py_sv (pu_si N 5) (pu_sj M 5) nm tw w x k y)), pu_wi R 71 21 v) := fun R H => by
    obtain ⟨v, _, _, e⟩ := r_sure H.1 H.2.1 hwN nm tw H.2.2.1 H.2.2.2.1 x5 k1 H.2.2.2.2.1 H.2.2.2.2.2.1 H.2.2.2.2.2.2 y
    exact ⟨v, e⟩
  obtain ⟨P, p1, p2, p3⟩ := c_sold hwN x5 k1 hYl V GV
  have pe := py_tV_e hwN hYl (by omega) (by omega) p2
  rw [← hYe] at p3
  have RL := fun (Q : pu_M) (H : py_H Q (pu_si N 5) (pu_sj M 5) nm tw w x k) => r_call_l hwN x5 k1 Y hYl (Y + 1) Y Q (some (.int (-1))) none none (Nat.lt_succ_self Y) (Nat.le_refl Y) H (fun d h1 h2 => absurd h2 (Nat.not_lt.mpr h1))
  simp only [← hYe] at RL
  obtain ⟨rr, hrr⟩ : ∃ rr, py_sv (pu_si N 5) (pu_sj M 5) nm tw w x k y = rr := ⟨_, rfl⟩
  rw [hrr] at v2 RS
  by_cases hm : rr = -1
  rotate_left
  · obtain ⟨R, r1, r2, r3, hxR, SR⟩ := RG V v1.1 (fun a j _ _ c => v1.2 a j c)
    rw [r3q] at r3
    obtain ⟨v, es⟩ := RS R (HR R r2 hxR SR)
    have e6 := r_isDay y R
    rw [pu_q1 hy] at e6
    refine ⟨rr, V, pu_wi R 71 21 v, ?_, ?_, ST _ R V v1.1 (fun a j _ c => v1.2 a j c) r1 SR rfl (fun a j c => py_wi_o (by omega))⟩
    · rw [qX11_call]
      simp [a_ent, bX11_call_0, bX11_call_14, bX11_call_17, bX11_call_30, bX11_call_45, a_ald, a_cs, a_cv, a_gi, a_gr, a_iadd, a_iceq, a_icne, a_ifeq, a_ifne, a_ild, a_iret, a_ist, a_isub, a_pi, a_push, sh_0, sh_45, sh_5, pu_rv, pu_as, Value.category, pu_bk, pu_kl, List.replicate, pu_wi_1, pu_wi_2, nl_add, nl_ladd, nl_aa, nl_mul, nl_rmul, nl_mm, pu_qe0, pu_qe1, n3, e5, v2, hm]
      all_goals try simp (maxSteps := 400000) (disch := omega) [nl_tle, nl_fle, nl_tlt, nl_flt, nl_teq, nl_feq, nl_sub, nl_ss, nl_lt, nl_llt, nl_ltt, nl_le, nl_lle, nl_lee, nl_eq, nl_leq, nl_ee, nl_div, nl_rem, nl_cl, nl_n1, nl_n2, nl_n3, nl_n4, nl_add, nl_ladd, nl_aa, nl_mul, nl_rmul, nl_mm, pu_wi_1, pu_wi_2, bX11_call_0, bX11_call_14, bX11_call_17, bX11_call_30, bX11_call_45, a_ald, a_cs, a_cv, a_gi, a_gr, a_iadd, a_iceq, a_icne, a_ifeq, a_ifne, a_ild, a_iret, a_ist, a_isub, a_pi, a_push, sh_0, sh_45, sh_5, pu_rv, pu_as, Value.category, pu_bk, pu_kl, pu_qe0, pu_qe1, n3, e5, v2, hm]
      all_goals try simp [bX11_call_0, bX11_call_14, bX11_call_17, bX11_call_30, bX11_call_45, a_ald, a_cs, a_cv, a_gi, a_gr, a_iadd, a_iceq, a_icne, a_ifeq, a_ifne, a_ild, a_iret, a_ist, a_isub, a_pi, a_push, sh_0, sh_45, sh_5, pu_rv, pu_as, Value.category, pu_bk, pu_kl, List.replicate, pu_wi_1, pu_wi_2, nl_add, nl_ladd, nl_aa, nl_mul, nl_rmul, nl_mm, pu_qe0, pu_qe1, n3, e5, v2, hm]
      all_goals try simp (maxSteps := 400000) (disch := omega) [nl_tle, nl_fle, nl_tlt, nl_flt, nl_teq, nl_feq, nl_sub, nl_ss, nl_lt, nl_llt, nl_ltt, nl_le, nl_lle, nl_lee, nl_eq, nl_leq, nl_ee, nl_div, nl_rem, nl_cl, nl_n1, nl_n2, nl_n3, nl_n4, nl_add, nl_ladd, nl_aa, nl_mul, nl_rmul, nl_mm, pu_wi_1, pu_wi_2, bX11_call_0, bX11_call_14, bX11_call_17, bX11_call_30, bX11_call_45, a_ald, a_cs, a_cv, a_gi, a_gr, a_iadd, a_iceq, a_icne, a_ifeq, a_ifne, a_ild, a_iret, a_ist, a_isub, a_pi, a_push, sh_0, sh_45, sh_5, pu_rv, pu_as, Value.category, pu_bk, pu_kl, pu_qe0, pu_qe1, n3, e5, v2, hm]
      all_goals try simp [bX11_call_0, bX11_call_14, bX11_call_17, bX11_call_30, bX11_call_45, a_ald, a_cs, a_cv, a_gi, a_gr, a_iadd, a_iceq, a_icne, a_ifeq, a_ifne, a_ild, a_iret, a_ist, a_isub, a_pi, a_push, sh_0, sh_45, sh_5, pu_rv, pu_as, Value.category, pu_bk, pu_kl, List.replicate, pu_wi_1, pu_wi_2, nl_add, nl_ladd, nl_aa, nl_mul, nl_rmul, nl_mm, pu_qe0, pu_qe1, n3, e5, v2, hm]
      all_goals try simp (maxSteps := 400000) (disch := omega) [nl_tle, nl_fle, nl_tlt, nl_flt, nl_teq, nl_feq, nl_sub, nl_ss, nl_lt, nl_llt, nl_ltt, nl_le, nl_lle, nl_lee, nl_eq, nl_leq, nl_ee, nl_div, nl_rem, nl_cl, nl_n1, nl_n2, nl_n3, nl_n4, nl_add, nl_ladd, nl_aa, nl_mul, nl_rmul, nl_mm, pu_wi_1, pu_wi_2, bX11_call_0, bX11_call_14, bX11_call_17, bX11_call_30, bX11_call_45, a_ald, a_cs, a_cv, a_gi, a_gr, a_iadd, a_iceq, a_icne, a_ifeq, a_ifne, a_ild, a_iret, a_ist, a_isub, a_pi, a_push, sh_0, sh_45, sh_5, pu_rv, pu_as, Value.category, pu_bk, pu_kl, pu_qe0, pu_qe1, n3, e5, v2, hm]
      all_goals try simp [bX11_call_0, bX11_call_14, bX11_call_17, bX11_call_30, bX11_call_45, a_ald, a_cs, a_cv, a_gi, a_gr, a_iadd, a_iceq, a_icne, a_ifeq, a_ifne, a_ild, a_iret, a_ist, a_isub, a_pi, a_push, sh_0, sh_45, sh_5, pu_rv, pu_as, Value.category, pu_bk, pu_kl, List.replicate, pu_wi_1, pu_wi_2, nl_add, nl_ladd, nl_aa, nl_mul, nl_rmul, nl_mm, pu_qe0, pu_qe1, n3, e5, v2, hm]
    · rw [qX12_call]
      simp [a_ent, bX12_call_0, bX12_call_14, bX12_call_17, bX12_call_30, a_ald, a_cs, a_cv, a_iceq, a_ifeq, a_ifne, a_ild, a_iret, a_ist, a_push, sh_71, pu_rv, pu_as, Value.category, pu_bk, pu_kl, List.replicate, pu_wi_1, pu_wi_2, nl_add, nl_ladd, nl_aa, nl_mul, nl_rmul, nl_mm, pu_qe0, pu_qe1, r3, e6, es, hm]
      all_goals try simp (maxSteps := 400000) (disch := omega) [nl_tle, nl_fle, nl_tlt, nl_flt, nl_teq, nl_feq, nl_sub, nl_ss, nl_lt, nl_llt, nl_ltt, nl_le, nl_lle, nl_lee, nl_eq, nl_leq, nl_ee, nl_div, nl_rem, nl_cl, nl_n1, nl_n2, nl_n3, nl_n4, nl_add, nl_ladd, nl_aa, nl_mul, nl_rmul, nl_mm, pu_wi_1, pu_wi_2, bX12_call_0, bX12_call_14, bX12_call_17, bX12_call_30, a_ald, a_cs, a_cv, a_iceq, a_ifeq, a_ifne, a_ild, a_iret, a_ist, a_push, sh_71, pu_rv, pu_as, Value.category, pu_bk, pu_kl, pu_qe0, pu_qe1, r3, e6, es, hm]
      all_goals try simp [bX12_call_0, bX12_call_14, bX12_call_17, bX12_call_30, a_ald, a_cs, a_cv, a_iceq, a_ifeq, a_ifne, a_ild, a_iret, a_ist, a_push, sh_71, pu_rv, pu_as, Value.category, pu_bk, pu_kl, List.replicate, pu_wi_1, pu_wi_2, nl_add, nl_ladd, nl_aa, nl_mul, nl_rmul, nl_mm, pu_qe0, pu_qe1, r3, e6, es, hm]
      all_goals try simp (maxSteps := 400000) (disch := omega) [nl_tle, nl_fle, nl_tlt, nl_flt, nl_teq, nl_feq, nl_sub, nl_ss, nl_lt, nl_llt, nl_ltt, nl_le, nl_lle, nl_lee, nl_eq, nl_leq, nl_ee, nl_div, nl_rem, nl_cl, nl_n1, nl_n2, nl_n3, nl_n4, nl_add, nl_ladd, nl_aa, nl_mul, nl_rmul, nl_mm, pu_wi_1, pu_wi_2, bX12_call_0, bX12_call_14, bX12_call_17, bX12_call_30, a_ald, a_cs, a_cv, a_iceq, a_ifeq, a_ifne, a_ild, a_iret, a_ist, a_push, sh_71, pu_rv, pu_as, Value.category, pu_bk, pu_kl, pu_qe0, pu_qe1, r3, e6, es, hm]
      all_goals try simp [bX12_call_0, bX12_call_14, bX12_call_17, bX12_call_30, a_ald, a_cs, a_cv, a_iceq, a_ifeq, a_ifne, a_ild, a_iret, a_ist, a_push, sh_71, pu_rv, pu_as, Value.category, pu_bk, pu_kl, List.replicate, pu_wi_1, pu_wi_2, nl_add, nl_ladd, nl_aa, nl_mul, nl_rmul, nl_mm, pu_qe0, pu_qe1, r3, e6, es, hm]
      all_goals try simp (maxSteps := 400000) (disch := omega) [nl_tle, nl_fle, nl_tlt, nl_flt, nl_teq, nl_feq, nl_sub, nl_ss, nl_lt, nl_llt, nl_ltt, nl_le, nl_lle, nl_lee, nl_eq, nl_leq, nl_ee, nl_div, nl_rem, nl_cl, nl_n1, nl_n2, nl_n3, nl_n4, nl_add, nl_ladd, nl_aa, nl_mul, nl_rmul, nl_mm, pu_wi_1, pu_wi_2, bX12_call_0, bX12_call_14, bX12_call_17, bX12_call_30, a_ald, a_cs, a_cv, a_iceq, a_ifeq, a_ifne, a_ild, a_iret, a_ist, a_push, sh_71, pu_rv, pu_as, Value.category, pu_bk, pu_kl, pu_qe0, pu_qe1, r3, e6, es, hm]
      all_goals try simp [bX12_call_0, bX12_call_14, bX12_call_17, bX12_call_30, a_ald, a_cs, a_cv, a_iceq, a_ifeq, a_ifne, a_ild, a_iret, a_ist, a_push, sh_71, pu_rv, pu_as, Value.category, pu_bk, pu_kl, List.replicate, pu_wi_1, pu_wi_2, nl_add, nl_ladd, nl_aa, nl_mul, nl_rmul, nl_mm, pu_qe0, pu_qe1, r3, e6, es, hm]
  rw [hm] at v2 RS
  have Po : ∀ a j, a ≠ 0 → ¬ (62 ≤ a ∧ a ≤ 68) → P.1 a j = N.1 a j := fun a j z c => by rw [p1.2 a j (by omega), v1.2 a j c]
  have P2 : P.2 = N.2 := by rw [p1.1, v1.1]
  rcases pe with ⟨q1, q2⟩ | ⟨d, d1, d2, d3, d4, d5⟩
  · -- nothing before
    obtain ⟨R, r1, r2, r3, hxR, SR⟩ := RG P P2 (fun a j z _ c => Po a j z c)
    rw [r3q] at r3
    have H := HR R r2 hxR SR
    obtain ⟨v, es⟩ := RS R H
    have e6 := r_isDay y R
    rw [pu_q1 hy] at e6
    obtain ⟨v2', g⟩ := RL _ (py_H_w H v)
    rw [py_wi_s] at g
    rcases g with ⟨_, g⟩ | ⟨d, g1, g2, _⟩
    · refine ⟨-1, P, pu_wi R 71 21 v2', ?_, ?_, ST _ R P P2 Po r1 SR rfl (fun a j c => py_wi_o (by omega))⟩
      · rw [qX11_call]
        simp [a_ent, bX11_call_0, bX11_call_14, bX11_call_17, bX11_call_30, bX11_call_45, a_ald, a_cs, a_cv, a_gi, a_gr, a_iadd, a_iceq, a_icne, a_ifeq, a_ifne, a_ild, a_iret, a_ist, a_isub, a_pi, a_push, sh_0, sh_45, sh_5, pu_rv, pu_as, Value.category, pu_bk, pu_kl, List.replicate, pu_wi_1, pu_wi_2, nl_add, nl_ladd, nl_aa, nl_mul, nl_rmul, nl_mm, pu_qe0, pu_qe1, n3, e5, v2, p3, q1]
        all_goals try simp (maxSteps := 400000) (disch := omega) [nl_tle, nl_fle, nl_tlt, nl_flt, nl_teq, nl_feq, nl_sub, nl_ss, nl_lt, nl_llt, nl_ltt, nl_le, nl_lle, nl_lee, nl_eq, nl_leq, nl_ee, nl_div, nl_rem, nl_cl, nl_n1, nl_n2, nl_n3, nl_n4, nl_add, nl_ladd, nl_aa, nl_mul, nl_rmul, nl_mm, pu_wi_1, pu_wi_2, bX11_call_0, bX11_call_14, bX11_call_17, bX11_call_30, bX11_call_45, a_ald, a_cs, a_cv, a_gi, a_gr, a_iadd, a_iceq, a_icne, a_ifeq, a_ifne, a_ild, a_iret, a_ist, a_isub, a_pi, a_push, sh_0, sh_45, sh_5, pu_rv, pu_as, Value.category, pu_bk, pu_kl, pu_qe0, pu_qe1, n3, e5, v2, p3, q1]
        all_goals try simp [bX11_call_0, bX11_call_14, bX11_call_17, bX11_call_30, bX11_call_45, a_ald, a_cs, a_cv, a_gi, a_gr, a_iadd, a_iceq, a_icne, a_ifeq, a_ifne, a_ild, a_iret, a_ist, a_isub, a_pi, a_push, sh_0, sh_45, sh_5, pu_rv, pu_as, Value.category, pu_bk, pu_kl, List.replicate, pu_wi_1, pu_wi_2, nl_add, nl_ladd, nl_aa, nl_mul, nl_rmul, nl_mm, pu_qe0, pu_qe1, n3, e5, v2, p3, q1]
        all_goals try simp (maxSteps := 400000) (disch := omega) [nl_tle, nl_fle, nl_tlt, nl_flt, nl_teq, nl_feq, nl_sub, nl_ss, nl_lt, nl_llt, nl_ltt, nl_le, nl_lle, nl_lee, nl_eq, nl_leq, nl_ee, nl_div, nl_rem, nl_cl, nl_n1, nl_n2, nl_n3, nl_n4, nl_add, nl_ladd, nl_aa, nl_mul, nl_rmul, nl_mm, pu_wi_1, pu_wi_2, bX11_call_0, bX11_call_14, bX11_call_17, bX11_call_30, bX11_call_45, a_ald, a_cs, a_cv, a_gi, a_gr, a_iadd, a_iceq, a_icne, a_ifeq, a_ifne, a_ild, a_iret, a_ist, a_isub, a_pi, a_push, sh_0, sh_45, sh_5, pu_rv, pu_as, Value.category, pu_bk, pu_kl, pu_qe0, pu_qe1, n3, e5, v2, p3, q1]
        all_goals try simp [bX11_call_0, bX11_call_14, bX11_call_17, bX11_call_30, bX11_call_45, a_ald, a_cs, a_cv, a_gi, a_gr, a_iadd, a_iceq, a_icne, a_ifeq, a_ifne, a_ild, a_iret, a_ist, a_isub, a_pi, a_push, sh_0, sh_45, sh_5, pu_rv, pu_as, Value.category, pu_bk, pu_kl, List.replicate, pu_wi_1, pu_wi_2, nl_add, nl_ladd, nl_aa, nl_mul, nl_rmul, nl_mm, pu_qe0, pu_qe1, n3, e5, v2, p3, q1]
        all_goals try simp (maxSteps := 400000) (disch := omega) [nl_tle, nl_fle, nl_tlt, nl_flt, nl_teq, nl_feq, nl_sub, nl_ss, nl_lt, nl_llt, nl_ltt, nl_le, nl_lle, nl_lee, nl_eq, nl_leq, nl_ee, nl_div, nl_rem, nl_cl, nl_n1, nl_n2, nl_n3, nl_n4, nl_add, nl_ladd, nl_aa, nl_mul, nl_rmul, nl_mm, pu_wi_1, pu_wi_2, bX11_call_0, bX11_call_14, bX11_call_17, bX11_call_30, bX11_call_45, a_ald, a_cs, a_cv, a_gi, a_gr, a_iadd, a_iceq, a_icne, a_ifeq, a_ifne, a_ild, a_iret, a_ist, a_isub, a_pi, a_push, sh_0, sh_45, sh_5, pu_rv, pu_as, Value.category, pu_bk, pu_kl, pu_qe0, pu_qe1, n3, e5, v2, p3, q1]
        all_goals try simp [bX11_call_0, bX11_call_14, bX11_call_17, bX11_call_30, bX11_call_45, a_ald, a_cs, a_cv, a_gi, a_gr, a_iadd, a_iceq, a_icne, a_ifeq, a_ifne, a_ild, a_iret, a_ist, a_isub, a_pi, a_push, sh_0, sh_45, sh_5, pu_rv, pu_as, Value.category, pu_bk, pu_kl, List.replicate, pu_wi_1, pu_wi_2, nl_add, nl_ladd, nl_aa, nl_mul, nl_rmul, nl_mm, pu_qe0, pu_qe1, n3, e5, v2, p3, q1]
      · generalize pu_wi R 71 21 v2' = W at *
        generalize pu_wi R 71 21 v = W0 at *
        rw [qX12_call]
        simp [a_ent, bX12_call_0, bX12_call_14, bX12_call_17, bX12_call_30, a_ald, a_cs, a_cv, a_iceq, a_ifeq, a_ifne, a_ild, a_iret, a_ist, a_push, sh_71, pu_rv, pu_as, Value.category, pu_bk, pu_kl, List.replicate, pu_wi_1, pu_wi_2, nl_add, nl_ladd, nl_aa, nl_mul, nl_rmul, nl_mm, pu_qe0, pu_qe1, r3, e6, es, g]
        all_goals try simp (maxSteps := 400000) (disch := omega) [nl_tle, nl_fle, nl_tlt, nl_flt, nl_teq, nl_feq, nl_sub, nl_ss, nl_lt, nl_llt, nl_ltt, nl_le, nl_lle, nl_lee, nl_eq, nl_leq, nl_ee, nl_div, nl_rem, nl_cl, nl_n1, nl_n2, nl_n3, nl_n4, nl_add, nl_ladd, nl_aa, nl_mul, nl_rmul, nl_mm, pu_wi_1, pu_wi_2, bX12_call_0, bX12_call_14, bX12_call_17, bX12_call_30, a_ald, a_cs, a_cv, a_iceq, a_ifeq, a_ifne, a_ild, a_iret, a_ist, a_push, sh_71, pu_rv, pu_as, Value.category, pu_bk, pu_kl, pu_qe0, pu_qe1, r3, e6, es, g]
        all_goals try simp [bX12_call_0, bX12_call_14, bX12_call_17, bX12_call_30, a_ald, a_cs, a_cv, a_iceq, a_ifeq, a_ifne, a_ild, a_iret, a_ist, a_push, sh_71, pu_rv, pu_as, Value.category, pu_bk, pu_kl, List.replicate, pu_wi_1, pu_wi_2, nl_add, nl_ladd, nl_aa, nl_mul, nl_rmul, nl_mm, pu_qe0, pu_qe1, r3, e6, es, g]
        all_goals try simp (maxSteps := 400000) (disch := omega) [nl_tle, nl_fle, nl_tlt, nl_flt, nl_teq, nl_feq, nl_sub, nl_ss, nl_lt, nl_llt, nl_ltt, nl_le, nl_lle, nl_lee, nl_eq, nl_leq, nl_ee, nl_div, nl_rem, nl_cl, nl_n1, nl_n2, nl_n3, nl_n4, nl_add, nl_ladd, nl_aa, nl_mul, nl_rmul, nl_mm, pu_wi_1, pu_wi_2, bX12_call_0, bX12_call_14, bX12_call_17, bX12_call_30, a_ald, a_cs, a_cv, a_iceq, a_ifeq, a_ifne, a_ild, a_iret, a_ist, a_push, sh_71, pu_rv, pu_as, Value.category, pu_bk, pu_kl, pu_qe0, pu_qe1, r3, e6, es, g]
        all_goals try simp [bX12_call_0, bX12_call_14, bX12_call_17, bX12_call_30, a_ald, a_cs, a_cv, a_iceq, a_ifeq, a_ifne, a_ild, a_iret, a_ist, a_push, sh_71, pu_rv, pu_as, Value.category, pu_bk, pu_kl, List.replicate, pu_wi_1, pu_wi_2, nl_add, nl_ladd, nl_aa, nl_mul, nl_rmul, nl_mm, pu_qe0, pu_qe1, r3, e6, es, g]
        all_goals try simp (maxSteps := 400000) (disch := omega) [nl_tle, nl_fle, nl_tlt, nl_flt, nl_teq, nl_feq, nl_sub, nl_ss, nl_lt, nl_llt, nl_ltt, nl_le, nl_lle, nl_lee, nl_eq, nl_leq, nl_ee, nl_div, nl_rem, nl_cl, nl_n1, nl_n2, nl_n3, nl_n4, nl_add, nl_ladd, nl_aa, nl_mul, nl_rmul, nl_mm, pu_wi_1, pu_wi_2, bX12_call_0, bX12_call_14, bX12_call_17, bX12_call_30, a_ald, a_cs, a_cv, a_iceq, a_ifeq, a_ifne, a_ild, a_iret, a_ist, a_push, sh_71, pu_rv, pu_as, Value.category, pu_bk, pu_kl, pu_qe0, pu_qe1, r3, e6, es, g]
        all_goals try simp [bX12_call_0, bX12_call_14, bX12_call_17, bX12_call_30, a_ald, a_cs, a_cv, a_iceq, a_ifeq, a_ifne, a_ild, a_iret, a_ist, a_push, sh_71, pu_rv, pu_as, Value.category, pu_bk, pu_kl, List.replicate, pu_wi_1, pu_wi_2, nl_add, nl_ladd, nl_aa, nl_mul, nl_rmul, nl_mm, pu_qe0, pu_qe1, r3, e6, es, g]
    · exact absurd (q2 d g1) g2
  · -- the last day
    have f2 : P.2.2.1 0 2 = some 5 := fx_0_2 (pz_fx_of hxV p1.1)
    have f6 : P.2.2.1 5 6 = some 45 := fx_5_6 (pz_fx_of hxV p1.1)
    obtain ⟨oo, hoo⟩ : ∃ oo, P.1 0 9 = oo := ⟨_, rfl⟩
    rw [hoo] at d3 d4
    have pl : nI d + 1 = nI (d + 1) := by rw [show (1 : Int32) = nI 1 from rfl, nI_add]
    have hoo' : (pu_wi P 45 1 (nI (d + 1))).1 0 9 = oo := by rw [py_wi_o (by omega)]; exact hoo
    obtain ⟨Q, hQ⟩ : ∃ Q, pu_wi P 45 1 (nI (d + 1)) = Q := ⟨_, rfl⟩
    have Qo : ∀ a j, ¬ (a = 45 ∧ j = 1) → Q.1 a j = P.1 a j := fun a j c => by rw [← hQ, py_wi_o c]
    have Q2 : Q.2 = N.2 := by rw [← hQ]; exact P2
    have Q1 : Q.1 45 1 = nI (d + 1) := by rw [← hQ]; simp [pu_wi_1]
    rw [hQ] at hoo'
    obtain ⟨R, r1, r2, r3, hxR, SR⟩ := RG Q Q2 (fun a j z z2 c => by rw [Qo a j (by omega)]; exact Po a j z c)
    rw [r3q] at r3
    have H := HR R r2 hxR SR
    obtain ⟨v, es⟩ := RS R H
    have e6 := r_isDay y R
    rw [pu_q1 hy] at e6
    obtain ⟨v2', g⟩ := RL _ (py_H_w H v)
    rw [py_wi_s] at g
    rcases g with ⟨g, _⟩ | ⟨d', g1, g2, g3, g4⟩
    · exact absurd (g d d1) (by rw [← d4]; exact d3)
    · have dd : d' = d := by
        rcases Nat.lt_trichotomy d' d with z | z | z
        · exact absurd (g3 d z d1) (by rw [← d4]; exact d3)
        · exact z
        · exact absurd (d5 d' z g1) g2
      rw [dd, ← d4] at g4
      refine ⟨-100 - oo, Q, pu_wi (pu_wi R 71 21 v2') 72 16 (nI (d + 1)), ?_, ?_, ?_⟩
      · have d3' := d3
        rw [qX11_call]
        simp [a_ent, bX11_call_0, bX11_call_14, bX11_call_17, bX11_call_30, bX11_call_45, a_ald, a_cs, a_cv, a_gi, a_gr, a_iadd, a_iceq, a_icne, a_ifeq, a_ifne, a_ild, a_iret, a_ist, a_isub, a_pi, a_push, sh_0, sh_45, sh_5, pu_rv, pu_as, Value.category, pu_bk, pu_kl, List.replicate, pu_wi_1, pu_wi_2, nl_add, nl_ladd, nl_aa, nl_mul, nl_rmul, nl_mm, pu_qe0, pu_qe1, n3, e5, v2, p3, hoo, d3', f2, f6, d2, pl, hQ, hoo']
        all_goals try simp (maxSteps := 400000) (disch := omega) [nl_tle, nl_fle, nl_tlt, nl_flt, nl_teq, nl_feq, nl_sub, nl_ss, nl_lt, nl_llt, nl_ltt, nl_le, nl_lle, nl_lee, nl_eq, nl_leq, nl_ee, nl_div, nl_rem, nl_cl, nl_n1, nl_n2, nl_n3, nl_n4, nl_add, nl_ladd, nl_aa, nl_mul, nl_rmul, nl_mm, pu_wi_1, pu_wi_2, bX11_call_0, bX11_call_14, bX11_call_17, bX11_call_30, bX11_call_45, a_ald, a_cs, a_cv, a_gi, a_gr, a_iadd, a_iceq, a_icne, a_ifeq, a_ifne, a_ild, a_iret, a_ist, a_isub, a_pi, a_push, sh_0, sh_45, sh_5, pu_rv, pu_as, Value.category, pu_bk, pu_kl, pu_qe0, pu_qe1, n3, e5, v2, p3, hoo, d3', f2, f6, d2, pl, hQ, hoo']
        all_goals try simp [bX11_call_0, bX11_call_14, bX11_call_17, bX11_call_30, bX11_call_45, a_ald, a_cs, a_cv, a_gi, a_gr, a_iadd, a_iceq, a_icne, a_ifeq, a_ifne, a_ild, a_iret, a_ist, a_isub, a_pi, a_push, sh_0, sh_45, sh_5, pu_rv, pu_as, Value.category, pu_bk, pu_kl, List.replicate, pu_wi_1, pu_wi_2, nl_add, nl_ladd, nl_aa, nl_mul, nl_rmul, nl_mm, pu_qe0, pu_qe1, n3, e5, v2, p3, hoo, d3', f2, f6, d2, pl, hQ, hoo']
        all_goals try simp (maxSteps := 400000) (disch := omega) [nl_tle, nl_fle, nl_tlt, nl_flt, nl_teq, nl_feq, nl_sub, nl_ss, nl_lt, nl_llt, nl_ltt, nl_le, nl_lle, nl_lee, nl_eq, nl_leq, nl_ee, nl_div, nl_rem, nl_cl, nl_n1, nl_n2, nl_n3, nl_n4, nl_add, nl_ladd, nl_aa, nl_mul, nl_rmul, nl_mm, pu_wi_1, pu_wi_2, bX11_call_0, bX11_call_14, bX11_call_17, bX11_call_30, bX11_call_45, a_ald, a_cs, a_cv, a_gi, a_gr, a_iadd, a_iceq, a_icne, a_ifeq, a_ifne, a_ild, a_iret, a_ist, a_isub, a_pi, a_push, sh_0, sh_45, sh_5, pu_rv, pu_as, Value.category, pu_bk, pu_kl, pu_qe0, pu_qe1, n3, e5, v2, p3, hoo, d3', f2, f6, d2, pl, hQ, hoo']
        all_goals try simp [bX11_call_0, bX11_call_14, bX11_call_17, bX11_call_30, bX11_call_45, a_ald, a_cs, a_cv, a_gi, a_gr, a_iadd, a_iceq, a_icne, a_ifeq, a_ifne, a_ild, a_iret, a_ist, a_isub, a_pi, a_push, sh_0, sh_45, sh_5, pu_rv, pu_as, Value.category, pu_bk, pu_kl, List.replicate, pu_wi_1, pu_wi_2, nl_add, nl_ladd, nl_aa, nl_mul, nl_rmul, nl_mm, pu_qe0, pu_qe1, n3, e5, v2, p3, hoo, d3', f2, f6, d2, pl, hQ, hoo']
        all_goals try simp (maxSteps := 400000) (disch := omega) [nl_tle, nl_fle, nl_tlt, nl_flt, nl_teq, nl_feq, nl_sub, nl_ss, nl_lt, nl_llt, nl_ltt, nl_le, nl_lle, nl_lee, nl_eq, nl_leq, nl_ee, nl_div, nl_rem, nl_cl, nl_n1, nl_n2, nl_n3, nl_n4, nl_add, nl_ladd, nl_aa, nl_mul, nl_rmul, nl_mm, pu_wi_1, pu_wi_2, bX11_call_0, bX11_call_14, bX11_call_17, bX11_call_30, bX11_call_45, a_ald, a_cs, a_cv, a_gi, a_gr, a_iadd, a_iceq, a_icne, a_ifeq, a_ifne, a_ild, a_iret, a_ist, a_isub, a_pi, a_push, sh_0, sh_45, sh_5, pu_rv, pu_as, Value.category, pu_bk, pu_kl, pu_qe0, pu_qe1, n3, e5, v2, p3, hoo, d3', f2, f6, d2, pl, hQ, hoo']
        all_goals try simp [bX11_call_0, bX11_call_14, bX11_call_17, bX11_call_30, bX11_call_45, a_ald, a_cs, a_cv, a_gi, a_gr, a_iadd, a_iceq, a_icne, a_ifeq, a_ifne, a_ild, a_iret, a_ist, a_isub, a_pi, a_push, sh_0, sh_45, sh_5, pu_rv, pu_as, Value.category, pu_bk, pu_kl, List.replicate, pu_wi_1, pu_wi_2, nl_add, nl_ladd, nl_aa, nl_mul, nl_rmul, nl_mm, pu_qe0, pu_qe1, n3, e5, v2, p3, hoo, d3', f2, f6, d2, pl, hQ, hoo']
      · generalize pu_wi (pu_wi R 71 21 v2') 72 16 (nI (d + 1)) = W at *
        generalize pu_wi R 71 21 v = W0 at *
        rw [qX12_call]
        simp [a_ent, bX12_call_0, bX12_call_14, bX12_call_17, bX12_call_30, a_ald, a_cs, a_cv, a_iceq, a_ifeq, a_ifne, a_ild, a_iret, a_ist, a_push, sh_71, pu_rv, pu_as, Value.category, pu_bk, pu_kl, List.replicate, pu_wi_1, pu_wi_2, nl_add, nl_ladd, nl_aa, nl_mul, nl_rmul, nl_mm, pu_qe0, pu_qe1, r3, e6, es, g4]
        all_goals try simp (maxSteps := 400000) (disch := omega) [nl_tle, nl_fle, nl_tlt, nl_flt, nl_teq, nl_feq, nl_sub, nl_ss, nl_lt, nl_llt, nl_ltt, nl_le, nl_lle, nl_lee, nl_eq, nl_leq, nl_ee, nl_div, nl_rem, nl_cl, nl_n1, nl_n2, nl_n3, nl_n4, nl_add, nl_ladd, nl_aa, nl_mul, nl_rmul, nl_mm, pu_wi_1, pu_wi_2, bX12_call_0, bX12_call_14, bX12_call_17, bX12_call_30, a_ald, a_cs, a_cv, a_iceq, a_ifeq, a_ifne, a_ild, a_iret, a_ist, a_push, sh_71, pu_rv, pu_as, Value.category, pu_bk, pu_kl, pu_qe0, pu_qe1, r3, e6, es, g4]
        all_goals try simp [bX12_call_0, bX12_call_14, bX12_call_17, bX12_call_30, a_ald, a_cs, a_cv, a_iceq, a_ifeq, a_ifne, a_ild, a_iret, a_ist, a_push, sh_71, pu_rv, pu_as, Value.category, pu_bk, pu_kl, List.replicate, pu_wi_1, pu_wi_2, nl_add, nl_ladd, nl_aa, nl_mul, nl_rmul, nl_mm, pu_qe0, pu_qe1, r3, e6, es, g4]
        all_goals try simp (maxSteps := 400000) (disch := omega) [nl_tle, nl_fle, nl_tlt, nl_flt, nl_teq, nl_feq, nl_sub, nl_ss, nl_lt, nl_llt, nl_ltt, nl_le, nl_lle, nl_lee, nl_eq, nl_leq, nl_ee, nl_div, nl_rem, nl_cl, nl_n1, nl_n2, nl_n3, nl_n4, nl_add, nl_ladd, nl_aa, nl_mul, nl_rmul, nl_mm, pu_wi_1, pu_wi_2, bX12_call_0, bX12_call_14, bX12_call_17, bX12_call_30, a_ald, a_cs, a_cv, a_iceq, a_ifeq, a_ifne, a_ild, a_iret, a_ist, a_push, sh_71, pu_rv, pu_as, Value.category, pu_bk, pu_kl, pu_qe0, pu_qe1, r3, e6, es, g4]
        all_goals try simp [bX12_call_0, bX12_call_14, bX12_call_17, bX12_call_30, a_ald, a_cs, a_cv, a_iceq, a_ifeq, a_ifne, a_ild, a_iret, a_ist, a_push, sh_71, pu_rv, pu_as, Value.category, pu_bk, pu_kl, List.replicate, pu_wi_1, pu_wi_2, nl_add, nl_ladd, nl_aa, nl_mul, nl_rmul, nl_mm, pu_qe0, pu_qe1, r3, e6, es, g4]
        all_goals try simp (maxSteps := 400000) (disch := omega) [nl_tle, nl_fle, nl_tlt, nl_flt, nl_teq, nl_feq, nl_sub, nl_ss, nl_lt, nl_llt, nl_ltt, nl_le, nl_lle, nl_lee, nl_eq, nl_leq, nl_ee, nl_div, nl_rem, nl_cl, nl_n1, nl_n2, nl_n3, nl_n4, nl_add, nl_ladd, nl_aa, nl_mul, nl_rmul, nl_mm, pu_wi_1, pu_wi_2, bX12_call_0, bX12_call_14, bX12_call_17, bX12_call_30, a_ald, a_cs, a_cv, a_iceq, a_ifeq, a_ifne, a_ild, a_iret, a_ist, a_push, sh_71, pu_rv, pu_as, Value.category, pu_bk, pu_kl, pu_qe0, pu_qe1, r3, e6, es, g4]
        all_goals try simp [bX12_call_0, bX12_call_14, bX12_call_17, bX12_call_30, a_ald, a_cs, a_cv, a_iceq, a_ifeq, a_ifne, a_ild, a_iret, a_ist, a_push, sh_71, pu_rv, pu_as, Value.category, pu_bk, pu_kl, List.replicate, pu_wi_1, pu_wi_2, nl_add, nl_ladd, nl_aa, nl_mul, nl_rmul, nl_mm, pu_qe0, pu_qe1, r3, e6, es, g4]
      · have J5 : ∀ a j, ¬ (a = 72 ∧ j = 16) → ¬ (a = 71 ∧ (j = 21 ∨ j = 22)) → (pu_wi (pu_wi R 71 21 v2') 72 16 (nI (d + 1))).1 a j = R.1 a j := fun a j c1 c2 => by rw [py_wi_o (by omega), py_wi_o (by omega)]
        have JQ : ∀ a j, 5 ≤ a → a < 58 → pu_si (pu_wi (pu_wi R 71 21 v2') 72 16 (nI (d + 1))) 5 a j = Q.1 a j := fun a j c1 c2 => by rw [← pu_ag5 _ a j c1 c2, J5 a j (by omega) (by omega), r1.2.1 a j (by omega) (by omega) (by omega) (by omega) (by omega)]
        refine py_Inv_a0 h n1 Q2 (fun a j z c d => by rw [Qo a j (by omega)]; exact Po a j z d) r1 rfl (fun a j _ c d => J5 a j (by omega) d) ?_
        rw [show pu_sj (pu_wi (pu_wi R 71 21 v2') 72 16 (nI (d + 1))) 5 = pu_sj M 5 from pu_sj_eq (fun a j h1 h2 => by show R.2.1 a j = _; rw [r1.1, Q2, m4 a j (by omega) (by omega)])]
        refine St_ended SR (fun a j c1 => ?_) (fun j c1 => ?_) ?_
        · by_cases z : 5 ≤ a ∧ a < 58
          · rw [JQ a j z.1 z.2, Qo a j c1, Po a j (by omega) (by omega)]
            exact hIN a j z.1 z.2
          · unfold pu_si
            rw [if_neg z, if_neg z]
        · exact J5 72 j (by omega) (by omega)
        · rw [JQ 45 1 (by omega) (by omega), Q1]
          simp [pu_wi_1]
