/-! pairs, on the reference's side -/
section
variable {I J : Nat → Nat → Int32} {L : Nat → Nat → Int64} {s s' : Nat → Int32}
theorem St_pairs (h : pu_St I L s) {c : Nat} (hc : c ≤ 200) (F : ∀ x j, ¬ (49 ≤ x ∧ x ≤ 51) → ¬ (x = 45 ∧ j = 3) → J x j = I x j) (v2 : J 45 3 = nI c) (G : ∀ j, j ≠ 14 → ¬ (60008 ≤ j ∧ j < 60408) → s' j = s j) (g14 : s' 14 = nI c) (g : ∀ k, k < c → s' (60008 + 2 * k) = J 49 k ∧ s' (60008 + 2 * k + 1) = J 50 k) : pu_St J L s' := by
  have hw := h.1
  have hr := h.2
  have bQ := wx_bQ hw
  have bS := wx_bS hw
  have bW := wx_bW hw
  have bO := wx_bO hw
  have bE := wx_bE hw
  have cR' : cR J = c := pz_cc v2 (by omega)
  have cE' : cE J = cE I := by unfold cE; rw [F 45 6 (by omega) (by omega)]
  have cQ' : cQ J = cQ I := by unfold cQ; rw [F 45 2 (by omega) (by omega)]
  have cS' : cS J = cS I := by unfold cS; rw [F 45 4 (by omega) (by omega)]
  have cW' : cW J = cW I := by unfold cW; rw [F 45 5 (by omega) (by omega)]
  have cO' : cO J = cO I := by unfold cO; rw [F 45 7 (by omega) (by omega)]
  rw [pu_dk_e (I := I) (I' := J) (fun a j ha => F a j (by omega) (by omega))]
  refine St_desk h (fun j hj => G j (by omega) (by omega)) ⟨⟨?_, ?_, ?_, ?_, ?_, ?_⟩, ⟨by omega, by omega, by omega, by omega, by omega, by omega⟩, fun k hk => ?_, fun a b hab hb => ?_⟩ ⟨?_, ?_, ?_, ?_, ?_, ?_, ?_, ?_⟩ ⟨fun k hk => ?_, fun k hk => ?_, fun k hk => ?_, fun k hk => ?_, fun k hk => ?_, fun k hk => ?_, fun k hk => ?_, fun k hk => ?_, fun k hk => ?_, fun k hk => ?_⟩
  · rw [F 45 2 (by omega) (by omega), cQ']; exact wx_cQ hw
  · rw [cR']; exact v2
  · rw [F 45 4 (by omega) (by omega), cS']; exact wx_cS hw
  · rw [F 45 5 (by omega) (by omega), cW']; exact wx_cW hw
  · rw [F 45 6 (by omega) (by omega), cE']; exact wx_cE hw
  · rw [F 45 7 (by omega) (by omega), cO']; exact wx_cO hw
  · rw [cS'] at hk
    rw [F 53 k (by omega) (by omega)]; exact wx_es hw k hk
  · rw [cW'] at hb
    rw [F 54 a (by omega) (by omega), F 54 b (by omega) (by omega)]; exact wx_ew hw a b hab hb
  · rw [G 9 (by omega) (by omega), cS']; exact rl_h9 hr
  · rw [G 10 (by omega) (by omega), cE']; exact rl_h10 hr
  · rw [G 11 (by omega) (by omega), cQ']; exact rl_h11 hr
  · rw [G 12 (by omega) (by omega), cW']; exact rl_h12 hr
  · rw [G 13 (by omega) (by omega), cO']; exact rl_h13 hr
  · rw [cR']; exact g14
  · rw [G 15 (by omega) (by omega), F 45 0 (by omega) (by omega)]; exact rl_h15 hr
  · rw [G 16 (by omega) (by omega), F 45 1 (by omega) (by omega)]; exact rl_h16 hr
  · rw [cS'] at hk
    rw [G _ (by omega) (by omega), F 52 k (by omega) (by omega)]; exact rl_eS0 hr k hk
  · rw [cS'] at hk
    rw [G _ (by omega) (by omega), F 53 k (by omega) (by omega)]; exact rl_eS1 hr k hk
  · rw [cE'] at hk
    rw [G _ (by omega) (by omega), F 55 k (by omega) (by omega)]; exact rl_eE hr k hk
  · rw [cQ'] at hk
    rw [G _ (by omega) (by omega), F 46 k (by omega) (by omega)]; exact rl_eQ0 hr k hk
  · rw [cQ'] at hk
    rw [G _ (by omega) (by omega), F 47 k (by omega) (by omega)]; exact rl_eQ1 hr k hk
  · rw [cW'] at hk
    rw [G _ (by omega) (by omega), F 54 k (by omega) (by omega)]; exact rl_eW hr k hk
  · rw [cO'] at hk
    rw [G _ (by omega) (by omega), F 56 k (by omega) (by omega)]; exact rl_eO0 hr k hk
  · rw [cO'] at hk
    rw [G _ (by omega) (by omega), F 57 k (by omega) (by omega)]; exact rl_eO1 hr k hk
  · rw [cR'] at hk
    exact (g k hk).1
  · rw [cR'] at hk
    exact (g k hk).2
end
/-- an office with c pairs, as the reference's row has them -/
def py_JP (I : Nat → Nat → Int32) (s : Nat → Int32) (c : Nat) : Nat → Nat → Int32 := pu_dk I (fun a j => if a = 45 ∧ j = 3 then nI c else if a = 49 then s (60008 + 2 * j) else if a = 50 then s (60008 + 2 * j + 1) else I a j)
theorem St_JP {I : Nat → Nat → Int32} {L : Nat → Nat → Int64} {s s' : Nat → Int32} (h : pu_St I L s) {c : Nat} (hc : c ≤ 200) (G : ∀ j, j ≠ 14 → ¬ (60008 ≤ j ∧ j < 60408) → s' j = s j) (g14 : s' 14 = nI c) : pu_St (py_JP I s' c) L s' := by
  refine St_pairs h hc (fun x j z1 z2 => ?_) ?_ G g14 (fun k hk => ⟨?_, ?_⟩)
  · unfold py_JP pu_dk
    by_cases z : x < 45
    · rw [if_pos z]
    · rw [if_neg z]
      show (if x = 45 ∧ j = 3 then _ else if x = 49 then _ else if x = 50 then _ else I x j) = I x j
      rw [if_neg z2, if_neg (by omega), if_neg (by omega)]
  · rfl
  · rfl
  · rfl
section
variable {M : pu_M} {I : Nat → Nat → Int32} {L : Nat → Nat → Int64}
/-- the least known number above lv in street a, of slots below J -/
def py_pm (I : Nat → Nat → Int32) (a lv J : Nat) (v : Nat) (dr : Int32) : Prop := (v = 160000 ∧ dr = -1 ∧ ∀ i, py_kI I a i → pu_sl0 I i < J → ¬ lv < py_k16 I i) ∨ ∃ i, py_kI I a i ∧ pu_sl0 I i < J ∧ lv < py_k16 I i ∧ py_k16 I i = v ∧ dr = nI (pu_sl0 I i / 2) ∧ ∀ l, py_kI I a l → pu_sl0 I l < J → lv < py_k16 I l → v ≤ py_k16 I l
theorem py_pm_s {a lv J v : Nat} {dr : Int32} (hn : ∀ i, py_kI I a i → pu_sl0 I i = J → ¬ (lv < py_k16 I i ∧ py_k16 I i < v)) (hv : v ≤ 160000) (hw : pu_WF I L) (g : py_pm I a lv J v dr) : py_pm I a lv (J + 1) v dr := by
  rcases g with ⟨a1, a2, a3⟩ | ⟨i, i1, i2, i3, i4, i5, i6⟩
  · refine Or.inl ⟨a1, a2, fun l hl hs z => ?_⟩
    by_cases e : pu_sl0 I l = J
    · exact hn l hl e ⟨z, by rw [a1]; exact (py_k16_e hw hl.1).2⟩
    · exact a3 l hl (by omega) z
  · refine Or.inr ⟨i, i1, by omega, i3, i4, i5, fun l hl hs z => ?_⟩
    by_cases e : pu_sl0 I l = J
    · exact Nat.not_lt.mp (fun q => hn l hl e ⟨z, q⟩)
    · exact i6 l hl (by omega) z
theorem py_pm_t {a lv J v i : Nat} {dr : Int32} (hw : pu_WF I L) (hi : py_kI I a i) (hs : pu_sl0 I i = J) (h1 : lv < py_k16 I i) (h2 : py_k16 I i < v) (g : py_pm I a lv J v dr) : py_pm I a lv (J + 1) (py_k16 I i) (nI (J / 2)) := by
  refine Or.inr ⟨i, hi, by omega, h1, rfl, by rw [hs], fun l hl hl2 z => ?_⟩
  by_cases e : pu_sl0 I l = J
  · have : l = i := pz_os_un hw (j := J) ⟨hl.1, e, hl.2.1⟩ ⟨hi.1, hs, hi.2.1⟩
    rw [this]
    exact Nat.le_refl _
  · rcases g with ⟨_, _, a3⟩ | ⟨k, _, _, _, k4, _, k6⟩
    · exact absurd z (a3 l hl (by omega))
    · have := k6 l hl (by omega) z
      omega
theorem r_pm_i (hx : pu_fx M) (hr : pu_Rel I L (M.1 72)) (hw : pu_WF I L) (a b lv d w v : Nat) (hlv : lv ≤ 160000) (hv : v ≤ 160000) (hd : d < cD I) (hw2 : w < 2) (dr : Int32) (t8 : Option Value) : ∃ v2 dr2 u8, v2 ≤ 160000 ∧ (py_pm I a lv (2 * d + w) v dr → py_pm I a lv (2 * d + w + 1) v2 dr2) ∧ pu_r 514 [some (.ref 71), some (.int (nI a)), some (.int (nI b)), some (.int (nI lv)), some (.int (nI v)), some (.int dr), some (.int (nI d)), some (.int (nI w)), t8] [] M = pu_r 514 [some (.ref 71), some (.int (nI a)), some (.int (nI b)), some (.int (nI lv)), some (.int (nI v2)), some (.int dr2), some (.int (nI d)), some (.int (nI (w + 1))), u8] [] M := by
  have bD := wx_bD hw
  have hc : ¬ 2 ≤ nI w := nI_ge (b := 2) (by omega) (by omega)
  have e3 := r_streetAt hx hr hw d w hd hw2
  rcases r_open3 hx hr hw d w a hd hw2 with ⟨k, hk, k1, k2, k3, k4⟩ | ⟨h1, h2⟩
  · have ke := py_k16_e hw hk.1
    have kl := ke.2
    rw [ke.1] at k4
    rw [k1] at e3
    have KI : ∀ l, py_kI I a l → pu_sl0 I l = 2 * d + w → l = k := fun l hl e => pz_os_un hw ⟨hl.1, e, hl.2.1⟩ hk
    by_cases c1 : lv < py_k16 I k
    · have c1' : ¬ nI (py_k16 I k) ≤ nI lv := nI_ge c1 (by omega)
      by_cases c2 : py_k16 I k < v
      · have c2' : nI (py_k16 I k) < nI v := nI_lt c2 (by omega)
        have ki : py_kI I a k := ⟨hk.1, hk.2.2, fun z => by
          rw [ke.1, show (0 : Int32) = nI 0 from rfl, nI_eq (by omega) (by omega)] at z
          omega, by rw [hk.2.1]; exact k1⟩
        refine ⟨py_k16 I k, nI d, some (.int (nI (py_k16 I k))), by omega, fun g => ?_, ?_⟩
        · have := py_pm_t hw ki hk.2.1 c1 c2 g
          rw [show (2 * d + w) / 2 = d by omega] at this
          exact this
        · generalize py_k16 I k = kv at *
          rw [qX12_pairs_32]
          simp [bX12_pairs_32, bX12_pairs_113, bX12_pairs_107, bX12_pairs_73, bX12_pairs_99, a_ald, a_cv, a_iceq, a_icge, a_icle, a_iclt, a_ifeq, a_ild, a_inc, a_ist, a_push, sh_71, pu_rv, pu_as, Value.category, pu_bk, pu_kl, List.replicate, pu_wi_1, pu_wi_2, nl_add, nl_ladd, nl_aa, nl_mul, nl_rmul, nl_mm, pu_qe0, pu_qe1, hc, k2, k3, e3, k4, c1', c1, c2', c2]
          all_goals try simp (maxSteps := 400000) (disch := omega) [nl_tle, nl_fle, nl_tlt, nl_flt, nl_teq, nl_feq, nl_sub, nl_ss, nl_lt, nl_llt, nl_ltt, nl_le, nl_lle, nl_lee, nl_eq, nl_leq, nl_ee, nl_div, nl_rem, nl_cl, nl_n1, nl_n2, nl_n3, nl_n4, nl_add, nl_ladd, nl_aa, nl_mul, nl_rmul, nl_mm, pu_wi_1, pu_wi_2, bX12_pairs_32, bX12_pairs_113, bX12_pairs_107, bX12_pairs_73, bX12_pairs_99, a_ald, a_cv, a_iceq, a_icge, a_icle, a_iclt, a_ifeq, a_ild, a_inc, a_ist, a_push, sh_71, pu_rv, pu_as, Value.category, pu_bk, pu_kl, pu_qe0, pu_qe1, hc, k2, k3, e3, k4, c1', c1, c2', c2]
          all_goals try simp [bX12_pairs_32, bX12_pairs_113, bX12_pairs_107, bX12_pairs_73, bX12_pairs_99, a_ald, a_cv, a_iceq, a_icge, a_icle, a_iclt, a_ifeq, a_ild, a_inc, a_ist, a_push, sh_71, pu_rv, pu_as, Value.category, pu_bk, pu_kl, List.replicate, pu_wi_1, pu_wi_2, nl_add, nl_ladd, nl_aa, nl_mul, nl_rmul, nl_mm, pu_qe0, pu_qe1, hc, k2, k3, e3, k4, c1', c1, c2', c2]
          all_goals try simp (maxSteps := 400000) (disch := omega) [nl_tle, nl_fle, nl_tlt, nl_flt, nl_teq, nl_feq, nl_sub, nl_ss, nl_lt, nl_llt, nl_ltt, nl_le, nl_lle, nl_lee, nl_eq, nl_leq, nl_ee, nl_div, nl_rem, nl_cl, nl_n1, nl_n2, nl_n3, nl_n4, nl_add, nl_ladd, nl_aa, nl_mul, nl_rmul, nl_mm, pu_wi_1, pu_wi_2, bX12_pairs_32, bX12_pairs_113, bX12_pairs_107, bX12_pairs_73, bX12_pairs_99, a_ald, a_cv, a_iceq, a_icge, a_icle, a_iclt, a_ifeq, a_ild, a_inc, a_ist, a_push, sh_71, pu_rv, pu_as, Value.category, pu_bk, pu_kl, pu_qe0, pu_qe1, hc, k2, k3, e3, k4, c1', c1, c2', c2]
          all_goals try simp [bX12_pairs_32, bX12_pairs_113, bX12_pairs_107, bX12_pairs_73, bX12_pairs_99, a_ald, a_cv, a_iceq, a_icge, a_icle, a_iclt, a_ifeq, a_ild, a_inc, a_ist, a_push, sh_71, pu_rv, pu_as, Value.category, pu_bk, pu_kl, List.replicate, pu_wi_1, pu_wi_2, nl_add, nl_ladd, nl_aa, nl_mul, nl_rmul, nl_mm, pu_qe0, pu_qe1, hc, k2, k3, e3, k4, c1', c1, c2', c2]
          all_goals try simp (maxSteps := 400000) (disch := omega) [nl_tle, nl_fle, nl_tlt, nl_flt, nl_teq, nl_feq, nl_sub, nl_ss, nl_lt, nl_llt, nl_ltt, nl_le, nl_lle, nl_lee, nl_eq, nl_leq, nl_ee, nl_div, nl_rem, nl_cl, nl_n1, nl_n2, nl_n3, nl_n4, nl_add, nl_ladd, nl_aa, nl_mul, nl_rmul, nl_mm, pu_wi_1, pu_wi_2, bX12_pairs_32, bX12_pairs_113, bX12_pairs_107, bX12_pairs_73, bX12_pairs_99, a_ald, a_cv, a_iceq, a_icge, a_icle, a_iclt, a_ifeq, a_ild, a_inc, a_ist, a_push, sh_71, pu_rv, pu_as, Value.category, pu_bk, pu_kl, pu_qe0, pu_qe1, hc, k2, k3, e3, k4, c1', c1, c2', c2]
          all_goals try simp [bX12_pairs_32, bX12_pairs_113, bX12_pairs_107, bX12_pairs_73, bX12_pairs_99, a_ald, a_cv, a_iceq, a_icge, a_icle, a_iclt, a_ifeq, a_ild, a_inc, a_ist, a_push, sh_71, pu_rv, pu_as, Value.category, pu_bk, pu_kl, List.replicate, pu_wi_1, pu_wi_2, nl_add, nl_ladd, nl_aa, nl_mul, nl_rmul, nl_mm, pu_qe0, pu_qe1, hc, k2, k3, e3, k4, c1', c1, c2', c2]
      · have c2' : ¬ nI (py_k16 I k) < nI v := fun z => by rw [nI_ltI (by omega) (by omega)] at z; exact c2 z
        refine ⟨v, dr, some (.int (nI (py_k16 I k))), hv, py_pm_s (fun l hl e z => by rw [KI l hl e] at z; exact c2 z.2) hv hw, ?_⟩
        generalize py_k16 I k = kv at *
        rw [qX12_pairs_32]
        simp [bX12_pairs_32, bX12_pairs_113, bX12_pairs_107, bX12_pairs_73, bX12_pairs_99, a_ald, a_cv, a_iceq, a_icge, a_icle, a_iclt, a_ifeq, a_ild, a_inc, a_ist, a_push, sh_71, pu_rv, pu_as, Value.category, pu_bk, pu_kl, List.replicate, pu_wi_1, pu_wi_2, nl_add, nl_ladd, nl_aa, nl_mul, nl_rmul, nl_mm, pu_qe0, pu_qe1, hc, k2, k3, e3, k4, c1', c1, c2', c2]
        all_goals try simp (maxSteps := 400000) (disch := omega) [nl_tle, nl_fle, nl_tlt, nl_flt, nl_teq, nl_feq, nl_sub, nl_ss, nl_lt, nl_llt, nl_ltt, nl_le, nl_lle, nl_lee, nl_eq, nl_leq, nl_ee, nl_div, nl_rem, nl_cl, nl_n1, nl_n2, nl_n3, nl_n4, nl_add, nl_ladd, nl_aa, nl_mul, nl_rmul, nl_mm, pu_wi_1, pu_wi_2, bX12_pairs_32, bX12_pairs_113, bX12_pairs_107, bX12_pairs_73, bX12_pairs_99, a_ald, a_cv, a_iceq, a_icge, a_icle, a_iclt, a_ifeq, a_ild, a_inc, a_ist, a_push, sh_71, pu_rv, pu_as, Value.category, pu_bk, pu_kl, pu_qe0, pu_qe1, hc, k2, k3, e3, k4, c1', c1, c2', c2]
        all_goals try simp [bX12_pairs_32, bX12_pairs_113, bX12_pairs_107, bX12_pairs_73, bX12_pairs_99, a_ald, a_cv, a_iceq, a_icge, a_icle, a_iclt, a_ifeq, a_ild, a_inc, a_ist, a_push, sh_71, pu_rv, pu_as, Value.category, pu_bk, pu_kl, List.replicate, pu_wi_1, pu_wi_2, nl_add, nl_ladd, nl_aa, nl_mul, nl_rmul, nl_mm, pu_qe0, pu_qe1, hc, k2, k3, e3, k4, c1', c1, c2', c2]
        all_goals try simp (maxSteps := 400000) (disch := omega) [nl_tle, nl_fle, nl_tlt, nl_flt, nl_teq, nl_feq, nl_sub, nl_ss, nl_lt, nl_llt, nl_ltt, nl_le, nl_lle, nl_lee, nl_eq, nl_leq, nl_ee, nl_div, nl_rem, nl_cl, nl_n1, nl_n2, nl_n3, nl_n4, nl_add, nl_ladd, nl_aa, nl_mul, nl_rmul, nl_mm, pu_wi_1, pu_wi_2, bX12_pairs_32, bX12_pairs_113, bX12_pairs_107, bX12_pairs_73, bX12_pairs_99, a_ald, a_cv, a_iceq, a_icge, a_icle, a_iclt, a_ifeq, a_ild, a_inc, a_ist, a_push, sh_71, pu_rv, pu_as, Value.category, pu_bk, pu_kl, pu_qe0, pu_qe1, hc, k2, k3, e3, k4, c1', c1, c2', c2]
        all_goals try simp [bX12_pairs_32, bX12_pairs_113, bX12_pairs_107, bX12_pairs_73, bX12_pairs_99, a_ald, a_cv, a_iceq, a_icge, a_icle, a_iclt, a_ifeq, a_ild, a_inc, a_ist, a_push, sh_71, pu_rv, pu_as, Value.category, pu_bk, pu_kl, List.replicate, pu_wi_1, pu_wi_2, nl_add, nl_ladd, nl_aa, nl_mul, nl_rmul, nl_mm, pu_qe0, pu_qe1, hc, k2, k3, e3, k4, c1', c1, c2', c2]
        all_goals try simp (maxSteps := 400000) (disch := omega) [nl_tle, nl_fle, nl_tlt, nl_flt, nl_teq, nl_feq, nl_sub, nl_ss, nl_lt, nl_llt, nl_ltt, nl_le, nl_lle, nl_lee, nl_eq, nl_leq, nl_ee, nl_div, nl_rem, nl_cl, nl_n1, nl_n2, nl_n3, nl_n4, nl_add, nl_ladd, nl_aa, nl_mul, nl_rmul, nl_mm, pu_wi_1, pu_wi_2, bX12_pairs_32, bX12_pairs_113, bX12_pairs_107, bX12_pairs_73, bX12_pairs_99, a_ald, a_cv, a_iceq, a_icge, a_icle, a_iclt, a_ifeq, a_ild, a_inc, a_ist, a_push, sh_71, pu_rv, pu_as, Value.category, pu_bk, pu_kl, pu_qe0, pu_qe1, hc, k2, k3, e3, k4, c1', c1, c2', c2]
        all_goals try simp [bX12_pairs_32, bX12_pairs_113, bX12_pairs_107, bX12_pairs_73, bX12_pairs_99, a_ald, a_cv, a_iceq, a_icge, a_icle, a_iclt, a_ifeq, a_ild, a_inc, a_ist, a_push, sh_71, pu_rv, pu_as, Value.category, pu_bk, pu_kl, List.replicate, pu_wi_1, pu_wi_2, nl_add, nl_ladd, nl_aa, nl_mul, nl_rmul, nl_mm, pu_qe0, pu_qe1, hc, k2, k3, e3, k4, c1', c1, c2', c2]
    · have c1' : nI (py_k16 I k) ≤ nI lv := nI_le (by omega) (by omega)
      refine ⟨v, dr, some (.int (nI (py_k16 I k))), hv, py_pm_s (fun l hl e z => by rw [KI l hl e] at z; exact c1 z.1) hv hw, ?_⟩
      generalize py_k16 I k = kv at *
      rw [qX12_pairs_32]
      simp [bX12_pairs_32, bX12_pairs_113, bX12_pairs_107, bX12_pairs_73, bX12_pairs_99, a_ald, a_cv, a_iceq, a_icge, a_icle, a_iclt, a_ifeq, a_ild, a_inc, a_ist, a_push, sh_71, pu_rv, pu_as, Value.category, pu_bk, pu_kl, List.replicate, pu_wi_1, pu_wi_2, nl_add, nl_ladd, nl_aa, nl_mul, nl_rmul, nl_mm, pu_qe0, pu_qe1, hc, k2, k3, e3, k4, c1', c1]
      all_goals try simp (maxSteps := 400000) (disch := omega) [nl_tle, nl_fle, nl_tlt, nl_flt, nl_teq, nl_feq, nl_sub, nl_ss, nl_lt, nl_llt, nl_ltt, nl_le, nl_lle, nl_lee, nl_eq, nl_leq, nl_ee, nl_div, nl_rem, nl_cl, nl_n1, nl_n2, nl_n3, nl_n4, nl_add, nl_ladd, nl_aa, nl_mul, nl_rmul, nl_mm, pu_wi_1, pu_wi_2, bX12_pairs_32, bX12_pairs_113, bX12_pairs_107, bX12_pairs_73, bX12_pairs_99, a_ald, a_cv, a_iceq, a_icge, a_icle, a_iclt, a_ifeq, a_ild, a_inc, a_ist, a_push, sh_71, pu_rv, pu_as, Value.category, pu_bk, pu_kl, pu_qe0, pu_qe1, hc, k2, k3, e3, k4, c1', c1]
      all_goals try simp [bX12_pairs_32, bX12_pairs_113, bX12_pairs_107, bX12_pairs_73, bX12_pairs_99, a_ald, a_cv, a_iceq, a_icge, a_icle, a_iclt, a_ifeq, a_ild, a_inc, a_ist, a_push, sh_71, pu_rv, pu_as, Value.category, pu_bk, pu_kl, List.replicate, pu_wi_1, pu_wi_2, nl_add, nl_ladd, nl_aa, nl_mul, nl_rmul, nl_mm, pu_qe0, pu_qe1, hc, k2, k3, e3, k4, c1', c1]
      all_goals try simp (maxSteps := 400000) (disch := omega) [nl_tle, nl_fle, nl_tlt, nl_flt, nl_teq, nl_feq, nl_sub, nl_ss, nl_lt, nl_llt, nl_ltt, nl_le, nl_lle, nl_lee, nl_eq, nl_leq, nl_ee, nl_div, nl_rem, nl_cl, nl_n1, nl_n2, nl_n3, nl_n4, nl_add, nl_ladd, nl_aa, nl_mul, nl_rmul, nl_mm, pu_wi_1, pu_wi_2, bX12_pairs_32, bX12_pairs_113, bX12_pairs_107, bX12_pairs_73, bX12_pairs_99, a_ald, a_cv, a_iceq, a_icge, a_icle, a_iclt, a_ifeq, a_ild, a_inc, a_ist, a_push, sh_71, pu_rv, pu_as, Value.category, pu_bk, pu_kl, pu_qe0, pu_qe1, hc, k2, k3, e3, k4, c1', c1]
      all_goals try simp [bX12_pairs_32, bX12_pairs_113, bX12_pairs_107, bX12_pairs_73, bX12_pairs_99, a_ald, a_cv, a_iceq, a_icge, a_icle, a_iclt, a_ifeq, a_ild, a_inc, a_ist, a_push, sh_71, pu_rv, pu_as, Value.category, pu_bk, pu_kl, List.replicate, pu_wi_1, pu_wi_2, nl_add, nl_ladd, nl_aa, nl_mul, nl_rmul, nl_mm, pu_qe0, pu_qe1, hc, k2, k3, e3, k4, c1', c1]
      all_goals try simp (maxSteps := 400000) (disch := omega) [nl_tle, nl_fle, nl_tlt, nl_flt, nl_teq, nl_feq, nl_sub, nl_ss, nl_lt, nl_llt, nl_ltt, nl_le, nl_lle, nl_lee, nl_eq, nl_leq, nl_ee, nl_div, nl_rem, nl_cl, nl_n1, nl_n2, nl_n3, nl_n4, nl_add, nl_ladd, nl_aa, nl_mul, nl_rmul, nl_mm, pu_wi_1, pu_wi_2, bX12_pairs_32, bX12_pairs_113, bX12_pairs_107, bX12_pairs_73, bX12_pairs_99, a_ald, a_cv, a_iceq, a_icge, a_icle, a_iclt, a_ifeq, a_ild, a_inc, a_ist, a_push, sh_71, pu_rv, pu_as, Value.category, pu_bk, pu_kl, pu_qe0, pu_qe1, hc, k2, k3, e3, k4, c1', c1]
      all_goals try simp [bX12_pairs_32, bX12_pairs_113, bX12_pairs_107, bX12_pairs_73, bX12_pairs_99, a_ald, a_cv, a_iceq, a_icge, a_icle, a_iclt, a_ifeq, a_ild, a_inc, a_ist, a_push, sh_71, pu_rv, pu_as, Value.category, pu_bk, pu_kl, List.replicate, pu_wi_1, pu_wi_2, nl_add, nl_ladd, nl_aa, nl_mul, nl_rmul, nl_mm, pu_qe0, pu_qe1, hc, k2, k3, e3, k4, c1', c1]
  · refine ⟨v, dr, t8, hv, py_pm_s (fun l hl e z => h1 l ⟨hl.1, e, hl.2.1⟩ (by rw [← e]; exact hl.2.2.2)) hv hw, ?_⟩
    rcases h2 with h2 | ⟨h2, h3 | ⟨h3, h4⟩⟩
    · rw [qX12_pairs_32]
      simp [bX12_pairs_32, bX12_pairs_113, bX12_pairs_107, bX12_pairs_73, bX12_pairs_99, a_ald, a_cv, a_iceq, a_icge, a_icle, a_iclt, a_ifeq, a_ild, a_inc, a_ist, a_push, sh_71, pu_rv, pu_as, Value.category, pu_bk, pu_kl, List.replicate, pu_wi_1, pu_wi_2, nl_add, nl_ladd, nl_aa, nl_mul, nl_rmul, nl_mm, pu_qe0, pu_qe1, hc, h2]
      all_goals try simp (maxSteps := 400000) (disch := omega) [nl_tle, nl_fle, nl_tlt, nl_flt, nl_teq, nl_feq, nl_sub, nl_ss, nl_lt, nl_llt, nl_ltt, nl_le, nl_lle, nl_lee, nl_eq, nl_leq, nl_ee, nl_div, nl_rem, nl_cl, nl_n1, nl_n2, nl_n3, nl_n4, nl_add, nl_ladd, nl_aa, nl_mul, nl_rmul, nl_mm, pu_wi_1, pu_wi_2, bX12_pairs_32, bX12_pairs_113, bX12_pairs_107, bX12_pairs_73, bX12_pairs_99, a_ald, a_cv, a_iceq, a_icge, a_icle, a_iclt, a_ifeq, a_ild, a_inc, a_ist, a_push, sh_71, pu_rv, pu_as, Value.category, pu_bk, pu_kl, pu_qe0, pu_qe1, hc, h2]
      all_goals try simp [bX12_pairs_32, bX12_pairs_113, bX12_pairs_107, bX12_pairs_73, bX12_pairs_99, a_ald, a_cv, a_iceq, a_icge, a_icle, a_iclt, a_ifeq, a_ild, a_inc, a_ist, a_push, sh_71, pu_rv, pu_as, Value.category, pu_bk, pu_kl, List.replicate, pu_wi_1, pu_wi_2, nl_add, nl_ladd, nl_aa, nl_mul, nl_rmul, nl_mm, pu_qe0, pu_qe1, hc, h2]
      all_goals try simp (maxSteps := 400000) (disch := omega) [nl_tle, nl_fle, nl_tlt, nl_flt, nl_teq, nl_feq, nl_sub, nl_ss, nl_lt, nl_llt, nl_ltt, nl_le, nl_lle, nl_lee, nl_eq, nl_leq, nl_ee, nl_div, nl_rem, nl_cl, nl_n1, nl_n2, nl_n3, nl_n4, nl_add, nl_ladd, nl_aa, nl_mul, nl_rmul, nl_mm, pu_wi_1, pu_wi_2, bX12_pairs_32, bX12_pairs_113, bX12_pairs_107, bX12_pairs_73, bX12_pairs_99, a_ald, a_cv, a_iceq, a_icge, a_icle, a_iclt, a_ifeq, a_ild, a_inc, a_ist, a_push, sh_71, pu_rv, pu_as, Value.category, pu_bk, pu_kl, pu_qe0, pu_qe1, hc, h2]
      all_goals try simp [bX12_pairs_32, bX12_pairs_113, bX12_pairs_107, bX12_pairs_73, bX12_pairs_99, a_ald, a_cv, a_iceq, a_icge, a_icle, a_iclt, a_ifeq, a_ild, a_inc, a_ist, a_push, sh_71, pu_rv, pu_as, Value.category, pu_bk, pu_kl, List.replicate, pu_wi_1, pu_wi_2, nl_add, nl_ladd, nl_aa, nl_mul, nl_rmul, nl_mm, pu_qe0, pu_qe1, hc, h2]
      all_goals try simp (maxSteps := 400000) (disch := omega) [nl_tle, nl_fle, nl_tlt, nl_flt, nl_teq, nl_feq, nl_sub, nl_ss, nl_lt, nl_llt, nl_ltt, nl_le, nl_lle, nl_lee, nl_eq, nl_leq, nl_ee, nl_div, nl_rem, nl_cl, nl_n1, nl_n2, nl_n3, nl_n4, nl_add, nl_ladd, nl_aa, nl_mul, nl_rmul, nl_mm, pu_wi_1, pu_wi_2, bX12_pairs_32, bX12_pairs_113, bX12_pairs_107, bX12_pairs_73, bX12_pairs_99, a_ald, a_cv, a_iceq, a_icge, a_icle, a_iclt, a_ifeq, a_ild, a_inc, a_ist, a_push, sh_71, pu_rv, pu_as, Value.category, pu_bk, pu_kl, pu_qe0, pu_qe1, hc, h2]
      all_goals try simp [bX12_pairs_32, bX12_pairs_113, bX12_pairs_107, bX12_pairs_73, bX12_pairs_99, a_ald, a_cv, a_iceq, a_icge, a_icle, a_iclt, a_ifeq, a_ild, a_inc, a_ist, a_push, sh_71, pu_rv, pu_as, Value.category, pu_bk, pu_kl, List.replicate, pu_wi_1, pu_wi_2, nl_add, nl_ladd, nl_aa, nl_mul, nl_rmul, nl_mm, pu_qe0, pu_qe1, hc, h2]
    · rw [qX12_pairs_32]
      simp [bX12_pairs_32, bX12_pairs_113, bX12_pairs_107, bX12_pairs_73, bX12_pairs_99, a_ald, a_cv, a_iceq, a_icge, a_icle, a_iclt, a_ifeq, a_ild, a_inc, a_ist, a_push, sh_71, pu_rv, pu_as, Value.category, pu_bk, pu_kl, List.replicate, pu_wi_1, pu_wi_2, nl_add, nl_ladd, nl_aa, nl_mul, nl_rmul, nl_mm, pu_qe0, pu_qe1, hc, h2, h3]
      all_goals try simp (maxSteps := 400000) (disch := omega) [nl_tle, nl_fle, nl_tlt, nl_flt, nl_teq, nl_feq, nl_sub, nl_ss, nl_lt, nl_llt, nl_ltt, nl_le, nl_lle, nl_lee, nl_eq, nl_leq, nl_ee, nl_div, nl_rem, nl_cl, nl_n1, nl_n2, nl_n3, nl_n4, nl_add, nl_ladd, nl_aa, nl_mul, nl_rmul, nl_mm, pu_wi_1, pu_wi_2, bX12_pairs_32, bX12_pairs_113, bX12_pairs_107, bX12_pairs_73, bX12_pairs_99, a_ald, a_cv, a_iceq, a_icge, a_icle, a_iclt, a_ifeq, a_ild, a_inc, a_ist, a_push, sh_71, pu_rv, pu_as, Value.category, pu_bk, pu_kl, pu_qe0, pu_qe1, hc, h2, h3]
      all_goals try simp [bX12_pairs_32, bX12_pairs_113, bX12_pairs_107, bX12_pairs_73, bX12_pairs_99, a_ald, a_cv, a_iceq, a_icge, a_icle, a_iclt, a_ifeq, a_ild, a_inc, a_ist, a_push, sh_71, pu_rv, pu_as, Value.category, pu_bk, pu_kl, List.replicate, pu_wi_1, pu_wi_2, nl_add, nl_ladd, nl_aa, nl_mul, nl_rmul, nl_mm, pu_qe0, pu_qe1, hc, h2, h3]
      all_goals try simp (maxSteps := 400000) (disch := omega) [nl_tle, nl_fle, nl_tlt, nl_flt, nl_teq, nl_feq, nl_sub, nl_ss, nl_lt, nl_llt, nl_ltt, nl_le, nl_lle, nl_lee, nl_eq, nl_leq, nl_ee, nl_div, nl_rem, nl_cl, nl_n1, nl_n2, nl_n3, nl_n4, nl_add, nl_ladd, nl_aa, nl_mul, nl_rmul, nl_mm, pu_wi_1, pu_wi_2, bX12_pairs_32, bX12_pairs_113, bX12_pairs_107, bX12_pairs_73, bX12_pairs_99, a_ald, a_cv, a_iceq, a_icge, a_icle, a_iclt, a_ifeq, a_ild, a_inc, a_ist, a_push, sh_71, pu_rv, pu_as, Value.category, pu_bk, pu_kl, pu_qe0, pu_qe1, hc, h2, h3]
      all_goals try simp [bX12_pairs_32, bX12_pairs_113, bX12_pairs_107, bX12_pairs_73, bX12_pairs_99, a_ald, a_cv, a_iceq, a_icge, a_icle, a_iclt, a_ifeq, a_ild, a_inc, a_ist, a_push, sh_71, pu_rv, pu_as, Value.category, pu_bk, pu_kl, List.replicate, pu_wi_1, pu_wi_2, nl_add, nl_ladd, nl_aa, nl_mul, nl_rmul, nl_mm, pu_qe0, pu_qe1, hc, h2, h3]
      all_goals try simp (maxSteps := 400000) (disch := omega) [nl_tle, nl_fle, nl_tlt, nl_flt, nl_teq, nl_feq, nl_sub, nl_ss, nl_lt, nl_llt, nl_ltt, nl_le, nl_lle, nl_lee, nl_eq, nl_leq, nl_ee, nl_div, nl_rem, nl_cl, nl_n1, nl_n2, nl_n3, nl_n4, nl_add, nl_ladd, nl_aa, nl_mul, nl_rmul, nl_mm, pu_wi_1, pu_wi_2, bX12_pairs_32, bX12_pairs_113, bX12_pairs_107, bX12_pairs_73, bX12_pairs_99, a_ald, a_cv, a_iceq, a_icge, a_icle, a_iclt, a_ifeq, a_ild, a_inc, a_ist, a_push, sh_71, pu_rv, pu_as, Value.category, pu_bk, pu_kl, pu_qe0, pu_qe1, hc, h2, h3]
      all_goals try simp [bX12_pairs_32, bX12_pairs_113, bX12_pairs_107, bX12_pairs_73, bX12_pairs_99, a_ald, a_cv, a_iceq, a_icge, a_icle, a_iclt, a_ifeq, a_ild, a_inc, a_ist, a_push, sh_71, pu_rv, pu_as, Value.category, pu_bk, pu_kl, List.replicate, pu_wi_1, pu_wi_2, nl_add, nl_ladd, nl_aa, nl_mul, nl_rmul, nl_mm, pu_qe0, pu_qe1, hc, h2, h3]
    · generalize I 39 (2 * d + w) = v39 at *
      generalize nI a = av at *
      rw [qX12_pairs_32]
      simp [bX12_pairs_32, bX12_pairs_113, bX12_pairs_107, bX12_pairs_73, bX12_pairs_99, a_ald, a_cv, a_iceq, a_icge, a_icle, a_iclt, a_ifeq, a_ild, a_inc, a_ist, a_push, sh_71, pu_rv, pu_as, Value.category, pu_bk, pu_kl, List.replicate, pu_wi_1, pu_wi_2, nl_add, nl_ladd, nl_aa, nl_mul, nl_rmul, nl_mm, pu_qe0, pu_qe1, hc, h2, h3, e3, h4]
      all_goals try simp (maxSteps := 400000) (disch := omega) [nl_tle, nl_fle, nl_tlt, nl_flt, nl_teq, nl_feq, nl_sub, nl_ss, nl_lt, nl_llt, nl_ltt, nl_le, nl_lle, nl_lee, nl_eq, nl_leq, nl_ee, nl_div, nl_rem, nl_cl, nl_n1, nl_n2, nl_n3, nl_n4, nl_add, nl_ladd, nl_aa, nl_mul, nl_rmul, nl_mm, pu_wi_1, pu_wi_2, bX12_pairs_32, bX12_pairs_113, bX12_pairs_107, bX12_pairs_73, bX12_pairs_99, a_ald, a_cv, a_iceq, a_icge, a_icle, a_iclt, a_ifeq, a_ild, a_inc, a_ist, a_push, sh_71, pu_rv, pu_as, Value.category, pu_bk, pu_kl, pu_qe0, pu_qe1, hc, h2, h3, e3, h4]
      all_goals try simp [bX12_pairs_32, bX12_pairs_113, bX12_pairs_107, bX12_pairs_73, bX12_pairs_99, a_ald, a_cv, a_iceq, a_icge, a_icle, a_iclt, a_ifeq, a_ild, a_inc, a_ist, a_push, sh_71, pu_rv, pu_as, Value.category, pu_bk, pu_kl, List.replicate, pu_wi_1, pu_wi_2, nl_add, nl_ladd, nl_aa, nl_mul, nl_rmul, nl_mm, pu_qe0, pu_qe1, hc, h2, h3, e3, h4]
      all_goals try simp (maxSteps := 400000) (disch := omega) [nl_tle, nl_fle, nl_tlt, nl_flt, nl_teq, nl_feq, nl_sub, nl_ss, nl_lt, nl_llt, nl_ltt, nl_le, nl_lle, nl_lee, nl_eq, nl_leq, nl_ee, nl_div, nl_rem, nl_cl, nl_n1, nl_n2, nl_n3, nl_n4, nl_add, nl_ladd, nl_aa, nl_mul, nl_rmul, nl_mm, pu_wi_1, pu_wi_2, bX12_pairs_32, bX12_pairs_113, bX12_pairs_107, bX12_pairs_73, bX12_pairs_99, a_ald, a_cv, a_iceq, a_icge, a_icle, a_iclt, a_ifeq, a_ild, a_inc, a_ist, a_push, sh_71, pu_rv, pu_as, Value.category, pu_bk, pu_kl, pu_qe0, pu_qe1, hc, h2, h3, e3, h4]
      all_goals try simp [bX12_pairs_32, bX12_pairs_113, bX12_pairs_107, bX12_pairs_73, bX12_pairs_99, a_ald, a_cv, a_iceq, a_icge, a_icle, a_iclt, a_ifeq, a_ild, a_inc, a_ist, a_push, sh_71, pu_rv, pu_as, Value.category, pu_bk, pu_kl, List.replicate, pu_wi_1, pu_wi_2, nl_add, nl_ladd, nl_aa, nl_mul, nl_rmul, nl_mm, pu_qe0, pu_qe1, hc, h2, h3, e3, h4]
      all_goals try simp (maxSteps := 400000) (disch := omega) [nl_tle, nl_fle, nl_tlt, nl_flt, nl_teq, nl_feq, nl_sub, nl_ss, nl_lt, nl_llt, nl_ltt, nl_le, nl_lle, nl_lee, nl_eq, nl_leq, nl_ee, nl_div, nl_rem, nl_cl, nl_n1, nl_n2, nl_n3, nl_n4, nl_add, nl_ladd, nl_aa, nl_mul, nl_rmul, nl_mm, pu_wi_1, pu_wi_2, bX12_pairs_32, bX12_pairs_113, bX12_pairs_107, bX12_pairs_73, bX12_pairs_99, a_ald, a_cv, a_iceq, a_icge, a_icle, a_iclt, a_ifeq, a_ild, a_inc, a_ist, a_push, sh_71, pu_rv, pu_as, Value.category, pu_bk, pu_kl, pu_qe0, pu_qe1, hc, h2, h3, e3, h4]
      all_goals try simp [bX12_pairs_32, bX12_pairs_113, bX12_pairs_107, bX12_pairs_73, bX12_pairs_99, a_ald, a_cv, a_iceq, a_icge, a_icle, a_iclt, a_ifeq, a_ild, a_inc, a_ist, a_push, sh_71, pu_rv, pu_as, Value.category, pu_bk, pu_kl, List.replicate, pu_wi_1, pu_wi_2, nl_add, nl_ladd, nl_aa, nl_mul, nl_rmul, nl_mm, pu_qe0, pu_qe1, hc, h2, h3, e3, h4]
theorem r_pm_l (hx : pu_fx M) (hr : pu_Rel I L (M.1 72)) (hw : pu_WF I L) (a b lv : Nat) (hlv : lv ≤ 160000) : ∀ (m d v : Nat) (dr : Int32) (t7 t8 : Option Value), d + m = cD I → v ≤ 160000 → py_pm I a lv (2 * d) v dr → ∃ v2 dr2 u7 u8, v2 ≤ 160000 ∧ py_pm I a lv (2 * cD I) v2 dr2 ∧ pu_r 513 [some (.ref 71), some (.int (nI a)), some (.int (nI b)), some (.int (nI lv)), some (.int (nI v)), some (.int dr), some (.int (nI d)), t7, t8] [] M = kX12_pairs_119 pu_r [some (.ref 71), some (.int (nI a)), some (.int (nI b)), some (.int (nI lv)), some (.int (nI v2)), some (.int dr2), some (.int (nI (cD I))), u7, u8] [] M
  | 0, d, v, dr, t7, t8, h, hv, g => by
    have bD := wx_bD hw
    have h4 := rl_h4 hr
    have e : d = cD I := by omega
    have hc : nI (cD I) ≤ nI (cD I) := nI_le (by omega) (by omega)
    refine ⟨v, dr, t7, t8, hv, by rw [← e]; exact g, ?_⟩
    rw [e, qX12_pairs_18]
    simp [bX12_pairs_18, a_ai, a_ald, a_gr, a_icge, a_ild, a_ist, a_push, fx_71_0 hx, sh_71, sh_72, pu_rv, pu_as, Value.category, pu_bk, pu_kl, List.replicate, pu_wi_1, pu_wi_2, nl_add, nl_ladd, nl_aa, nl_mul, nl_rmul, nl_mm, pu_qe0, pu_qe1, h4, hc]
    all_goals try simp (maxSteps := 400000) (disch := omega) [nl_tle, nl_fle, nl_tlt, nl_flt, nl_teq, nl_feq, nl_sub, nl_ss, nl_lt, nl_llt, nl_ltt, nl_le, nl_lle, nl_lee, nl_eq, nl_leq, nl_ee, nl_div, nl_rem, nl_cl, nl_n1, nl_n2, nl_n3, nl_n4, nl_add, nl_ladd, nl_aa, nl_mul, nl_rmul, nl_mm, pu_wi_1, pu_wi_2, bX12_pairs_18, a_ai, a_ald, a_gr, a_icge, a_ild, a_ist, a_push, fx_71_0 hx, sh_71, sh_72, pu_rv, pu_as, Value.category, pu_bk, pu_kl, pu_qe0, pu_qe1, h4, hc]
    all_goals try simp [bX12_pairs_18, a_ai, a_ald, a_gr, a_icge, a_ild, a_ist, a_push, fx_71_0 hx, sh_71, sh_72, pu_rv, pu_as, Value.category, pu_bk, pu_kl, List.replicate, pu_wi_1, pu_wi_2, nl_add, nl_ladd, nl_aa, nl_mul, nl_rmul, nl_mm, pu_qe0, pu_qe1, h4, hc]
    all_goals try simp (maxSteps := 400000) (disch := omega) [nl_tle, nl_fle, nl_tlt, nl_flt, nl_teq, nl_feq, nl_sub, nl_ss, nl_lt, nl_llt, nl_ltt, nl_le, nl_lle, nl_lee, nl_eq, nl_leq, nl_ee, nl_div, nl_rem, nl_cl, nl_n1, nl_n2, nl_n3, nl_n4, nl_add, nl_ladd, nl_aa, nl_mul, nl_rmul, nl_mm, pu_wi_1, pu_wi_2, bX12_pairs_18, a_ai, a_ald, a_gr, a_icge, a_ild, a_ist, a_push, fx_71_0 hx, sh_71, sh_72, pu_rv, pu_as, Value.category, pu_bk, pu_kl, pu_qe0, pu_qe1, h4, hc]
    all_goals try simp [bX12_pairs_18, a_ai, a_ald, a_gr, a_icge, a_ild, a_ist, a_push, fx_71_0 hx, sh_71, sh_72, pu_rv, pu_as, Value.category, pu_bk, pu_kl, List.replicate, pu_wi_1, pu_wi_2, nl_add, nl_ladd, nl_aa, nl_mul, nl_rmul, nl_mm, pu_qe0, pu_qe1, h4, hc]
    all_goals try simp (maxSteps := 400000) (disch := omega) [nl_tle, nl_fle, nl_tlt, nl_flt, nl_teq, nl_feq, nl_sub, nl_ss, nl_lt, nl_llt, nl_ltt, nl_le, nl_lle, nl_lee, nl_eq, nl_leq, nl_ee, nl_div, nl_rem, nl_cl, nl_n1, nl_n2, nl_n3, nl_n4, nl_add, nl_ladd, nl_aa, nl_mul, nl_rmul, nl_mm, pu_wi_1, pu_wi_2, bX12_pairs_18, a_ai, a_ald, a_gr, a_icge, a_ild, a_ist, a_push, fx_71_0 hx, sh_71, sh_72, pu_rv, pu_as, Value.category, pu_bk, pu_kl, pu_qe0, pu_qe1, h4, hc]
    all_goals try simp [bX12_pairs_18, a_ai, a_ald, a_gr, a_icge, a_ild, a_ist, a_push, fx_71_0 hx, sh_71, sh_72, pu_rv, pu_as, Value.category, pu_bk, pu_kl, List.replicate, pu_wi_1, pu_wi_2, nl_add, nl_ladd, nl_aa, nl_mul, nl_rmul, nl_mm, pu_qe0, pu_qe1, h4, hc]
  | m + 1, d, v, dr, t7, t8, h, hv, g => by
    have bD := wx_bD hw
    have h4 := rl_h4 hr
    have hc : ¬ nI (cD I) ≤ nI d := nI_ge (by omega) (by omega)
    obtain ⟨v1, d1, u1, x1, x2, x3⟩ := r_pm_i hx hr hw a b lv d 0 v hlv hv (by omega) (by omega) dr t8
    obtain ⟨v2, d2, u2, y1, y2, y3⟩ := r_pm_i hx hr hw a b lv d 1 v1 hlv x1 (by omega) (by omega) d1 u1
    obtain ⟨v3, d3, u3, u4, z1, z2, z3⟩ := r_pm_l hx hr hw a b lv hlv m (d + 1) v2 d2 (some (.int (nI (1 + 1)))) u2 (by omega) y1 (y2 (x2 g))
    refine ⟨v3, d3, u3, u4, z1, z2, ?_⟩
    rw [nI_0] at x3
    have z : pu_r 514 [some (.ref 71), some (.int (nI a)), some (.int (nI b)), some (.int (nI lv)), some (.int (nI v)), some (.int dr), some (.int (nI d)), some (.int 0), t8] [] M = pu_r 513 [some (.ref 71), some (.int (nI a)), some (.int (nI b)), some (.int (nI lv)), some (.int (nI v2)), some (.int d2), some (.int (nI (d + 1))), some (.int (nI (1 + 1))), u2] [] M := by
      rw [x3, y3]
      have h2 : 2 ≤ nI (1 + 1) := by decide
      rw [qX12_pairs_32]
      simp [bX12_pairs_32, bX12_pairs_113, bX12_pairs_107, bX12_pairs_73, bX12_pairs_99, a_ald, a_cv, a_iceq, a_icge, a_icle, a_iclt, a_ifeq, a_ild, a_inc, a_ist, a_push, sh_71, pu_rv, pu_as, Value.category, pu_bk, pu_kl, List.replicate, pu_wi_1, pu_wi_2, nl_add, nl_ladd, nl_aa, nl_mul, nl_rmul, nl_mm, pu_qe0, pu_qe1, h2]
      all_goals try simp (maxSteps := 400000) (disch := omega) [nl_tle, nl_fle, nl_tlt, nl_flt, nl_teq, nl_feq, nl_sub, nl_ss, nl_lt, nl_llt, nl_ltt, nl_le, nl_lle, nl_lee, nl_eq, nl_leq, nl_ee, nl_div, nl_rem, nl_cl, nl_n1, nl_n2, nl_n3, nl_n4, nl_add, nl_ladd, nl_aa, nl_mul, nl_rmul, nl_mm, pu_wi_1, pu_wi_2, bX12_pairs_32, bX12_pairs_113, bX12_pairs_107, bX12_pairs_73, bX12_pairs_99, a_ald, a_cv, a_iceq, a_icge, a_icle, a_iclt, a_ifeq, a_ild, a_inc, a_ist, a_push, sh_71, pu_rv, pu_as, Value.category, pu_bk, pu_kl, pu_qe0, pu_qe1, h2]
      all_goals try simp [bX12_pairs_32, bX12_pairs_113, bX12_pairs_107, bX12_pairs_73, bX12_pairs_99, a_ald, a_cv, a_iceq, a_icge, a_icle, a_iclt, a_ifeq, a_ild, a_inc, a_ist, a_push, sh_71, pu_rv, pu_as, Value.category, pu_bk, pu_kl, List.replicate, pu_wi_1, pu_wi_2, nl_add, nl_ladd, nl_aa, nl_mul, nl_rmul, nl_mm, pu_qe0, pu_qe1, h2]
      all_goals try simp (maxSteps := 400000) (disch := omega) [nl_tle, nl_fle, nl_tlt, nl_flt, nl_teq, nl_feq, nl_sub, nl_ss, nl_lt, nl_llt, nl_ltt, nl_le, nl_lle, nl_lee, nl_eq, nl_leq, nl_ee, nl_div, nl_rem, nl_cl, nl_n1, nl_n2, nl_n3, nl_n4, nl_add, nl_ladd, nl_aa, nl_mul, nl_rmul, nl_mm, pu_wi_1, pu_wi_2, bX12_pairs_32, bX12_pairs_113, bX12_pairs_107, bX12_pairs_73, bX12_pairs_99, a_ald, a_cv, a_iceq, a_icge, a_icle, a_iclt, a_ifeq, a_ild, a_inc, a_ist, a_push, sh_71, pu_rv, pu_as, Value.category, pu_bk, pu_kl, pu_qe0, pu_qe1, h2]
      all_goals try simp [bX12_pairs_32, bX12_pairs_113, bX12_pairs_107, bX12_pairs_73, bX12_pairs_99, a_ald, a_cv, a_iceq, a_icge, a_icle, a_iclt, a_ifeq, a_ild, a_inc, a_ist, a_push, sh_71, pu_rv, pu_as, Value.category, pu_bk, pu_kl, List.replicate, pu_wi_1, pu_wi_2, nl_add, nl_ladd, nl_aa, nl_mul, nl_rmul, nl_mm, pu_qe0, pu_qe1, h2]
      all_goals try simp (maxSteps := 400000) (disch := omega) [nl_tle, nl_fle, nl_tlt, nl_flt, nl_teq, nl_feq, nl_sub, nl_ss, nl_lt, nl_llt, nl_ltt, nl_le, nl_lle, nl_lee, nl_eq, nl_leq, nl_ee, nl_div, nl_rem, nl_cl, nl_n1, nl_n2, nl_n3, nl_n4, nl_add, nl_ladd, nl_aa, nl_mul, nl_rmul, nl_mm, pu_wi_1, pu_wi_2, bX12_pairs_32, bX12_pairs_113, bX12_pairs_107, bX12_pairs_73, bX12_pairs_99, a_ald, a_cv, a_iceq, a_icge, a_icle, a_iclt, a_ifeq, a_ild, a_inc, a_ist, a_push, sh_71, pu_rv, pu_as, Value.category, pu_bk, pu_kl, pu_qe0, pu_qe1, h2]
      all_goals try simp [bX12_pairs_32, bX12_pairs_113, bX12_pairs_107, bX12_pairs_73, bX12_pairs_99, a_ald, a_cv, a_iceq, a_icge, a_icle, a_iclt, a_ifeq, a_ild, a_inc, a_ist, a_push, sh_71, pu_rv, pu_as, Value.category, pu_bk, pu_kl, List.replicate, pu_wi_1, pu_wi_2, nl_add, nl_ladd, nl_aa, nl_mul, nl_rmul, nl_mm, pu_qe0, pu_qe1, h2]
    rw [← z3, ← z, qX12_pairs_18]
    simp [bX12_pairs_18, a_ai, a_ald, a_gr, a_icge, a_ild, a_ist, a_push, fx_71_0 hx, sh_71, sh_72, pu_rv, pu_as, Value.category, pu_bk, pu_kl, List.replicate, pu_wi_1, pu_wi_2, nl_add, nl_ladd, nl_aa, nl_mul, nl_rmul, nl_mm, pu_qe0, pu_qe1, h4, hc]
    all_goals try simp (maxSteps := 400000) (disch := omega) [nl_tle, nl_fle, nl_tlt, nl_flt, nl_teq, nl_feq, nl_sub, nl_ss, nl_lt, nl_llt, nl_ltt, nl_le, nl_lle, nl_lee, nl_eq, nl_leq, nl_ee, nl_div, nl_rem, nl_cl, nl_n1, nl_n2, nl_n3, nl_n4, nl_add, nl_ladd, nl_aa, nl_mul, nl_rmul, nl_mm, pu_wi_1, pu_wi_2, bX12_pairs_18, a_ai, a_ald, a_gr, a_icge, a_ild, a_ist, a_push, fx_71_0 hx, sh_71, sh_72, pu_rv, pu_as, Value.category, pu_bk, pu_kl, pu_qe0, pu_qe1, h4, hc]
    all_goals try simp [bX12_pairs_18, a_ai, a_ald, a_gr, a_icge, a_ild, a_ist, a_push, fx_71_0 hx, sh_71, sh_72, pu_rv, pu_as, Value.category, pu_bk, pu_kl, List.replicate, pu_wi_1, pu_wi_2, nl_add, nl_ladd, nl_aa, nl_mul, nl_rmul, nl_mm, pu_qe0, pu_qe1, h4, hc]
    all_goals try simp (maxSteps := 400000) (disch := omega) [nl_tle, nl_fle, nl_tlt, nl_flt, nl_teq, nl_feq, nl_sub, nl_ss, nl_lt, nl_llt, nl_ltt, nl_le, nl_lle, nl_lee, nl_eq, nl_leq, nl_ee, nl_div, nl_rem, nl_cl, nl_n1, nl_n2, nl_n3, nl_n4, nl_add, nl_ladd, nl_aa, nl_mul, nl_rmul, nl_mm, pu_wi_1, pu_wi_2, bX12_pairs_18, a_ai, a_ald, a_gr, a_icge, a_ild, a_ist, a_push, fx_71_0 hx, sh_71, sh_72, pu_rv, pu_as, Value.category, pu_bk, pu_kl, pu_qe0, pu_qe1, h4, hc]
    all_goals try simp [bX12_pairs_18, a_ai, a_ald, a_gr, a_icge, a_ild, a_ist, a_push, fx_71_0 hx, sh_71, sh_72, pu_rv, pu_as, Value.category, pu_bk, pu_kl, List.replicate, pu_wi_1, pu_wi_2, nl_add, nl_ladd, nl_aa, nl_mul, nl_rmul, nl_mm, pu_qe0, pu_qe1, h4, hc]
    all_goals try simp (maxSteps := 400000) (disch := omega) [nl_tle, nl_fle, nl_tlt, nl_flt, nl_teq, nl_feq, nl_sub, nl_ss, nl_lt, nl_llt, nl_ltt, nl_le, nl_lle, nl_lee, nl_eq, nl_leq, nl_ee, nl_div, nl_rem, nl_cl, nl_n1, nl_n2, nl_n3, nl_n4, nl_add, nl_ladd, nl_aa, nl_mul, nl_rmul, nl_mm, pu_wi_1, pu_wi_2, bX12_pairs_18, a_ai, a_ald, a_gr, a_icge, a_ild, a_ist, a_push, fx_71_0 hx, sh_71, sh_72, pu_rv, pu_as, Value.category, pu_bk, pu_kl, pu_qe0, pu_qe1, h4, hc]
    all_goals try simp [bX12_pairs_18, a_ai, a_ald, a_gr, a_icge, a_ild, a_ist, a_push, fx_71_0 hx, sh_71, sh_72, pu_rv, pu_as, Value.category, pu_bk, pu_kl, List.replicate, pu_wi_1, pu_wi_2, nl_add, nl_ladd, nl_aa, nl_mul, nl_rmul, nl_mm, pu_qe0, pu_qe1, h4, hc]
end
section
variable {I : Nat → Nat → Int32} {L : Nat → Nat → Int64} {s0 : Nat → Int32}
/-- the reference's row with c pairs -/
def py_rpr (s0 : Nat → Int32) (N : pu_M) (c : Nat) : Prop := pu_fx N ∧ (∀ j, j ≠ 14 → ¬ (60008 ≤ j ∧ j < 60408) → N.1 72 j = s0 j) ∧ N.1 72 14 = nI c
theorem r_pb_i (h : pu_St I L s0) (a b v d w c : Nat) (dr : Int32) (hcl : c ≤ 200) (hc3 : (∃ j, py_kI I b j ∧ py_k16 I j = v ∧ pu_sl0 I j = 2 * d + w) → c < 200) (hd : d < cD I) (hw2 : w < 2) (hv : 0 < v) (hvl : v < 160000) (lv : Int32) (t8 : Option Value) (N : pu_M) (hN : py_rpr s0 N c) : ((∀ j, py_kI I b j → py_k16 I j = v → pu_sl0 I j ≠ 2 * d + w) ∧ pu_r 516 [some (.ref 71), some (.int (nI a)), some (.int (nI b)), some (.int lv), some (.int (nI v)), some (.int dr), some (.int (nI d)), some (.int (nI w)), t8] [] N = pu_r 516 [some (.ref 71), some (.int (nI a)), some (.int (nI b)), some (.int lv), some (.int (nI v)), some (.int dr), some (.int (nI d)), some (.int (nI (w + 1))), t8] [] N) ∨ ∃ j, py_kI I b j ∧ py_k16 I j = v ∧ pu_sl0 I j = 2 * d + w ∧ pu_r 516 [some (.ref 71), some (.int (nI a)), some (.int (nI b)), some (.int lv), some (.int (nI v)), some (.int dr), some (.int (nI d)), some (.int (nI w)), t8] [] N = pu_r 516 [some (.ref 71), some (.int (nI a)), some (.int (nI b)), some (.int lv), some (.int (nI v)), some (.int dr), some (.int (nI d)), some (.int (nI (w + 1))), t8] [] (pu_wi (pu_wi (pu_wi N 72 (60008 + 2 * c) dr) 72 (60008 + 2 * c + 1) (nI d)) 72 14 (nI (c + 1))) := by
  obtain ⟨hx, fr, h14⟩ := hN
  have hw := h.1
  have bD := wx_bD hw
  have SJ := St_JP h (c := c) (s' := N.1 72) (by omega) fr h14
  have hc : ¬ 2 ≤ nI w := nI_ge (b := 2) (by omega) (by omega)
  have e3 : pu_r 268 [some (.ref 71), some (.int (nI d)), some (.int (nI w))] [] N = some (some (.int (I 39 (2 * d + w))), N) := r_streetAt hx SJ.2 SJ.1 d w hd hw2
  rcases r_open3 hx SJ.2 SJ.1 d w b hd hw2 with ⟨k, hk, k1, k2, k3, k4⟩ | ⟨h1, h2⟩
  · have hk' : pz_os I (2 * d + w) k := hk
    have k1' : I 39 (2 * d + w) = nI b := k1
    have k4' : pu_r 273 [some (.ref 71), some (.int (nI d)), some (.int (nI w))] [] N = some (some (.int (I 16 k)), N) := k4
    have ke := py_k16_e hw hk'.1
    have kl := ke.2
    rw [ke.1] at k4'
    rw [k1'] at e3
    by_cases c1 : py_k16 I k = v
    · have kI : py_kI I b k := ⟨hk'.1, hk'.2.2, fun z => by
        rw [ke.1, show (0 : Int32) = nI 0 from rfl, nI_eq (by omega) (by omega)] at z
        omega, by rw [hk'.2.1]; exact k1'⟩
      have hc2 : c < 200 := hc3 ⟨k, kI, c1, hk'.2.1⟩
      refine Or.inr ⟨k, kI, c1, hk'.2.1, ?_⟩
      · rw [c1] at k4'
        have F0 := fx_71_0 hx
        have g1 : (pu_wi N 72 (60008 + 2 * c) dr).2.2.1 71 0 = some 72 := F0
        have g2 : (pu_wi N 72 (60008 + 2 * c) dr).1 72 14 = nI c := by rw [py_wi_o (by omega)]; exact h14
        have g3 : (pu_wi (pu_wi N 72 (60008 + 2 * c) dr) 72 (60008 + 2 * c + 1) (nI d)).2.2.1 71 0 = some 72 := F0
        have g4 : (pu_wi (pu_wi N 72 (60008 + 2 * c) dr) 72 (60008 + 2 * c + 1) (nI d)).1 72 14 = nI c := by rw [py_wi_o (by omega), py_wi_o (by omega)]; exact h14
        obtain ⟨T, hT⟩ : ∃ T, pu_wi (pu_wi (pu_wi N 72 (60008 + 2 * c) dr) 72 (60008 + 2 * c + 1) (nI d)) 72 14 (nI (c + 1)) = T := ⟨_, rfl⟩
        rw [hT]
        generalize hA : pu_wi N 72 (60008 + 2 * c) dr = A at *
        generalize hB : pu_wi A 72 (60008 + 2 * c + 1) (nI d) = B at *
        rw [qX12_pairs_148]
        simp [bX12_pairs_148, bX12_pairs_261, bX12_pairs_255, bX12_pairs_202, bX12_pairs_241, bX12_pairs_199, a_ai, a_ald, a_cv, a_dup2, a_gr, a_iadd, a_iceq, a_icge, a_icne, a_ifeq, a_ild, a_imul, a_inc, a_push, a_wi, fx_71_0 hx, sh_71, sh_72, pu_rv, pu_as, Value.category, pu_bk, pu_kl, List.replicate, pu_wi_1, pu_wi_2, nl_add, nl_ladd, nl_aa, nl_mul, nl_rmul, nl_mm, pu_qe0, pu_qe1, hc, k2, k3, e3, k4', h14, hc2, hA, g1, g2, hB, g3, g4, hT]
        all_goals try simp (maxSteps := 400000) (disch := omega) [nl_tle, nl_fle, nl_tlt, nl_flt, nl_teq, nl_feq, nl_sub, nl_ss, nl_lt, nl_llt, nl_ltt, nl_le, nl_lle, nl_lee, nl_eq, nl_leq, nl_ee, nl_div, nl_rem, nl_cl, nl_n1, nl_n2, nl_n3, nl_n4, nl_add, nl_ladd, nl_aa, nl_mul, nl_rmul, nl_mm, pu_wi_1, pu_wi_2, bX12_pairs_148, bX12_pairs_261, bX12_pairs_255, bX12_pairs_202, bX12_pairs_241, bX12_pairs_199, a_ai, a_ald, a_cv, a_dup2, a_gr, a_iadd, a_iceq, a_icge, a_icne, a_ifeq, a_ild, a_imul, a_inc, a_push, a_wi, fx_71_0 hx, sh_71, sh_72, pu_rv, pu_as, Value.category, pu_bk, pu_kl, pu_qe0, pu_qe1, hc, k2, k3, e3, k4', h14, hc2, hA, g1, g2, hB, g3, g4, hT]
        all_goals try simp [bX12_pairs_148, bX12_pairs_261, bX12_pairs_255, bX12_pairs_202, bX12_pairs_241, bX12_pairs_199, a_ai, a_ald, a_cv, a_dup2, a_gr, a_iadd, a_iceq, a_icge, a_icne, a_ifeq, a_ild, a_imul, a_inc, a_push, a_wi, fx_71_0 hx, sh_71, sh_72, pu_rv, pu_as, Value.category, pu_bk, pu_kl, List.replicate, pu_wi_1, pu_wi_2, nl_add, nl_ladd, nl_aa, nl_mul, nl_rmul, nl_mm, pu_qe0, pu_qe1, hc, k2, k3, e3, k4', h14, hc2, hA, g1, g2, hB, g3, g4, hT]
        all_goals try simp (maxSteps := 400000) (disch := omega) [nl_tle, nl_fle, nl_tlt, nl_flt, nl_teq, nl_feq, nl_sub, nl_ss, nl_lt, nl_llt, nl_ltt, nl_le, nl_lle, nl_lee, nl_eq, nl_leq, nl_ee, nl_div, nl_rem, nl_cl, nl_n1, nl_n2, nl_n3, nl_n4, nl_add, nl_ladd, nl_aa, nl_mul, nl_rmul, nl_mm, pu_wi_1, pu_wi_2, bX12_pairs_148, bX12_pairs_261, bX12_pairs_255, bX12_pairs_202, bX12_pairs_241, bX12_pairs_199, a_ai, a_ald, a_cv, a_dup2, a_gr, a_iadd, a_iceq, a_icge, a_icne, a_ifeq, a_ild, a_imul, a_inc, a_push, a_wi, fx_71_0 hx, sh_71, sh_72, pu_rv, pu_as, Value.category, pu_bk, pu_kl, pu_qe0, pu_qe1, hc, k2, k3, e3, k4', h14, hc2, hA, g1, g2, hB, g3, g4, hT]
        all_goals try simp [bX12_pairs_148, bX12_pairs_261, bX12_pairs_255, bX12_pairs_202, bX12_pairs_241, bX12_pairs_199, a_ai, a_ald, a_cv, a_dup2, a_gr, a_iadd, a_iceq, a_icge, a_icne, a_ifeq, a_ild, a_imul, a_inc, a_push, a_wi, fx_71_0 hx, sh_71, sh_72, pu_rv, pu_as, Value.category, pu_bk, pu_kl, List.replicate, pu_wi_1, pu_wi_2, nl_add, nl_ladd, nl_aa, nl_mul, nl_rmul, nl_mm, pu_qe0, pu_qe1, hc, k2, k3, e3, k4', h14, hc2, hA, g1, g2, hB, g3, g4, hT]
        all_goals try simp (maxSteps := 400000) (disch := omega) [nl_tle, nl_fle, nl_tlt, nl_flt, nl_teq, nl_feq, nl_sub, nl_ss, nl_lt, nl_llt, nl_ltt, nl_le, nl_lle, nl_lee, nl_eq, nl_leq, nl_ee, nl_div, nl_rem, nl_cl, nl_n1, nl_n2, nl_n3, nl_n4, nl_add, nl_ladd, nl_aa, nl_mul, nl_rmul, nl_mm, pu_wi_1, pu_wi_2, bX12_pairs_148, bX12_pairs_261, bX12_pairs_255, bX12_pairs_202, bX12_pairs_241, bX12_pairs_199, a_ai, a_ald, a_cv, a_dup2, a_gr, a_iadd, a_iceq, a_icge, a_icne, a_ifeq, a_ild, a_imul, a_inc, a_push, a_wi, fx_71_0 hx, sh_71, sh_72, pu_rv, pu_as, Value.category, pu_bk, pu_kl, pu_qe0, pu_qe1, hc, k2, k3, e3, k4', h14, hc2, hA, g1, g2, hB, g3, g4, hT]
        all_goals try simp [bX12_pairs_148, bX12_pairs_261, bX12_pairs_255, bX12_pairs_202, bX12_pairs_241, bX12_pairs_199, a_ai, a_ald, a_cv, a_dup2, a_gr, a_iadd, a_iceq, a_icge, a_icne, a_ifeq, a_ild, a_imul, a_inc, a_push, a_wi, fx_71_0 hx, sh_71, sh_72, pu_rv, pu_as, Value.category, pu_bk, pu_kl, List.replicate, pu_wi_1, pu_wi_2, nl_add, nl_ladd, nl_aa, nl_mul, nl_rmul, nl_mm, pu_qe0, pu_qe1, hc, k2, k3, e3, k4', h14, hc2, hA, g1, g2, hB, g3, g4, hT]
    · refine Or.inl ⟨fun j hj e1 e2 => c1 ?_, ?_⟩
      · rw [← pz_os_un hw ⟨hj.1, e2, hj.2.1⟩ hk']
        exact e1
      · have c1' : ¬ nI (py_k16 I k) = nI v := fun z => by rw [nI_eq (by omega) (by omega)] at z; exact c1 z
        generalize py_k16 I k = kv at *
        rw [qX12_pairs_148]
        simp [bX12_pairs_148, bX12_pairs_261, bX12_pairs_255, bX12_pairs_202, bX12_pairs_241, bX12_pairs_199, a_ai, a_ald, a_cv, a_dup2, a_gr, a_iadd, a_iceq, a_icge, a_icne, a_ifeq, a_ild, a_imul, a_inc, a_push, a_wi, fx_71_0 hx, sh_71, sh_72, pu_rv, pu_as, Value.category, pu_bk, pu_kl, List.replicate, pu_wi_1, pu_wi_2, nl_add, nl_ladd, nl_aa, nl_mul, nl_rmul, nl_mm, pu_qe0, pu_qe1, hc, k2, k3, e3, k4', c1', c1]
        all_goals try simp (maxSteps := 400000) (disch := omega) [nl_tle, nl_fle, nl_tlt, nl_flt, nl_teq, nl_feq, nl_sub, nl_ss, nl_lt, nl_llt, nl_ltt, nl_le, nl_lle, nl_lee, nl_eq, nl_leq, nl_ee, nl_div, nl_rem, nl_cl, nl_n1, nl_n2, nl_n3, nl_n4, nl_add, nl_ladd, nl_aa, nl_mul, nl_rmul, nl_mm, pu_wi_1, pu_wi_2, bX12_pairs_148, bX12_pairs_261, bX12_pairs_255, bX12_pairs_202, bX12_pairs_241, bX12_pairs_199, a_ai, a_ald, a_cv, a_dup2, a_gr, a_iadd, a_iceq, a_icge, a_icne, a_ifeq, a_ild, a_imul, a_inc, a_push, a_wi, fx_71_0 hx, sh_71, sh_72, pu_rv, pu_as, Value.category, pu_bk, pu_kl, pu_qe0, pu_qe1, hc, k2, k3, e3, k4', c1', c1]
        all_goals try simp [bX12_pairs_148, bX12_pairs_261, bX12_pairs_255, bX12_pairs_202, bX12_pairs_241, bX12_pairs_199, a_ai, a_ald, a_cv, a_dup2, a_gr, a_iadd, a_iceq, a_icge, a_icne, a_ifeq, a_ild, a_imul, a_inc, a_push, a_wi, fx_71_0 hx, sh_71, sh_72, pu_rv, pu_as, Value.category, pu_bk, pu_kl, List.replicate, pu_wi_1, pu_wi_2, nl_add, nl_ladd, nl_aa, nl_mul, nl_rmul, nl_mm, pu_qe0, pu_qe1, hc, k2, k3, e3, k4', c1', c1]
        all_goals try simp (maxSteps := 400000) (disch := omega) [nl_tle, nl_fle, nl_tlt, nl_flt, nl_teq, nl_feq, nl_sub, nl_ss, nl_lt, nl_llt, nl_ltt, nl_le, nl_lle, nl_lee, nl_eq, nl_leq, nl_ee, nl_div, nl_rem, nl_cl, nl_n1, nl_n2, nl_n3, nl_n4, nl_add, nl_ladd, nl_aa, nl_mul, nl_rmul, nl_mm, pu_wi_1, pu_wi_2, bX12_pairs_148, bX12_pairs_261, bX12_pairs_255, bX12_pairs_202, bX12_pairs_241, bX12_pairs_199, a_ai, a_ald, a_cv, a_dup2, a_gr, a_iadd, a_iceq, a_icge, a_icne, a_ifeq, a_ild, a_imul, a_inc, a_push, a_wi, fx_71_0 hx, sh_71, sh_72, pu_rv, pu_as, Value.category, pu_bk, pu_kl, pu_qe0, pu_qe1, hc, k2, k3, e3, k4', c1', c1]
        all_goals try simp [bX12_pairs_148, bX12_pairs_261, bX12_pairs_255, bX12_pairs_202, bX12_pairs_241, bX12_pairs_199, a_ai, a_ald, a_cv, a_dup2, a_gr, a_iadd, a_iceq, a_icge, a_icne, a_ifeq, a_ild, a_imul, a_inc, a_push, a_wi, fx_71_0 hx, sh_71, sh_72, pu_rv, pu_as, Value.category, pu_bk, pu_kl, List.replicate, pu_wi_1, pu_wi_2, nl_add, nl_ladd, nl_aa, nl_mul, nl_rmul, nl_mm, pu_qe0, pu_qe1, hc, k2, k3, e3, k4', c1', c1]
        all_goals try simp (maxSteps := 400000) (disch := omega) [nl_tle, nl_fle, nl_tlt, nl_flt, nl_teq, nl_feq, nl_sub, nl_ss, nl_lt, nl_llt, nl_ltt, nl_le, nl_lle, nl_lee, nl_eq, nl_leq, nl_ee, nl_div, nl_rem, nl_cl, nl_n1, nl_n2, nl_n3, nl_n4, nl_add, nl_ladd, nl_aa, nl_mul, nl_rmul, nl_mm, pu_wi_1, pu_wi_2, bX12_pairs_148, bX12_pairs_261, bX12_pairs_255, bX12_pairs_202, bX12_pairs_241, bX12_pairs_199, a_ai, a_ald, a_cv, a_dup2, a_gr, a_iadd, a_iceq, a_icge, a_icne, a_ifeq, a_ild, a_imul, a_inc, a_push, a_wi, fx_71_0 hx, sh_71, sh_72, pu_rv, pu_as, Value.category, pu_bk, pu_kl, pu_qe0, pu_qe1, hc, k2, k3, e3, k4', c1', c1]
        all_goals try simp [bX12_pairs_148, bX12_pairs_261, bX12_pairs_255, bX12_pairs_202, bX12_pairs_241, bX12_pairs_199, a_ai, a_ald, a_cv, a_dup2, a_gr, a_iadd, a_iceq, a_icge, a_icne, a_ifeq, a_ild, a_imul, a_inc, a_push, a_wi, fx_71_0 hx, sh_71, sh_72, pu_rv, pu_as, Value.category, pu_bk, pu_kl, List.replicate, pu_wi_1, pu_wi_2, nl_add, nl_ladd, nl_aa, nl_mul, nl_rmul, nl_mm, pu_qe0, pu_qe1, hc, k2, k3, e3, k4', c1', c1]
  · refine Or.inl ⟨fun j hj e1 e2 => h1 j ⟨hj.1, e2, hj.2.1⟩ (show I 39 (2 * d + w) = nI b by rw [← e2]; exact hj.2.2.2), ?_⟩
    rcases h2 with h2 | ⟨h2, h3 | ⟨h3, h4⟩⟩
    · rw [qX12_pairs_148]
      simp [bX12_pairs_148, bX12_pairs_261, bX12_pairs_255, bX12_pairs_202, bX12_pairs_241, bX12_pairs_199, a_ai, a_ald, a_cv, a_dup2, a_gr, a_iadd, a_iceq, a_icge, a_icne, a_ifeq, a_ild, a_imul, a_inc, a_push, a_wi, fx_71_0 hx, sh_71, sh_72, pu_rv, pu_as, Value.category, pu_bk, pu_kl, List.replicate, pu_wi_1, pu_wi_2, nl_add, nl_ladd, nl_aa, nl_mul, nl_rmul, nl_mm, pu_qe0, pu_qe1, hc, h2]
      all_goals try simp (maxSteps := 400000) (disch := omega) [nl_tle, nl_fle, nl_tlt, nl_flt, nl_teq, nl_feq, nl_sub, nl_ss, nl_lt, nl_llt, nl_ltt, nl_le, nl_lle, nl_lee, nl_eq, nl_leq, nl_ee, nl_div, nl_rem, nl_cl, nl_n1, nl_n2, nl_n3, nl_n4, nl_add, nl_ladd, nl_aa, nl_mul, nl_rmul, nl_mm, pu_wi_1, pu_wi_2, bX12_pairs_148, bX12_pairs_261, bX12_pairs_255, bX12_pairs_202, bX12_pairs_241, bX12_pairs_199, a_ai, a_ald, a_cv, a_dup2, a_gr, a_iadd, a_iceq, a_icge, a_icne, a_ifeq, a_ild, a_imul, a_inc, a_push, a_wi, fx_71_0 hx, sh_71, sh_72, pu_rv, pu_as, Value.category, pu_bk, pu_kl, pu_qe0, pu_qe1, hc, h2]
      all_goals try simp [bX12_pairs_148, bX12_pairs_261, bX12_pairs_255, bX12_pairs_202, bX12_pairs_241, bX12_pairs_199, a_ai, a_ald, a_cv, a_dup2, a_gr, a_iadd, a_iceq, a_icge, a_icne, a_ifeq, a_ild, a_imul, a_inc, a_push, a_wi, fx_71_0 hx, sh_71, sh_72, pu_rv, pu_as, Value.category, pu_bk, pu_kl, List.replicate, pu_wi_1, pu_wi_2, nl_add, nl_ladd, nl_aa, nl_mul, nl_rmul, nl_mm, pu_qe0, pu_qe1, hc, h2]
      all_goals try simp (maxSteps := 400000) (disch := omega) [nl_tle, nl_fle, nl_tlt, nl_flt, nl_teq, nl_feq, nl_sub, nl_ss, nl_lt, nl_llt, nl_ltt, nl_le, nl_lle, nl_lee, nl_eq, nl_leq, nl_ee, nl_div, nl_rem, nl_cl, nl_n1, nl_n2, nl_n3, nl_n4, nl_add, nl_ladd, nl_aa, nl_mul, nl_rmul, nl_mm, pu_wi_1, pu_wi_2, bX12_pairs_148, bX12_pairs_261, bX12_pairs_255, bX12_pairs_202, bX12_pairs_241, bX12_pairs_199, a_ai, a_ald, a_cv, a_dup2, a_gr, a_iadd, a_iceq, a_icge, a_icne, a_ifeq, a_ild, a_imul, a_inc, a_push, a_wi, fx_71_0 hx, sh_71, sh_72, pu_rv, pu_as, Value.category, pu_bk, pu_kl, pu_qe0, pu_qe1, hc, h2]
      all_goals try simp [bX12_pairs_148, bX12_pairs_261, bX12_pairs_255, bX12_pairs_202, bX12_pairs_241, bX12_pairs_199, a_ai, a_ald, a_cv, a_dup2, a_gr, a_iadd, a_iceq, a_icge, a_icne, a_ifeq, a_ild, a_imul, a_inc, a_push, a_wi, fx_71_0 hx, sh_71, sh_72, pu_rv, pu_as, Value.category, pu_bk, pu_kl, List.replicate, pu_wi_1, pu_wi_2, nl_add, nl_ladd, nl_aa, nl_mul, nl_rmul, nl_mm, pu_qe0, pu_qe1, hc, h2]
      all_goals try simp (maxSteps := 400000) (disch := omega) [nl_tle, nl_fle, nl_tlt, nl_flt, nl_teq, nl_feq, nl_sub, nl_ss, nl_lt, nl_llt, nl_ltt, nl_le, nl_lle, nl_lee, nl_eq, nl_leq, nl_ee, nl_div, nl_rem, nl_cl, nl_n1, nl_n2, nl_n3, nl_n4, nl_add, nl_ladd, nl_aa, nl_mul, nl_rmul, nl_mm, pu_wi_1, pu_wi_2, bX12_pairs_148, bX12_pairs_261, bX12_pairs_255, bX12_pairs_202, bX12_pairs_241, bX12_pairs_199, a_ai, a_ald, a_cv, a_dup2, a_gr, a_iadd, a_iceq, a_icge, a_icne, a_ifeq, a_ild, a_imul, a_inc, a_push, a_wi, fx_71_0 hx, sh_71, sh_72, pu_rv, pu_as, Value.category, pu_bk, pu_kl, pu_qe0, pu_qe1, hc, h2]
      all_goals try simp [bX12_pairs_148, bX12_pairs_261, bX12_pairs_255, bX12_pairs_202, bX12_pairs_241, bX12_pairs_199, a_ai, a_ald, a_cv, a_dup2, a_gr, a_iadd, a_iceq, a_icge, a_icne, a_ifeq, a_ild, a_imul, a_inc, a_push, a_wi, fx_71_0 hx, sh_71, sh_72, pu_rv, pu_as, Value.category, pu_bk, pu_kl, List.replicate, pu_wi_1, pu_wi_2, nl_add, nl_ladd, nl_aa, nl_mul, nl_rmul, nl_mm, pu_qe0, pu_qe1, hc, h2]
    · rw [qX12_pairs_148]
      simp [bX12_pairs_148, bX12_pairs_261, bX12_pairs_255, bX12_pairs_202, bX12_pairs_241, bX12_pairs_199, a_ai, a_ald, a_cv, a_dup2, a_gr, a_iadd, a_iceq, a_icge, a_icne, a_ifeq, a_ild, a_imul, a_inc, a_push, a_wi, fx_71_0 hx, sh_71, sh_72, pu_rv, pu_as, Value.category, pu_bk, pu_kl, List.replicate, pu_wi_1, pu_wi_2, nl_add, nl_ladd, nl_aa, nl_mul, nl_rmul, nl_mm, pu_qe0, pu_qe1, hc, h2, h3]
      all_goals try simp (maxSteps := 400000) (disch := omega) [nl_tle, nl_fle, nl_tlt, nl_flt, nl_teq, nl_feq, nl_sub, nl_ss, nl_lt, nl_llt, nl_ltt, nl_le, nl_lle, nl_lee, nl_eq, nl_leq, nl_ee, nl_div, nl_rem, nl_cl, nl_n1, nl_n2, nl_n3, nl_n4, nl_add, nl_ladd, nl_aa, nl_mul, nl_rmul, nl_mm, pu_wi_1, pu_wi_2, bX12_pairs_148, bX12_pairs_261, bX12_pairs_255, bX12_pairs_202, bX12_pairs_241, bX12_pairs_199, a_ai, a_ald, a_cv, a_dup2, a_gr, a_iadd, a_iceq, a_icge, a_icne, a_ifeq, a_ild, a_imul, a_inc, a_push, a_wi, fx_71_0 hx, sh_71, sh_72, pu_rv, pu_as, Value.category, pu_bk, pu_kl, pu_qe0, pu_qe1, hc, h2, h3]
      all_goals try simp [bX12_pairs_148, bX12_pairs_261, bX12_pairs_255, bX12_pairs_202, bX12_pairs_241, bX12_pairs_199, a_ai, a_ald, a_cv, a_dup2, a_gr, a_iadd, a_iceq, a_icge, a_icne, a_ifeq, a_ild, a_imul, a_inc, a_push, a_wi, fx_71_0 hx, sh_71, sh_72, pu_rv, pu_as, Value.category, pu_bk, pu_kl, List.replicate, pu_wi_1, pu_wi_2, nl_add, nl_ladd, nl_aa, nl_mul, nl_rmul, nl_mm, pu_qe0, pu_qe1, hc, h2, h3]
      all_goals try simp (maxSteps := 400000) (disch := omega) [nl_tle, nl_fle, nl_tlt, nl_flt, nl_teq, nl_feq, nl_sub, nl_ss, nl_lt, nl_llt, nl_ltt, nl_le, nl_lle, nl_lee, nl_eq, nl_leq, nl_ee, nl_div, nl_rem, nl_cl, nl_n1, nl_n2, nl_n3, nl_n4, nl_add, nl_ladd, nl_aa, nl_mul, nl_rmul, nl_mm, pu_wi_1, pu_wi_2, bX12_pairs_148, bX12_pairs_261, bX12_pairs_255, bX12_pairs_202, bX12_pairs_241, bX12_pairs_199, a_ai, a_ald, a_cv, a_dup2, a_gr, a_iadd, a_iceq, a_icge, a_icne, a_ifeq, a_ild, a_imul, a_inc, a_push, a_wi, fx_71_0 hx, sh_71, sh_72, pu_rv, pu_as, Value.category, pu_bk, pu_kl, pu_qe0, pu_qe1, hc, h2, h3]
      all_goals try simp [bX12_pairs_148, bX12_pairs_261, bX12_pairs_255, bX12_pairs_202, bX12_pairs_241, bX12_pairs_199, a_ai, a_ald, a_cv, a_dup2, a_gr, a_iadd, a_iceq, a_icge, a_icne, a_ifeq, a_ild, a_imul, a_inc, a_push, a_wi, fx_71_0 hx, sh_71, sh_72, pu_rv, pu_as, Value.category, pu_bk, pu_kl, List.replicate, pu_wi_1, pu_wi_2, nl_add, nl_ladd, nl_aa, nl_mul, nl_rmul, nl_mm, pu_qe0, pu_qe1, hc, h2, h3]
      all_goals try simp (maxSteps := 400000) (disch := omega) [nl_tle, nl_fle, nl_tlt, nl_flt, nl_teq, nl_feq, nl_sub, nl_ss, nl_lt, nl_llt, nl_ltt, nl_le, nl_lle, nl_lee, nl_eq, nl_leq, nl_ee, nl_div, nl_rem, nl_cl, nl_n1, nl_n2, nl_n3, nl_n4, nl_add, nl_ladd, nl_aa, nl_mul, nl_rmul, nl_mm, pu_wi_1, pu_wi_2, bX12_pairs_148, bX12_pairs_261, bX12_pairs_255, bX12_pairs_202, bX12_pairs_241, bX12_pairs_199, a_ai, a_ald, a_cv, a_dup2, a_gr, a_iadd, a_iceq, a_icge, a_icne, a_ifeq, a_ild, a_imul, a_inc, a_push, a_wi, fx_71_0 hx, sh_71, sh_72, pu_rv, pu_as, Value.category, pu_bk, pu_kl, pu_qe0, pu_qe1, hc, h2, h3]
      all_goals try simp [bX12_pairs_148, bX12_pairs_261, bX12_pairs_255, bX12_pairs_202, bX12_pairs_241, bX12_pairs_199, a_ai, a_ald, a_cv, a_dup2, a_gr, a_iadd, a_iceq, a_icge, a_icne, a_ifeq, a_ild, a_imul, a_inc, a_push, a_wi, fx_71_0 hx, sh_71, sh_72, pu_rv, pu_as, Value.category, pu_bk, pu_kl, List.replicate, pu_wi_1, pu_wi_2, nl_add, nl_ladd, nl_aa, nl_mul, nl_rmul, nl_mm, pu_qe0, pu_qe1, hc, h2, h3]
    · have h4' : I 39 (2 * d + w) ≠ nI b := h4
      generalize I 39 (2 * d + w) = v39 at *
      generalize nI b = bv at *
      rw [qX12_pairs_148]
      simp [bX12_pairs_148, bX12_pairs_261, bX12_pairs_255, bX12_pairs_202, bX12_pairs_241, bX12_pairs_199, a_ai, a_ald, a_cv, a_dup2, a_gr, a_iadd, a_iceq, a_icge, a_icne, a_ifeq, a_ild, a_imul, a_inc, a_push, a_wi, fx_71_0 hx, sh_71, sh_72, pu_rv, pu_as, Value.category, pu_bk, pu_kl, List.replicate, pu_wi_1, pu_wi_2, nl_add, nl_ladd, nl_aa, nl_mul, nl_rmul, nl_mm, pu_qe0, pu_qe1, hc, h2, h3, e3, h4']
      all_goals try simp (maxSteps := 400000) (disch := omega) [nl_tle, nl_fle, nl_tlt, nl_flt, nl_teq, nl_feq, nl_sub, nl_ss, nl_lt, nl_llt, nl_ltt, nl_le, nl_lle, nl_lee, nl_eq, nl_leq, nl_ee, nl_div, nl_rem, nl_cl, nl_n1, nl_n2, nl_n3, nl_n4, nl_add, nl_ladd, nl_aa, nl_mul, nl_rmul, nl_mm, pu_wi_1, pu_wi_2, bX12_pairs_148, bX12_pairs_261, bX12_pairs_255, bX12_pairs_202, bX12_pairs_241, bX12_pairs_199, a_ai, a_ald, a_cv, a_dup2, a_gr, a_iadd, a_iceq, a_icge, a_icne, a_ifeq, a_ild, a_imul, a_inc, a_push, a_wi, fx_71_0 hx, sh_71, sh_72, pu_rv, pu_as, Value.category, pu_bk, pu_kl, pu_qe0, pu_qe1, hc, h2, h3, e3, h4']
      all_goals try simp [bX12_pairs_148, bX12_pairs_261, bX12_pairs_255, bX12_pairs_202, bX12_pairs_241, bX12_pairs_199, a_ai, a_ald, a_cv, a_dup2, a_gr, a_iadd, a_iceq, a_icge, a_icne, a_ifeq, a_ild, a_imul, a_inc, a_push, a_wi, fx_71_0 hx, sh_71, sh_72, pu_rv, pu_as, Value.category, pu_bk, pu_kl, List.replicate, pu_wi_1, pu_wi_2, nl_add, nl_ladd, nl_aa, nl_mul, nl_rmul, nl_mm, pu_qe0, pu_qe1, hc, h2, h3, e3, h4']
      all_goals try simp (maxSteps := 400000) (disch := omega) [nl_tle, nl_fle, nl_tlt, nl_flt, nl_teq, nl_feq, nl_sub, nl_ss, nl_lt, nl_llt, nl_ltt, nl_le, nl_lle, nl_lee, nl_eq, nl_leq, nl_ee, nl_div, nl_rem, nl_cl, nl_n1, nl_n2, nl_n3, nl_n4, nl_add, nl_ladd, nl_aa, nl_mul, nl_rmul, nl_mm, pu_wi_1, pu_wi_2, bX12_pairs_148, bX12_pairs_261, bX12_pairs_255, bX12_pairs_202, bX12_pairs_241, bX12_pairs_199, a_ai, a_ald, a_cv, a_dup2, a_gr, a_iadd, a_iceq, a_icge, a_icne, a_ifeq, a_ild, a_imul, a_inc, a_push, a_wi, fx_71_0 hx, sh_71, sh_72, pu_rv, pu_as, Value.category, pu_bk, pu_kl, pu_qe0, pu_qe1, hc, h2, h3, e3, h4']
      all_goals try simp [bX12_pairs_148, bX12_pairs_261, bX12_pairs_255, bX12_pairs_202, bX12_pairs_241, bX12_pairs_199, a_ai, a_ald, a_cv, a_dup2, a_gr, a_iadd, a_iceq, a_icge, a_icne, a_ifeq, a_ild, a_imul, a_inc, a_push, a_wi, fx_71_0 hx, sh_71, sh_72, pu_rv, pu_as, Value.category, pu_bk, pu_kl, List.replicate, pu_wi_1, pu_wi_2, nl_add, nl_ladd, nl_aa, nl_mul, nl_rmul, nl_mm, pu_qe0, pu_qe1, hc, h2, h3, e3, h4']
      all_goals try simp (maxSteps := 400000) (disch := omega) [nl_tle, nl_fle, nl_tlt, nl_flt, nl_teq, nl_feq, nl_sub, nl_ss, nl_lt, nl_llt, nl_ltt, nl_le, nl_lle, nl_lee, nl_eq, nl_leq, nl_ee, nl_div, nl_rem, nl_cl, nl_n1, nl_n2, nl_n3, nl_n4, nl_add, nl_ladd, nl_aa, nl_mul, nl_rmul, nl_mm, pu_wi_1, pu_wi_2, bX12_pairs_148, bX12_pairs_261, bX12_pairs_255, bX12_pairs_202, bX12_pairs_241, bX12_pairs_199, a_ai, a_ald, a_cv, a_dup2, a_gr, a_iadd, a_iceq, a_icge, a_icne, a_ifeq, a_ild, a_imul, a_inc, a_push, a_wi, fx_71_0 hx, sh_71, sh_72, pu_rv, pu_as, Value.category, pu_bk, pu_kl, pu_qe0, pu_qe1, hc, h2, h3, e3, h4']
      all_goals try simp [bX12_pairs_148, bX12_pairs_261, bX12_pairs_255, bX12_pairs_202, bX12_pairs_241, bX12_pairs_199, a_ai, a_ald, a_cv, a_dup2, a_gr, a_iadd, a_iceq, a_icge, a_icne, a_ifeq, a_ild, a_imul, a_inc, a_push, a_wi, fx_71_0 hx, sh_71, sh_72, pu_rv, pu_as, Value.category, pu_bk, pu_kl, List.replicate, pu_wi_1, pu_wi_2, nl_add, nl_ladd, nl_aa, nl_mul, nl_rmul, nl_mm, pu_qe0, pu_qe1, hc, h2, h3, e3, h4']
end
