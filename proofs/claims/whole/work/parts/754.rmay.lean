/-! mayHave, on the reference's side -/
noncomputable def py_cnt (c : Nat → Prop) : Nat → Nat → Nat
  | 0, _ => 0
  | m + 1, i => @ite Nat (c i) (Classical.propDecidable _) 1 0 + py_cnt c m (i + 1)
theorem py_cnt_t {c : Nat → Prop} {m i : Nat} (h : c i) : py_cnt c (m + 1) i = 1 + py_cnt c m (i + 1) := by
  show @ite Nat (c i) (Classical.propDecidable _) 1 0 + _ = _
  rw [if_pos h]
theorem py_cnt_f {c : Nat → Prop} {m i : Nat} (h : ¬ c i) : py_cnt c (m + 1) i = py_cnt c m (i + 1) := by
  show @ite Nat (c i) (Classical.propDecidable _) 1 0 + _ = _
  rw [if_neg h, Nat.zero_add]
theorem py_cnt_le (c : Nat → Prop) : ∀ m i, py_cnt c m i ≤ m
  | 0, _ => Nat.le_refl _
  | m + 1, i => by
    have := py_cnt_le c m (i + 1)
    by_cases h : c i
    · rw [py_cnt_t h]; omega
    · rw [py_cnt_f h]; omega
section
variable {M : pu_M} {I : Nat → Nat → Int32} {L : Nat → Nat → Int64} {st : Nat} {y : Int32}
theorem py_tn_e (hy : ¬ y < 0) (k : Nat) : pu_tn I y k = pu_sh1 I y k := by
  have n1 : ¬ y = -1 := fun z => hy (by rw [z]; decide)
  unfold pu_tn
  rw [if_neg n1]
theorem py_ak_r (hw : pu_WF I L) (hst : st < 2147483648) {k : Nat} (hk : k < cU I) (h1 : I 39 (pu_sl0 I k) = nI st) (h2 : pu_tn I y k) : 0 ≤ pz_ak I st k ∧ pz_ak I st k ≤ 110000 := by
  have p := py_pl0 hw hst hk h1 h2
  unfold pz_ak pz_al
  split
  · split <;> omega
  · omega
theorem py_lo_k (hw : pu_WF I L) (hst : st < 2147483648) {K : Nat} {sd h be : Int} {lo : Int32} (hn : ¬ (py_eo I st y sd K ∧ pz_ak I st K < h ∧ be < pz_ak I st K)) (g : py_lo I st y sd h K be lo) : py_lo I st y sd h (K + 1) be lo := by
  rcases g with ⟨a, b, c⟩ | ⟨k, k1, k2, k3, k4, k5, k6⟩
  · refine Or.inl ⟨a, b, fun k hk hs z => ?_⟩
    by_cases e : k = K
    · rw [e] at hk z
      have := py_ak_r hw hst hk.1 hk.2.1 hk.2.2.1
      exact hn ⟨hk, z, by omega⟩
    · exact c k hk (by omega) z
  · refine Or.inr ⟨k, k1, by omega, k3, k4, k5, fun l hl hs z => ?_⟩
    by_cases e : l = K
    · rw [e] at hl z ⊢
      by_cases q : be < pz_ak I st K
      · exact absurd ⟨hl, z, q⟩ hn
      · omega
    · exact k6 l hl (by omega) z
theorem py_lo_t {K : Nat} {sd h be : Int} {lo : Int32} (hk : py_eo I st y sd K) (h1 : pz_ak I st K < h) (h2 : be < pz_ak I st K) (g : py_lo I st y sd h K be lo) : py_lo I st y sd h (K + 1) (pz_ak I st K) (I 16 K) := by
  refine Or.inr ⟨K, hk, by omega, h1, rfl, rfl, fun l hl hs h3 => ?_⟩
  by_cases e : l = K
  · rw [e]
    exact Int.le_refl _
  · rcases g with ⟨a, b, c⟩ | ⟨k', k1, k2, k3, k4, k5, k6⟩
    · exact absurd h3 (c l hl (by omega))
    · have := k6 l hl (by omega) h3
      omega
theorem py_hi_k (hw : pu_WF I L) (hst : st < 2147483648) {K : Nat} {sd h be : Int} {lo : Int32} (hn : ¬ (py_eo I st y sd K ∧ h < pz_ak I st K ∧ pz_ak I st K < be)) (g : py_hi I st y sd h K be lo) : py_hi I st y sd h (K + 1) be lo := by
  rcases g with ⟨a, b, c⟩ | ⟨k, k1, k2, k3, k4, k5, k6⟩
  · refine Or.inl ⟨a, b, fun k hk hs z => ?_⟩
    by_cases e : k = K
    · rw [e] at hk z
      have := py_ak_r hw hst hk.1 hk.2.1 hk.2.2.1
      exact hn ⟨hk, z, by omega⟩
    · exact c k hk (by omega) z
  · refine Or.inr ⟨k, k1, by omega, k3, k4, k5, fun l hl hs z => ?_⟩
    by_cases e : l = K
    · rw [e] at hl z ⊢
      by_cases q : pz_ak I st K < be
      · exact absurd ⟨hl, z, q⟩ hn
      · omega
    · exact k6 l hl (by omega) z
theorem py_hi_t {K : Nat} {sd h be : Int} {lo : Int32} (hk : py_eo I st y sd K) (h1 : h < pz_ak I st K) (h2 : pz_ak I st K < be) (g : py_hi I st y sd h K be lo) : py_hi I st y sd h (K + 1) (pz_ak I st K) (I 16 K) := by
  refine Or.inr ⟨K, hk, by omega, h1, rfl, rfl, fun l hl hs h3 => ?_⟩
  by_cases e : l = K
  · rw [e]
    exact Int.le_refl _
  · rcases g with ⟨a, b, c⟩ | ⟨k', k1, k2, k3, k4, k5, k6⟩
    · exact absurd h3 (c l hl (by omega))
    · have := k6 l hl (by omega) h3
      omega
theorem r_sideOf (hx : pu_fx M) (hr : pu_Rel I L (M.1 72)) (hw : pu_WF I L) (k : Nat) (hk : k < cU I) : pu_r 320 [some (.ref 71), some (.int (nI k))] [] M = some (some (.int (I 40 (pu_sl0 I k))), M) := by
  have bU := wx_bU hw
  have bD := wx_bD hw
  have k3 : k < 3000 := by omega
  have sl := (pu_sl_lt hw hk).1
  have u0 : M.1 72 (10752 + 6 * k) = nI (pu_sl0 I k / 2) := rl_u0 hr k hk
  have u1 : M.1 72 (10752 + 6 * k + 1) = nI (pu_sl0 I k % 2) := rl_u1 hr k hk
  have e := r_sideAt hx hr hw (pu_sl0 I k / 2) (pu_sl0 I k % 2) (by omega) (by omega)
  rw [show 2 * (pu_sl0 I k / 2) + pu_sl0 I k % 2 = pu_sl0 I k by omega] at e
  generalize pu_sl0 I k / 2 = a at *
  generalize pu_sl0 I k % 2 = b at *
  rw [qX12_sideOf]
  simp [a_ent, bX12_sideOf_0, a_ai, a_ald, a_cv, a_gr, a_iadd, a_ild, a_imul, a_iret, a_push, fx_71_0 hx, sh_71, sh_72, pu_rv, pu_as, Value.category, pu_bk, pu_kl, List.replicate, pu_wi_1, pu_wi_2, nl_add, nl_ladd, nl_aa, nl_mul, nl_rmul, nl_mm, pu_qe0, pu_qe1, k3, u0, u1, e]
  all_goals try simp (maxSteps := 400000) (disch := omega) [nl_tle, nl_fle, nl_tlt, nl_flt, nl_teq, nl_feq, nl_sub, nl_ss, nl_lt, nl_llt, nl_ltt, nl_le, nl_lle, nl_lee, nl_eq, nl_leq, nl_ee, nl_div, nl_rem, nl_cl, nl_n1, nl_n2, nl_n3, nl_n4, nl_add, nl_ladd, nl_aa, nl_mul, nl_rmul, nl_mm, pu_wi_1, pu_wi_2, bX12_sideOf_0, a_ai, a_ald, a_cv, a_gr, a_iadd, a_ild, a_imul, a_iret, a_push, fx_71_0 hx, sh_71, sh_72, pu_rv, pu_as, Value.category, pu_bk, pu_kl, pu_qe0, pu_qe1, k3, u0, u1, e]
  all_goals try simp [bX12_sideOf_0, a_ai, a_ald, a_cv, a_gr, a_iadd, a_ild, a_imul, a_iret, a_push, fx_71_0 hx, sh_71, sh_72, pu_rv, pu_as, Value.category, pu_bk, pu_kl, List.replicate, pu_wi_1, pu_wi_2, nl_add, nl_ladd, nl_aa, nl_mul, nl_rmul, nl_mm, pu_qe0, pu_qe1, k3, u0, u1, e]
  all_goals try simp (maxSteps := 400000) (disch := omega) [nl_tle, nl_fle, nl_tlt, nl_flt, nl_teq, nl_feq, nl_sub, nl_ss, nl_lt, nl_llt, nl_ltt, nl_le, nl_lle, nl_lee, nl_eq, nl_leq, nl_ee, nl_div, nl_rem, nl_cl, nl_n1, nl_n2, nl_n3, nl_n4, nl_add, nl_ladd, nl_aa, nl_mul, nl_rmul, nl_mm, pu_wi_1, pu_wi_2, bX12_sideOf_0, a_ai, a_ald, a_cv, a_gr, a_iadd, a_ild, a_imul, a_iret, a_push, fx_71_0 hx, sh_71, sh_72, pu_rv, pu_as, Value.category, pu_bk, pu_kl, pu_qe0, pu_qe1, k3, u0, u1, e]
  all_goals try simp [bX12_sideOf_0, a_ai, a_ald, a_cv, a_gr, a_iadd, a_ild, a_imul, a_iret, a_push, fx_71_0 hx, sh_71, sh_72, pu_rv, pu_as, Value.category, pu_bk, pu_kl, List.replicate, pu_wi_1, pu_wi_2, nl_add, nl_ladd, nl_aa, nl_mul, nl_rmul, nl_mm, pu_qe0, pu_qe1, k3, u0, u1, e]
  all_goals try simp (maxSteps := 400000) (disch := omega) [nl_tle, nl_fle, nl_tlt, nl_flt, nl_teq, nl_feq, nl_sub, nl_ss, nl_lt, nl_llt, nl_ltt, nl_le, nl_lle, nl_lee, nl_eq, nl_leq, nl_ee, nl_div, nl_rem, nl_cl, nl_n1, nl_n2, nl_n3, nl_n4, nl_add, nl_ladd, nl_aa, nl_mul, nl_rmul, nl_mm, pu_wi_1, pu_wi_2, bX12_sideOf_0, a_ai, a_ald, a_cv, a_gr, a_iadd, a_ild, a_imul, a_iret, a_push, fx_71_0 hx, sh_71, sh_72, pu_rv, pu_as, Value.category, pu_bk, pu_kl, pu_qe0, pu_qe1, k3, u0, u1, e]
  all_goals try simp [bX12_sideOf_0, a_ai, a_ald, a_cv, a_gr, a_iadd, a_ild, a_imul, a_iret, a_push, fx_71_0 hx, sh_71, sh_72, pu_rv, pu_as, Value.category, pu_bk, pu_kl, List.replicate, pu_wi_1, pu_wi_2, nl_add, nl_ladd, nl_aa, nl_mul, nl_rmul, nl_mm, pu_qe0, pu_qe1, k3, u0, u1, e]
theorem r_pacesOf (hx : pu_fx M) (hr : pu_Rel I L (M.1 72)) (hw : pu_WF I L) (k : Nat) (hk : k < cU I) : pu_r 321 [some (.ref 71), some (.int (nI k))] [] M = some (some (.int (I 41 (pu_sl0 I k))), M) := by
  have bU := wx_bU hw
  have bD := wx_bD hw
  have k3 : k < 3000 := by omega
  have sl := (pu_sl_lt hw hk).1
  have u0 : M.1 72 (10752 + 6 * k) = nI (pu_sl0 I k / 2) := rl_u0 hr k hk
  have u1 : M.1 72 (10752 + 6 * k + 1) = nI (pu_sl0 I k % 2) := rl_u1 hr k hk
  have e := r_pacesAt hx hr hw (pu_sl0 I k / 2) (pu_sl0 I k % 2) (by omega) (by omega)
  rw [show 2 * (pu_sl0 I k / 2) + pu_sl0 I k % 2 = pu_sl0 I k by omega] at e
  generalize pu_sl0 I k / 2 = a at *
  generalize pu_sl0 I k % 2 = b at *
  rw [qX12_pacesOf]
  simp [a_ent, bX12_pacesOf_0, a_ai, a_ald, a_cv, a_gr, a_iadd, a_ild, a_imul, a_iret, a_push, fx_71_0 hx, sh_71, sh_72, pu_rv, pu_as, Value.category, pu_bk, pu_kl, List.replicate, pu_wi_1, pu_wi_2, nl_add, nl_ladd, nl_aa, nl_mul, nl_rmul, nl_mm, pu_qe0, pu_qe1, k3, u0, u1, e]
  all_goals try simp (maxSteps := 400000) (disch := omega) [nl_tle, nl_fle, nl_tlt, nl_flt, nl_teq, nl_feq, nl_sub, nl_ss, nl_lt, nl_llt, nl_ltt, nl_le, nl_lle, nl_lee, nl_eq, nl_leq, nl_ee, nl_div, nl_rem, nl_cl, nl_n1, nl_n2, nl_n3, nl_n4, nl_add, nl_ladd, nl_aa, nl_mul, nl_rmul, nl_mm, pu_wi_1, pu_wi_2, bX12_pacesOf_0, a_ai, a_ald, a_cv, a_gr, a_iadd, a_ild, a_imul, a_iret, a_push, fx_71_0 hx, sh_71, sh_72, pu_rv, pu_as, Value.category, pu_bk, pu_kl, pu_qe0, pu_qe1, k3, u0, u1, e]
  all_goals try simp [bX12_pacesOf_0, a_ai, a_ald, a_cv, a_gr, a_iadd, a_ild, a_imul, a_iret, a_push, fx_71_0 hx, sh_71, sh_72, pu_rv, pu_as, Value.category, pu_bk, pu_kl, List.replicate, pu_wi_1, pu_wi_2, nl_add, nl_ladd, nl_aa, nl_mul, nl_rmul, nl_mm, pu_qe0, pu_qe1, k3, u0, u1, e]
  all_goals try simp (maxSteps := 400000) (disch := omega) [nl_tle, nl_fle, nl_tlt, nl_flt, nl_teq, nl_feq, nl_sub, nl_ss, nl_lt, nl_llt, nl_ltt, nl_le, nl_lle, nl_lee, nl_eq, nl_leq, nl_ee, nl_div, nl_rem, nl_cl, nl_n1, nl_n2, nl_n3, nl_n4, nl_add, nl_ladd, nl_aa, nl_mul, nl_rmul, nl_mm, pu_wi_1, pu_wi_2, bX12_pacesOf_0, a_ai, a_ald, a_cv, a_gr, a_iadd, a_ild, a_imul, a_iret, a_push, fx_71_0 hx, sh_71, sh_72, pu_rv, pu_as, Value.category, pu_bk, pu_kl, pu_qe0, pu_qe1, k3, u0, u1, e]
  all_goals try simp [bX12_pacesOf_0, a_ai, a_ald, a_cv, a_gr, a_iadd, a_ild, a_imul, a_iret, a_push, fx_71_0 hx, sh_71, sh_72, pu_rv, pu_as, Value.category, pu_bk, pu_kl, List.replicate, pu_wi_1, pu_wi_2, nl_add, nl_ladd, nl_aa, nl_mul, nl_rmul, nl_mm, pu_qe0, pu_qe1, k3, u0, u1, e]
  all_goals try simp (maxSteps := 400000) (disch := omega) [nl_tle, nl_fle, nl_tlt, nl_flt, nl_teq, nl_feq, nl_sub, nl_ss, nl_lt, nl_llt, nl_ltt, nl_le, nl_lle, nl_lee, nl_eq, nl_leq, nl_ee, nl_div, nl_rem, nl_cl, nl_n1, nl_n2, nl_n3, nl_n4, nl_add, nl_ladd, nl_aa, nl_mul, nl_rmul, nl_mm, pu_wi_1, pu_wi_2, bX12_pacesOf_0, a_ai, a_ald, a_cv, a_gr, a_iadd, a_ild, a_imul, a_iret, a_push, fx_71_0 hx, sh_71, sh_72, pu_rv, pu_as, Value.category, pu_bk, pu_kl, pu_qe0, pu_qe1, k3, u0, u1, e]
  all_goals try simp [bX12_pacesOf_0, a_ai, a_ald, a_cv, a_gr, a_iadd, a_ild, a_imul, a_iret, a_push, fx_71_0 hx, sh_71, sh_72, pu_rv, pu_as, Value.category, pu_bk, pu_kl, List.replicate, pu_wi_1, pu_wi_2, nl_add, nl_ladd, nl_aa, nl_mul, nl_rmul, nl_mm, pu_qe0, pu_qe1, k3, u0, u1, e]
theorem r_may_i (hx : pu_fx M) (hr : pu_Rel I L (M.1 72)) (hw : pu_WF I L) (st i : Nat) (hst : st < cK I) (hi : i < cU I) (hy : ¬ y < 0) (k0 sd here be ah lo hh : Int32) (t12 t13 : Option Value) :
    ∃ be2 ah2 lo2 hi2 u12 u13, (py_lo I st y sd.toInt here.toInt i be.toInt lo → py_lo I st y sd.toInt here.toInt (i + 1) be2.toInt lo2) ∧ (py_hi I st y sd.toInt here.toInt i ah.toInt hh → py_hi I st y sd.toInt here.toInt (i + 1) ah2.toInt hi2) ∧
      pu_r 499 [some (.ref 71), some (.int k0), some (.int (nI st)), some (.int y), some (.int (I 27 st)), some (.int sd), some (.int here), some (.int be), some (.int ah), some (.int lo), some (.int hh), some (.int (nI i)), t12, t13] [] M = pu_r 499 [some (.ref 71), some (.int k0), some (.int (nI st)), some (.int y), some (.int (I 27 st)), some (.int sd), some (.int here), some (.int be2), some (.int ah2), some (.int lo2), some (.int hi2), some (.int (nI (i + 1))), u12, u13] [] M := by
  have bU := wx_bU hw
  have bK := wx_bK hw
  have hstL : st < 2147483648 := by omega
  have i3 : i < 3000 := by omega
  have h6 := rl_h6 hr
  have hc : ¬ nI (cU I) ≤ nI i := nI_ge (by omega) (by omega)
  have u3 := rl_u3 hr i hi
  have e1 := r_isOn hx hr hw i hi (nI st) y
  have e2 := r_sideOf hx hr hw i hi
  have e3 := r_pacesOf hx hr hw i hi
  have uw := wx_uw hw i hi
  have t0 : (0 : Int32).toInt = 0 := by decide
  have SK : ∀ (u13 : Option Value), ¬ py_eo I st y sd.toInt i → pu_r 499 [some (.ref 71), some (.int k0), some (.int (nI st)), some (.int y), some (.int (I 27 st)), some (.int sd), some (.int here), some (.int be), some (.int ah), some (.int lo), some (.int hh), some (.int (nI i)), t12, t13] [] M = pu_r 499 [some (.ref 71), some (.int k0), some (.int (nI st)), some (.int y), some (.int (I 27 st)), some (.int sd), some (.int here), some (.int be), some (.int ah), some (.int lo), some (.int hh), some (.int (nI (i + 1))), some (.int (I 16 i)), u13] [] M → ∃ be2 ah2 lo2 hi2 u12 u13, (py_lo I st y sd.toInt here.toInt i be.toInt lo → py_lo I st y sd.toInt here.toInt (i + 1) be2.toInt lo2) ∧ (py_hi I st y sd.toInt here.toInt i ah.toInt hh → py_hi I st y sd.toInt here.toInt (i + 1) ah2.toInt hi2) ∧
      pu_r 499 [some (.ref 71), some (.int k0), some (.int (nI st)), some (.int y), some (.int (I 27 st)), some (.int sd), some (.int here), some (.int be), some (.int ah), some (.int lo), some (.int hh), some (.int (nI i)), t12, t13] [] M = pu_r 499 [some (.ref 71), some (.int k0), some (.int (nI st)), some (.int y), some (.int (I 27 st)), some (.int sd), some (.int here), some (.int be2), some (.int ah2), some (.int lo2), some (.int hi2), some (.int (nI (i + 1))), u12, u13] [] M := fun u13 hn e => ⟨be, ah, lo, hh, _, _, py_lo_k hw hstL (fun z => hn z.1), py_hi_k hw hstL (fun z => hn z.1), e⟩
  by_cases c1 : I 16 i = 0
  · refine SK t13 (fun z => ?_) ?_
    · have := z.2.2.2.2
      rw [c1] at this
      omega
    · rw [c1] at u3 ⊢
      generalize I 27 st = r27 at *
      rw [qX12_mayHave_73]
      simp [bX12_mayHave_73, bX12_mayHave_207, bX12_mayHave_201, bX12_mayHave_116, bX12_mayHave_138, bX12_mayHave_179, a_ai, a_ald, a_cs, a_cv, a_gr, a_iadd, a_icge, a_icle, a_ifeq, a_ifne, a_ild, a_imul, a_inc, a_ist, a_pi, a_push, fx_71_0 hx, sh_71, sh_72, pu_rv, pu_as, Value.category, pu_bk, pu_kl, List.replicate, pu_wi_1, pu_wi_2, nl_add, nl_ladd, nl_aa, nl_mul, nl_rmul, nl_mm, pu_qe0, pu_qe1, h6, hc, i3, u3]
      all_goals try simp (maxSteps := 400000) (disch := omega) [nl_tle, nl_fle, nl_tlt, nl_flt, nl_teq, nl_feq, nl_sub, nl_ss, nl_lt, nl_llt, nl_ltt, nl_le, nl_lle, nl_lee, nl_eq, nl_leq, nl_ee, nl_div, nl_rem, nl_cl, nl_n1, nl_n2, nl_n3, nl_n4, nl_add, nl_ladd, nl_aa, nl_mul, nl_rmul, nl_mm, pu_wi_1, pu_wi_2, bX12_mayHave_73, bX12_mayHave_207, bX12_mayHave_201, bX12_mayHave_116, bX12_mayHave_138, bX12_mayHave_179, a_ai, a_ald, a_cs, a_cv, a_gr, a_iadd, a_icge, a_icle, a_ifeq, a_ifne, a_ild, a_imul, a_inc, a_ist, a_pi, a_push, fx_71_0 hx, sh_71, sh_72, pu_rv, pu_as, Value.category, pu_bk, pu_kl, pu_qe0, pu_qe1, h6, hc, i3, u3]
      all_goals try simp [bX12_mayHave_73, bX12_mayHave_207, bX12_mayHave_201, bX12_mayHave_116, bX12_mayHave_138, bX12_mayHave_179, a_ai, a_ald, a_cs, a_cv, a_gr, a_iadd, a_icge, a_icle, a_ifeq, a_ifne, a_ild, a_imul, a_inc, a_ist, a_pi, a_push, fx_71_0 hx, sh_71, sh_72, pu_rv, pu_as, Value.category, pu_bk, pu_kl, List.replicate, pu_wi_1, pu_wi_2, nl_add, nl_ladd, nl_aa, nl_mul, nl_rmul, nl_mm, pu_qe0, pu_qe1, h6, hc, i3, u3]
      all_goals try simp (maxSteps := 400000) (disch := omega) [nl_tle, nl_fle, nl_tlt, nl_flt, nl_teq, nl_feq, nl_sub, nl_ss, nl_lt, nl_llt, nl_ltt, nl_le, nl_lle, nl_lee, nl_eq, nl_leq, nl_ee, nl_div, nl_rem, nl_cl, nl_n1, nl_n2, nl_n3, nl_n4, nl_add, nl_ladd, nl_aa, nl_mul, nl_rmul, nl_mm, pu_wi_1, pu_wi_2, bX12_mayHave_73, bX12_mayHave_207, bX12_mayHave_201, bX12_mayHave_116, bX12_mayHave_138, bX12_mayHave_179, a_ai, a_ald, a_cs, a_cv, a_gr, a_iadd, a_icge, a_icle, a_ifeq, a_ifne, a_ild, a_imul, a_inc, a_ist, a_pi, a_push, fx_71_0 hx, sh_71, sh_72, pu_rv, pu_as, Value.category, pu_bk, pu_kl, pu_qe0, pu_qe1, h6, hc, i3, u3]
      all_goals try simp [bX12_mayHave_73, bX12_mayHave_207, bX12_mayHave_201, bX12_mayHave_116, bX12_mayHave_138, bX12_mayHave_179, a_ai, a_ald, a_cs, a_cv, a_gr, a_iadd, a_icge, a_icle, a_ifeq, a_ifne, a_ild, a_imul, a_inc, a_ist, a_pi, a_push, fx_71_0 hx, sh_71, sh_72, pu_rv, pu_as, Value.category, pu_bk, pu_kl, List.replicate, pu_wi_1, pu_wi_2, nl_add, nl_ladd, nl_aa, nl_mul, nl_rmul, nl_mm, pu_qe0, pu_qe1, h6, hc, i3, u3]
      all_goals try simp (maxSteps := 400000) (disch := omega) [nl_tle, nl_fle, nl_tlt, nl_flt, nl_teq, nl_feq, nl_sub, nl_ss, nl_lt, nl_llt, nl_ltt, nl_le, nl_lle, nl_lee, nl_eq, nl_leq, nl_ee, nl_div, nl_rem, nl_cl, nl_n1, nl_n2, nl_n3, nl_n4, nl_add, nl_ladd, nl_aa, nl_mul, nl_rmul, nl_mm, pu_wi_1, pu_wi_2, bX12_mayHave_73, bX12_mayHave_207, bX12_mayHave_201, bX12_mayHave_116, bX12_mayHave_138, bX12_mayHave_179, a_ai, a_ald, a_cs, a_cv, a_gr, a_iadd, a_icge, a_icle, a_ifeq, a_ifne, a_ild, a_imul, a_inc, a_ist, a_pi, a_push, fx_71_0 hx, sh_71, sh_72, pu_rv, pu_as, Value.category, pu_bk, pu_kl, pu_qe0, pu_qe1, h6, hc, i3, u3]
      all_goals try simp [bX12_mayHave_73, bX12_mayHave_207, bX12_mayHave_201, bX12_mayHave_116, bX12_mayHave_138, bX12_mayHave_179, a_ai, a_ald, a_cs, a_cv, a_gr, a_iadd, a_icge, a_icle, a_ifeq, a_ifne, a_ild, a_imul, a_inc, a_ist, a_pi, a_push, fx_71_0 hx, sh_71, sh_72, pu_rv, pu_as, Value.category, pu_bk, pu_kl, List.replicate, pu_wi_1, pu_wi_2, nl_add, nl_ladd, nl_aa, nl_mul, nl_rmul, nl_mm, pu_qe0, pu_qe1, h6, hc, i3, u3]
  have w0 : 0 < (I 16 i).toInt := by
    have : (I 16 i).toInt ≠ 0 := fun z => c1 (Int32.toInt_inj.mp (by rw [z, t0]))
    omega
  by_cases c2 : I 39 (pu_sl0 I i) = nI st ∧ pu_sh1 I y i
  rotate_left
  · rw [pu_q0 c2] at e1
    refine SK t13 (fun z => c2 ⟨z.2.1, by rw [← py_tn_e hy]; exact z.2.2.1⟩) ?_
    generalize I 27 st = r27 at *
    generalize I 16 i = v at *
    rw [qX12_mayHave_73]
    simp [bX12_mayHave_73, bX12_mayHave_207, bX12_mayHave_201, bX12_mayHave_116, bX12_mayHave_138, bX12_mayHave_179, a_ai, a_ald, a_cs, a_cv, a_gr, a_iadd, a_icge, a_icle, a_ifeq, a_ifne, a_ild, a_imul, a_inc, a_ist, a_pi, a_push, fx_71_0 hx, sh_71, sh_72, pu_rv, pu_as, Value.category, pu_bk, pu_kl, List.replicate, pu_wi_1, pu_wi_2, nl_add, nl_ladd, nl_aa, nl_mul, nl_rmul, nl_mm, pu_qe0, pu_qe1, h6, hc, i3, u3, c1, e1]
    all_goals try simp (maxSteps := 400000) (disch := omega) [nl_tle, nl_fle, nl_tlt, nl_flt, nl_teq, nl_feq, nl_sub, nl_ss, nl_lt, nl_llt, nl_ltt, nl_le, nl_lle, nl_lee, nl_eq, nl_leq, nl_ee, nl_div, nl_rem, nl_cl, nl_n1, nl_n2, nl_n3, nl_n4, nl_add, nl_ladd, nl_aa, nl_mul, nl_rmul, nl_mm, pu_wi_1, pu_wi_2, bX12_mayHave_73, bX12_mayHave_207, bX12_mayHave_201, bX12_mayHave_116, bX12_mayHave_138, bX12_mayHave_179, a_ai, a_ald, a_cs, a_cv, a_gr, a_iadd, a_icge, a_icle, a_ifeq, a_ifne, a_ild, a_imul, a_inc, a_ist, a_pi, a_push, fx_71_0 hx, sh_71, sh_72, pu_rv, pu_as, Value.category, pu_bk, pu_kl, pu_qe0, pu_qe1, h6, hc, i3, u3, c1, e1]
    all_goals try simp [bX12_mayHave_73, bX12_mayHave_207, bX12_mayHave_201, bX12_mayHave_116, bX12_mayHave_138, bX12_mayHave_179, a_ai, a_ald, a_cs, a_cv, a_gr, a_iadd, a_icge, a_icle, a_ifeq, a_ifne, a_ild, a_imul, a_inc, a_ist, a_pi, a_push, fx_71_0 hx, sh_71, sh_72, pu_rv, pu_as, Value.category, pu_bk, pu_kl, List.replicate, pu_wi_1, pu_wi_2, nl_add, nl_ladd, nl_aa, nl_mul, nl_rmul, nl_mm, pu_qe0, pu_qe1, h6, hc, i3, u3, c1, e1]
    all_goals try simp (maxSteps := 400000) (disch := omega) [nl_tle, nl_fle, nl_tlt, nl_flt, nl_teq, nl_feq, nl_sub, nl_ss, nl_lt, nl_llt, nl_ltt, nl_le, nl_lle, nl_lee, nl_eq, nl_leq, nl_ee, nl_div, nl_rem, nl_cl, nl_n1, nl_n2, nl_n3, nl_n4, nl_add, nl_ladd, nl_aa, nl_mul, nl_rmul, nl_mm, pu_wi_1, pu_wi_2, bX12_mayHave_73, bX12_mayHave_207, bX12_mayHave_201, bX12_mayHave_116, bX12_mayHave_138, bX12_mayHave_179, a_ai, a_ald, a_cs, a_cv, a_gr, a_iadd, a_icge, a_icle, a_ifeq, a_ifne, a_ild, a_imul, a_inc, a_ist, a_pi, a_push, fx_71_0 hx, sh_71, sh_72, pu_rv, pu_as, Value.category, pu_bk, pu_kl, pu_qe0, pu_qe1, h6, hc, i3, u3, c1, e1]
    all_goals try simp [bX12_mayHave_73, bX12_mayHave_207, bX12_mayHave_201, bX12_mayHave_116, bX12_mayHave_138, bX12_mayHave_179, a_ai, a_ald, a_cs, a_cv, a_gr, a_iadd, a_icge, a_icle, a_ifeq, a_ifne, a_ild, a_imul, a_inc, a_ist, a_pi, a_push, fx_71_0 hx, sh_71, sh_72, pu_rv, pu_as, Value.category, pu_bk, pu_kl, List.replicate, pu_wi_1, pu_wi_2, nl_add, nl_ladd, nl_aa, nl_mul, nl_rmul, nl_mm, pu_qe0, pu_qe1, h6, hc, i3, u3, c1, e1]
    all_goals try simp (maxSteps := 400000) (disch := omega) [nl_tle, nl_fle, nl_tlt, nl_flt, nl_teq, nl_feq, nl_sub, nl_ss, nl_lt, nl_llt, nl_ltt, nl_le, nl_lle, nl_lee, nl_eq, nl_leq, nl_ee, nl_div, nl_rem, nl_cl, nl_n1, nl_n2, nl_n3, nl_n4, nl_add, nl_ladd, nl_aa, nl_mul, nl_rmul, nl_mm, pu_wi_1, pu_wi_2, bX12_mayHave_73, bX12_mayHave_207, bX12_mayHave_201, bX12_mayHave_116, bX12_mayHave_138, bX12_mayHave_179, a_ai, a_ald, a_cs, a_cv, a_gr, a_iadd, a_icge, a_icle, a_ifeq, a_ifne, a_ild, a_imul, a_inc, a_ist, a_pi, a_push, fx_71_0 hx, sh_71, sh_72, pu_rv, pu_as, Value.category, pu_bk, pu_kl, pu_qe0, pu_qe1, h6, hc, i3, u3, c1, e1]
    all_goals try simp [bX12_mayHave_73, bX12_mayHave_207, bX12_mayHave_201, bX12_mayHave_116, bX12_mayHave_138, bX12_mayHave_179, a_ai, a_ald, a_cs, a_cv, a_gr, a_iadd, a_icge, a_icle, a_ifeq, a_ifne, a_ild, a_imul, a_inc, a_ist, a_pi, a_push, fx_71_0 hx, sh_71, sh_72, pu_rv, pu_as, Value.category, pu_bk, pu_kl, List.replicate, pu_wi_1, pu_wi_2, nl_add, nl_ladd, nl_aa, nl_mul, nl_rmul, nl_mm, pu_qe0, pu_qe1, h6, hc, i3, u3, c1, e1]
  rw [pu_q1 c2] at e1
  have e4 := r_isOrdered (I 27 st) sd (I 40 (pu_sl0 I i)) M
  by_cases c3 : I 27 st = 1 ∨ sd = I 40 (pu_sl0 I i)
  rotate_left
  · rw [pu_q0 c3] at e4
    refine SK t13 (fun z => c3 ?_) ?_
    · rcases z.2.2.2.1 with q | q
      · exact Or.inl (Int32.toInt_inj.mp (by rw [q]; decide))
      · exact Or.inr (Int32.toInt_inj.mp q.symm)
    · generalize I 27 st = r27 at *
      generalize I 16 i = v at *
      generalize I 40 (pu_sl0 I i) = v40 at *
      rw [qX12_mayHave_73]
      simp [bX12_mayHave_73, bX12_mayHave_207, bX12_mayHave_201, bX12_mayHave_116, bX12_mayHave_138, bX12_mayHave_179, a_ai, a_ald, a_cs, a_cv, a_gr, a_iadd, a_icge, a_icle, a_ifeq, a_ifne, a_ild, a_imul, a_inc, a_ist, a_pi, a_push, fx_71_0 hx, sh_71, sh_72, pu_rv, pu_as, Value.category, pu_bk, pu_kl, List.replicate, pu_wi_1, pu_wi_2, nl_add, nl_ladd, nl_aa, nl_mul, nl_rmul, nl_mm, pu_qe0, pu_qe1, h6, hc, i3, u3, c1, e1, e2, e4]
      all_goals try simp (maxSteps := 400000) (disch := omega) [nl_tle, nl_fle, nl_tlt, nl_flt, nl_teq, nl_feq, nl_sub, nl_ss, nl_lt, nl_llt, nl_ltt, nl_le, nl_lle, nl_lee, nl_eq, nl_leq, nl_ee, nl_div, nl_rem, nl_cl, nl_n1, nl_n2, nl_n3, nl_n4, nl_add, nl_ladd, nl_aa, nl_mul, nl_rmul, nl_mm, pu_wi_1, pu_wi_2, bX12_mayHave_73, bX12_mayHave_207, bX12_mayHave_201, bX12_mayHave_116, bX12_mayHave_138, bX12_mayHave_179, a_ai, a_ald, a_cs, a_cv, a_gr, a_iadd, a_icge, a_icle, a_ifeq, a_ifne, a_ild, a_imul, a_inc, a_ist, a_pi, a_push, fx_71_0 hx, sh_71, sh_72, pu_rv, pu_as, Value.category, pu_bk, pu_kl, pu_qe0, pu_qe1, h6, hc, i3, u3, c1, e1, e2, e4]
      all_goals try simp [bX12_mayHave_73, bX12_mayHave_207, bX12_mayHave_201, bX12_mayHave_116, bX12_mayHave_138, bX12_mayHave_179, a_ai, a_ald, a_cs, a_cv, a_gr, a_iadd, a_icge, a_icle, a_ifeq, a_ifne, a_ild, a_imul, a_inc, a_ist, a_pi, a_push, fx_71_0 hx, sh_71, sh_72, pu_rv, pu_as, Value.category, pu_bk, pu_kl, List.replicate, pu_wi_1, pu_wi_2, nl_add, nl_ladd, nl_aa, nl_mul, nl_rmul, nl_mm, pu_qe0, pu_qe1, h6, hc, i3, u3, c1, e1, e2, e4]
      all_goals try simp (maxSteps := 400000) (disch := omega) [nl_tle, nl_fle, nl_tlt, nl_flt, nl_teq, nl_feq, nl_sub, nl_ss, nl_lt, nl_llt, nl_ltt, nl_le, nl_lle, nl_lee, nl_eq, nl_leq, nl_ee, nl_div, nl_rem, nl_cl, nl_n1, nl_n2, nl_n3, nl_n4, nl_add, nl_ladd, nl_aa, nl_mul, nl_rmul, nl_mm, pu_wi_1, pu_wi_2, bX12_mayHave_73, bX12_mayHave_207, bX12_mayHave_201, bX12_mayHave_116, bX12_mayHave_138, bX12_mayHave_179, a_ai, a_ald, a_cs, a_cv, a_gr, a_iadd, a_icge, a_icle, a_ifeq, a_ifne, a_ild, a_imul, a_inc, a_ist, a_pi, a_push, fx_71_0 hx, sh_71, sh_72, pu_rv, pu_as, Value.category, pu_bk, pu_kl, pu_qe0, pu_qe1, h6, hc, i3, u3, c1, e1, e2, e4]
      all_goals try simp [bX12_mayHave_73, bX12_mayHave_207, bX12_mayHave_201, bX12_mayHave_116, bX12_mayHave_138, bX12_mayHave_179, a_ai, a_ald, a_cs, a_cv, a_gr, a_iadd, a_icge, a_icle, a_ifeq, a_ifne, a_ild, a_imul, a_inc, a_ist, a_pi, a_push, fx_71_0 hx, sh_71, sh_72, pu_rv, pu_as, Value.category, pu_bk, pu_kl, List.replicate, pu_wi_1, pu_wi_2, nl_add, nl_ladd, nl_aa, nl_mul, nl_rmul, nl_mm, pu_qe0, pu_qe1, h6, hc, i3, u3, c1, e1, e2, e4]
      all_goals try simp (maxSteps := 400000) (disch := omega) [nl_tle, nl_fle, nl_tlt, nl_flt, nl_teq, nl_feq, nl_sub, nl_ss, nl_lt, nl_llt, nl_ltt, nl_le, nl_lle, nl_lee, nl_eq, nl_leq, nl_ee, nl_div, nl_rem, nl_cl, nl_n1, nl_n2, nl_n3, nl_n4, nl_add, nl_ladd, nl_aa, nl_mul, nl_rmul, nl_mm, pu_wi_1, pu_wi_2, bX12_mayHave_73, bX12_mayHave_207, bX12_mayHave_201, bX12_mayHave_116, bX12_mayHave_138, bX12_mayHave_179, a_ai, a_ald, a_cs, a_cv, a_gr, a_iadd, a_icge, a_icle, a_ifeq, a_ifne, a_ild, a_imul, a_inc, a_ist, a_pi, a_push, fx_71_0 hx, sh_71, sh_72, pu_rv, pu_as, Value.category, pu_bk, pu_kl, pu_qe0, pu_qe1, h6, hc, i3, u3, c1, e1, e2, e4]
      all_goals try simp [bX12_mayHave_73, bX12_mayHave_207, bX12_mayHave_201, bX12_mayHave_116, bX12_mayHave_138, bX12_mayHave_179, a_ai, a_ald, a_cs, a_cv, a_gr, a_iadd, a_icge, a_icle, a_ifeq, a_ifne, a_ild, a_imul, a_inc, a_ist, a_pi, a_push, fx_71_0 hx, sh_71, sh_72, pu_rv, pu_as, Value.category, pu_bk, pu_kl, List.replicate, pu_wi_1, pu_wi_2, nl_add, nl_ladd, nl_aa, nl_mul, nl_rmul, nl_mm, pu_qe0, pu_qe1, h6, hc, i3, u3, c1, e1, e2, e4]
  rw [pu_q1 c3] at e4
  have tn : pu_tn I y i := by rw [py_tn_e hy]; exact c2.2
  have el : py_eo I st y sd.toInt i := ⟨hi, c2.1, tn, by
    rcases c3 with q | q
    · exact Or.inl (by rw [q]; decide)
    · exact Or.inr (by rw [q]), w0⟩
  have pl := py_pl0 hw hstL hi c2.1 tn
  have e5 := r_along (I 27 st) (I 40 (pu_sl0 I i)) (I 41 (pu_sl0 I i)) M
  have ea : (pz_alx (I 27 st) (I 40 (pu_sl0 I i)) (I 41 (pu_sl0 I i))).toInt = pz_ak I st i := pz_al_e pl.1 pl.2.1 pl.2.2.1 pl.2.2.2
  generalize pz_alx (I 27 st) (I 40 (pu_sl0 I i)) (I 41 (pu_sl0 I i)) = th at *
  have lt := fun a b : Int32 => Int32.lt_iff_toInt_lt (x := a) (y := b)
  have le := fun a b : Int32 => Int32.le_iff_toInt_le (x := a) (y := b)
  by_cases f1 : th < here ∧ be < th
  · have f2 : ¬ here ≤ th := Int32.not_le.mpr f1.1
    have f3 : th ≤ here := Int32.le_of_lt f1.1
    have f5 : ¬ th ≤ be := Int32.not_le.mpr f1.2
    have g1 := (lt _ _).mp f1.1
    have g2 := (lt _ _).mp f1.2
    refine ⟨th, ah, I 16 i, hh, some (.int (I 16 i)), some (.int th), fun g => ?_, py_hi_k hw hstL (fun z => by omega), ?_⟩
    · have := py_lo_t el (by omega) (by omega) g
      rw [← ea] at this
      exact this
    · have f11 := f1.1
      have f12 := f1.2
      generalize I 27 st = r27 at *
      generalize I 16 i = v at *
      generalize I 40 (pu_sl0 I i) = v40 at *
      generalize I 41 (pu_sl0 I i) = v41 at *
      rw [qX12_mayHave_73]
      simp [bX12_mayHave_73, bX12_mayHave_207, bX12_mayHave_201, bX12_mayHave_116, bX12_mayHave_138, bX12_mayHave_179, a_ai, a_ald, a_cs, a_cv, a_gr, a_iadd, a_icge, a_icle, a_ifeq, a_ifne, a_ild, a_imul, a_inc, a_ist, a_pi, a_push, fx_71_0 hx, sh_71, sh_72, pu_rv, pu_as, Value.category, pu_bk, pu_kl, List.replicate, pu_wi_1, pu_wi_2, nl_add, nl_ladd, nl_aa, nl_mul, nl_rmul, nl_mm, pu_qe0, pu_qe1, h6, hc, i3, u3, c1, e1, e2, e3, e4, e5, f11, f12, f2, f3, f5]
      all_goals try simp (maxSteps := 400000) (disch := omega) [nl_tle, nl_fle, nl_tlt, nl_flt, nl_teq, nl_feq, nl_sub, nl_ss, nl_lt, nl_llt, nl_ltt, nl_le, nl_lle, nl_lee, nl_eq, nl_leq, nl_ee, nl_div, nl_rem, nl_cl, nl_n1, nl_n2, nl_n3, nl_n4, nl_add, nl_ladd, nl_aa, nl_mul, nl_rmul, nl_mm, pu_wi_1, pu_wi_2, bX12_mayHave_73, bX12_mayHave_207, bX12_mayHave_201, bX12_mayHave_116, bX12_mayHave_138, bX12_mayHave_179, a_ai, a_ald, a_cs, a_cv, a_gr, a_iadd, a_icge, a_icle, a_ifeq, a_ifne, a_ild, a_imul, a_inc, a_ist, a_pi, a_push, fx_71_0 hx, sh_71, sh_72, pu_rv, pu_as, Value.category, pu_bk, pu_kl, pu_qe0, pu_qe1, h6, hc, i3, u3, c1, e1, e2, e3, e4, e5, f11, f12, f2, f3, f5]
      all_goals try simp [bX12_mayHave_73, bX12_mayHave_207, bX12_mayHave_201, bX12_mayHave_116, bX12_mayHave_138, bX12_mayHave_179, a_ai, a_ald, a_cs, a_cv, a_gr, a_iadd, a_icge, a_icle, a_ifeq, a_ifne, a_ild, a_imul, a_inc, a_ist, a_pi, a_push, fx_71_0 hx, sh_71, sh_72, pu_rv, pu_as, Value.category, pu_bk, pu_kl, List.replicate, pu_wi_1, pu_wi_2, nl_add, nl_ladd, nl_aa, nl_mul, nl_rmul, nl_mm, pu_qe0, pu_qe1, h6, hc, i3, u3, c1, e1, e2, e3, e4, e5, f11, f12, f2, f3, f5]
      all_goals try simp (maxSteps := 400000) (disch := omega) [nl_tle, nl_fle, nl_tlt, nl_flt, nl_teq, nl_feq, nl_sub, nl_ss, nl_lt, nl_llt, nl_ltt, nl_le, nl_lle, nl_lee, nl_eq, nl_leq, nl_ee, nl_div, nl_rem, nl_cl, nl_n1, nl_n2, nl_n3, nl_n4, nl_add, nl_ladd, nl_aa, nl_mul, nl_rmul, nl_mm, pu_wi_1, pu_wi_2, bX12_mayHave_73, bX12_mayHave_207, bX12_mayHave_201, bX12_mayHave_116, bX12_mayHave_138, bX12_mayHave_179, a_ai, a_ald, a_cs, a_cv, a_gr, a_iadd, a_icge, a_icle, a_ifeq, a_ifne, a_ild, a_imul, a_inc, a_ist, a_pi, a_push, fx_71_0 hx, sh_71, sh_72, pu_rv, pu_as, Value.category, pu_bk, pu_kl, pu_qe0, pu_qe1, h6, hc, i3, u3, c1, e1, e2, e3, e4, e5, f11, f12, f2, f3, f5]
      all_goals try simp [bX12_mayHave_73, bX12_mayHave_207, bX12_mayHave_201, bX12_mayHave_116, bX12_mayHave_138, bX12_mayHave_179, a_ai, a_ald, a_cs, a_cv, a_gr, a_iadd, a_icge, a_icle, a_ifeq, a_ifne, a_ild, a_imul, a_inc, a_ist, a_pi, a_push, fx_71_0 hx, sh_71, sh_72, pu_rv, pu_as, Value.category, pu_bk, pu_kl, List.replicate, pu_wi_1, pu_wi_2, nl_add, nl_ladd, nl_aa, nl_mul, nl_rmul, nl_mm, pu_qe0, pu_qe1, h6, hc, i3, u3, c1, e1, e2, e3, e4, e5, f11, f12, f2, f3, f5]
      all_goals try simp (maxSteps := 400000) (disch := omega) [nl_tle, nl_fle, nl_tlt, nl_flt, nl_teq, nl_feq, nl_sub, nl_ss, nl_lt, nl_llt, nl_ltt, nl_le, nl_lle, nl_lee, nl_eq, nl_leq, nl_ee, nl_div, nl_rem, nl_cl, nl_n1, nl_n2, nl_n3, nl_n4, nl_add, nl_ladd, nl_aa, nl_mul, nl_rmul, nl_mm, pu_wi_1, pu_wi_2, bX12_mayHave_73, bX12_mayHave_207, bX12_mayHave_201, bX12_mayHave_116, bX12_mayHave_138, bX12_mayHave_179, a_ai, a_ald, a_cs, a_cv, a_gr, a_iadd, a_icge, a_icle, a_ifeq, a_ifne, a_ild, a_imul, a_inc, a_ist, a_pi, a_push, fx_71_0 hx, sh_71, sh_72, pu_rv, pu_as, Value.category, pu_bk, pu_kl, pu_qe0, pu_qe1, h6, hc, i3, u3, c1, e1, e2, e3, e4, e5, f11, f12, f2, f3, f5]
      all_goals try simp [bX12_mayHave_73, bX12_mayHave_207, bX12_mayHave_201, bX12_mayHave_116, bX12_mayHave_138, bX12_mayHave_179, a_ai, a_ald, a_cs, a_cv, a_gr, a_iadd, a_icge, a_icle, a_ifeq, a_ifne, a_ild, a_imul, a_inc, a_ist, a_pi, a_push, fx_71_0 hx, sh_71, sh_72, pu_rv, pu_as, Value.category, pu_bk, pu_kl, List.replicate, pu_wi_1, pu_wi_2, nl_add, nl_ladd, nl_aa, nl_mul, nl_rmul, nl_mm, pu_qe0, pu_qe1, h6, hc, i3, u3, c1, e1, e2, e3, e4, e5, f11, f12, f2, f3, f5]
  by_cases f6 : here < th ∧ th < ah
  · have f2 : here ≤ th := Int32.le_of_lt f6.1
    have f3 : ¬ th ≤ here := Int32.not_le.mpr f6.1
    have f5 : ¬ ah ≤ th := Int32.not_le.mpr f6.2
    have f0 : ¬ th < here := Int32.not_lt.mpr f2
    have g1 := (lt _ _).mp f6.1
    have g2 := (lt _ _).mp f6.2
    refine ⟨be, th, lo, I 16 i, some (.int (I 16 i)), some (.int th), py_lo_k hw hstL (fun z => by omega), fun g => ?_, ?_⟩
    · have := py_hi_t el (by omega) (by omega) g
      rw [← ea] at this
      exact this
    · have f11 := f6.1
      have f12 := f6.2
      generalize I 27 st = r27 at *
      generalize I 16 i = v at *
      generalize I 40 (pu_sl0 I i) = v40 at *
      generalize I 41 (pu_sl0 I i) = v41 at *
      rw [qX12_mayHave_73]
      simp [bX12_mayHave_73, bX12_mayHave_207, bX12_mayHave_201, bX12_mayHave_116, bX12_mayHave_138, bX12_mayHave_179, a_ai, a_ald, a_cs, a_cv, a_gr, a_iadd, a_icge, a_icle, a_ifeq, a_ifne, a_ild, a_imul, a_inc, a_ist, a_pi, a_push, fx_71_0 hx, sh_71, sh_72, pu_rv, pu_as, Value.category, pu_bk, pu_kl, List.replicate, pu_wi_1, pu_wi_2, nl_add, nl_ladd, nl_aa, nl_mul, nl_rmul, nl_mm, pu_qe0, pu_qe1, h6, hc, i3, u3, c1, e1, e2, e3, e4, e5, f11, f12, f2, f3, f5, f0]
      all_goals try simp (maxSteps := 400000) (disch := omega) [nl_tle, nl_fle, nl_tlt, nl_flt, nl_teq, nl_feq, nl_sub, nl_ss, nl_lt, nl_llt, nl_ltt, nl_le, nl_lle, nl_lee, nl_eq, nl_leq, nl_ee, nl_div, nl_rem, nl_cl, nl_n1, nl_n2, nl_n3, nl_n4, nl_add, nl_ladd, nl_aa, nl_mul, nl_rmul, nl_mm, pu_wi_1, pu_wi_2, bX12_mayHave_73, bX12_mayHave_207, bX12_mayHave_201, bX12_mayHave_116, bX12_mayHave_138, bX12_mayHave_179, a_ai, a_ald, a_cs, a_cv, a_gr, a_iadd, a_icge, a_icle, a_ifeq, a_ifne, a_ild, a_imul, a_inc, a_ist, a_pi, a_push, fx_71_0 hx, sh_71, sh_72, pu_rv, pu_as, Value.category, pu_bk, pu_kl, pu_qe0, pu_qe1, h6, hc, i3, u3, c1, e1, e2, e3, e4, e5, f11, f12, f2, f3, f5, f0]
      all_goals try simp [bX12_mayHave_73, bX12_mayHave_207, bX12_mayHave_201, bX12_mayHave_116, bX12_mayHave_138, bX12_mayHave_179, a_ai, a_ald, a_cs, a_cv, a_gr, a_iadd, a_icge, a_icle, a_ifeq, a_ifne, a_ild, a_imul, a_inc, a_ist, a_pi, a_push, fx_71_0 hx, sh_71, sh_72, pu_rv, pu_as, Value.category, pu_bk, pu_kl, List.replicate, pu_wi_1, pu_wi_2, nl_add, nl_ladd, nl_aa, nl_mul, nl_rmul, nl_mm, pu_qe0, pu_qe1, h6, hc, i3, u3, c1, e1, e2, e3, e4, e5, f11, f12, f2, f3, f5, f0]
      all_goals try simp (maxSteps := 400000) (disch := omega) [nl_tle, nl_fle, nl_tlt, nl_flt, nl_teq, nl_feq, nl_sub, nl_ss, nl_lt, nl_llt, nl_ltt, nl_le, nl_lle, nl_lee, nl_eq, nl_leq, nl_ee, nl_div, nl_rem, nl_cl, nl_n1, nl_n2, nl_n3, nl_n4, nl_add, nl_ladd, nl_aa, nl_mul, nl_rmul, nl_mm, pu_wi_1, pu_wi_2, bX12_mayHave_73, bX12_mayHave_207, bX12_mayHave_201, bX12_mayHave_116, bX12_mayHave_138, bX12_mayHave_179, a_ai, a_ald, a_cs, a_cv, a_gr, a_iadd, a_icge, a_icle, a_ifeq, a_ifne, a_ild, a_imul, a_inc, a_ist, a_pi, a_push, fx_71_0 hx, sh_71, sh_72, pu_rv, pu_as, Value.category, pu_bk, pu_kl, pu_qe0, pu_qe1, h6, hc, i3, u3, c1, e1, e2, e3, e4, e5, f11, f12, f2, f3, f5, f0]
      all_goals try simp [bX12_mayHave_73, bX12_mayHave_207, bX12_mayHave_201, bX12_mayHave_116, bX12_mayHave_138, bX12_mayHave_179, a_ai, a_ald, a_cs, a_cv, a_gr, a_iadd, a_icge, a_icle, a_ifeq, a_ifne, a_ild, a_imul, a_inc, a_ist, a_pi, a_push, fx_71_0 hx, sh_71, sh_72, pu_rv, pu_as, Value.category, pu_bk, pu_kl, List.replicate, pu_wi_1, pu_wi_2, nl_add, nl_ladd, nl_aa, nl_mul, nl_rmul, nl_mm, pu_qe0, pu_qe1, h6, hc, i3, u3, c1, e1, e2, e3, e4, e5, f11, f12, f2, f3, f5, f0]
      all_goals try simp (maxSteps := 400000) (disch := omega) [nl_tle, nl_fle, nl_tlt, nl_flt, nl_teq, nl_feq, nl_sub, nl_ss, nl_lt, nl_llt, nl_ltt, nl_le, nl_lle, nl_lee, nl_eq, nl_leq, nl_ee, nl_div, nl_rem, nl_cl, nl_n1, nl_n2, nl_n3, nl_n4, nl_add, nl_ladd, nl_aa, nl_mul, nl_rmul, nl_mm, pu_wi_1, pu_wi_2, bX12_mayHave_73, bX12_mayHave_207, bX12_mayHave_201, bX12_mayHave_116, bX12_mayHave_138, bX12_mayHave_179, a_ai, a_ald, a_cs, a_cv, a_gr, a_iadd, a_icge, a_icle, a_ifeq, a_ifne, a_ild, a_imul, a_inc, a_ist, a_pi, a_push, fx_71_0 hx, sh_71, sh_72, pu_rv, pu_as, Value.category, pu_bk, pu_kl, pu_qe0, pu_qe1, h6, hc, i3, u3, c1, e1, e2, e3, e4, e5, f11, f12, f2, f3, f5, f0]
      all_goals try simp [bX12_mayHave_73, bX12_mayHave_207, bX12_mayHave_201, bX12_mayHave_116, bX12_mayHave_138, bX12_mayHave_179, a_ai, a_ald, a_cs, a_cv, a_gr, a_iadd, a_icge, a_icle, a_ifeq, a_ifne, a_ild, a_imul, a_inc, a_ist, a_pi, a_push, fx_71_0 hx, sh_71, sh_72, pu_rv, pu_as, Value.category, pu_bk, pu_kl, List.replicate, pu_wi_1, pu_wi_2, nl_add, nl_ladd, nl_aa, nl_mul, nl_rmul, nl_mm, pu_qe0, pu_qe1, h6, hc, i3, u3, c1, e1, e2, e3, e4, e5, f11, f12, f2, f3, f5, f0]
  refine ⟨be, ah, lo, hh, some (.int (I 16 i)), some (.int th), py_lo_k hw hstL (fun z => f1 ⟨(lt _ _).mpr (by omega), (lt _ _).mpr (by omega)⟩), py_hi_k hw hstL (fun z => f6 ⟨(lt _ _).mpr (by omega), (lt _ _).mpr (by omega)⟩), ?_⟩
  generalize I 27 st = r27 at *
  generalize I 16 i = v at *
  generalize I 40 (pu_sl0 I i) = v40 at *
  generalize I 41 (pu_sl0 I i) = v41 at *
  by_cases g1 : th < here
  · have g2 : ¬ here ≤ th := Int32.not_le.mpr g1
    have g3 : th ≤ here := Int32.le_of_lt g1
    have g4 : ¬ be < th := fun z => f1 ⟨g1, z⟩
    have g5 : th ≤ be := Int32.not_lt.mp g4
    rw [qX12_mayHave_73]
    simp [bX12_mayHave_73, bX12_mayHave_207, bX12_mayHave_201, bX12_mayHave_116, bX12_mayHave_138, bX12_mayHave_179, a_ai, a_ald, a_cs, a_cv, a_gr, a_iadd, a_icge, a_icle, a_ifeq, a_ifne, a_ild, a_imul, a_inc, a_ist, a_pi, a_push, fx_71_0 hx, sh_71, sh_72, pu_rv, pu_as, Value.category, pu_bk, pu_kl, List.replicate, pu_wi_1, pu_wi_2, nl_add, nl_ladd, nl_aa, nl_mul, nl_rmul, nl_mm, pu_qe0, pu_qe1, h6, hc, i3, u3, c1, e1, e2, e3, e4, e5, g1, g2, g3, g4, g5]
    all_goals try simp (maxSteps := 400000) (disch := omega) [nl_tle, nl_fle, nl_tlt, nl_flt, nl_teq, nl_feq, nl_sub, nl_ss, nl_lt, nl_llt, nl_ltt, nl_le, nl_lle, nl_lee, nl_eq, nl_leq, nl_ee, nl_div, nl_rem, nl_cl, nl_n1, nl_n2, nl_n3, nl_n4, nl_add, nl_ladd, nl_aa, nl_mul, nl_rmul, nl_mm, pu_wi_1, pu_wi_2, bX12_mayHave_73, bX12_mayHave_207, bX12_mayHave_201, bX12_mayHave_116, bX12_mayHave_138, bX12_mayHave_179, a_ai, a_ald, a_cs, a_cv, a_gr, a_iadd, a_icge, a_icle, a_ifeq, a_ifne, a_ild, a_imul, a_inc, a_ist, a_pi, a_push, fx_71_0 hx, sh_71, sh_72, pu_rv, pu_as, Value.category, pu_bk, pu_kl, pu_qe0, pu_qe1, h6, hc, i3, u3, c1, e1, e2, e3, e4, e5, g1, g2, g3, g4, g5]
    all_goals try simp [bX12_mayHave_73, bX12_mayHave_207, bX12_mayHave_201, bX12_mayHave_116, bX12_mayHave_138, bX12_mayHave_179, a_ai, a_ald, a_cs, a_cv, a_gr, a_iadd, a_icge, a_icle, a_ifeq, a_ifne, a_ild, a_imul, a_inc, a_ist, a_pi, a_push, fx_71_0 hx, sh_71, sh_72, pu_rv, pu_as, Value.category, pu_bk, pu_kl, List.replicate, pu_wi_1, pu_wi_2, nl_add, nl_ladd, nl_aa, nl_mul, nl_rmul, nl_mm, pu_qe0, pu_qe1, h6, hc, i3, u3, c1, e1, e2, e3, e4, e5, g1, g2, g3, g4, g5]
    all_goals try simp (maxSteps := 400000) (disch := omega) [nl_tle, nl_fle, nl_tlt, nl_flt, nl_teq, nl_feq, nl_sub, nl_ss, nl_lt, nl_llt, nl_ltt, nl_le, nl_lle, nl_lee, nl_eq, nl_leq, nl_ee, nl_div, nl_rem, nl_cl, nl_n1, nl_n2, nl_n3, nl_n4, nl_add, nl_ladd, nl_aa, nl_mul, nl_rmul, nl_mm, pu_wi_1, pu_wi_2, bX12_mayHave_73, bX12_mayHave_207, bX12_mayHave_201, bX12_mayHave_116, bX12_mayHave_138, bX12_mayHave_179, a_ai, a_ald, a_cs, a_cv, a_gr, a_iadd, a_icge, a_icle, a_ifeq, a_ifne, a_ild, a_imul, a_inc, a_ist, a_pi, a_push, fx_71_0 hx, sh_71, sh_72, pu_rv, pu_as, Value.category, pu_bk, pu_kl, pu_qe0, pu_qe1, h6, hc, i3, u3, c1, e1, e2, e3, e4, e5, g1, g2, g3, g4, g5]
    all_goals try simp [bX12_mayHave_73, bX12_mayHave_207, bX12_mayHave_201, bX12_mayHave_116, bX12_mayHave_138, bX12_mayHave_179, a_ai, a_ald, a_cs, a_cv, a_gr, a_iadd, a_icge, a_icle, a_ifeq, a_ifne, a_ild, a_imul, a_inc, a_ist, a_pi, a_push, fx_71_0 hx, sh_71, sh_72, pu_rv, pu_as, Value.category, pu_bk, pu_kl, List.replicate, pu_wi_1, pu_wi_2, nl_add, nl_ladd, nl_aa, nl_mul, nl_rmul, nl_mm, pu_qe0, pu_qe1, h6, hc, i3, u3, c1, e1, e2, e3, e4, e5, g1, g2, g3, g4, g5]
    all_goals try simp (maxSteps := 400000) (disch := omega) [nl_tle, nl_fle, nl_tlt, nl_flt, nl_teq, nl_feq, nl_sub, nl_ss, nl_lt, nl_llt, nl_ltt, nl_le, nl_lle, nl_lee, nl_eq, nl_leq, nl_ee, nl_div, nl_rem, nl_cl, nl_n1, nl_n2, nl_n3, nl_n4, nl_add, nl_ladd, nl_aa, nl_mul, nl_rmul, nl_mm, pu_wi_1, pu_wi_2, bX12_mayHave_73, bX12_mayHave_207, bX12_mayHave_201, bX12_mayHave_116, bX12_mayHave_138, bX12_mayHave_179, a_ai, a_ald, a_cs, a_cv, a_gr, a_iadd, a_icge, a_icle, a_ifeq, a_ifne, a_ild, a_imul, a_inc, a_ist, a_pi, a_push, fx_71_0 hx, sh_71, sh_72, pu_rv, pu_as, Value.category, pu_bk, pu_kl, pu_qe0, pu_qe1, h6, hc, i3, u3, c1, e1, e2, e3, e4, e5, g1, g2, g3, g4, g5]
    all_goals try simp [bX12_mayHave_73, bX12_mayHave_207, bX12_mayHave_201, bX12_mayHave_116, bX12_mayHave_138, bX12_mayHave_179, a_ai, a_ald, a_cs, a_cv, a_gr, a_iadd, a_icge, a_icle, a_ifeq, a_ifne, a_ild, a_imul, a_inc, a_ist, a_pi, a_push, fx_71_0 hx, sh_71, sh_72, pu_rv, pu_as, Value.category, pu_bk, pu_kl, List.replicate, pu_wi_1, pu_wi_2, nl_add, nl_ladd, nl_aa, nl_mul, nl_rmul, nl_mm, pu_qe0, pu_qe1, h6, hc, i3, u3, c1, e1, e2, e3, e4, e5, g1, g2, g3, g4, g5]
  · have g2 : here ≤ th := Int32.not_lt.mp g1
    by_cases g3 : here < th
    · have g4 : ¬ th ≤ here := Int32.not_le.mpr g3
      have g5 : ¬ th < ah := fun z => f6 ⟨g3, z⟩
      have g6 : ah ≤ th := Int32.not_lt.mp g5
      rw [qX12_mayHave_73]
      simp [bX12_mayHave_73, bX12_mayHave_207, bX12_mayHave_201, bX12_mayHave_116, bX12_mayHave_138, bX12_mayHave_179, a_ai, a_ald, a_cs, a_cv, a_gr, a_iadd, a_icge, a_icle, a_ifeq, a_ifne, a_ild, a_imul, a_inc, a_ist, a_pi, a_push, fx_71_0 hx, sh_71, sh_72, pu_rv, pu_as, Value.category, pu_bk, pu_kl, List.replicate, pu_wi_1, pu_wi_2, nl_add, nl_ladd, nl_aa, nl_mul, nl_rmul, nl_mm, pu_qe0, pu_qe1, h6, hc, i3, u3, c1, e1, e2, e3, e4, e5, g1, g2, g3, g4, g5, g6]
      all_goals try simp (maxSteps := 400000) (disch := omega) [nl_tle, nl_fle, nl_tlt, nl_flt, nl_teq, nl_feq, nl_sub, nl_ss, nl_lt, nl_llt, nl_ltt, nl_le, nl_lle, nl_lee, nl_eq, nl_leq, nl_ee, nl_div, nl_rem, nl_cl, nl_n1, nl_n2, nl_n3, nl_n4, nl_add, nl_ladd, nl_aa, nl_mul, nl_rmul, nl_mm, pu_wi_1, pu_wi_2, bX12_mayHave_73, bX12_mayHave_207, bX12_mayHave_201, bX12_mayHave_116, bX12_mayHave_138, bX12_mayHave_179, a_ai, a_ald, a_cs, a_cv, a_gr, a_iadd, a_icge, a_icle, a_ifeq, a_ifne, a_ild, a_imul, a_inc, a_ist, a_pi, a_push, fx_71_0 hx, sh_71, sh_72, pu_rv, pu_as, Value.category, pu_bk, pu_kl, pu_qe0, pu_qe1, h6, hc, i3, u3, c1, e1, e2, e3, e4, e5, g1, g2, g3, g4, g5, g6]
      all_goals try simp [bX12_mayHave_73, bX12_mayHave_207, bX12_mayHave_201, bX12_mayHave_116, bX12_mayHave_138, bX12_mayHave_179, a_ai, a_ald, a_cs, a_cv, a_gr, a_iadd, a_icge, a_icle, a_ifeq, a_ifne, a_ild, a_imul, a_inc, a_ist, a_pi, a_push, fx_71_0 hx, sh_71, sh_72, pu_rv, pu_as, Value.category, pu_bk, pu_kl, List.replicate, pu_wi_1, pu_wi_2, nl_add, nl_ladd, nl_aa, nl_mul, nl_rmul, nl_mm, pu_qe0, pu_qe1, h6, hc, i3, u3, c1, e1, e2, e3, e4, e5, g1, g2, g3, g4, g5, g6]
      all_goals try simp (maxSteps := 400000) (disch := omega) [nl_tle, nl_fle, nl_tlt, nl_flt, nl_teq, nl_feq, nl_sub, nl_ss, nl_lt, nl_llt, nl_ltt, nl_le, nl_lle, nl_lee, nl_eq, nl_leq, nl_ee, nl_div, nl_rem, nl_cl, nl_n1, nl_n2, nl_n3, nl_n4, nl_add, nl_ladd, nl_aa, nl_mul, nl_rmul, nl_mm, pu_wi_1, pu_wi_2, bX12_mayHave_73, bX12_mayHave_207, bX12_mayHave_201, bX12_mayHave_116, bX12_mayHave_138, bX12_mayHave_179, a_ai, a_ald, a_cs, a_cv, a_gr, a_iadd, a_icge, a_icle, a_ifeq, a_ifne, a_ild, a_imul, a_inc, a_ist, a_pi, a_push, fx_71_0 hx, sh_71, sh_72, pu_rv, pu_as, Value.category, pu_bk, pu_kl, pu_qe0, pu_qe1, h6, hc, i3, u3, c1, e1, e2, e3, e4, e5, g1, g2, g3, g4, g5, g6]
      all_goals try simp [bX12_mayHave_73, bX12_mayHave_207, bX12_mayHave_201, bX12_mayHave_116, bX12_mayHave_138, bX12_mayHave_179, a_ai, a_ald, a_cs, a_cv, a_gr, a_iadd, a_icge, a_icle, a_ifeq, a_ifne, a_ild, a_imul, a_inc, a_ist, a_pi, a_push, fx_71_0 hx, sh_71, sh_72, pu_rv, pu_as, Value.category, pu_bk, pu_kl, List.replicate, pu_wi_1, pu_wi_2, nl_add, nl_ladd, nl_aa, nl_mul, nl_rmul, nl_mm, pu_qe0, pu_qe1, h6, hc, i3, u3, c1, e1, e2, e3, e4, e5, g1, g2, g3, g4, g5, g6]
      all_goals try simp (maxSteps := 400000) (disch := omega) [nl_tle, nl_fle, nl_tlt, nl_flt, nl_teq, nl_feq, nl_sub, nl_ss, nl_lt, nl_llt, nl_ltt, nl_le, nl_lle, nl_lee, nl_eq, nl_leq, nl_ee, nl_div, nl_rem, nl_cl, nl_n1, nl_n2, nl_n3, nl_n4, nl_add, nl_ladd, nl_aa, nl_mul, nl_rmul, nl_mm, pu_wi_1, pu_wi_2, bX12_mayHave_73, bX12_mayHave_207, bX12_mayHave_201, bX12_mayHave_116, bX12_mayHave_138, bX12_mayHave_179, a_ai, a_ald, a_cs, a_cv, a_gr, a_iadd, a_icge, a_icle, a_ifeq, a_ifne, a_ild, a_imul, a_inc, a_ist, a_pi, a_push, fx_71_0 hx, sh_71, sh_72, pu_rv, pu_as, Value.category, pu_bk, pu_kl, pu_qe0, pu_qe1, h6, hc, i3, u3, c1, e1, e2, e3, e4, e5, g1, g2, g3, g4, g5, g6]
      all_goals try simp [bX12_mayHave_73, bX12_mayHave_207, bX12_mayHave_201, bX12_mayHave_116, bX12_mayHave_138, bX12_mayHave_179, a_ai, a_ald, a_cs, a_cv, a_gr, a_iadd, a_icge, a_icle, a_ifeq, a_ifne, a_ild, a_imul, a_inc, a_ist, a_pi, a_push, fx_71_0 hx, sh_71, sh_72, pu_rv, pu_as, Value.category, pu_bk, pu_kl, List.replicate, pu_wi_1, pu_wi_2, nl_add, nl_ladd, nl_aa, nl_mul, nl_rmul, nl_mm, pu_qe0, pu_qe1, h6, hc, i3, u3, c1, e1, e2, e3, e4, e5, g1, g2, g3, g4, g5, g6]
    · have g4 : th ≤ here := Int32.not_lt.mp g3
      rw [qX12_mayHave_73]
      simp [bX12_mayHave_73, bX12_mayHave_207, bX12_mayHave_201, bX12_mayHave_116, bX12_mayHave_138, bX12_mayHave_179, a_ai, a_ald, a_cs, a_cv, a_gr, a_iadd, a_icge, a_icle, a_ifeq, a_ifne, a_ild, a_imul, a_inc, a_ist, a_pi, a_push, fx_71_0 hx, sh_71, sh_72, pu_rv, pu_as, Value.category, pu_bk, pu_kl, List.replicate, pu_wi_1, pu_wi_2, nl_add, nl_ladd, nl_aa, nl_mul, nl_rmul, nl_mm, pu_qe0, pu_qe1, h6, hc, i3, u3, c1, e1, e2, e3, e4, e5, g1, g2, g3, g4]
      all_goals try simp (maxSteps := 400000) (disch := omega) [nl_tle, nl_fle, nl_tlt, nl_flt, nl_teq, nl_feq, nl_sub, nl_ss, nl_lt, nl_llt, nl_ltt, nl_le, nl_lle, nl_lee, nl_eq, nl_leq, nl_ee, nl_div, nl_rem, nl_cl, nl_n1, nl_n2, nl_n3, nl_n4, nl_add, nl_ladd, nl_aa, nl_mul, nl_rmul, nl_mm, pu_wi_1, pu_wi_2, bX12_mayHave_73, bX12_mayHave_207, bX12_mayHave_201, bX12_mayHave_116, bX12_mayHave_138, bX12_mayHave_179, a_ai, a_ald, a_cs, a_cv, a_gr, a_iadd, a_icge, a_icle, a_ifeq, a_ifne, a_ild, a_imul, a_inc, a_ist, a_pi, a_push, fx_71_0 hx, sh_71, sh_72, pu_rv, pu_as, Value.category, pu_bk, pu_kl, pu_qe0, pu_qe1, h6, hc, i3, u3, c1, e1, e2, e3, e4, e5, g1, g2, g3, g4]
      all_goals try simp [bX12_mayHave_73, bX12_mayHave_207, bX12_mayHave_201, bX12_mayHave_116, bX12_mayHave_138, bX12_mayHave_179, a_ai, a_ald, a_cs, a_cv, a_gr, a_iadd, a_icge, a_icle, a_ifeq, a_ifne, a_ild, a_imul, a_inc, a_ist, a_pi, a_push, fx_71_0 hx, sh_71, sh_72, pu_rv, pu_as, Value.category, pu_bk, pu_kl, List.replicate, pu_wi_1, pu_wi_2, nl_add, nl_ladd, nl_aa, nl_mul, nl_rmul, nl_mm, pu_qe0, pu_qe1, h6, hc, i3, u3, c1, e1, e2, e3, e4, e5, g1, g2, g3, g4]
      all_goals try simp (maxSteps := 400000) (disch := omega) [nl_tle, nl_fle, nl_tlt, nl_flt, nl_teq, nl_feq, nl_sub, nl_ss, nl_lt, nl_llt, nl_ltt, nl_le, nl_lle, nl_lee, nl_eq, nl_leq, nl_ee, nl_div, nl_rem, nl_cl, nl_n1, nl_n2, nl_n3, nl_n4, nl_add, nl_ladd, nl_aa, nl_mul, nl_rmul, nl_mm, pu_wi_1, pu_wi_2, bX12_mayHave_73, bX12_mayHave_207, bX12_mayHave_201, bX12_mayHave_116, bX12_mayHave_138, bX12_mayHave_179, a_ai, a_ald, a_cs, a_cv, a_gr, a_iadd, a_icge, a_icle, a_ifeq, a_ifne, a_ild, a_imul, a_inc, a_ist, a_pi, a_push, fx_71_0 hx, sh_71, sh_72, pu_rv, pu_as, Value.category, pu_bk, pu_kl, pu_qe0, pu_qe1, h6, hc, i3, u3, c1, e1, e2, e3, e4, e5, g1, g2, g3, g4]
      all_goals try simp [bX12_mayHave_73, bX12_mayHave_207, bX12_mayHave_201, bX12_mayHave_116, bX12_mayHave_138, bX12_mayHave_179, a_ai, a_ald, a_cs, a_cv, a_gr, a_iadd, a_icge, a_icle, a_ifeq, a_ifne, a_ild, a_imul, a_inc, a_ist, a_pi, a_push, fx_71_0 hx, sh_71, sh_72, pu_rv, pu_as, Value.category, pu_bk, pu_kl, List.replicate, pu_wi_1, pu_wi_2, nl_add, nl_ladd, nl_aa, nl_mul, nl_rmul, nl_mm, pu_qe0, pu_qe1, h6, hc, i3, u3, c1, e1, e2, e3, e4, e5, g1, g2, g3, g4]
      all_goals try simp (maxSteps := 400000) (disch := omega) [nl_tle, nl_fle, nl_tlt, nl_flt, nl_teq, nl_feq, nl_sub, nl_ss, nl_lt, nl_llt, nl_ltt, nl_le, nl_lle, nl_lee, nl_eq, nl_leq, nl_ee, nl_div, nl_rem, nl_cl, nl_n1, nl_n2, nl_n3, nl_n4, nl_add, nl_ladd, nl_aa, nl_mul, nl_rmul, nl_mm, pu_wi_1, pu_wi_2, bX12_mayHave_73, bX12_mayHave_207, bX12_mayHave_201, bX12_mayHave_116, bX12_mayHave_138, bX12_mayHave_179, a_ai, a_ald, a_cs, a_cv, a_gr, a_iadd, a_icge, a_icle, a_ifeq, a_ifne, a_ild, a_imul, a_inc, a_ist, a_pi, a_push, fx_71_0 hx, sh_71, sh_72, pu_rv, pu_as, Value.category, pu_bk, pu_kl, pu_qe0, pu_qe1, h6, hc, i3, u3, c1, e1, e2, e3, e4, e5, g1, g2, g3, g4]
      all_goals try simp [bX12_mayHave_73, bX12_mayHave_207, bX12_mayHave_201, bX12_mayHave_116, bX12_mayHave_138, bX12_mayHave_179, a_ai, a_ald, a_cs, a_cv, a_gr, a_iadd, a_icge, a_icle, a_ifeq, a_ifne, a_ild, a_imul, a_inc, a_ist, a_pi, a_push, fx_71_0 hx, sh_71, sh_72, pu_rv, pu_as, Value.category, pu_bk, pu_kl, List.replicate, pu_wi_1, pu_wi_2, nl_add, nl_ladd, nl_aa, nl_mul, nl_rmul, nl_mm, pu_qe0, pu_qe1, h6, hc, i3, u3, c1, e1, e2, e3, e4, e5, g1, g2, g3, g4]
theorem r_may_l (hx : pu_fx M) (hr : pu_Rel I L (M.1 72)) (hw : pu_WF I L) (st : Nat) (hst : st < cK I) (hy : ¬ y < 0) (k0 sd here : Int32) : ∀ (m i : Nat) (be ah lo hh : Int32) (t12 t13 : Option Value), i + m = cU I → py_lo I st y sd.toInt here.toInt i be.toInt lo → py_hi I st y sd.toInt here.toInt i ah.toInt hh →
    ∃ be2 ah2 lo2 hi2 u12 u13, py_lo I st y sd.toInt here.toInt (cU I) be2.toInt lo2 ∧ py_hi I st y sd.toInt here.toInt (cU I) ah2.toInt hi2 ∧ pu_r 499 [some (.ref 71), some (.int k0), some (.int (nI st)), some (.int y), some (.int (I 27 st)), some (.int sd), some (.int here), some (.int be), some (.int ah), some (.int lo), some (.int hh), some (.int (nI i)), t12, t13] [] M = kX12_mayHave_207 pu_r [some (.ref 71), some (.int k0), some (.int (nI st)), some (.int y), some (.int (I 27 st)), some (.int sd), some (.int here), some (.int be2), some (.int ah2), some (.int lo2), some (.int hi2), some (.int (nI (cU I))), u12, u13] [] M
  | 0, i, be, ah, lo, hh, t12, t13, h, g1, g2 => by
    have bU := wx_bU hw
    have h6 := rl_h6 hr
    have e : i = cU I := by omega
    subst e
    have hc : nI (cU I) ≤ nI (cU I) := nI_le (by omega) (by omega)
    refine ⟨be, ah, lo, hh, t12, t13, g1, g2, ?_⟩
    generalize I 27 st = r27 at *
    rw [qX12_mayHave_73]
    simp [bX12_mayHave_73, bX12_mayHave_201, bX12_mayHave_116, bX12_mayHave_138, bX12_mayHave_179, a_ai, a_ald, a_cs, a_cv, a_gr, a_iadd, a_icge, a_icle, a_ifeq, a_ifne, a_ild, a_imul, a_inc, a_ist, a_push, fx_71_0 hx, sh_71, sh_72, pu_rv, pu_as, Value.category, pu_bk, pu_kl, List.replicate, pu_wi_1, pu_wi_2, nl_add, nl_ladd, nl_aa, nl_mul, nl_rmul, nl_mm, pu_qe0, pu_qe1, h6, hc]
    all_goals try simp (maxSteps := 400000) (disch := omega) [nl_tle, nl_fle, nl_tlt, nl_flt, nl_teq, nl_feq, nl_sub, nl_ss, nl_lt, nl_llt, nl_ltt, nl_le, nl_lle, nl_lee, nl_eq, nl_leq, nl_ee, nl_div, nl_rem, nl_cl, nl_n1, nl_n2, nl_n3, nl_n4, nl_add, nl_ladd, nl_aa, nl_mul, nl_rmul, nl_mm, pu_wi_1, pu_wi_2, bX12_mayHave_73, bX12_mayHave_201, bX12_mayHave_116, bX12_mayHave_138, bX12_mayHave_179, a_ai, a_ald, a_cs, a_cv, a_gr, a_iadd, a_icge, a_icle, a_ifeq, a_ifne, a_ild, a_imul, a_inc, a_ist, a_push, fx_71_0 hx, sh_71, sh_72, pu_rv, pu_as, Value.category, pu_bk, pu_kl, pu_qe0, pu_qe1, h6, hc]
    all_goals try simp [bX12_mayHave_73, bX12_mayHave_201, bX12_mayHave_116, bX12_mayHave_138, bX12_mayHave_179, a_ai, a_ald, a_cs, a_cv, a_gr, a_iadd, a_icge, a_icle, a_ifeq, a_ifne, a_ild, a_imul, a_inc, a_ist, a_push, fx_71_0 hx, sh_71, sh_72, pu_rv, pu_as, Value.category, pu_bk, pu_kl, List.replicate, pu_wi_1, pu_wi_2, nl_add, nl_ladd, nl_aa, nl_mul, nl_rmul, nl_mm, pu_qe0, pu_qe1, h6, hc]
    all_goals try simp (maxSteps := 400000) (disch := omega) [nl_tle, nl_fle, nl_tlt, nl_flt, nl_teq, nl_feq, nl_sub, nl_ss, nl_lt, nl_llt, nl_ltt, nl_le, nl_lle, nl_lee, nl_eq, nl_leq, nl_ee, nl_div, nl_rem, nl_cl, nl_n1, nl_n2, nl_n3, nl_n4, nl_add, nl_ladd, nl_aa, nl_mul, nl_rmul, nl_mm, pu_wi_1, pu_wi_2, bX12_mayHave_73, bX12_mayHave_201, bX12_mayHave_116, bX12_mayHave_138, bX12_mayHave_179, a_ai, a_ald, a_cs, a_cv, a_gr, a_iadd, a_icge, a_icle, a_ifeq, a_ifne, a_ild, a_imul, a_inc, a_ist, a_push, fx_71_0 hx, sh_71, sh_72, pu_rv, pu_as, Value.category, pu_bk, pu_kl, pu_qe0, pu_qe1, h6, hc]
    all_goals try simp [bX12_mayHave_73, bX12_mayHave_201, bX12_mayHave_116, bX12_mayHave_138, bX12_mayHave_179, a_ai, a_ald, a_cs, a_cv, a_gr, a_iadd, a_icge, a_icle, a_ifeq, a_ifne, a_ild, a_imul, a_inc, a_ist, a_push, fx_71_0 hx, sh_71, sh_72, pu_rv, pu_as, Value.category, pu_bk, pu_kl, List.replicate, pu_wi_1, pu_wi_2, nl_add, nl_ladd, nl_aa, nl_mul, nl_rmul, nl_mm, pu_qe0, pu_qe1, h6, hc]
    all_goals try simp (maxSteps := 400000) (disch := omega) [nl_tle, nl_fle, nl_tlt, nl_flt, nl_teq, nl_feq, nl_sub, nl_ss, nl_lt, nl_llt, nl_ltt, nl_le, nl_lle, nl_lee, nl_eq, nl_leq, nl_ee, nl_div, nl_rem, nl_cl, nl_n1, nl_n2, nl_n3, nl_n4, nl_add, nl_ladd, nl_aa, nl_mul, nl_rmul, nl_mm, pu_wi_1, pu_wi_2, bX12_mayHave_73, bX12_mayHave_201, bX12_mayHave_116, bX12_mayHave_138, bX12_mayHave_179, a_ai, a_ald, a_cs, a_cv, a_gr, a_iadd, a_icge, a_icle, a_ifeq, a_ifne, a_ild, a_imul, a_inc, a_ist, a_push, fx_71_0 hx, sh_71, sh_72, pu_rv, pu_as, Value.category, pu_bk, pu_kl, pu_qe0, pu_qe1, h6, hc]
    all_goals try simp [bX12_mayHave_73, bX12_mayHave_201, bX12_mayHave_116, bX12_mayHave_138, bX12_mayHave_179, a_ai, a_ald, a_cs, a_cv, a_gr, a_iadd, a_icge, a_icle, a_ifeq, a_ifne, a_ild, a_imul, a_inc, a_ist, a_push, fx_71_0 hx, sh_71, sh_72, pu_rv, pu_as, Value.category, pu_bk, pu_kl, List.replicate, pu_wi_1, pu_wi_2, nl_add, nl_ladd, nl_aa, nl_mul, nl_rmul, nl_mm, pu_qe0, pu_qe1, h6, hc]
  | m + 1, i, be, ah, lo, hh, t12, t13, h, g1, g2 => by
    obtain ⟨b1, a1, l1, i1, u1, v1, x1, y1, z1⟩ := r_may_i hx hr hw st i hst (by omega) hy k0 sd here be ah lo hh t12 t13
    obtain ⟨b2, a2, l2, i2, u2, v2, x2, y2, z2⟩ := r_may_l hx hr hw st hst hy k0 sd here m (i + 1) b1 a1 l1 i1 u1 v1 (by omega) (x1 g1) (y1 g2)
    exact ⟨b2, a2, l2, i2, u2, v2, x2, y2, z1.trans z2⟩
/-- an unknown number in line, between two places -/
def py_gc (I : Nat → Nat → Int32) (st : Nat) (y : Int32) (sd be ah : Int) (l : Nat) : Prop := I 16 l = 0 ∧ (I 39 (pu_sl0 I l) = nI st ∧ pu_sh1 I y l) ∧ ((I 27 st).toInt = 1 ∨ (I 40 (pu_sl0 I l)).toInt = sd) ∧ be < pz_ak I st l ∧ pz_ak I st l < ah
theorem r_may2_l (hx : pu_fx M) (hr : pu_Rel I L (M.1 72)) (hw : pu_WF I L) (st w : Nat) (hst : st < cK I) (hy : ¬ y < 0) (h17 : M.1 71 17 = nI w) (k0 sd here be ah lo hh : Int32) (t13 : Option Value) : ∀ (m i g : Nat) (t12 : Option Value), i + m = cU I → pu_r 500 [some (.ref 71), some (.int k0), some (.int (nI st)), some (.int y), some (.int (I 27 st)), some (.int sd), some (.int here), some (.int be), some (.int ah), some (.int lo), some (.int hh), some (.int (nI i)), t12, t13] [] (pu_wi M 71 22 (nI g)) = some (some (.int (pu_q (lo < nI w ∧ nI w < hh))), pu_wi M 71 22 (nI (g + py_cnt (py_gc I st y sd.toInt be.toInt ah.toInt) m i)))
  | 0, i, g, t12, h => by
    have bU := wx_bU hw
    have hx2 : pu_fx (pu_wi M 71 22 (nI g)) := hx
    have s72 : (pu_wi M 71 22 (nI g)).1 72 = M.1 72 := funext (fun j => py_wi_o (by omega))
    have hr2 : pu_Rel I L ((pu_wi M 71 22 (nI g)).1 72) := by rw [s72]; exact hr
    have w17 : (pu_wi M 71 22 (nI g)).1 71 17 = nI w := by rw [py_wi_o (by omega)]; exact h17
    have h6 := rl_h6 hr2
    have e : i = cU I := by omega
    subst e
    have hc : nI (cU I) ≤ nI (cU I) := nI_le (by omega) (by omega)
    show _ = some (some (Value.int (pu_q (lo < nI w ∧ nI w < hh))), pu_wi M 71 22 (nI g))
    have hx := hx2
    generalize pu_wi M 71 22 (nI g) = N at *
    generalize nI w = ww at *
    by_cases c1 : lo < ww
    · have c1' := Int32.not_le.mpr c1
      by_cases c2 : ww < hh
      · have c2' := Int32.not_le.mpr c2
        rw [pu_q1 ⟨c1, c2⟩]
        rw [qX12_mayHave_215]
        simp [bX12_mayHave_215, bX12_mayHave_325, bX12_mayHave_347, bX12_mayHave_348, bX12_mayHave_319, bX12_mayHave_259, bX12_mayHave_276, a_ai, a_ald, a_cs, a_cv, a_dup, a_gi, a_gr, a_iadd, a_icge, a_icle, a_ifeq, a_ifne, a_ild, a_imul, a_inc, a_ist, a_pi, a_push, a_zret, fx_71_0 hx, sh_71, sh_72, pu_rv, pu_as, Value.category, pu_bk, pu_kl, List.replicate, pu_wi_1, pu_wi_2, nl_add, nl_ladd, nl_aa, nl_mul, nl_rmul, nl_mm, pu_qe0, pu_qe1, h6, hc, w17, c1, c1', c2, c2']
        all_goals try simp (maxSteps := 400000) (disch := omega) [nl_tle, nl_fle, nl_tlt, nl_flt, nl_teq, nl_feq, nl_sub, nl_ss, nl_lt, nl_llt, nl_ltt, nl_le, nl_lle, nl_lee, nl_eq, nl_leq, nl_ee, nl_div, nl_rem, nl_cl, nl_n1, nl_n2, nl_n3, nl_n4, nl_add, nl_ladd, nl_aa, nl_mul, nl_rmul, nl_mm, pu_wi_1, pu_wi_2, bX12_mayHave_215, bX12_mayHave_325, bX12_mayHave_347, bX12_mayHave_348, bX12_mayHave_319, bX12_mayHave_259, bX12_mayHave_276, a_ai, a_ald, a_cs, a_cv, a_dup, a_gi, a_gr, a_iadd, a_icge, a_icle, a_ifeq, a_ifne, a_ild, a_imul, a_inc, a_ist, a_pi, a_push, a_zret, fx_71_0 hx, sh_71, sh_72, pu_rv, pu_as, Value.category, pu_bk, pu_kl, pu_qe0, pu_qe1, h6, hc, w17, c1, c1', c2, c2']
        all_goals try simp [bX12_mayHave_215, bX12_mayHave_325, bX12_mayHave_347, bX12_mayHave_348, bX12_mayHave_319, bX12_mayHave_259, bX12_mayHave_276, a_ai, a_ald, a_cs, a_cv, a_dup, a_gi, a_gr, a_iadd, a_icge, a_icle, a_ifeq, a_ifne, a_ild, a_imul, a_inc, a_ist, a_pi, a_push, a_zret, fx_71_0 hx, sh_71, sh_72, pu_rv, pu_as, Value.category, pu_bk, pu_kl, List.replicate, pu_wi_1, pu_wi_2, nl_add, nl_ladd, nl_aa, nl_mul, nl_rmul, nl_mm, pu_qe0, pu_qe1, h6, hc, w17, c1, c1', c2, c2']
        all_goals try simp (maxSteps := 400000) (disch := omega) [nl_tle, nl_fle, nl_tlt, nl_flt, nl_teq, nl_feq, nl_sub, nl_ss, nl_lt, nl_llt, nl_ltt, nl_le, nl_lle, nl_lee, nl_eq, nl_leq, nl_ee, nl_div, nl_rem, nl_cl, nl_n1, nl_n2, nl_n3, nl_n4, nl_add, nl_ladd, nl_aa, nl_mul, nl_rmul, nl_mm, pu_wi_1, pu_wi_2, bX12_mayHave_215, bX12_mayHave_325, bX12_mayHave_347, bX12_mayHave_348, bX12_mayHave_319, bX12_mayHave_259, bX12_mayHave_276, a_ai, a_ald, a_cs, a_cv, a_dup, a_gi, a_gr, a_iadd, a_icge, a_icle, a_ifeq, a_ifne, a_ild, a_imul, a_inc, a_ist, a_pi, a_push, a_zret, fx_71_0 hx, sh_71, sh_72, pu_rv, pu_as, Value.category, pu_bk, pu_kl, pu_qe0, pu_qe1, h6, hc, w17, c1, c1', c2, c2']
        all_goals try simp [bX12_mayHave_215, bX12_mayHave_325, bX12_mayHave_347, bX12_mayHave_348, bX12_mayHave_319, bX12_mayHave_259, bX12_mayHave_276, a_ai, a_ald, a_cs, a_cv, a_dup, a_gi, a_gr, a_iadd, a_icge, a_icle, a_ifeq, a_ifne, a_ild, a_imul, a_inc, a_ist, a_pi, a_push, a_zret, fx_71_0 hx, sh_71, sh_72, pu_rv, pu_as, Value.category, pu_bk, pu_kl, List.replicate, pu_wi_1, pu_wi_2, nl_add, nl_ladd, nl_aa, nl_mul, nl_rmul, nl_mm, pu_qe0, pu_qe1, h6, hc, w17, c1, c1', c2, c2']
        all_goals try simp (maxSteps := 400000) (disch := omega) [nl_tle, nl_fle, nl_tlt, nl_flt, nl_teq, nl_feq, nl_sub, nl_ss, nl_lt, nl_llt, nl_ltt, nl_le, nl_lle, nl_lee, nl_eq, nl_leq, nl_ee, nl_div, nl_rem, nl_cl, nl_n1, nl_n2, nl_n3, nl_n4, nl_add, nl_ladd, nl_aa, nl_mul, nl_rmul, nl_mm, pu_wi_1, pu_wi_2, bX12_mayHave_215, bX12_mayHave_325, bX12_mayHave_347, bX12_mayHave_348, bX12_mayHave_319, bX12_mayHave_259, bX12_mayHave_276, a_ai, a_ald, a_cs, a_cv, a_dup, a_gi, a_gr, a_iadd, a_icge, a_icle, a_ifeq, a_ifne, a_ild, a_imul, a_inc, a_ist, a_pi, a_push, a_zret, fx_71_0 hx, sh_71, sh_72, pu_rv, pu_as, Value.category, pu_bk, pu_kl, pu_qe0, pu_qe1, h6, hc, w17, c1, c1', c2, c2']
        all_goals try simp [bX12_mayHave_215, bX12_mayHave_325, bX12_mayHave_347, bX12_mayHave_348, bX12_mayHave_319, bX12_mayHave_259, bX12_mayHave_276, a_ai, a_ald, a_cs, a_cv, a_dup, a_gi, a_gr, a_iadd, a_icge, a_icle, a_ifeq, a_ifne, a_ild, a_imul, a_inc, a_ist, a_pi, a_push, a_zret, fx_71_0 hx, sh_71, sh_72, pu_rv, pu_as, Value.category, pu_bk, pu_kl, List.replicate, pu_wi_1, pu_wi_2, nl_add, nl_ladd, nl_aa, nl_mul, nl_rmul, nl_mm, pu_qe0, pu_qe1, h6, hc, w17, c1, c1', c2, c2']
      · have c2' := Int32.not_lt.mp c2
        rw [pu_q0 (fun z => c2 z.2)]
        rw [qX12_mayHave_215]
        simp [bX12_mayHave_215, bX12_mayHave_325, bX12_mayHave_347, bX12_mayHave_348, bX12_mayHave_319, bX12_mayHave_259, bX12_mayHave_276, a_ai, a_ald, a_cs, a_cv, a_dup, a_gi, a_gr, a_iadd, a_icge, a_icle, a_ifeq, a_ifne, a_ild, a_imul, a_inc, a_ist, a_pi, a_push, a_zret, fx_71_0 hx, sh_71, sh_72, pu_rv, pu_as, Value.category, pu_bk, pu_kl, List.replicate, pu_wi_1, pu_wi_2, nl_add, nl_ladd, nl_aa, nl_mul, nl_rmul, nl_mm, pu_qe0, pu_qe1, h6, hc, w17, c1, c1', c2, c2']
        all_goals try simp (maxSteps := 400000) (disch := omega) [nl_tle, nl_fle, nl_tlt, nl_flt, nl_teq, nl_feq, nl_sub, nl_ss, nl_lt, nl_llt, nl_ltt, nl_le, nl_lle, nl_lee, nl_eq, nl_leq, nl_ee, nl_div, nl_rem, nl_cl, nl_n1, nl_n2, nl_n3, nl_n4, nl_add, nl_ladd, nl_aa, nl_mul, nl_rmul, nl_mm, pu_wi_1, pu_wi_2, bX12_mayHave_215, bX12_mayHave_325, bX12_mayHave_347, bX12_mayHave_348, bX12_mayHave_319, bX12_mayHave_259, bX12_mayHave_276, a_ai, a_ald, a_cs, a_cv, a_dup, a_gi, a_gr, a_iadd, a_icge, a_icle, a_ifeq, a_ifne, a_ild, a_imul, a_inc, a_ist, a_pi, a_push, a_zret, fx_71_0 hx, sh_71, sh_72, pu_rv, pu_as, Value.category, pu_bk, pu_kl, pu_qe0, pu_qe1, h6, hc, w17, c1, c1', c2, c2']
        all_goals try simp [bX12_mayHave_215, bX12_mayHave_325, bX12_mayHave_347, bX12_mayHave_348, bX12_mayHave_319, bX12_mayHave_259, bX12_mayHave_276, a_ai, a_ald, a_cs, a_cv, a_dup, a_gi, a_gr, a_iadd, a_icge, a_icle, a_ifeq, a_ifne, a_ild, a_imul, a_inc, a_ist, a_pi, a_push, a_zret, fx_71_0 hx, sh_71, sh_72, pu_rv, pu_as, Value.category, pu_bk, pu_kl, List.replicate, pu_wi_1, pu_wi_2, nl_add, nl_ladd, nl_aa, nl_mul, nl_rmul, nl_mm, pu_qe0, pu_qe1, h6, hc, w17, c1, c1', c2, c2']
        all_goals try simp (maxSteps := 400000) (disch := omega) [nl_tle, nl_fle, nl_tlt, nl_flt, nl_teq, nl_feq, nl_sub, nl_ss, nl_lt, nl_llt, nl_ltt, nl_le, nl_lle, nl_lee, nl_eq, nl_leq, nl_ee, nl_div, nl_rem, nl_cl, nl_n1, nl_n2, nl_n3, nl_n4, nl_add, nl_ladd, nl_aa, nl_mul, nl_rmul, nl_mm, pu_wi_1, pu_wi_2, bX12_mayHave_215, bX12_mayHave_325, bX12_mayHave_347, bX12_mayHave_348, bX12_mayHave_319, bX12_mayHave_259, bX12_mayHave_276, a_ai, a_ald, a_cs, a_cv, a_dup, a_gi, a_gr, a_iadd, a_icge, a_icle, a_ifeq, a_ifne, a_ild, a_imul, a_inc, a_ist, a_pi, a_push, a_zret, fx_71_0 hx, sh_71, sh_72, pu_rv, pu_as, Value.category, pu_bk, pu_kl, pu_qe0, pu_qe1, h6, hc, w17, c1, c1', c2, c2']
        all_goals try simp [bX12_mayHave_215, bX12_mayHave_325, bX12_mayHave_347, bX12_mayHave_348, bX12_mayHave_319, bX12_mayHave_259, bX12_mayHave_276, a_ai, a_ald, a_cs, a_cv, a_dup, a_gi, a_gr, a_iadd, a_icge, a_icle, a_ifeq, a_ifne, a_ild, a_imul, a_inc, a_ist, a_pi, a_push, a_zret, fx_71_0 hx, sh_71, sh_72, pu_rv, pu_as, Value.category, pu_bk, pu_kl, List.replicate, pu_wi_1, pu_wi_2, nl_add, nl_ladd, nl_aa, nl_mul, nl_rmul, nl_mm, pu_qe0, pu_qe1, h6, hc, w17, c1, c1', c2, c2']
        all_goals try simp (maxSteps := 400000) (disch := omega) [nl_tle, nl_fle, nl_tlt, nl_flt, nl_teq, nl_feq, nl_sub, nl_ss, nl_lt, nl_llt, nl_ltt, nl_le, nl_lle, nl_lee, nl_eq, nl_leq, nl_ee, nl_div, nl_rem, nl_cl, nl_n1, nl_n2, nl_n3, nl_n4, nl_add, nl_ladd, nl_aa, nl_mul, nl_rmul, nl_mm, pu_wi_1, pu_wi_2, bX12_mayHave_215, bX12_mayHave_325, bX12_mayHave_347, bX12_mayHave_348, bX12_mayHave_319, bX12_mayHave_259, bX12_mayHave_276, a_ai, a_ald, a_cs, a_cv, a_dup, a_gi, a_gr, a_iadd, a_icge, a_icle, a_ifeq, a_ifne, a_ild, a_imul, a_inc, a_ist, a_pi, a_push, a_zret, fx_71_0 hx, sh_71, sh_72, pu_rv, pu_as, Value.category, pu_bk, pu_kl, pu_qe0, pu_qe1, h6, hc, w17, c1, c1', c2, c2']
        all_goals try simp [bX12_mayHave_215, bX12_mayHave_325, bX12_mayHave_347, bX12_mayHave_348, bX12_mayHave_319, bX12_mayHave_259, bX12_mayHave_276, a_ai, a_ald, a_cs, a_cv, a_dup, a_gi, a_gr, a_iadd, a_icge, a_icle, a_ifeq, a_ifne, a_ild, a_imul, a_inc, a_ist, a_pi, a_push, a_zret, fx_71_0 hx, sh_71, sh_72, pu_rv, pu_as, Value.category, pu_bk, pu_kl, List.replicate, pu_wi_1, pu_wi_2, nl_add, nl_ladd, nl_aa, nl_mul, nl_rmul, nl_mm, pu_qe0, pu_qe1, h6, hc, w17, c1, c1', c2, c2']
    · have c1' := Int32.not_lt.mp c1
      rw [pu_q0 (fun z => c1 z.1)]
      rw [qX12_mayHave_215]
      simp [bX12_mayHave_215, bX12_mayHave_325, bX12_mayHave_347, bX12_mayHave_348, bX12_mayHave_319, bX12_mayHave_259, bX12_mayHave_276, a_ai, a_ald, a_cs, a_cv, a_dup, a_gi, a_gr, a_iadd, a_icge, a_icle, a_ifeq, a_ifne, a_ild, a_imul, a_inc, a_ist, a_pi, a_push, a_zret, fx_71_0 hx, sh_71, sh_72, pu_rv, pu_as, Value.category, pu_bk, pu_kl, List.replicate, pu_wi_1, pu_wi_2, nl_add, nl_ladd, nl_aa, nl_mul, nl_rmul, nl_mm, pu_qe0, pu_qe1, h6, hc, w17, c1, c1']
      all_goals try simp (maxSteps := 400000) (disch := omega) [nl_tle, nl_fle, nl_tlt, nl_flt, nl_teq, nl_feq, nl_sub, nl_ss, nl_lt, nl_llt, nl_ltt, nl_le, nl_lle, nl_lee, nl_eq, nl_leq, nl_ee, nl_div, nl_rem, nl_cl, nl_n1, nl_n2, nl_n3, nl_n4, nl_add, nl_ladd, nl_aa, nl_mul, nl_rmul, nl_mm, pu_wi_1, pu_wi_2, bX12_mayHave_215, bX12_mayHave_325, bX12_mayHave_347, bX12_mayHave_348, bX12_mayHave_319, bX12_mayHave_259, bX12_mayHave_276, a_ai, a_ald, a_cs, a_cv, a_dup, a_gi, a_gr, a_iadd, a_icge, a_icle, a_ifeq, a_ifne, a_ild, a_imul, a_inc, a_ist, a_pi, a_push, a_zret, fx_71_0 hx, sh_71, sh_72, pu_rv, pu_as, Value.category, pu_bk, pu_kl, pu_qe0, pu_qe1, h6, hc, w17, c1, c1']
      all_goals try simp [bX12_mayHave_215, bX12_mayHave_325, bX12_mayHave_347, bX12_mayHave_348, bX12_mayHave_319, bX12_mayHave_259, bX12_mayHave_276, a_ai, a_ald, a_cs, a_cv, a_dup, a_gi, a_gr, a_iadd, a_icge, a_icle, a_ifeq, a_ifne, a_ild, a_imul, a_inc, a_ist, a_pi, a_push, a_zret, fx_71_0 hx, sh_71, sh_72, pu_rv, pu_as, Value.category, pu_bk, pu_kl, List.replicate, pu_wi_1, pu_wi_2, nl_add, nl_ladd, nl_aa, nl_mul, nl_rmul, nl_mm, pu_qe0, pu_qe1, h6, hc, w17, c1, c1']
      all_goals try simp (maxSteps := 400000) (disch := omega) [nl_tle, nl_fle, nl_tlt, nl_flt, nl_teq, nl_feq, nl_sub, nl_ss, nl_lt, nl_llt, nl_ltt, nl_le, nl_lle, nl_lee, nl_eq, nl_leq, nl_ee, nl_div, nl_rem, nl_cl, nl_n1, nl_n2, nl_n3, nl_n4, nl_add, nl_ladd, nl_aa, nl_mul, nl_rmul, nl_mm, pu_wi_1, pu_wi_2, bX12_mayHave_215, bX12_mayHave_325, bX12_mayHave_347, bX12_mayHave_348, bX12_mayHave_319, bX12_mayHave_259, bX12_mayHave_276, a_ai, a_ald, a_cs, a_cv, a_dup, a_gi, a_gr, a_iadd, a_icge, a_icle, a_ifeq, a_ifne, a_ild, a_imul, a_inc, a_ist, a_pi, a_push, a_zret, fx_71_0 hx, sh_71, sh_72, pu_rv, pu_as, Value.category, pu_bk, pu_kl, pu_qe0, pu_qe1, h6, hc, w17, c1, c1']
      all_goals try simp [bX12_mayHave_215, bX12_mayHave_325, bX12_mayHave_347, bX12_mayHave_348, bX12_mayHave_319, bX12_mayHave_259, bX12_mayHave_276, a_ai, a_ald, a_cs, a_cv, a_dup, a_gi, a_gr, a_iadd, a_icge, a_icle, a_ifeq, a_ifne, a_ild, a_imul, a_inc, a_ist, a_pi, a_push, a_zret, fx_71_0 hx, sh_71, sh_72, pu_rv, pu_as, Value.category, pu_bk, pu_kl, List.replicate, pu_wi_1, pu_wi_2, nl_add, nl_ladd, nl_aa, nl_mul, nl_rmul, nl_mm, pu_qe0, pu_qe1, h6, hc, w17, c1, c1']
      all_goals try simp (maxSteps := 400000) (disch := omega) [nl_tle, nl_fle, nl_tlt, nl_flt, nl_teq, nl_feq, nl_sub, nl_ss, nl_lt, nl_llt, nl_ltt, nl_le, nl_lle, nl_lee, nl_eq, nl_leq, nl_ee, nl_div, nl_rem, nl_cl, nl_n1, nl_n2, nl_n3, nl_n4, nl_add, nl_ladd, nl_aa, nl_mul, nl_rmul, nl_mm, pu_wi_1, pu_wi_2, bX12_mayHave_215, bX12_mayHave_325, bX12_mayHave_347, bX12_mayHave_348, bX12_mayHave_319, bX12_mayHave_259, bX12_mayHave_276, a_ai, a_ald, a_cs, a_cv, a_dup, a_gi, a_gr, a_iadd, a_icge, a_icle, a_ifeq, a_ifne, a_ild, a_imul, a_inc, a_ist, a_pi, a_push, a_zret, fx_71_0 hx, sh_71, sh_72, pu_rv, pu_as, Value.category, pu_bk, pu_kl, pu_qe0, pu_qe1, h6, hc, w17, c1, c1']
      all_goals try simp [bX12_mayHave_215, bX12_mayHave_325, bX12_mayHave_347, bX12_mayHave_348, bX12_mayHave_319, bX12_mayHave_259, bX12_mayHave_276, a_ai, a_ald, a_cs, a_cv, a_dup, a_gi, a_gr, a_iadd, a_icge, a_icle, a_ifeq, a_ifne, a_ild, a_imul, a_inc, a_ist, a_pi, a_push, a_zret, fx_71_0 hx, sh_71, sh_72, pu_rv, pu_as, Value.category, pu_bk, pu_kl, List.replicate, pu_wi_1, pu_wi_2, nl_add, nl_ladd, nl_aa, nl_mul, nl_rmul, nl_mm, pu_qe0, pu_qe1, h6, hc, w17, c1, c1']
  | m + 1, i, g, t12, h => by
    have bU := wx_bU hw
    have bK := wx_bK hw
    have hstL : st < 2147483648 := by omega
    have hi : i < cU I := by omega
    have i3 : i < 3000 := by omega
    have hx2 : pu_fx (pu_wi M 71 22 (nI g)) := hx
    have s72 : (pu_wi M 71 22 (nI g)).1 72 = M.1 72 := funext (fun j => py_wi_o (by omega))
    have hr2 : pu_Rel I L ((pu_wi M 71 22 (nI g)).1 72) := by rw [s72]; exact hr
    have h6 := rl_h6 hr2
    have hc : ¬ nI (cU I) ≤ nI i := nI_ge (by omega) (by omega)
    have u3 := rl_u3 hr2 i hi
    have e1 := r_isOn hx2 hr2 hw i hi (nI st) y
    have e2 := r_sideOf hx2 hr2 hw i hi
    have e3 := r_pacesOf hx2 hr2 hw i hi
    have cl := py_cnt_le (py_gc I st y sd.toInt be.toInt ah.toInt) m (i + 1)
    have SK : ∀ u12 : Option Value, ¬ py_gc I st y sd.toInt be.toInt ah.toInt i → pu_r 500 [some (.ref 71), some (.int k0), some (.int (nI st)), some (.int y), some (.int (I 27 st)), some (.int sd), some (.int here), some (.int be), some (.int ah), some (.int lo), some (.int hh), some (.int (nI i)), t12, t13] [] (pu_wi M 71 22 (nI g)) = pu_r 500 [some (.ref 71), some (.int k0), some (.int (nI st)), some (.int y), some (.int (I 27 st)), some (.int sd), some (.int here), some (.int be), some (.int ah), some (.int lo), some (.int hh), some (.int (nI (i + 1))), u12, t13] [] (pu_wi M 71 22 (nI g)) → pu_r 500 [some (.ref 71), some (.int k0), some (.int (nI st)), some (.int y), some (.int (I 27 st)), some (.int sd), some (.int here), some (.int be), some (.int ah), some (.int lo), some (.int hh), some (.int (nI i)), t12, t13] [] (pu_wi M 71 22 (nI g)) = some (some (.int (pu_q (lo < nI w ∧ nI w < hh))), pu_wi M 71 22 (nI (g + py_cnt (py_gc I st y sd.toInt be.toInt ah.toInt) (m + 1) i))) := fun u12 hn e => by
      rw [py_cnt_f hn]
      exact e.trans (r_may2_l hx hr hw st w hst hy h17 k0 sd here be ah lo hh t13 m (i + 1) g u12 (by omega))
    by_cases c1 : I 16 i = 0
    rotate_left
    · refine SK t12 (fun z => c1 z.1) ?_
      have hx := hx2
      generalize pu_wi M 71 22 (nI g) = N at *
      generalize I 27 st = r27 at *
      generalize I 16 i = v at *
      rw [qX12_mayHave_215]
      simp [bX12_mayHave_215, bX12_mayHave_325, bX12_mayHave_347, bX12_mayHave_348, bX12_mayHave_319, bX12_mayHave_259, bX12_mayHave_276, a_ai, a_ald, a_cs, a_cv, a_dup, a_gi, a_gr, a_iadd, a_icge, a_icle, a_ifeq, a_ifne, a_ild, a_imul, a_inc, a_ist, a_pi, a_push, a_zret, fx_71_0 hx, sh_71, sh_72, pu_rv, pu_as, Value.category, pu_bk, pu_kl, List.replicate, pu_wi_1, pu_wi_2, nl_add, nl_ladd, nl_aa, nl_mul, nl_rmul, nl_mm, pu_qe0, pu_qe1, h6, hc, i3, u3, c1]
      all_goals try simp (maxSteps := 400000) (disch := omega) [nl_tle, nl_fle, nl_tlt, nl_flt, nl_teq, nl_feq, nl_sub, nl_ss, nl_lt, nl_llt, nl_ltt, nl_le, nl_lle, nl_lee, nl_eq, nl_leq, nl_ee, nl_div, nl_rem, nl_cl, nl_n1, nl_n2, nl_n3, nl_n4, nl_add, nl_ladd, nl_aa, nl_mul, nl_rmul, nl_mm, pu_wi_1, pu_wi_2, bX12_mayHave_215, bX12_mayHave_325, bX12_mayHave_347, bX12_mayHave_348, bX12_mayHave_319, bX12_mayHave_259, bX12_mayHave_276, a_ai, a_ald, a_cs, a_cv, a_dup, a_gi, a_gr, a_iadd, a_icge, a_icle, a_ifeq, a_ifne, a_ild, a_imul, a_inc, a_ist, a_pi, a_push, a_zret, fx_71_0 hx, sh_71, sh_72, pu_rv, pu_as, Value.category, pu_bk, pu_kl, pu_qe0, pu_qe1, h6, hc, i3, u3, c1]
      all_goals try simp [bX12_mayHave_215, bX12_mayHave_325, bX12_mayHave_347, bX12_mayHave_348, bX12_mayHave_319, bX12_mayHave_259, bX12_mayHave_276, a_ai, a_ald, a_cs, a_cv, a_dup, a_gi, a_gr, a_iadd, a_icge, a_icle, a_ifeq, a_ifne, a_ild, a_imul, a_inc, a_ist, a_pi, a_push, a_zret, fx_71_0 hx, sh_71, sh_72, pu_rv, pu_as, Value.category, pu_bk, pu_kl, List.replicate, pu_wi_1, pu_wi_2, nl_add, nl_ladd, nl_aa, nl_mul, nl_rmul, nl_mm, pu_qe0, pu_qe1, h6, hc, i3, u3, c1]
      all_goals try simp (maxSteps := 400000) (disch := omega) [nl_tle, nl_fle, nl_tlt, nl_flt, nl_teq, nl_feq, nl_sub, nl_ss, nl_lt, nl_llt, nl_ltt, nl_le, nl_lle, nl_lee, nl_eq, nl_leq, nl_ee, nl_div, nl_rem, nl_cl, nl_n1, nl_n2, nl_n3, nl_n4, nl_add, nl_ladd, nl_aa, nl_mul, nl_rmul, nl_mm, pu_wi_1, pu_wi_2, bX12_mayHave_215, bX12_mayHave_325, bX12_mayHave_347, bX12_mayHave_348, bX12_mayHave_319, bX12_mayHave_259, bX12_mayHave_276, a_ai, a_ald, a_cs, a_cv, a_dup, a_gi, a_gr, a_iadd, a_icge, a_icle, a_ifeq, a_ifne, a_ild, a_imul, a_inc, a_ist, a_pi, a_push, a_zret, fx_71_0 hx, sh_71, sh_72, pu_rv, pu_as, Value.category, pu_bk, pu_kl, pu_qe0, pu_qe1, h6, hc, i3, u3, c1]
      all_goals try simp [bX12_mayHave_215, bX12_mayHave_325, bX12_mayHave_347, bX12_mayHave_348, bX12_mayHave_319, bX12_mayHave_259, bX12_mayHave_276, a_ai, a_ald, a_cs, a_cv, a_dup, a_gi, a_gr, a_iadd, a_icge, a_icle, a_ifeq, a_ifne, a_ild, a_imul, a_inc, a_ist, a_pi, a_push, a_zret, fx_71_0 hx, sh_71, sh_72, pu_rv, pu_as, Value.category, pu_bk, pu_kl, List.replicate, pu_wi_1, pu_wi_2, nl_add, nl_ladd, nl_aa, nl_mul, nl_rmul, nl_mm, pu_qe0, pu_qe1, h6, hc, i3, u3, c1]
      all_goals try simp (maxSteps := 400000) (disch := omega) [nl_tle, nl_fle, nl_tlt, nl_flt, nl_teq, nl_feq, nl_sub, nl_ss, nl_lt, nl_llt, nl_ltt, nl_le, nl_lle, nl_lee, nl_eq, nl_leq, nl_ee, nl_div, nl_rem, nl_cl, nl_n1, nl_n2, nl_n3, nl_n4, nl_add, nl_ladd, nl_aa, nl_mul, nl_rmul, nl_mm, pu_wi_1, pu_wi_2, bX12_mayHave_215, bX12_mayHave_325, bX12_mayHave_347, bX12_mayHave_348, bX12_mayHave_319, bX12_mayHave_259, bX12_mayHave_276, a_ai, a_ald, a_cs, a_cv, a_dup, a_gi, a_gr, a_iadd, a_icge, a_icle, a_ifeq, a_ifne, a_ild, a_imul, a_inc, a_ist, a_pi, a_push, a_zret, fx_71_0 hx, sh_71, sh_72, pu_rv, pu_as, Value.category, pu_bk, pu_kl, pu_qe0, pu_qe1, h6, hc, i3, u3, c1]
      all_goals try simp [bX12_mayHave_215, bX12_mayHave_325, bX12_mayHave_347, bX12_mayHave_348, bX12_mayHave_319, bX12_mayHave_259, bX12_mayHave_276, a_ai, a_ald, a_cs, a_cv, a_dup, a_gi, a_gr, a_iadd, a_icge, a_icle, a_ifeq, a_ifne, a_ild, a_imul, a_inc, a_ist, a_pi, a_push, a_zret, fx_71_0 hx, sh_71, sh_72, pu_rv, pu_as, Value.category, pu_bk, pu_kl, List.replicate, pu_wi_1, pu_wi_2, nl_add, nl_ladd, nl_aa, nl_mul, nl_rmul, nl_mm, pu_qe0, pu_qe1, h6, hc, i3, u3, c1]
    rw [c1] at u3
    by_cases c2 : I 39 (pu_sl0 I i) = nI st ∧ pu_sh1 I y i
    rotate_left
    · rw [pu_q0 c2] at e1
      refine SK t12 (fun z => c2 z.2.1) ?_
      have hx := hx2
      generalize pu_wi M 71 22 (nI g) = N at *
      generalize I 27 st = r27 at *
      rw [qX12_mayHave_215]
      simp [bX12_mayHave_215, bX12_mayHave_325, bX12_mayHave_347, bX12_mayHave_348, bX12_mayHave_319, bX12_mayHave_259, bX12_mayHave_276, a_ai, a_ald, a_cs, a_cv, a_dup, a_gi, a_gr, a_iadd, a_icge, a_icle, a_ifeq, a_ifne, a_ild, a_imul, a_inc, a_ist, a_pi, a_push, a_zret, fx_71_0 hx, sh_71, sh_72, pu_rv, pu_as, Value.category, pu_bk, pu_kl, List.replicate, pu_wi_1, pu_wi_2, nl_add, nl_ladd, nl_aa, nl_mul, nl_rmul, nl_mm, pu_qe0, pu_qe1, h6, hc, i3, u3, e1]
      all_goals try simp (maxSteps := 400000) (disch := omega) [nl_tle, nl_fle, nl_tlt, nl_flt, nl_teq, nl_feq, nl_sub, nl_ss, nl_lt, nl_llt, nl_ltt, nl_le, nl_lle, nl_lee, nl_eq, nl_leq, nl_ee, nl_div, nl_rem, nl_cl, nl_n1, nl_n2, nl_n3, nl_n4, nl_add, nl_ladd, nl_aa, nl_mul, nl_rmul, nl_mm, pu_wi_1, pu_wi_2, bX12_mayHave_215, bX12_mayHave_325, bX12_mayHave_347, bX12_mayHave_348, bX12_mayHave_319, bX12_mayHave_259, bX12_mayHave_276, a_ai, a_ald, a_cs, a_cv, a_dup, a_gi, a_gr, a_iadd, a_icge, a_icle, a_ifeq, a_ifne, a_ild, a_imul, a_inc, a_ist, a_pi, a_push, a_zret, fx_71_0 hx, sh_71, sh_72, pu_rv, pu_as, Value.category, pu_bk, pu_kl, pu_qe0, pu_qe1, h6, hc, i3, u3, e1]
      all_goals try simp [bX12_mayHave_215, bX12_mayHave_325, bX12_mayHave_347, bX12_mayHave_348, bX12_mayHave_319, bX12_mayHave_259, bX12_mayHave_276, a_ai, a_ald, a_cs, a_cv, a_dup, a_gi, a_gr, a_iadd, a_icge, a_icle, a_ifeq, a_ifne, a_ild, a_imul, a_inc, a_ist, a_pi, a_push, a_zret, fx_71_0 hx, sh_71, sh_72, pu_rv, pu_as, Value.category, pu_bk, pu_kl, List.replicate, pu_wi_1, pu_wi_2, nl_add, nl_ladd, nl_aa, nl_mul, nl_rmul, nl_mm, pu_qe0, pu_qe1, h6, hc, i3, u3, e1]
      all_goals try simp (maxSteps := 400000) (disch := omega) [nl_tle, nl_fle, nl_tlt, nl_flt, nl_teq, nl_feq, nl_sub, nl_ss, nl_lt, nl_llt, nl_ltt, nl_le, nl_lle, nl_lee, nl_eq, nl_leq, nl_ee, nl_div, nl_rem, nl_cl, nl_n1, nl_n2, nl_n3, nl_n4, nl_add, nl_ladd, nl_aa, nl_mul, nl_rmul, nl_mm, pu_wi_1, pu_wi_2, bX12_mayHave_215, bX12_mayHave_325, bX12_mayHave_347, bX12_mayHave_348, bX12_mayHave_319, bX12_mayHave_259, bX12_mayHave_276, a_ai, a_ald, a_cs, a_cv, a_dup, a_gi, a_gr, a_iadd, a_icge, a_icle, a_ifeq, a_ifne, a_ild, a_imul, a_inc, a_ist, a_pi, a_push, a_zret, fx_71_0 hx, sh_71, sh_72, pu_rv, pu_as, Value.category, pu_bk, pu_kl, pu_qe0, pu_qe1, h6, hc, i3, u3, e1]
      all_goals try simp [bX12_mayHave_215, bX12_mayHave_325, bX12_mayHave_347, bX12_mayHave_348, bX12_mayHave_319, bX12_mayHave_259, bX12_mayHave_276, a_ai, a_ald, a_cs, a_cv, a_dup, a_gi, a_gr, a_iadd, a_icge, a_icle, a_ifeq, a_ifne, a_ild, a_imul, a_inc, a_ist, a_pi, a_push, a_zret, fx_71_0 hx, sh_71, sh_72, pu_rv, pu_as, Value.category, pu_bk, pu_kl, List.replicate, pu_wi_1, pu_wi_2, nl_add, nl_ladd, nl_aa, nl_mul, nl_rmul, nl_mm, pu_qe0, pu_qe1, h6, hc, i3, u3, e1]
      all_goals try simp (maxSteps := 400000) (disch := omega) [nl_tle, nl_fle, nl_tlt, nl_flt, nl_teq, nl_feq, nl_sub, nl_ss, nl_lt, nl_llt, nl_ltt, nl_le, nl_lle, nl_lee, nl_eq, nl_leq, nl_ee, nl_div, nl_rem, nl_cl, nl_n1, nl_n2, nl_n3, nl_n4, nl_add, nl_ladd, nl_aa, nl_mul, nl_rmul, nl_mm, pu_wi_1, pu_wi_2, bX12_mayHave_215, bX12_mayHave_325, bX12_mayHave_347, bX12_mayHave_348, bX12_mayHave_319, bX12_mayHave_259, bX12_mayHave_276, a_ai, a_ald, a_cs, a_cv, a_dup, a_gi, a_gr, a_iadd, a_icge, a_icle, a_ifeq, a_ifne, a_ild, a_imul, a_inc, a_ist, a_pi, a_push, a_zret, fx_71_0 hx, sh_71, sh_72, pu_rv, pu_as, Value.category, pu_bk, pu_kl, pu_qe0, pu_qe1, h6, hc, i3, u3, e1]
      all_goals try simp [bX12_mayHave_215, bX12_mayHave_325, bX12_mayHave_347, bX12_mayHave_348, bX12_mayHave_319, bX12_mayHave_259, bX12_mayHave_276, a_ai, a_ald, a_cs, a_cv, a_dup, a_gi, a_gr, a_iadd, a_icge, a_icle, a_ifeq, a_ifne, a_ild, a_imul, a_inc, a_ist, a_pi, a_push, a_zret, fx_71_0 hx, sh_71, sh_72, pu_rv, pu_as, Value.category, pu_bk, pu_kl, List.replicate, pu_wi_1, pu_wi_2, nl_add, nl_ladd, nl_aa, nl_mul, nl_rmul, nl_mm, pu_qe0, pu_qe1, h6, hc, i3, u3, e1]
    rw [pu_q1 c2] at e1
    have e4 := r_isOrdered (I 27 st) sd (I 40 (pu_sl0 I i)) (pu_wi M 71 22 (nI g))
    by_cases c3 : I 27 st = 1 ∨ sd = I 40 (pu_sl0 I i)
    rotate_left
    · rw [pu_q0 c3] at e4
      refine SK t12 (fun z => c3 ?_) ?_
      · rcases z.2.2.1 with q | q
        · exact Or.inl (Int32.toInt_inj.mp (by rw [q]; decide))
        · exact Or.inr (Int32.toInt_inj.mp q.symm)
      · have hx := hx2
        generalize pu_wi M 71 22 (nI g) = N at *
        generalize I 27 st = r27 at *
        generalize I 40 (pu_sl0 I i) = v40 at *
        rw [qX12_mayHave_215]
        simp [bX12_mayHave_215, bX12_mayHave_325, bX12_mayHave_347, bX12_mayHave_348, bX12_mayHave_319, bX12_mayHave_259, bX12_mayHave_276, a_ai, a_ald, a_cs, a_cv, a_dup, a_gi, a_gr, a_iadd, a_icge, a_icle, a_ifeq, a_ifne, a_ild, a_imul, a_inc, a_ist, a_pi, a_push, a_zret, fx_71_0 hx, sh_71, sh_72, pu_rv, pu_as, Value.category, pu_bk, pu_kl, List.replicate, pu_wi_1, pu_wi_2, nl_add, nl_ladd, nl_aa, nl_mul, nl_rmul, nl_mm, pu_qe0, pu_qe1, h6, hc, i3, u3, e1, e2, e4]
        all_goals try simp (maxSteps := 400000) (disch := omega) [nl_tle, nl_fle, nl_tlt, nl_flt, nl_teq, nl_feq, nl_sub, nl_ss, nl_lt, nl_llt, nl_ltt, nl_le, nl_lle, nl_lee, nl_eq, nl_leq, nl_ee, nl_div, nl_rem, nl_cl, nl_n1, nl_n2, nl_n3, nl_n4, nl_add, nl_ladd, nl_aa, nl_mul, nl_rmul, nl_mm, pu_wi_1, pu_wi_2, bX12_mayHave_215, bX12_mayHave_325, bX12_mayHave_347, bX12_mayHave_348, bX12_mayHave_319, bX12_mayHave_259, bX12_mayHave_276, a_ai, a_ald, a_cs, a_cv, a_dup, a_gi, a_gr, a_iadd, a_icge, a_icle, a_ifeq, a_ifne, a_ild, a_imul, a_inc, a_ist, a_pi, a_push, a_zret, fx_71_0 hx, sh_71, sh_72, pu_rv, pu_as, Value.category, pu_bk, pu_kl, pu_qe0, pu_qe1, h6, hc, i3, u3, e1, e2, e4]
        all_goals try simp [bX12_mayHave_215, bX12_mayHave_325, bX12_mayHave_347, bX12_mayHave_348, bX12_mayHave_319, bX12_mayHave_259, bX12_mayHave_276, a_ai, a_ald, a_cs, a_cv, a_dup, a_gi, a_gr, a_iadd, a_icge, a_icle, a_ifeq, a_ifne, a_ild, a_imul, a_inc, a_ist, a_pi, a_push, a_zret, fx_71_0 hx, sh_71, sh_72, pu_rv, pu_as, Value.category, pu_bk, pu_kl, List.replicate, pu_wi_1, pu_wi_2, nl_add, nl_ladd, nl_aa, nl_mul, nl_rmul, nl_mm, pu_qe0, pu_qe1, h6, hc, i3, u3, e1, e2, e4]
        all_goals try simp (maxSteps := 400000) (disch := omega) [nl_tle, nl_fle, nl_tlt, nl_flt, nl_teq, nl_feq, nl_sub, nl_ss, nl_lt, nl_llt, nl_ltt, nl_le, nl_lle, nl_lee, nl_eq, nl_leq, nl_ee, nl_div, nl_rem, nl_cl, nl_n1, nl_n2, nl_n3, nl_n4, nl_add, nl_ladd, nl_aa, nl_mul, nl_rmul, nl_mm, pu_wi_1, pu_wi_2, bX12_mayHave_215, bX12_mayHave_325, bX12_mayHave_347, bX12_mayHave_348, bX12_mayHave_319, bX12_mayHave_259, bX12_mayHave_276, a_ai, a_ald, a_cs, a_cv, a_dup, a_gi, a_gr, a_iadd, a_icge, a_icle, a_ifeq, a_ifne, a_ild, a_imul, a_inc, a_ist, a_pi, a_push, a_zret, fx_71_0 hx, sh_71, sh_72, pu_rv, pu_as, Value.category, pu_bk, pu_kl, pu_qe0, pu_qe1, h6, hc, i3, u3, e1, e2, e4]
        all_goals try simp [bX12_mayHave_215, bX12_mayHave_325, bX12_mayHave_347, bX12_mayHave_348, bX12_mayHave_319, bX12_mayHave_259, bX12_mayHave_276, a_ai, a_ald, a_cs, a_cv, a_dup, a_gi, a_gr, a_iadd, a_icge, a_icle, a_ifeq, a_ifne, a_ild, a_imul, a_inc, a_ist, a_pi, a_push, a_zret, fx_71_0 hx, sh_71, sh_72, pu_rv, pu_as, Value.category, pu_bk, pu_kl, List.replicate, pu_wi_1, pu_wi_2, nl_add, nl_ladd, nl_aa, nl_mul, nl_rmul, nl_mm, pu_qe0, pu_qe1, h6, hc, i3, u3, e1, e2, e4]
        all_goals try simp (maxSteps := 400000) (disch := omega) [nl_tle, nl_fle, nl_tlt, nl_flt, nl_teq, nl_feq, nl_sub, nl_ss, nl_lt, nl_llt, nl_ltt, nl_le, nl_lle, nl_lee, nl_eq, nl_leq, nl_ee, nl_div, nl_rem, nl_cl, nl_n1, nl_n2, nl_n3, nl_n4, nl_add, nl_ladd, nl_aa, nl_mul, nl_rmul, nl_mm, pu_wi_1, pu_wi_2, bX12_mayHave_215, bX12_mayHave_325, bX12_mayHave_347, bX12_mayHave_348, bX12_mayHave_319, bX12_mayHave_259, bX12_mayHave_276, a_ai, a_ald, a_cs, a_cv, a_dup, a_gi, a_gr, a_iadd, a_icge, a_icle, a_ifeq, a_ifne, a_ild, a_imul, a_inc, a_ist, a_pi, a_push, a_zret, fx_71_0 hx, sh_71, sh_72, pu_rv, pu_as, Value.category, pu_bk, pu_kl, pu_qe0, pu_qe1, h6, hc, i3, u3, e1, e2, e4]
        all_goals try simp [bX12_mayHave_215, bX12_mayHave_325, bX12_mayHave_347, bX12_mayHave_348, bX12_mayHave_319, bX12_mayHave_259, bX12_mayHave_276, a_ai, a_ald, a_cs, a_cv, a_dup, a_gi, a_gr, a_iadd, a_icge, a_icle, a_ifeq, a_ifne, a_ild, a_imul, a_inc, a_ist, a_pi, a_push, a_zret, fx_71_0 hx, sh_71, sh_72, pu_rv, pu_as, Value.category, pu_bk, pu_kl, List.replicate, pu_wi_1, pu_wi_2, nl_add, nl_ladd, nl_aa, nl_mul, nl_rmul, nl_mm, pu_qe0, pu_qe1, h6, hc, i3, u3, e1, e2, e4]
    rw [pu_q1 c3] at e4
    have tn : pu_tn I y i := by rw [py_tn_e hy]; exact c2.2
    have c3' : (I 27 st).toInt = 1 ∨ (I 40 (pu_sl0 I i)).toInt = sd.toInt := by
      rcases c3 with q | q
      · exact Or.inl (by rw [q]; decide)
      · exact Or.inr (by rw [q])
    have pl := py_pl0 hw hstL hi c2.1 tn
    have e5 := r_along (I 27 st) (I 40 (pu_sl0 I i)) (I 41 (pu_sl0 I i)) (pu_wi M 71 22 (nI g))
    have ea : (pz_alx (I 27 st) (I 40 (pu_sl0 I i)) (I 41 (pu_sl0 I i))).toInt = pz_ak I st i := pz_al_e pl.1 pl.2.1 pl.2.2.1 pl.2.2.2
    generalize pz_alx (I 27 st) (I 40 (pu_sl0 I i)) (I 41 (pu_sl0 I i)) = th at *
    have lt := fun a b : Int32 => Int32.lt_iff_toInt_lt (x := a) (y := b)
    by_cases f1 : be < th ∧ th < ah
    · have gc : py_gc I st y sd.toInt be.toInt ah.toInt i := ⟨c1, c2, c3', by rw [← ea]; exact (lt _ _).mp f1.1, by rw [← ea]; exact (lt _ _).mp f1.2⟩
      have ih := r_may2_l hx hr hw st w hst hy h17 k0 sd here be ah lo hh t13 m (i + 1) (g + 1) (some (.int th)) (by omega)
      rw [py_cnt_t gc, ← Nat.add_assoc]
      refine Eq.trans ?_ ih
      have f11 := f1.1
      have f12 := f1.2
      have f11' := Int32.not_le.mpr f11
      have f12' := Int32.not_le.mpr f12
      have v22 : (pu_wi M 71 22 (nI g)).1 71 22 = nI g := by simp [pu_wi_1]
      have ws := fun v : Int32 => (py_wi_s : pu_wi (pu_wi M 71 22 (nI g)) 71 22 v = pu_wi M 71 22 v)
      have hx := hx2
      generalize hN : pu_wi M 71 22 (nI g) = N at *
      generalize I 27 st = r27 at *
      generalize I 40 (pu_sl0 I i) = v40 at *
      generalize I 41 (pu_sl0 I i) = v41 at *
      rw [qX12_mayHave_215]
      simp [bX12_mayHave_215, bX12_mayHave_325, bX12_mayHave_347, bX12_mayHave_348, bX12_mayHave_319, bX12_mayHave_259, bX12_mayHave_276, a_ai, a_ald, a_cs, a_cv, a_dup, a_gi, a_gr, a_iadd, a_icge, a_icle, a_ifeq, a_ifne, a_ild, a_imul, a_inc, a_ist, a_pi, a_push, a_zret, fx_71_0 hx, sh_71, sh_72, pu_rv, pu_as, Value.category, pu_bk, pu_kl, List.replicate, pu_wi_1, pu_wi_2, nl_add, nl_ladd, nl_aa, nl_mul, nl_rmul, nl_mm, pu_qe0, pu_qe1, h6, hc, i3, u3, e1, e2, e3, e4, e5, f11, f12, f11', f12', v22, ws]
      all_goals try simp (maxSteps := 400000) (disch := omega) [nl_tle, nl_fle, nl_tlt, nl_flt, nl_teq, nl_feq, nl_sub, nl_ss, nl_lt, nl_llt, nl_ltt, nl_le, nl_lle, nl_lee, nl_eq, nl_leq, nl_ee, nl_div, nl_rem, nl_cl, nl_n1, nl_n2, nl_n3, nl_n4, nl_add, nl_ladd, nl_aa, nl_mul, nl_rmul, nl_mm, pu_wi_1, pu_wi_2, bX12_mayHave_215, bX12_mayHave_325, bX12_mayHave_347, bX12_mayHave_348, bX12_mayHave_319, bX12_mayHave_259, bX12_mayHave_276, a_ai, a_ald, a_cs, a_cv, a_dup, a_gi, a_gr, a_iadd, a_icge, a_icle, a_ifeq, a_ifne, a_ild, a_imul, a_inc, a_ist, a_pi, a_push, a_zret, fx_71_0 hx, sh_71, sh_72, pu_rv, pu_as, Value.category, pu_bk, pu_kl, pu_qe0, pu_qe1, h6, hc, i3, u3, e1, e2, e3, e4, e5, f11, f12, f11', f12', v22, ws]
      all_goals try simp [bX12_mayHave_215, bX12_mayHave_325, bX12_mayHave_347, bX12_mayHave_348, bX12_mayHave_319, bX12_mayHave_259, bX12_mayHave_276, a_ai, a_ald, a_cs, a_cv, a_dup, a_gi, a_gr, a_iadd, a_icge, a_icle, a_ifeq, a_ifne, a_ild, a_imul, a_inc, a_ist, a_pi, a_push, a_zret, fx_71_0 hx, sh_71, sh_72, pu_rv, pu_as, Value.category, pu_bk, pu_kl, List.replicate, pu_wi_1, pu_wi_2, nl_add, nl_ladd, nl_aa, nl_mul, nl_rmul, nl_mm, pu_qe0, pu_qe1, h6, hc, i3, u3, e1, e2, e3, e4, e5, f11, f12, f11', f12', v22, ws]
      all_goals try simp (maxSteps := 400000) (disch := omega) [nl_tle, nl_fle, nl_tlt, nl_flt, nl_teq, nl_feq, nl_sub, nl_ss, nl_lt, nl_llt, nl_ltt, nl_le, nl_lle, nl_lee, nl_eq, nl_leq, nl_ee, nl_div, nl_rem, nl_cl, nl_n1, nl_n2, nl_n3, nl_n4, nl_add, nl_ladd, nl_aa, nl_mul, nl_rmul, nl_mm, pu_wi_1, pu_wi_2, bX12_mayHave_215, bX12_mayHave_325, bX12_mayHave_347, bX12_mayHave_348, bX12_mayHave_319, bX12_mayHave_259, bX12_mayHave_276, a_ai, a_ald, a_cs, a_cv, a_dup, a_gi, a_gr, a_iadd, a_icge, a_icle, a_ifeq, a_ifne, a_ild, a_imul, a_inc, a_ist, a_pi, a_push, a_zret, fx_71_0 hx, sh_71, sh_72, pu_rv, pu_as, Value.category, pu_bk, pu_kl, pu_qe0, pu_qe1, h6, hc, i3, u3, e1, e2, e3, e4, e5, f11, f12, f11', f12', v22, ws]
      all_goals try simp [bX12_mayHave_215, bX12_mayHave_325, bX12_mayHave_347, bX12_mayHave_348, bX12_mayHave_319, bX12_mayHave_259, bX12_mayHave_276, a_ai, a_ald, a_cs, a_cv, a_dup, a_gi, a_gr, a_iadd, a_icge, a_icle, a_ifeq, a_ifne, a_ild, a_imul, a_inc, a_ist, a_pi, a_push, a_zret, fx_71_0 hx, sh_71, sh_72, pu_rv, pu_as, Value.category, pu_bk, pu_kl, List.replicate, pu_wi_1, pu_wi_2, nl_add, nl_ladd, nl_aa, nl_mul, nl_rmul, nl_mm, pu_qe0, pu_qe1, h6, hc, i3, u3, e1, e2, e3, e4, e5, f11, f12, f11', f12', v22, ws]
      all_goals try simp (maxSteps := 400000) (disch := omega) [nl_tle, nl_fle, nl_tlt, nl_flt, nl_teq, nl_feq, nl_sub, nl_ss, nl_lt, nl_llt, nl_ltt, nl_le, nl_lle, nl_lee, nl_eq, nl_leq, nl_ee, nl_div, nl_rem, nl_cl, nl_n1, nl_n2, nl_n3, nl_n4, nl_add, nl_ladd, nl_aa, nl_mul, nl_rmul, nl_mm, pu_wi_1, pu_wi_2, bX12_mayHave_215, bX12_mayHave_325, bX12_mayHave_347, bX12_mayHave_348, bX12_mayHave_319, bX12_mayHave_259, bX12_mayHave_276, a_ai, a_ald, a_cs, a_cv, a_dup, a_gi, a_gr, a_iadd, a_icge, a_icle, a_ifeq, a_ifne, a_ild, a_imul, a_inc, a_ist, a_pi, a_push, a_zret, fx_71_0 hx, sh_71, sh_72, pu_rv, pu_as, Value.category, pu_bk, pu_kl, pu_qe0, pu_qe1, h6, hc, i3, u3, e1, e2, e3, e4, e5, f11, f12, f11', f12', v22, ws]
      all_goals try simp [bX12_mayHave_215, bX12_mayHave_325, bX12_mayHave_347, bX12_mayHave_348, bX12_mayHave_319, bX12_mayHave_259, bX12_mayHave_276, a_ai, a_ald, a_cs, a_cv, a_dup, a_gi, a_gr, a_iadd, a_icge, a_icle, a_ifeq, a_ifne, a_ild, a_imul, a_inc, a_ist, a_pi, a_push, a_zret, fx_71_0 hx, sh_71, sh_72, pu_rv, pu_as, Value.category, pu_bk, pu_kl, List.replicate, pu_wi_1, pu_wi_2, nl_add, nl_ladd, nl_aa, nl_mul, nl_rmul, nl_mm, pu_qe0, pu_qe1, h6, hc, i3, u3, e1, e2, e3, e4, e5, f11, f12, f11', f12', v22, ws]
    · refine SK (some (.int th)) (fun z => f1 ⟨(lt _ _).mpr (by rw [ea]; exact z.2.2.2.1), (lt _ _).mpr (by rw [ea]; exact z.2.2.2.2)⟩) ?_
      have hx := hx2
      generalize pu_wi M 71 22 (nI g) = N at *
      generalize I 27 st = r27 at *
      generalize I 40 (pu_sl0 I i) = v40 at *
      generalize I 41 (pu_sl0 I i) = v41 at *
      by_cases g1 : be < th
      · have g1' := Int32.not_le.mpr g1
        have g2 : ¬ th < ah := fun z => f1 ⟨g1, z⟩
        have g2' := Int32.not_lt.mp g2
        rw [qX12_mayHave_215]
        simp [bX12_mayHave_215, bX12_mayHave_325, bX12_mayHave_347, bX12_mayHave_348, bX12_mayHave_319, bX12_mayHave_259, bX12_mayHave_276, a_ai, a_ald, a_cs, a_cv, a_dup, a_gi, a_gr, a_iadd, a_icge, a_icle, a_ifeq, a_ifne, a_ild, a_imul, a_inc, a_ist, a_pi, a_push, a_zret, fx_71_0 hx, sh_71, sh_72, pu_rv, pu_as, Value.category, pu_bk, pu_kl, List.replicate, pu_wi_1, pu_wi_2, nl_add, nl_ladd, nl_aa, nl_mul, nl_rmul, nl_mm, pu_qe0, pu_qe1, h6, hc, i3, u3, e1, e2, e3, e4, e5, g1, g1', g2, g2']
        all_goals try simp (maxSteps := 400000) (disch := omega) [nl_tle, nl_fle, nl_tlt, nl_flt, nl_teq, nl_feq, nl_sub, nl_ss, nl_lt, nl_llt, nl_ltt, nl_le, nl_lle, nl_lee, nl_eq, nl_leq, nl_ee, nl_div, nl_rem, nl_cl, nl_n1, nl_n2, nl_n3, nl_n4, nl_add, nl_ladd, nl_aa, nl_mul, nl_rmul, nl_mm, pu_wi_1, pu_wi_2, bX12_mayHave_215, bX12_mayHave_325, bX12_mayHave_347, bX12_mayHave_348, bX12_mayHave_319, bX12_mayHave_259, bX12_mayHave_276, a_ai, a_ald, a_cs, a_cv, a_dup, a_gi, a_gr, a_iadd, a_icge, a_icle, a_ifeq, a_ifne, a_ild, a_imul, a_inc, a_ist, a_pi, a_push, a_zret, fx_71_0 hx, sh_71, sh_72, pu_rv, pu_as, Value.category, pu_bk, pu_kl, pu_qe0, pu_qe1, h6, hc, i3, u3, e1, e2, e3, e4, e5, g1, g1', g2, g2']
        all_goals try simp [bX12_mayHave_215, bX12_mayHave_325, bX12_mayHave_347, bX12_mayHave_348, bX12_mayHave_319, bX12_mayHave_259, bX12_mayHave_276, a_ai, a_ald, a_cs, a_cv, a_dup, a_gi, a_gr, a_iadd, a_icge, a_icle, a_ifeq, a_ifne, a_ild, a_imul, a_inc, a_ist, a_pi, a_push, a_zret, fx_71_0 hx, sh_71, sh_72, pu_rv, pu_as, Value.category, pu_bk, pu_kl, List.replicate, pu_wi_1, pu_wi_2, nl_add, nl_ladd, nl_aa, nl_mul, nl_rmul, nl_mm, pu_qe0, pu_qe1, h6, hc, i3, u3, e1, e2, e3, e4, e5, g1, g1', g2, g2']
        all_goals try simp (maxSteps := 400000) (disch := omega) [nl_tle, nl_fle, nl_tlt, nl_flt, nl_teq, nl_feq, nl_sub, nl_ss, nl_lt, nl_llt, nl_ltt, nl_le, nl_lle, nl_lee, nl_eq, nl_leq, nl_ee, nl_div, nl_rem, nl_cl, nl_n1, nl_n2, nl_n3, nl_n4, nl_add, nl_ladd, nl_aa, nl_mul, nl_rmul, nl_mm, pu_wi_1, pu_wi_2, bX12_mayHave_215, bX12_mayHave_325, bX12_mayHave_347, bX12_mayHave_348, bX12_mayHave_319, bX12_mayHave_259, bX12_mayHave_276, a_ai, a_ald, a_cs, a_cv, a_dup, a_gi, a_gr, a_iadd, a_icge, a_icle, a_ifeq, a_ifne, a_ild, a_imul, a_inc, a_ist, a_pi, a_push, a_zret, fx_71_0 hx, sh_71, sh_72, pu_rv, pu_as, Value.category, pu_bk, pu_kl, pu_qe0, pu_qe1, h6, hc, i3, u3, e1, e2, e3, e4, e5, g1, g1', g2, g2']
        all_goals try simp [bX12_mayHave_215, bX12_mayHave_325, bX12_mayHave_347, bX12_mayHave_348, bX12_mayHave_319, bX12_mayHave_259, bX12_mayHave_276, a_ai, a_ald, a_cs, a_cv, a_dup, a_gi, a_gr, a_iadd, a_icge, a_icle, a_ifeq, a_ifne, a_ild, a_imul, a_inc, a_ist, a_pi, a_push, a_zret, fx_71_0 hx, sh_71, sh_72, pu_rv, pu_as, Value.category, pu_bk, pu_kl, List.replicate, pu_wi_1, pu_wi_2, nl_add, nl_ladd, nl_aa, nl_mul, nl_rmul, nl_mm, pu_qe0, pu_qe1, h6, hc, i3, u3, e1, e2, e3, e4, e5, g1, g1', g2, g2']
        all_goals try simp (maxSteps := 400000) (disch := omega) [nl_tle, nl_fle, nl_tlt, nl_flt, nl_teq, nl_feq, nl_sub, nl_ss, nl_lt, nl_llt, nl_ltt, nl_le, nl_lle, nl_lee, nl_eq, nl_leq, nl_ee, nl_div, nl_rem, nl_cl, nl_n1, nl_n2, nl_n3, nl_n4, nl_add, nl_ladd, nl_aa, nl_mul, nl_rmul, nl_mm, pu_wi_1, pu_wi_2, bX12_mayHave_215, bX12_mayHave_325, bX12_mayHave_347, bX12_mayHave_348, bX12_mayHave_319, bX12_mayHave_259, bX12_mayHave_276, a_ai, a_ald, a_cs, a_cv, a_dup, a_gi, a_gr, a_iadd, a_icge, a_icle, a_ifeq, a_ifne, a_ild, a_imul, a_inc, a_ist, a_pi, a_push, a_zret, fx_71_0 hx, sh_71, sh_72, pu_rv, pu_as, Value.category, pu_bk, pu_kl, pu_qe0, pu_qe1, h6, hc, i3, u3, e1, e2, e3, e4, e5, g1, g1', g2, g2']
        all_goals try simp [bX12_mayHave_215, bX12_mayHave_325, bX12_mayHave_347, bX12_mayHave_348, bX12_mayHave_319, bX12_mayHave_259, bX12_mayHave_276, a_ai, a_ald, a_cs, a_cv, a_dup, a_gi, a_gr, a_iadd, a_icge, a_icle, a_ifeq, a_ifne, a_ild, a_imul, a_inc, a_ist, a_pi, a_push, a_zret, fx_71_0 hx, sh_71, sh_72, pu_rv, pu_as, Value.category, pu_bk, pu_kl, List.replicate, pu_wi_1, pu_wi_2, nl_add, nl_ladd, nl_aa, nl_mul, nl_rmul, nl_mm, pu_qe0, pu_qe1, h6, hc, i3, u3, e1, e2, e3, e4, e5, g1, g1', g2, g2']
      · have g1' := Int32.not_lt.mp g1
        rw [qX12_mayHave_215]
        simp [bX12_mayHave_215, bX12_mayHave_325, bX12_mayHave_347, bX12_mayHave_348, bX12_mayHave_319, bX12_mayHave_259, bX12_mayHave_276, a_ai, a_ald, a_cs, a_cv, a_dup, a_gi, a_gr, a_iadd, a_icge, a_icle, a_ifeq, a_ifne, a_ild, a_imul, a_inc, a_ist, a_pi, a_push, a_zret, fx_71_0 hx, sh_71, sh_72, pu_rv, pu_as, Value.category, pu_bk, pu_kl, List.replicate, pu_wi_1, pu_wi_2, nl_add, nl_ladd, nl_aa, nl_mul, nl_rmul, nl_mm, pu_qe0, pu_qe1, h6, hc, i3, u3, e1, e2, e3, e4, e5, g1, g1']
        all_goals try simp (maxSteps := 400000) (disch := omega) [nl_tle, nl_fle, nl_tlt, nl_flt, nl_teq, nl_feq, nl_sub, nl_ss, nl_lt, nl_llt, nl_ltt, nl_le, nl_lle, nl_lee, nl_eq, nl_leq, nl_ee, nl_div, nl_rem, nl_cl, nl_n1, nl_n2, nl_n3, nl_n4, nl_add, nl_ladd, nl_aa, nl_mul, nl_rmul, nl_mm, pu_wi_1, pu_wi_2, bX12_mayHave_215, bX12_mayHave_325, bX12_mayHave_347, bX12_mayHave_348, bX12_mayHave_319, bX12_mayHave_259, bX12_mayHave_276, a_ai, a_ald, a_cs, a_cv, a_dup, a_gi, a_gr, a_iadd, a_icge, a_icle, a_ifeq, a_ifne, a_ild, a_imul, a_inc, a_ist, a_pi, a_push, a_zret, fx_71_0 hx, sh_71, sh_72, pu_rv, pu_as, Value.category, pu_bk, pu_kl, pu_qe0, pu_qe1, h6, hc, i3, u3, e1, e2, e3, e4, e5, g1, g1']
        all_goals try simp [bX12_mayHave_215, bX12_mayHave_325, bX12_mayHave_347, bX12_mayHave_348, bX12_mayHave_319, bX12_mayHave_259, bX12_mayHave_276, a_ai, a_ald, a_cs, a_cv, a_dup, a_gi, a_gr, a_iadd, a_icge, a_icle, a_ifeq, a_ifne, a_ild, a_imul, a_inc, a_ist, a_pi, a_push, a_zret, fx_71_0 hx, sh_71, sh_72, pu_rv, pu_as, Value.category, pu_bk, pu_kl, List.replicate, pu_wi_1, pu_wi_2, nl_add, nl_ladd, nl_aa, nl_mul, nl_rmul, nl_mm, pu_qe0, pu_qe1, h6, hc, i3, u3, e1, e2, e3, e4, e5, g1, g1']
        all_goals try simp (maxSteps := 400000) (disch := omega) [nl_tle, nl_fle, nl_tlt, nl_flt, nl_teq, nl_feq, nl_sub, nl_ss, nl_lt, nl_llt, nl_ltt, nl_le, nl_lle, nl_lee, nl_eq, nl_leq, nl_ee, nl_div, nl_rem, nl_cl, nl_n1, nl_n2, nl_n3, nl_n4, nl_add, nl_ladd, nl_aa, nl_mul, nl_rmul, nl_mm, pu_wi_1, pu_wi_2, bX12_mayHave_215, bX12_mayHave_325, bX12_mayHave_347, bX12_mayHave_348, bX12_mayHave_319, bX12_mayHave_259, bX12_mayHave_276, a_ai, a_ald, a_cs, a_cv, a_dup, a_gi, a_gr, a_iadd, a_icge, a_icle, a_ifeq, a_ifne, a_ild, a_imul, a_inc, a_ist, a_pi, a_push, a_zret, fx_71_0 hx, sh_71, sh_72, pu_rv, pu_as, Value.category, pu_bk, pu_kl, pu_qe0, pu_qe1, h6, hc, i3, u3, e1, e2, e3, e4, e5, g1, g1']
        all_goals try simp [bX12_mayHave_215, bX12_mayHave_325, bX12_mayHave_347, bX12_mayHave_348, bX12_mayHave_319, bX12_mayHave_259, bX12_mayHave_276, a_ai, a_ald, a_cs, a_cv, a_dup, a_gi, a_gr, a_iadd, a_icge, a_icle, a_ifeq, a_ifne, a_ild, a_imul, a_inc, a_ist, a_pi, a_push, a_zret, fx_71_0 hx, sh_71, sh_72, pu_rv, pu_as, Value.category, pu_bk, pu_kl, List.replicate, pu_wi_1, pu_wi_2, nl_add, nl_ladd, nl_aa, nl_mul, nl_rmul, nl_mm, pu_qe0, pu_qe1, h6, hc, i3, u3, e1, e2, e3, e4, e5, g1, g1']
        all_goals try simp (maxSteps := 400000) (disch := omega) [nl_tle, nl_fle, nl_tlt, nl_flt, nl_teq, nl_feq, nl_sub, nl_ss, nl_lt, nl_llt, nl_ltt, nl_le, nl_lle, nl_lee, nl_eq, nl_leq, nl_ee, nl_div, nl_rem, nl_cl, nl_n1, nl_n2, nl_n3, nl_n4, nl_add, nl_ladd, nl_aa, nl_mul, nl_rmul, nl_mm, pu_wi_1, pu_wi_2, bX12_mayHave_215, bX12_mayHave_325, bX12_mayHave_347, bX12_mayHave_348, bX12_mayHave_319, bX12_mayHave_259, bX12_mayHave_276, a_ai, a_ald, a_cs, a_cv, a_dup, a_gi, a_gr, a_iadd, a_icge, a_icle, a_ifeq, a_ifne, a_ild, a_imul, a_inc, a_ist, a_pi, a_push, a_zret, fx_71_0 hx, sh_71, sh_72, pu_rv, pu_as, Value.category, pu_bk, pu_kl, pu_qe0, pu_qe1, h6, hc, i3, u3, e1, e2, e3, e4, e5, g1, g1']
        all_goals try simp [bX12_mayHave_215, bX12_mayHave_325, bX12_mayHave_347, bX12_mayHave_348, bX12_mayHave_319, bX12_mayHave_259, bX12_mayHave_276, a_ai, a_ald, a_cs, a_cv, a_dup, a_gi, a_gr, a_iadd, a_icge, a_icle, a_ifeq, a_ifne, a_ild, a_imul, a_inc, a_ist, a_pi, a_push, a_zret, fx_71_0 hx, sh_71, sh_72, pu_rv, pu_as, Value.category, pu_bk, pu_kl, List.replicate, pu_wi_1, pu_wi_2, nl_add, nl_ladd, nl_aa, nl_mul, nl_rmul, nl_mm, pu_qe0, pu_qe1, h6, hc, i3, u3, e1, e2, e3, e4, e5, g1, g1']
/-- could span k have the number w -/
def py_may (I : Nat → Nat → Int32) (st w : Nat) (y : Int32) (k : Nat) (be ah : Int) : Prop := (I 27 st = 0 → w / 16 % 2 + (I 40 (pu_sl0 I k)).toNatClampNeg = 1) ∧ ∃ lo hh : Int32, py_lo I st y (I 40 (pu_sl0 I k)).toInt (pz_ak I st k) (cU I) be lo ∧ py_hi I st y (I 40 (pu_sl0 I k)).toInt (pz_ak I st k) (cU I) ah hh ∧ lo < nI w ∧ nI w < hh
theorem r_mayHave (hx : pu_fx M) (hr : pu_Rel I L (M.1 72)) (hw : pu_WF I L) (st w : Nat) (hst : st < cK I) (hwl : w < 160000) (hy : ¬ y < 0) (h17 : M.1 71 17 = nI w) (k : Nat) (hk : k < cU I) (h39 : I 39 (pu_sl0 I k) = nI st) (hsh : pu_sh1 I y k) : (pu_r 322 [some (.ref 71), some (.int (nI k)), some (.int (nI st)), some (.int y)] [] M = some (some (.int 0), M) ∧ ∀ be ah, ¬ py_may I st w y k be ah) ∨ ∃ be ah : Int, ∃ lo hh : Int32, py_lo I st y (I 40 (pu_sl0 I k)).toInt (pz_ak I st k) (cU I) be lo ∧ py_hi I st y (I 40 (pu_sl0 I k)).toInt (pz_ak I st k) (cU I) ah hh ∧ pu_r 322 [some (.ref 71), some (.int (nI k)), some (.int (nI st)), some (.int y)] [] M = some (some (.int (pu_q (py_may I st w y k be ah))), pu_wi M 71 22 (nI (py_cnt (py_gc I st y (I 40 (pu_sl0 I k)).toInt be ah) (cU I) 0))) := by
  have bU := wx_bU hw
  have bK := wx_bK hw
  have hstL : st < 2147483648 := by omega
  have tn : pu_tn I y k := by rw [py_tn_e hy]; exact hsh
  have pl := py_pl0 hw hstL hk h39 tn
  have e2 := r_sideOf hx hr hw k hk
  have e3 := r_pacesOf hx hr hw k hk
  have e5 := r_along (I 27 st) (I 40 (pu_sl0 I k)) (I 41 (pu_sl0 I k)) M
  have ea : (pz_alx (I 27 st) (I 40 (pu_sl0 I k)) (I 41 (pu_sl0 I k))).toInt = pz_ak I st k := pz_al_e pl.1 pl.2.1 pl.2.2.1 pl.2.2.2
  have r0 := rl_k0 hr st hst
  obtain ⟨s, s2, hs⟩ : ∃ s, s < 2 ∧ I 40 (pu_sl0 I k) = nI s := by
    have := pu_on (x := I 40 (pu_sl0 I k)) (n := 2) ⟨pl.1, by omega⟩
    exact ⟨_, this.2, this.1⟩
  have scl : (I 40 (pu_sl0 I k)).toNatClampNeg = s := by rw [hs, nl_cl _ (by omega)]
  obtain ⟨be, ah, lo, hh, u12, u13, x1, x2, x3⟩ := r_may_l hx hr hw st hst hy (nI k) (I 40 (pu_sl0 I k)) (pz_alx (I 27 st) (I 40 (pu_sl0 I k)) (I 41 (pu_sl0 I k))) (cU I) 0 (-1) 1000000 0 160000 none none (by omega) (Or.inl ⟨by decide, rfl, fun k _ q => by omega⟩) (Or.inl ⟨by decide, rfl, fun k _ q => by omega⟩)
  have x4 := r_may2_l hx hr hw st w hst hy h17 (nI k) (I 40 (pu_sl0 I k)) (pz_alx (I 27 st) (I 40 (pu_sl0 I k)) (I 41 (pu_sl0 I k))) be ah lo hh u13 (cU I) 0 0 u12 (by omega)
  rw [ea] at x1 x2
  rw [nI_0, Nat.zero_add] at x4
  rw [nI_0] at x3
  by_cases c : I 27 st = 0 ∧ ¬ w / 16 % 2 + s = 1
  · refine Or.inl ⟨?_, fun be ah z => c.2 (by rw [← scl]; exact z.1 c.1)⟩
    have c1 := c.1
    have q1 : w / 16 % 2 < 2 := Nat.mod_lt _ (by omega)
    have q2 : ¬ w / 16 % 2 = 1 - s := by omega
    have q3 : ¬ nI (w / 16 % 2) = nI (1 - s) := fun z => by rw [nI_eq (by omega) (by omega)] at z; exact q2 z
    rw [hs] at e2
    rw [c1] at r0
    have q4 : (1 : Int32) - nI s = nI (1 - s) := by rw [show (1 : Int32) = nI 1 from rfl]; exact pk_sub (by omega)
    rw [qX12_mayHave]
    simp [a_ent, bX12_mayHave_0, bX12_mayHave_41, a_ai, a_ald, a_cv, a_gi, a_gr, a_iadd, a_iceq, a_idiv, a_ifne, a_ild, a_irem, a_ist, a_isub, a_push, a_zret, fx_71_0 hx, sh_71, sh_72, pu_rv, pu_as, Value.category, pu_bk, pu_kl, List.replicate, pu_wi_1, pu_wi_2, nl_add, nl_ladd, nl_aa, nl_mul, nl_rmul, nl_mm, pu_qe0, pu_qe1, r0, e2, h17, q3, q4, q2]
    all_goals try simp (maxSteps := 400000) (disch := omega) [nl_tle, nl_fle, nl_tlt, nl_flt, nl_teq, nl_feq, nl_sub, nl_ss, nl_lt, nl_llt, nl_ltt, nl_le, nl_lle, nl_lee, nl_eq, nl_leq, nl_ee, nl_div, nl_rem, nl_cl, nl_n1, nl_n2, nl_n3, nl_n4, nl_add, nl_ladd, nl_aa, nl_mul, nl_rmul, nl_mm, pu_wi_1, pu_wi_2, bX12_mayHave_0, bX12_mayHave_41, a_ai, a_ald, a_cv, a_gi, a_gr, a_iadd, a_iceq, a_idiv, a_ifne, a_ild, a_irem, a_ist, a_isub, a_push, a_zret, fx_71_0 hx, sh_71, sh_72, pu_rv, pu_as, Value.category, pu_bk, pu_kl, pu_qe0, pu_qe1, r0, e2, h17, q3, q4, q2]
    all_goals try simp [bX12_mayHave_0, bX12_mayHave_41, a_ai, a_ald, a_cv, a_gi, a_gr, a_iadd, a_iceq, a_idiv, a_ifne, a_ild, a_irem, a_ist, a_isub, a_push, a_zret, fx_71_0 hx, sh_71, sh_72, pu_rv, pu_as, Value.category, pu_bk, pu_kl, List.replicate, pu_wi_1, pu_wi_2, nl_add, nl_ladd, nl_aa, nl_mul, nl_rmul, nl_mm, pu_qe0, pu_qe1, r0, e2, h17, q3, q4, q2]
    all_goals try simp (maxSteps := 400000) (disch := omega) [nl_tle, nl_fle, nl_tlt, nl_flt, nl_teq, nl_feq, nl_sub, nl_ss, nl_lt, nl_llt, nl_ltt, nl_le, nl_lle, nl_lee, nl_eq, nl_leq, nl_ee, nl_div, nl_rem, nl_cl, nl_n1, nl_n2, nl_n3, nl_n4, nl_add, nl_ladd, nl_aa, nl_mul, nl_rmul, nl_mm, pu_wi_1, pu_wi_2, bX12_mayHave_0, bX12_mayHave_41, a_ai, a_ald, a_cv, a_gi, a_gr, a_iadd, a_iceq, a_idiv, a_ifne, a_ild, a_irem, a_ist, a_isub, a_push, a_zret, fx_71_0 hx, sh_71, sh_72, pu_rv, pu_as, Value.category, pu_bk, pu_kl, pu_qe0, pu_qe1, r0, e2, h17, q3, q4, q2]
    all_goals try simp [bX12_mayHave_0, bX12_mayHave_41, a_ai, a_ald, a_cv, a_gi, a_gr, a_iadd, a_iceq, a_idiv, a_ifne, a_ild, a_irem, a_ist, a_isub, a_push, a_zret, fx_71_0 hx, sh_71, sh_72, pu_rv, pu_as, Value.category, pu_bk, pu_kl, List.replicate, pu_wi_1, pu_wi_2, nl_add, nl_ladd, nl_aa, nl_mul, nl_rmul, nl_mm, pu_qe0, pu_qe1, r0, e2, h17, q3, q4, q2]
    all_goals try simp (maxSteps := 400000) (disch := omega) [nl_tle, nl_fle, nl_tlt, nl_flt, nl_teq, nl_feq, nl_sub, nl_ss, nl_lt, nl_llt, nl_ltt, nl_le, nl_lle, nl_lee, nl_eq, nl_leq, nl_ee, nl_div, nl_rem, nl_cl, nl_n1, nl_n2, nl_n3, nl_n4, nl_add, nl_ladd, nl_aa, nl_mul, nl_rmul, nl_mm, pu_wi_1, pu_wi_2, bX12_mayHave_0, bX12_mayHave_41, a_ai, a_ald, a_cv, a_gi, a_gr, a_iadd, a_iceq, a_idiv, a_ifne, a_ild, a_irem, a_ist, a_isub, a_push, a_zret, fx_71_0 hx, sh_71, sh_72, pu_rv, pu_as, Value.category, pu_bk, pu_kl, pu_qe0, pu_qe1, r0, e2, h17, q3, q4, q2]
    all_goals try simp [bX12_mayHave_0, bX12_mayHave_41, a_ai, a_ald, a_cv, a_gi, a_gr, a_iadd, a_iceq, a_idiv, a_ifne, a_ild, a_irem, a_ist, a_isub, a_push, a_zret, fx_71_0 hx, sh_71, sh_72, pu_rv, pu_as, Value.category, pu_bk, pu_kl, List.replicate, pu_wi_1, pu_wi_2, nl_add, nl_ladd, nl_aa, nl_mul, nl_rmul, nl_mm, pu_qe0, pu_qe1, r0, e2, h17, q3, q4, q2]
  · refine Or.inr ⟨be.toInt, ah.toInt, lo, hh, x1, x2, ?_⟩
    have PM : py_may I st w y k be.toInt ah.toInt ↔ (lo < nI w ∧ nI w < hh) := by
      constructor
      · rintro ⟨_, l2, h2, g1, g2, g3, g4⟩
        rw [(py_lo_un hw hstL x1 g1).2, (py_hi_un hw hstL x2 g2).2]
        exact ⟨g3, g4⟩
      · rintro ⟨g3, g4⟩
        refine ⟨fun z => Classical.byContradiction (fun q => c ⟨z, by rw [← scl]; exact q⟩), lo, hh, x1, x2, g3, g4⟩
    rw [propext PM]
    refine Eq.trans ?_ x4
    have K : pu_r 322 [some (.ref 71), some (.int (nI k)), some (.int (nI st)), some (.int y)] [] M = kX12_mayHave_42 pu_r [some (.ref 71), some (.int (nI k)), some (.int (nI st)), some (.int y), some (.int (I 27 st)), some (.int (I 40 (pu_sl0 I k))), none, none, none, none, none, none, none, none] [] M := by
      by_cases c1 : I 27 st = 0
      · have q0 : w / 16 % 2 + s = 1 := Classical.byContradiction (fun q => c ⟨c1, q⟩)
        have q2 : w / 16 % 2 = 1 - s := by omega
        have q4 : (1 : Int32) - nI s = nI (1 - s) := by rw [show (1 : Int32) = nI 1 from rfl]; exact pk_sub (by omega)
        rw [hs] at e2
        rw [hs, c1]
        rw [c1] at r0
        rw [qX12_mayHave]
        simp [a_ent, bX12_mayHave_0, bX12_mayHave_41, a_ai, a_ald, a_cv, a_gi, a_gr, a_iadd, a_iceq, a_idiv, a_ifne, a_ild, a_irem, a_ist, a_isub, a_push, a_zret, fx_71_0 hx, sh_71, sh_72, pu_rv, pu_as, Value.category, pu_bk, pu_kl, List.replicate, pu_wi_1, pu_wi_2, nl_add, nl_ladd, nl_aa, nl_mul, nl_rmul, nl_mm, pu_qe0, pu_qe1, r0, e2, h17, q4, q2]
        all_goals try simp (maxSteps := 400000) (disch := omega) [nl_tle, nl_fle, nl_tlt, nl_flt, nl_teq, nl_feq, nl_sub, nl_ss, nl_lt, nl_llt, nl_ltt, nl_le, nl_lle, nl_lee, nl_eq, nl_leq, nl_ee, nl_div, nl_rem, nl_cl, nl_n1, nl_n2, nl_n3, nl_n4, nl_add, nl_ladd, nl_aa, nl_mul, nl_rmul, nl_mm, pu_wi_1, pu_wi_2, bX12_mayHave_0, bX12_mayHave_41, a_ai, a_ald, a_cv, a_gi, a_gr, a_iadd, a_iceq, a_idiv, a_ifne, a_ild, a_irem, a_ist, a_isub, a_push, a_zret, fx_71_0 hx, sh_71, sh_72, pu_rv, pu_as, Value.category, pu_bk, pu_kl, pu_qe0, pu_qe1, r0, e2, h17, q4, q2]
        all_goals try simp [bX12_mayHave_0, bX12_mayHave_41, a_ai, a_ald, a_cv, a_gi, a_gr, a_iadd, a_iceq, a_idiv, a_ifne, a_ild, a_irem, a_ist, a_isub, a_push, a_zret, fx_71_0 hx, sh_71, sh_72, pu_rv, pu_as, Value.category, pu_bk, pu_kl, List.replicate, pu_wi_1, pu_wi_2, nl_add, nl_ladd, nl_aa, nl_mul, nl_rmul, nl_mm, pu_qe0, pu_qe1, r0, e2, h17, q4, q2]
        all_goals try simp (maxSteps := 400000) (disch := omega) [nl_tle, nl_fle, nl_tlt, nl_flt, nl_teq, nl_feq, nl_sub, nl_ss, nl_lt, nl_llt, nl_ltt, nl_le, nl_lle, nl_lee, nl_eq, nl_leq, nl_ee, nl_div, nl_rem, nl_cl, nl_n1, nl_n2, nl_n3, nl_n4, nl_add, nl_ladd, nl_aa, nl_mul, nl_rmul, nl_mm, pu_wi_1, pu_wi_2, bX12_mayHave_0, bX12_mayHave_41, a_ai, a_ald, a_cv, a_gi, a_gr, a_iadd, a_iceq, a_idiv, a_ifne, a_ild, a_irem, a_ist, a_isub, a_push, a_zret, fx_71_0 hx, sh_71, sh_72, pu_rv, pu_as, Value.category, pu_bk, pu_kl, pu_qe0, pu_qe1, r0, e2, h17, q4, q2]
        all_goals try simp [bX12_mayHave_0, bX12_mayHave_41, a_ai, a_ald, a_cv, a_gi, a_gr, a_iadd, a_iceq, a_idiv, a_ifne, a_ild, a_irem, a_ist, a_isub, a_push, a_zret, fx_71_0 hx, sh_71, sh_72, pu_rv, pu_as, Value.category, pu_bk, pu_kl, List.replicate, pu_wi_1, pu_wi_2, nl_add, nl_ladd, nl_aa, nl_mul, nl_rmul, nl_mm, pu_qe0, pu_qe1, r0, e2, h17, q4, q2]
        all_goals try simp (maxSteps := 400000) (disch := omega) [nl_tle, nl_fle, nl_tlt, nl_flt, nl_teq, nl_feq, nl_sub, nl_ss, nl_lt, nl_llt, nl_ltt, nl_le, nl_lle, nl_lee, nl_eq, nl_leq, nl_ee, nl_div, nl_rem, nl_cl, nl_n1, nl_n2, nl_n3, nl_n4, nl_add, nl_ladd, nl_aa, nl_mul, nl_rmul, nl_mm, pu_wi_1, pu_wi_2, bX12_mayHave_0, bX12_mayHave_41, a_ai, a_ald, a_cv, a_gi, a_gr, a_iadd, a_iceq, a_idiv, a_ifne, a_ild, a_irem, a_ist, a_isub, a_push, a_zret, fx_71_0 hx, sh_71, sh_72, pu_rv, pu_as, Value.category, pu_bk, pu_kl, pu_qe0, pu_qe1, r0, e2, h17, q4, q2]
        all_goals try simp [bX12_mayHave_0, bX12_mayHave_41, a_ai, a_ald, a_cv, a_gi, a_gr, a_iadd, a_iceq, a_idiv, a_ifne, a_ild, a_irem, a_ist, a_isub, a_push, a_zret, fx_71_0 hx, sh_71, sh_72, pu_rv, pu_as, Value.category, pu_bk, pu_kl, List.replicate, pu_wi_1, pu_wi_2, nl_add, nl_ladd, nl_aa, nl_mul, nl_rmul, nl_mm, pu_qe0, pu_qe1, r0, e2, h17, q4, q2]
      · generalize I 27 st = r27 at *
        generalize I 40 (pu_sl0 I k) = v40 at *
        rw [qX12_mayHave]
        simp [a_ent, bX12_mayHave_0, bX12_mayHave_41, a_ai, a_ald, a_cv, a_gi, a_gr, a_iadd, a_iceq, a_idiv, a_ifne, a_ild, a_irem, a_ist, a_isub, a_push, a_zret, fx_71_0 hx, sh_71, sh_72, pu_rv, pu_as, Value.category, pu_bk, pu_kl, List.replicate, pu_wi_1, pu_wi_2, nl_add, nl_ladd, nl_aa, nl_mul, nl_rmul, nl_mm, pu_qe0, pu_qe1, r0, e2, c1]
        all_goals try simp (maxSteps := 400000) (disch := omega) [nl_tle, nl_fle, nl_tlt, nl_flt, nl_teq, nl_feq, nl_sub, nl_ss, nl_lt, nl_llt, nl_ltt, nl_le, nl_lle, nl_lee, nl_eq, nl_leq, nl_ee, nl_div, nl_rem, nl_cl, nl_n1, nl_n2, nl_n3, nl_n4, nl_add, nl_ladd, nl_aa, nl_mul, nl_rmul, nl_mm, pu_wi_1, pu_wi_2, bX12_mayHave_0, bX12_mayHave_41, a_ai, a_ald, a_cv, a_gi, a_gr, a_iadd, a_iceq, a_idiv, a_ifne, a_ild, a_irem, a_ist, a_isub, a_push, a_zret, fx_71_0 hx, sh_71, sh_72, pu_rv, pu_as, Value.category, pu_bk, pu_kl, pu_qe0, pu_qe1, r0, e2, c1]
        all_goals try simp [bX12_mayHave_0, bX12_mayHave_41, a_ai, a_ald, a_cv, a_gi, a_gr, a_iadd, a_iceq, a_idiv, a_ifne, a_ild, a_irem, a_ist, a_isub, a_push, a_zret, fx_71_0 hx, sh_71, sh_72, pu_rv, pu_as, Value.category, pu_bk, pu_kl, List.replicate, pu_wi_1, pu_wi_2, nl_add, nl_ladd, nl_aa, nl_mul, nl_rmul, nl_mm, pu_qe0, pu_qe1, r0, e2, c1]
        all_goals try simp (maxSteps := 400000) (disch := omega) [nl_tle, nl_fle, nl_tlt, nl_flt, nl_teq, nl_feq, nl_sub, nl_ss, nl_lt, nl_llt, nl_ltt, nl_le, nl_lle, nl_lee, nl_eq, nl_leq, nl_ee, nl_div, nl_rem, nl_cl, nl_n1, nl_n2, nl_n3, nl_n4, nl_add, nl_ladd, nl_aa, nl_mul, nl_rmul, nl_mm, pu_wi_1, pu_wi_2, bX12_mayHave_0, bX12_mayHave_41, a_ai, a_ald, a_cv, a_gi, a_gr, a_iadd, a_iceq, a_idiv, a_ifne, a_ild, a_irem, a_ist, a_isub, a_push, a_zret, fx_71_0 hx, sh_71, sh_72, pu_rv, pu_as, Value.category, pu_bk, pu_kl, pu_qe0, pu_qe1, r0, e2, c1]
        all_goals try simp [bX12_mayHave_0, bX12_mayHave_41, a_ai, a_ald, a_cv, a_gi, a_gr, a_iadd, a_iceq, a_idiv, a_ifne, a_ild, a_irem, a_ist, a_isub, a_push, a_zret, fx_71_0 hx, sh_71, sh_72, pu_rv, pu_as, Value.category, pu_bk, pu_kl, List.replicate, pu_wi_1, pu_wi_2, nl_add, nl_ladd, nl_aa, nl_mul, nl_rmul, nl_mm, pu_qe0, pu_qe1, r0, e2, c1]
        all_goals try simp (maxSteps := 400000) (disch := omega) [nl_tle, nl_fle, nl_tlt, nl_flt, nl_teq, nl_feq, nl_sub, nl_ss, nl_lt, nl_llt, nl_ltt, nl_le, nl_lle, nl_lee, nl_eq, nl_leq, nl_ee, nl_div, nl_rem, nl_cl, nl_n1, nl_n2, nl_n3, nl_n4, nl_add, nl_ladd, nl_aa, nl_mul, nl_rmul, nl_mm, pu_wi_1, pu_wi_2, bX12_mayHave_0, bX12_mayHave_41, a_ai, a_ald, a_cv, a_gi, a_gr, a_iadd, a_iceq, a_idiv, a_ifne, a_ild, a_irem, a_ist, a_isub, a_push, a_zret, fx_71_0 hx, sh_71, sh_72, pu_rv, pu_as, Value.category, pu_bk, pu_kl, pu_qe0, pu_qe1, r0, e2, c1]
        all_goals try simp [bX12_mayHave_0, bX12_mayHave_41, a_ai, a_ald, a_cv, a_gi, a_gr, a_iadd, a_iceq, a_idiv, a_ifne, a_ild, a_irem, a_ist, a_isub, a_push, a_zret, fx_71_0 hx, sh_71, sh_72, pu_rv, pu_as, Value.category, pu_bk, pu_kl, List.replicate, pu_wi_1, pu_wi_2, nl_add, nl_ladd, nl_aa, nl_mul, nl_rmul, nl_mm, pu_qe0, pu_qe1, r0, e2, c1]
    rw [K]
    have ws : pu_r 499 [some (.ref 71), some (.int (nI k)), some (.int (nI st)), some (.int y), some (.int (I 27 st)), some (.int (I 40 (pu_sl0 I k))), some (.int (pz_alx (I 27 st) (I 40 (pu_sl0 I k)) (I 41 (pu_sl0 I k)))), some (.int (-1)), some (.int 1000000), some (.int 0), some (.int 160000), some (.int 0), none, none] [] M = pu_r 500 [some (.ref 71), some (.int (nI k)), some (.int (nI st)), some (.int y), some (.int (I 27 st)), some (.int (I 40 (pu_sl0 I k))), some (.int (pz_alx (I 27 st) (I 40 (pu_sl0 I k)) (I 41 (pu_sl0 I k)))), some (.int be), some (.int ah), some (.int lo), some (.int hh), some (.int 0), u12, u13] [] (pu_wi M 71 22 0) := by
      rw [x3]
      generalize I 27 st = r27 at *
      generalize I 40 (pu_sl0 I k) = v40 at *
      generalize pz_alx r27 v40 (I 41 (pu_sl0 I k)) = th at *
      simp [bX12_mayHave_207, a_ald, a_ist, a_pi, a_push, sh_71, pu_rv, pu_as, Value.category, pu_bk, pu_kl, List.replicate, pu_wi_1, pu_wi_2, nl_add, nl_ladd, nl_aa, nl_mul, nl_rmul, nl_mm, pu_qe0, pu_qe1]
      all_goals try simp (maxSteps := 400000) (disch := omega) [nl_tle, nl_fle, nl_tlt, nl_flt, nl_teq, nl_feq, nl_sub, nl_ss, nl_lt, nl_llt, nl_ltt, nl_le, nl_lle, nl_lee, nl_eq, nl_leq, nl_ee, nl_div, nl_rem, nl_cl, nl_n1, nl_n2, nl_n3, nl_n4, nl_add, nl_ladd, nl_aa, nl_mul, nl_rmul, nl_mm, pu_wi_1, pu_wi_2, bX12_mayHave_207, a_ald, a_ist, a_pi, a_push, sh_71, pu_rv, pu_as, Value.category, pu_bk, pu_kl, pu_qe0, pu_qe1]
      all_goals try simp [bX12_mayHave_207, a_ald, a_ist, a_pi, a_push, sh_71, pu_rv, pu_as, Value.category, pu_bk, pu_kl, List.replicate, pu_wi_1, pu_wi_2, nl_add, nl_ladd, nl_aa, nl_mul, nl_rmul, nl_mm, pu_qe0, pu_qe1]
      all_goals try simp (maxSteps := 400000) (disch := omega) [nl_tle, nl_fle, nl_tlt, nl_flt, nl_teq, nl_feq, nl_sub, nl_ss, nl_lt, nl_llt, nl_ltt, nl_le, nl_lle, nl_lee, nl_eq, nl_leq, nl_ee, nl_div, nl_rem, nl_cl, nl_n1, nl_n2, nl_n3, nl_n4, nl_add, nl_ladd, nl_aa, nl_mul, nl_rmul, nl_mm, pu_wi_1, pu_wi_2, bX12_mayHave_207, a_ald, a_ist, a_pi, a_push, sh_71, pu_rv, pu_as, Value.category, pu_bk, pu_kl, pu_qe0, pu_qe1]
      all_goals try simp [bX12_mayHave_207, a_ald, a_ist, a_pi, a_push, sh_71, pu_rv, pu_as, Value.category, pu_bk, pu_kl, List.replicate, pu_wi_1, pu_wi_2, nl_add, nl_ladd, nl_aa, nl_mul, nl_rmul, nl_mm, pu_qe0, pu_qe1]
      all_goals try simp (maxSteps := 400000) (disch := omega) [nl_tle, nl_fle, nl_tlt, nl_flt, nl_teq, nl_feq, nl_sub, nl_ss, nl_lt, nl_llt, nl_ltt, nl_le, nl_lle, nl_lee, nl_eq, nl_leq, nl_ee, nl_div, nl_rem, nl_cl, nl_n1, nl_n2, nl_n3, nl_n4, nl_add, nl_ladd, nl_aa, nl_mul, nl_rmul, nl_mm, pu_wi_1, pu_wi_2, bX12_mayHave_207, a_ald, a_ist, a_pi, a_push, sh_71, pu_rv, pu_as, Value.category, pu_bk, pu_kl, pu_qe0, pu_qe1]
      all_goals try simp [bX12_mayHave_207, a_ald, a_ist, a_pi, a_push, sh_71, pu_rv, pu_as, Value.category, pu_bk, pu_kl, List.replicate, pu_wi_1, pu_wi_2, nl_add, nl_ladd, nl_aa, nl_mul, nl_rmul, nl_mm, pu_qe0, pu_qe1]
    rw [← ws]
    generalize I 27 st = r27 at *
    generalize I 40 (pu_sl0 I k) = v40 at *
    generalize I 41 (pu_sl0 I k) = v41 at *
    generalize pz_alx r27 v40 v41 = th at *
    simp [bX12_mayHave_42, a_ald, a_cs, a_cv, a_ild, a_ist, a_push, sh_71, pu_rv, pu_as, Value.category, pu_bk, pu_kl, List.replicate, pu_wi_1, pu_wi_2, nl_add, nl_ladd, nl_aa, nl_mul, nl_rmul, nl_mm, pu_qe0, pu_qe1, e3, e5]
    all_goals try simp (maxSteps := 400000) (disch := omega) [nl_tle, nl_fle, nl_tlt, nl_flt, nl_teq, nl_feq, nl_sub, nl_ss, nl_lt, nl_llt, nl_ltt, nl_le, nl_lle, nl_lee, nl_eq, nl_leq, nl_ee, nl_div, nl_rem, nl_cl, nl_n1, nl_n2, nl_n3, nl_n4, nl_add, nl_ladd, nl_aa, nl_mul, nl_rmul, nl_mm, pu_wi_1, pu_wi_2, bX12_mayHave_42, a_ald, a_cs, a_cv, a_ild, a_ist, a_push, sh_71, pu_rv, pu_as, Value.category, pu_bk, pu_kl, pu_qe0, pu_qe1, e3, e5]
    all_goals try simp [bX12_mayHave_42, a_ald, a_cs, a_cv, a_ild, a_ist, a_push, sh_71, pu_rv, pu_as, Value.category, pu_bk, pu_kl, List.replicate, pu_wi_1, pu_wi_2, nl_add, nl_ladd, nl_aa, nl_mul, nl_rmul, nl_mm, pu_qe0, pu_qe1, e3, e5]
    all_goals try simp (maxSteps := 400000) (disch := omega) [nl_tle, nl_fle, nl_tlt, nl_flt, nl_teq, nl_feq, nl_sub, nl_ss, nl_lt, nl_llt, nl_ltt, nl_le, nl_lle, nl_lee, nl_eq, nl_leq, nl_ee, nl_div, nl_rem, nl_cl, nl_n1, nl_n2, nl_n3, nl_n4, nl_add, nl_ladd, nl_aa, nl_mul, nl_rmul, nl_mm, pu_wi_1, pu_wi_2, bX12_mayHave_42, a_ald, a_cs, a_cv, a_ild, a_ist, a_push, sh_71, pu_rv, pu_as, Value.category, pu_bk, pu_kl, pu_qe0, pu_qe1, e3, e5]
    all_goals try simp [bX12_mayHave_42, a_ald, a_cs, a_cv, a_ild, a_ist, a_push, sh_71, pu_rv, pu_as, Value.category, pu_bk, pu_kl, List.replicate, pu_wi_1, pu_wi_2, nl_add, nl_ladd, nl_aa, nl_mul, nl_rmul, nl_mm, pu_qe0, pu_qe1, e3, e5]
    all_goals try simp (maxSteps := 400000) (disch := omega) [nl_tle, nl_fle, nl_tlt, nl_flt, nl_teq, nl_feq, nl_sub, nl_ss, nl_lt, nl_llt, nl_ltt, nl_le, nl_lle, nl_lee, nl_eq, nl_leq, nl_ee, nl_div, nl_rem, nl_cl, nl_n1, nl_n2, nl_n3, nl_n4, nl_add, nl_ladd, nl_aa, nl_mul, nl_rmul, nl_mm, pu_wi_1, pu_wi_2, bX12_mayHave_42, a_ald, a_cs, a_cv, a_ild, a_ist, a_push, sh_71, pu_rv, pu_as, Value.category, pu_bk, pu_kl, pu_qe0, pu_qe1, e3, e5]
    all_goals try simp [bX12_mayHave_42, a_ald, a_cs, a_cv, a_ild, a_ist, a_push, sh_71, pu_rv, pu_as, Value.category, pu_bk, pu_kl, List.replicate, pu_wi_1, pu_wi_2, nl_add, nl_ladd, nl_aa, nl_mul, nl_rmul, nl_mm, pu_qe0, pu_qe1, e3, e5]
end
