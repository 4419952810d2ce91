/-! bounds: the loop -/
section
variable {M : pu_M} {I : Nat → Nat → Int32} {L : Nat → Nat → Int64}
theorem pz_lo_s {st J : Nat} {sd h be : Int} {lo : Int32} (hn : ∀ k, pz_el I st sd k → pu_sl0 I k ≠ J) (g : pz_lo I st sd h J be lo) : pz_lo I st sd h (J + 1) be lo := by
  rcases g with ⟨a, b, c⟩ | ⟨k, k1, k2, k3, k4, k5, k6⟩
  · exact Or.inl ⟨a, b, fun k hk hs => c k hk (by have := hn k hk; omega)⟩
  · exact Or.inr ⟨k, k1, by omega, k3, k4, k5, fun l hl hs => k6 l hl (by have := hn l hl; omega)⟩
theorem pz_hi_s {st J : Nat} {sd h be : Int} {lo : Int32} (hn : ∀ k, pz_el I st sd k → pu_sl0 I k ≠ J) (g : pz_hi I st sd h J be lo) : pz_hi I st sd h (J + 1) be lo := by
  rcases g with ⟨a, b, c⟩ | ⟨k, k1, k2, k3, k4, k5, k6⟩
  · exact Or.inl ⟨a, b, fun k hk hs => c k hk (by have := hn k hk; omega)⟩
  · exact Or.inr ⟨k, k1, by omega, k3, k4, k5, fun l hl hs => k6 l hl (by have := hn l hl; omega)⟩
/-- an element that changes nothing, and one that does -/
theorem pz_lo_o (hw : pu_WF I L) {st J k : Nat} {sd h be : Int} {lo : Int32} (hk : pz_el I st sd k) (hs : pu_sl0 I k = J) (hn : ¬ (pz_ak I st k < h ∧ be < pz_ak I st k)) (g : pz_lo I st sd h J be lo) : pz_lo I st sd h (J + 1) be lo := by
  have un : ∀ l, pz_el I st sd l → pu_sl0 I l = J → l = k := fun l hl hs2 => pz_os_un hw ⟨hl.1, hs2, hl.2.2.1⟩ ⟨hk.1, hs, hk.2.2.1⟩
  have rr := pz_ak_r hw (st := st) hk.1 hk.2.2.1
  rcases g with ⟨a, b, c⟩ | ⟨k', k1, k2, k3, k4, k5, k6⟩
  · refine Or.inl ⟨a, b, fun l hl hs2 => ?_⟩
    by_cases e : pu_sl0 I l = J
    · rw [un l hl e]
      omega
    · exact c l hl (by omega)
  · refine Or.inr ⟨k', k1, by omega, k3, k4, k5, fun l hl hs2 h2 => ?_⟩
    by_cases e : pu_sl0 I l = J
    · rw [un l hl e] at h2 ⊢
      omega
    · exact k6 l hl (by omega) h2
theorem pz_lo_t (hw : pu_WF I L) {st J k : Nat} {sd h be : Int} {lo : Int32} (hk : pz_el I st sd k) (hs : pu_sl0 I k = J) (h1 : pz_ak I st k < h) (h2 : be < pz_ak I st k) (g : pz_lo I st sd h J be lo) : pz_lo I st sd h (J + 1) (pz_ak I st k) (I 16 k) := by
  have un : ∀ l, pz_el I st sd l → pu_sl0 I l = J → l = k := fun l hl hs2 => pz_os_un hw ⟨hl.1, hs2, hl.2.2.1⟩ ⟨hk.1, hs, hk.2.2.1⟩
  refine Or.inr ⟨k, hk, by omega, h1, rfl, rfl, fun l hl hs2 h3 => ?_⟩
  by_cases e : pu_sl0 I l = J
  · rw [un l hl e]
    exact Int.le_refl _
  · rcases g with ⟨a, b, c⟩ | ⟨k', k1, k2, k3, k4, k5, k6⟩
    · exact absurd h3 (c l hl (by omega))
    · have := k6 l hl (by omega) h3
      omega
theorem pz_hi_o (hw : pu_WF I L) {st J k : Nat} {sd h be : Int} {lo : Int32} (hk : pz_el I st sd k) (hs : pu_sl0 I k = J) (hn : ¬ (h < pz_ak I st k ∧ pz_ak I st k < be)) (g : pz_hi I st sd h J be lo) : pz_hi I st sd h (J + 1) be lo := by
  have un : ∀ l, pz_el I st sd l → pu_sl0 I l = J → l = k := fun l hl hs2 => pz_os_un hw ⟨hl.1, hs2, hl.2.2.1⟩ ⟨hk.1, hs, hk.2.2.1⟩
  have rr := pz_ak_r hw (st := st) hk.1 hk.2.2.1
  rcases g with ⟨a, b, c⟩ | ⟨k', k1, k2, k3, k4, k5, k6⟩
  · refine Or.inl ⟨a, b, fun l hl hs2 => ?_⟩
    by_cases e : pu_sl0 I l = J
    · rw [un l hl e]
      omega
    · exact c l hl (by omega)
  · refine Or.inr ⟨k', k1, by omega, k3, k4, k5, fun l hl hs2 h2 => ?_⟩
    by_cases e : pu_sl0 I l = J
    · rw [un l hl e] at h2 ⊢
      omega
    · exact k6 l hl (by omega) h2
theorem pz_hi_t (hw : pu_WF I L) {st J k : Nat} {sd h be : Int} {lo : Int32} (hk : pz_el I st sd k) (hs : pu_sl0 I k = J) (h1 : h < pz_ak I st k) (h2 : pz_ak I st k < be) (g : pz_hi I st sd h J be lo) : pz_hi I st sd h (J + 1) (pz_ak I st k) (I 16 k) := by
  have un : ∀ l, pz_el I st sd l → pu_sl0 I l = J → l = k := fun l hl hs2 => pz_os_un hw ⟨hl.1, hs2, hl.2.2.1⟩ ⟨hk.1, hs, hk.2.2.1⟩
  refine Or.inr ⟨k, hk, by omega, h1, rfl, rfl, fun l hl hs2 h3 => ?_⟩
  by_cases e : pu_sl0 I l = J
  · rw [un l hl e]
    exact Int.le_refl _
  · rcases g with ⟨a, b, c⟩ | ⟨k', k1, k2, k3, k4, k5, k6⟩
    · exact absurd h3 (c l hl (by omega))
    · have := k6 l hl (by omega) h3
      omega
theorem r_bounds_i (hx : pu_fx M) (hr : pu_Rel I L (M.1 72)) (hw : pu_WF I L) (st d w : Nat) (hst : st < cK I) (hd : d < cD I) (hw2 : w < 2) (sd pc here be ah lo hi : Int32) (t10 t11 : Option Value) :
    ∃ be2 ah2 lo2 hi2 u10 u11, (pz_lo I st sd.toInt here.toInt (2 * d + w) be.toInt lo → pz_lo I st sd.toInt here.toInt (2 * d + w + 1) be2.toInt lo2) ∧ (pz_hi I st sd.toInt here.toInt (2 * d + w) ah.toInt hi → pz_hi I st sd.toInt here.toInt (2 * d + w + 1) ah2.toInt hi2) ∧
      pu_r 459 [some (.ref 71), some (.int (nI st)), some (.int sd), some (.int pc), some (.int (I 27 st)), some (.int here), some (.int be), some (.int ah), some (.int (nI d)), some (.int (nI w)), t10, t11] [] (pz_lh M lo hi) = pu_r 459 [some (.ref 71), some (.int (nI st)), some (.int sd), some (.int pc), some (.int (I 27 st)), some (.int here), some (.int be2), some (.int ah2), some (.int (nI d)), some (.int (nI (w + 1))), u10, u11] [] (pz_lh M lo2 hi2) := by
  have hx2 : pu_fx (pz_lh M lo hi) := hx
  have hr2 : pu_Rel I L ((pz_lh M lo hi).1 72) := by rw [pz_lh_s]; exact hr
  have hD := wx_bD hw
  have hc : ¬ 2 ≤ nI w := nI_ge (b := 2) (by omega) (by omega)
  have e1 := r_isOpen hx2 hr2 hw d hd
  have e2 := r_hasPlace hx2 hr2 hw d w hd hw2
  have e3 := r_streetAt hx2 hr2 hw d w hd hw2
  have e4 := r_sideAt hx2 hr2 hw d w hd hw2
  have e5 := r_pacesAt hx2 hr2 hw d w hd hw2
  have j1 : (2 * d + w) / 2 = d := by omega
  have j2 : (2 * d + w) % 2 = w := by omega
  have no : ∀ (P : Prop), (∀ k, pz_el I st sd.toInt k → pu_sl0 I k = 2 * d + w → P) → ¬ P → ∀ k, pz_el I st sd.toInt k → pu_sl0 I k ≠ 2 * d + w := fun P h1 h2 k hk hs => h2 (h1 k hk hs)
  by_cases c1 : I 37 d = -1
  · rw [pu_q1 c1] at e1
    by_cases c2 : pu_hp I d w
    · rw [pu_q1 c2] at e2
      obtain ⟨k, hk⟩ := pz_os_ex hw hd hw2 c1 c2
      have e6 := r_wholeAt hx2 hr2 hw hw2 hk
      by_cases c3 : I 39 (2 * d + w) = nI st
      · have e7 := r_isOrdered (I 27 st) sd (I 40 (2 * d + w)) (pz_lh M lo hi)
        by_cases c4 : I 27 st = 1 ∨ sd = I 40 (2 * d + w)
        · rw [pu_q1 c4] at e7
          by_cases c5 : 0 < I 16 k
          · have el : pz_el I st sd.toInt k := ⟨hk.1, by rw [hk.2.1]; exact c3, hk.2.2, by
              rw [hk.2.1]
              rcases c4 with c4 | c4
              · exact Or.inl (by rw [c4]; decide)
              · exact Or.inr (by rw [c4]), by
              have := Int32.lt_iff_toInt_lt.mp c5
              rw [show (0 : Int32).toInt = 0 by decide] at this
              exact this⟩
            have pl := pz_pl0 hw hk.1 hk.2.2
            have e8 := r_along (I 27 st) (I 40 (2 * d + w)) (I 41 (2 * d + w)) (pz_lh M lo hi)
            have ea : (pz_alx (I 27 st) (I 40 (2 * d + w)) (I 41 (2 * d + w))).toInt = pz_ak I st k := by
              unfold pz_ak
              rw [hk.2.1] at pl ⊢
              exact pz_al_e pl.1 pl.2.1 pl.2.2.1 pl.2.2.2
            generalize pz_alx (I 27 st) (I 40 (2 * d + w)) (I 41 (2 * d + w)) = th at *
            have lt := fun a b : Int32 => Int32.lt_iff_toInt_lt (x := a) (y := b)
            by_cases f1 : th < here
            · have f2 : ¬ here ≤ th := Int32.not_le.mpr f1
              have f3 : th ≤ here := Int32.le_of_lt f1
              have g1 := (lt _ _).mp f1
              by_cases f4 : be < th
              · have f5 : ¬ th ≤ be := Int32.not_le.mpr f4
                have g4 := (lt _ _).mp f4
                refine ⟨th, ah, I 16 k, hi, some (.int (I 16 k)), some (.int th), fun g => ?_, fun g => pz_hi_o hw el hk.2.1 (by omega) g, ?_⟩
                · have := pz_lo_t hw el hk.2.1 (by omega) (by omega) g
                  rw [← ea] at this
                  exact this
                · rw [qX12_bounds_56]
                  simp [bX12_bounds_56, bX12_bounds_209, bX12_bounds_203, bX12_bounds_105, bX12_bounds_114, bX12_bounds_132, bX12_bounds_179, a_ald, a_cs, a_cv, a_icge, a_icle, a_icne, a_ifeq, a_ifgt, a_ifne, a_ild, a_inc, a_ist, a_pi, a_push, sh_71, pu_rv, pu_as, Value.category, pu_bk, pu_kl, List.replicate, pu_wi_1, pu_wi_2, nl_add, nl_ladd, nl_aa, nl_mul, nl_rmul, nl_mm, pu_qe0, pu_qe1, hc, e1, e2, e3, c3, e4, e7, e6, c5, e5, e8, f1, f2, f3, f4, f5, pz_lh_1]
                  all_goals try simp (maxSteps := 400000) (disch := omega) [nl_tle, nl_fle, nl_tlt, nl_flt, nl_teq, nl_feq, nl_sub, nl_ss, nl_lt, nl_llt, nl_ltt, nl_le, nl_lle, nl_lee, nl_eq, nl_leq, nl_ee, nl_div, nl_rem, nl_cl, nl_n1, nl_n2, nl_n3, nl_n4, nl_add, nl_ladd, nl_aa, nl_mul, nl_rmul, nl_mm, pu_wi_1, pu_wi_2, bX12_bounds_56, bX12_bounds_209, bX12_bounds_203, bX12_bounds_105, bX12_bounds_114, bX12_bounds_132, bX12_bounds_179, a_ald, a_cs, a_cv, a_icge, a_icle, a_icne, a_ifeq, a_ifgt, a_ifne, a_ild, a_inc, a_ist, a_pi, a_push, sh_71, pu_rv, pu_as, Value.category, pu_bk, pu_kl, pu_qe0, pu_qe1, hc, e1, e2, e3, c3, e4, e7, e6, c5, e5, e8, f1, f2, f3, f4, f5, pz_lh_1]
                  all_goals try simp [bX12_bounds_56, bX12_bounds_209, bX12_bounds_203, bX12_bounds_105, bX12_bounds_114, bX12_bounds_132, bX12_bounds_179, a_ald, a_cs, a_cv, a_icge, a_icle, a_icne, a_ifeq, a_ifgt, a_ifne, a_ild, a_inc, a_ist, a_pi, a_push, sh_71, pu_rv, pu_as, Value.category, pu_bk, pu_kl, List.replicate, pu_wi_1, pu_wi_2, nl_add, nl_ladd, nl_aa, nl_mul, nl_rmul, nl_mm, pu_qe0, pu_qe1, hc, e1, e2, e3, c3, e4, e7, e6, c5, e5, e8, f1, f2, f3, f4, f5, pz_lh_1]
                  all_goals try simp (maxSteps := 400000) (disch := omega) [nl_tle, nl_fle, nl_tlt, nl_flt, nl_teq, nl_feq, nl_sub, nl_ss, nl_lt, nl_llt, nl_ltt, nl_le, nl_lle, nl_lee, nl_eq, nl_leq, nl_ee, nl_div, nl_rem, nl_cl, nl_n1, nl_n2, nl_n3, nl_n4, nl_add, nl_ladd, nl_aa, nl_mul, nl_rmul, nl_mm, pu_wi_1, pu_wi_2, bX12_bounds_56, bX12_bounds_209, bX12_bounds_203, bX12_bounds_105, bX12_bounds_114, bX12_bounds_132, bX12_bounds_179, a_ald, a_cs, a_cv, a_icge, a_icle, a_icne, a_ifeq, a_ifgt, a_ifne, a_ild, a_inc, a_ist, a_pi, a_push, sh_71, pu_rv, pu_as, Value.category, pu_bk, pu_kl, pu_qe0, pu_qe1, hc, e1, e2, e3, c3, e4, e7, e6, c5, e5, e8, f1, f2, f3, f4, f5, pz_lh_1]
              · have f5 : th ≤ be := Int32.not_lt.mp f4
                have g4 := Int32.le_iff_toInt_le.mp f5
                refine ⟨be, ah, lo, hi, some (.int (I 16 k)), some (.int th), fun g => pz_lo_o hw el hk.2.1 (by omega) g, fun g => pz_hi_o hw el hk.2.1 (by omega) g, ?_⟩
                rw [qX12_bounds_56]
                simp [bX12_bounds_56, bX12_bounds_209, bX12_bounds_203, bX12_bounds_105, bX12_bounds_114, bX12_bounds_132, bX12_bounds_179, a_ald, a_cs, a_cv, a_icge, a_icle, a_icne, a_ifeq, a_ifgt, a_ifne, a_ild, a_inc, a_ist, a_pi, a_push, sh_71, pu_rv, pu_as, Value.category, pu_bk, pu_kl, List.replicate, pu_wi_1, pu_wi_2, nl_add, nl_ladd, nl_aa, nl_mul, nl_rmul, nl_mm, pu_qe0, pu_qe1, hc, e1, e2, e3, c3, e4, e7, e6, c5, e5, e8, f1, f2, f3, f4, f5]
                all_goals try simp (maxSteps := 400000) (disch := omega) [nl_tle, nl_fle, nl_tlt, nl_flt, nl_teq, nl_feq, nl_sub, nl_ss, nl_lt, nl_llt, nl_ltt, nl_le, nl_lle, nl_lee, nl_eq, nl_leq, nl_ee, nl_div, nl_rem, nl_cl, nl_n1, nl_n2, nl_n3, nl_n4, nl_add, nl_ladd, nl_aa, nl_mul, nl_rmul, nl_mm, pu_wi_1, pu_wi_2, bX12_bounds_56, bX12_bounds_209, bX12_bounds_203, bX12_bounds_105, bX12_bounds_114, bX12_bounds_132, bX12_bounds_179, a_ald, a_cs, a_cv, a_icge, a_icle, a_icne, a_ifeq, a_ifgt, a_ifne, a_ild, a_inc, a_ist, a_pi, a_push, sh_71, pu_rv, pu_as, Value.category, pu_bk, pu_kl, pu_qe0, pu_qe1, hc, e1, e2, e3, c3, e4, e7, e6, c5, e5, e8, f1, f2, f3, f4, f5]
                all_goals try simp [bX12_bounds_56, bX12_bounds_209, bX12_bounds_203, bX12_bounds_105, bX12_bounds_114, bX12_bounds_132, bX12_bounds_179, a_ald, a_cs, a_cv, a_icge, a_icle, a_icne, a_ifeq, a_ifgt, a_ifne, a_ild, a_inc, a_ist, a_pi, a_push, sh_71, pu_rv, pu_as, Value.category, pu_bk, pu_kl, List.replicate, pu_wi_1, pu_wi_2, nl_add, nl_ladd, nl_aa, nl_mul, nl_rmul, nl_mm, pu_qe0, pu_qe1, hc, e1, e2, e3, c3, e4, e7, e6, c5, e5, e8, f1, f2, f3, f4, f5]
                all_goals try simp (maxSteps := 400000) (disch := omega) [nl_tle, nl_fle, nl_tlt, nl_flt, nl_teq, nl_feq, nl_sub, nl_ss, nl_lt, nl_llt, nl_ltt, nl_le, nl_lle, nl_lee, nl_eq, nl_leq, nl_ee, nl_div, nl_rem, nl_cl, nl_n1, nl_n2, nl_n3, nl_n4, nl_add, nl_ladd, nl_aa, nl_mul, nl_rmul, nl_mm, pu_wi_1, pu_wi_2, bX12_bounds_56, bX12_bounds_209, bX12_bounds_203, bX12_bounds_105, bX12_bounds_114, bX12_bounds_132, bX12_bounds_179, a_ald, a_cs, a_cv, a_icge, a_icle, a_icne, a_ifeq, a_ifgt, a_ifne, a_ild, a_inc, a_ist, a_pi, a_push, sh_71, pu_rv, pu_as, Value.category, pu_bk, pu_kl, pu_qe0, pu_qe1, hc, e1, e2, e3, c3, e4, e7, e6, c5, e5, e8, f1, f2, f3, f4, f5]
            · have f2 : here ≤ th := Int32.not_lt.mp f1
              have g2 := Int32.le_iff_toInt_le.mp f2
              by_cases f3 : here < th
              · have f4 : ¬ th ≤ here := Int32.not_le.mpr f3
                have g3 := (lt _ _).mp f3
                by_cases f5 : th < ah
                · have f6 : ¬ ah ≤ th := Int32.not_le.mpr f5
                  have g5 := (lt _ _).mp f5
                  refine ⟨be, th, lo, I 16 k, some (.int (I 16 k)), some (.int th), fun g => pz_lo_o hw el hk.2.1 (by omega) g, fun g => ?_, ?_⟩
                  · have := pz_hi_t hw el hk.2.1 (by omega) (by omega) g
                    rw [← ea] at this
                    exact this
                  · rw [qX12_bounds_56]
                    simp [bX12_bounds_56, bX12_bounds_209, bX12_bounds_203, bX12_bounds_105, bX12_bounds_114, bX12_bounds_132, bX12_bounds_179, a_ald, a_cs, a_cv, a_icge, a_icle, a_icne, a_ifeq, a_ifgt, a_ifne, a_ild, a_inc, a_ist, a_pi, a_push, sh_71, pu_rv, pu_as, Value.category, pu_bk, pu_kl, List.replicate, pu_wi_1, pu_wi_2, nl_add, nl_ladd, nl_aa, nl_mul, nl_rmul, nl_mm, pu_qe0, pu_qe1, hc, e1, e2, e3, c3, e4, e7, e6, c5, e5, e8, f1, f2, f3, f4, f5, f6, pz_lh_2]
                    all_goals try simp (maxSteps := 400000) (disch := omega) [nl_tle, nl_fle, nl_tlt, nl_flt, nl_teq, nl_feq, nl_sub, nl_ss, nl_lt, nl_llt, nl_ltt, nl_le, nl_lle, nl_lee, nl_eq, nl_leq, nl_ee, nl_div, nl_rem, nl_cl, nl_n1, nl_n2, nl_n3, nl_n4, nl_add, nl_ladd, nl_aa, nl_mul, nl_rmul, nl_mm, pu_wi_1, pu_wi_2, bX12_bounds_56, bX12_bounds_209, bX12_bounds_203, bX12_bounds_105, bX12_bounds_114, bX12_bounds_132, bX12_bounds_179, a_ald, a_cs, a_cv, a_icge, a_icle, a_icne, a_ifeq, a_ifgt, a_ifne, a_ild, a_inc, a_ist, a_pi, a_push, sh_71, pu_rv, pu_as, Value.category, pu_bk, pu_kl, pu_qe0, pu_qe1, hc, e1, e2, e3, c3, e4, e7, e6, c5, e5, e8, f1, f2, f3, f4, f5, f6, pz_lh_2]
                    all_goals try simp [bX12_bounds_56, bX12_bounds_209, bX12_bounds_203, bX12_bounds_105, bX12_bounds_114, bX12_bounds_132, bX12_bounds_179, a_ald, a_cs, a_cv, a_icge, a_icle, a_icne, a_ifeq, a_ifgt, a_ifne, a_ild, a_inc, a_ist, a_pi, a_push, sh_71, pu_rv, pu_as, Value.category, pu_bk, pu_kl, List.replicate, pu_wi_1, pu_wi_2, nl_add, nl_ladd, nl_aa, nl_mul, nl_rmul, nl_mm, pu_qe0, pu_qe1, hc, e1, e2, e3, c3, e4, e7, e6, c5, e5, e8, f1, f2, f3, f4, f5, f6, pz_lh_2]
                    all_goals try simp (maxSteps := 400000) (disch := omega) [nl_tle, nl_fle, nl_tlt, nl_flt, nl_teq, nl_feq, nl_sub, nl_ss, nl_lt, nl_llt, nl_ltt, nl_le, nl_lle, nl_lee, nl_eq, nl_leq, nl_ee, nl_div, nl_rem, nl_cl, nl_n1, nl_n2, nl_n3, nl_n4, nl_add, nl_ladd, nl_aa, nl_mul, nl_rmul, nl_mm, pu_wi_1, pu_wi_2, bX12_bounds_56, bX12_bounds_209, bX12_bounds_203, bX12_bounds_105, bX12_bounds_114, bX12_bounds_132, bX12_bounds_179, a_ald, a_cs, a_cv, a_icge, a_icle, a_icne, a_ifeq, a_ifgt, a_ifne, a_ild, a_inc, a_ist, a_pi, a_push, sh_71, pu_rv, pu_as, Value.category, pu_bk, pu_kl, pu_qe0, pu_qe1, hc, e1, e2, e3, c3, e4, e7, e6, c5, e5, e8, f1, f2, f3, f4, f5, f6, pz_lh_2]
                · have f6 : ah ≤ th := Int32.not_lt.mp f5
                  have g6 := Int32.le_iff_toInt_le.mp f6
                  refine ⟨be, ah, lo, hi, some (.int (I 16 k)), some (.int th), fun g => pz_lo_o hw el hk.2.1 (by omega) g, fun g => pz_hi_o hw el hk.2.1 (by omega) g, ?_⟩
                  rw [qX12_bounds_56]
                  simp [bX12_bounds_56, bX12_bounds_209, bX12_bounds_203, bX12_bounds_105, bX12_bounds_114, bX12_bounds_132, bX12_bounds_179, a_ald, a_cs, a_cv, a_icge, a_icle, a_icne, a_ifeq, a_ifgt, a_ifne, a_ild, a_inc, a_ist, a_pi, a_push, sh_71, pu_rv, pu_as, Value.category, pu_bk, pu_kl, List.replicate, pu_wi_1, pu_wi_2, nl_add, nl_ladd, nl_aa, nl_mul, nl_rmul, nl_mm, pu_qe0, pu_qe1, hc, e1, e2, e3, c3, e4, e7, e6, c5, e5, e8, f1, f2, f3, f4, f5, f6]
                  all_goals try simp (maxSteps := 400000) (disch := omega) [nl_tle, nl_fle, nl_tlt, nl_flt, nl_teq, nl_feq, nl_sub, nl_ss, nl_lt, nl_llt, nl_ltt, nl_le, nl_lle, nl_lee, nl_eq, nl_leq, nl_ee, nl_div, nl_rem, nl_cl, nl_n1, nl_n2, nl_n3, nl_n4, nl_add, nl_ladd, nl_aa, nl_mul, nl_rmul, nl_mm, pu_wi_1, pu_wi_2, bX12_bounds_56, bX12_bounds_209, bX12_bounds_203, bX12_bounds_105, bX12_bounds_114, bX12_bounds_132, bX12_bounds_179, a_ald, a_cs, a_cv, a_icge, a_icle, a_icne, a_ifeq, a_ifgt, a_ifne, a_ild, a_inc, a_ist, a_pi, a_push, sh_71, pu_rv, pu_as, Value.category, pu_bk, pu_kl, pu_qe0, pu_qe1, hc, e1, e2, e3, c3, e4, e7, e6, c5, e5, e8, f1, f2, f3, f4, f5, f6]
                  all_goals try simp [bX12_bounds_56, bX12_bounds_209, bX12_bounds_203, bX12_bounds_105, bX12_bounds_114, bX12_bounds_132, bX12_bounds_179, a_ald, a_cs, a_cv, a_icge, a_icle, a_icne, a_ifeq, a_ifgt, a_ifne, a_ild, a_inc, a_ist, a_pi, a_push, sh_71, pu_rv, pu_as, Value.category, pu_bk, pu_kl, List.replicate, pu_wi_1, pu_wi_2, nl_add, nl_ladd, nl_aa, nl_mul, nl_rmul, nl_mm, pu_qe0, pu_qe1, hc, e1, e2, e3, c3, e4, e7, e6, c5, e5, e8, f1, f2, f3, f4, f5, f6]
                  all_goals try simp (maxSteps := 400000) (disch := omega) [nl_tle, nl_fle, nl_tlt, nl_flt, nl_teq, nl_feq, nl_sub, nl_ss, nl_lt, nl_llt, nl_ltt, nl_le, nl_lle, nl_lee, nl_eq, nl_leq, nl_ee, nl_div, nl_rem, nl_cl, nl_n1, nl_n2, nl_n3, nl_n4, nl_add, nl_ladd, nl_aa, nl_mul, nl_rmul, nl_mm, pu_wi_1, pu_wi_2, bX12_bounds_56, bX12_bounds_209, bX12_bounds_203, bX12_bounds_105, bX12_bounds_114, bX12_bounds_132, bX12_bounds_179, a_ald, a_cs, a_cv, a_icge, a_icle, a_icne, a_ifeq, a_ifgt, a_ifne, a_ild, a_inc, a_ist, a_pi, a_push, sh_71, pu_rv, pu_as, Value.category, pu_bk, pu_kl, pu_qe0, pu_qe1, hc, e1, e2, e3, c3, e4, e7, e6, c5, e5, e8, f1, f2, f3, f4, f5, f6]
              · have f4 : th ≤ here := Int32.not_lt.mp f3
                have g4 := Int32.le_iff_toInt_le.mp f4
                refine ⟨be, ah, lo, hi, some (.int (I 16 k)), some (.int th), fun g => pz_lo_o hw el hk.2.1 (by omega) g, fun g => pz_hi_o hw el hk.2.1 (by omega) g, ?_⟩
                rw [qX12_bounds_56]
                simp [bX12_bounds_56, bX12_bounds_209, bX12_bounds_203, bX12_bounds_105, bX12_bounds_114, bX12_bounds_132, bX12_bounds_179, a_ald, a_cs, a_cv, a_icge, a_icle, a_icne, a_ifeq, a_ifgt, a_ifne, a_ild, a_inc, a_ist, a_pi, a_push, sh_71, pu_rv, pu_as, Value.category, pu_bk, pu_kl, List.replicate, pu_wi_1, pu_wi_2, nl_add, nl_ladd, nl_aa, nl_mul, nl_rmul, nl_mm, pu_qe0, pu_qe1, hc, e1, e2, e3, c3, e4, e7, e6, c5, e5, e8, f1, f2, f3, f4]
                all_goals try simp (maxSteps := 400000) (disch := omega) [nl_tle, nl_fle, nl_tlt, nl_flt, nl_teq, nl_feq, nl_sub, nl_ss, nl_lt, nl_llt, nl_ltt, nl_le, nl_lle, nl_lee, nl_eq, nl_leq, nl_ee, nl_div, nl_rem, nl_cl, nl_n1, nl_n2, nl_n3, nl_n4, nl_add, nl_ladd, nl_aa, nl_mul, nl_rmul, nl_mm, pu_wi_1, pu_wi_2, bX12_bounds_56, bX12_bounds_209, bX12_bounds_203, bX12_bounds_105, bX12_bounds_114, bX12_bounds_132, bX12_bounds_179, a_ald, a_cs, a_cv, a_icge, a_icle, a_icne, a_ifeq, a_ifgt, a_ifne, a_ild, a_inc, a_ist, a_pi, a_push, sh_71, pu_rv, pu_as, Value.category, pu_bk, pu_kl, pu_qe0, pu_qe1, hc, e1, e2, e3, c3, e4, e7, e6, c5, e5, e8, f1, f2, f3, f4]
                all_goals try simp [bX12_bounds_56, bX12_bounds_209, bX12_bounds_203, bX12_bounds_105, bX12_bounds_114, bX12_bounds_132, bX12_bounds_179, a_ald, a_cs, a_cv, a_icge, a_icle, a_icne, a_ifeq, a_ifgt, a_ifne, a_ild, a_inc, a_ist, a_pi, a_push, sh_71, pu_rv, pu_as, Value.category, pu_bk, pu_kl, List.replicate, pu_wi_1, pu_wi_2, nl_add, nl_ladd, nl_aa, nl_mul, nl_rmul, nl_mm, pu_qe0, pu_qe1, hc, e1, e2, e3, c3, e4, e7, e6, c5, e5, e8, f1, f2, f3, f4]
                all_goals try simp (maxSteps := 400000) (disch := omega) [nl_tle, nl_fle, nl_tlt, nl_flt, nl_teq, nl_feq, nl_sub, nl_ss, nl_lt, nl_llt, nl_ltt, nl_le, nl_lle, nl_lee, nl_eq, nl_leq, nl_ee, nl_div, nl_rem, nl_cl, nl_n1, nl_n2, nl_n3, nl_n4, nl_add, nl_ladd, nl_aa, nl_mul, nl_rmul, nl_mm, pu_wi_1, pu_wi_2, bX12_bounds_56, bX12_bounds_209, bX12_bounds_203, bX12_bounds_105, bX12_bounds_114, bX12_bounds_132, bX12_bounds_179, a_ald, a_cs, a_cv, a_icge, a_icle, a_icne, a_ifeq, a_ifgt, a_ifne, a_ild, a_inc, a_ist, a_pi, a_push, sh_71, pu_rv, pu_as, Value.category, pu_bk, pu_kl, pu_qe0, pu_qe1, hc, e1, e2, e3, c3, e4, e7, e6, c5, e5, e8, f1, f2, f3, f4]
          · have n := no (0 < I 16 k) (fun l hl hs => by
              rw [← pz_os_un hw ⟨hl.1, hs, hl.2.2.1⟩ hk]
              exact Int32.lt_iff_toInt_lt.mpr (by rw [show (0 : Int32).toInt = 0 by decide]; exact hl.2.2.2.2)) c5
            refine ⟨be, ah, lo, hi, some (.int (I 16 k)), t11, pz_lo_s n, pz_hi_s n, ?_⟩
            rw [qX12_bounds_56]
            simp [bX12_bounds_56, bX12_bounds_209, bX12_bounds_203, bX12_bounds_105, bX12_bounds_114, bX12_bounds_132, bX12_bounds_179, a_ald, a_cs, a_cv, a_icge, a_icle, a_icne, a_ifeq, a_ifgt, a_ifne, a_ild, a_inc, a_ist, a_pi, a_push, sh_71, pu_rv, pu_as, Value.category, pu_bk, pu_kl, List.replicate, pu_wi_1, pu_wi_2, nl_add, nl_ladd, nl_aa, nl_mul, nl_rmul, nl_mm, pu_qe0, pu_qe1, hc, e1, e2, e3, c3, e4, e7, e6, c5]
            all_goals try simp (maxSteps := 400000) (disch := omega) [nl_tle, nl_fle, nl_tlt, nl_flt, nl_teq, nl_feq, nl_sub, nl_ss, nl_lt, nl_llt, nl_ltt, nl_le, nl_lle, nl_lee, nl_eq, nl_leq, nl_ee, nl_div, nl_rem, nl_cl, nl_n1, nl_n2, nl_n3, nl_n4, nl_add, nl_ladd, nl_aa, nl_mul, nl_rmul, nl_mm, pu_wi_1, pu_wi_2, bX12_bounds_56, bX12_bounds_209, bX12_bounds_203, bX12_bounds_105, bX12_bounds_114, bX12_bounds_132, bX12_bounds_179, a_ald, a_cs, a_cv, a_icge, a_icle, a_icne, a_ifeq, a_ifgt, a_ifne, a_ild, a_inc, a_ist, a_pi, a_push, sh_71, pu_rv, pu_as, Value.category, pu_bk, pu_kl, pu_qe0, pu_qe1, hc, e1, e2, e3, c3, e4, e7, e6, c5]
            all_goals try simp [bX12_bounds_56, bX12_bounds_209, bX12_bounds_203, bX12_bounds_105, bX12_bounds_114, bX12_bounds_132, bX12_bounds_179, a_ald, a_cs, a_cv, a_icge, a_icle, a_icne, a_ifeq, a_ifgt, a_ifne, a_ild, a_inc, a_ist, a_pi, a_push, sh_71, pu_rv, pu_as, Value.category, pu_bk, pu_kl, List.replicate, pu_wi_1, pu_wi_2, nl_add, nl_ladd, nl_aa, nl_mul, nl_rmul, nl_mm, pu_qe0, pu_qe1, hc, e1, e2, e3, c3, e4, e7, e6, c5]
            all_goals try simp (maxSteps := 400000) (disch := omega) [nl_tle, nl_fle, nl_tlt, nl_flt, nl_teq, nl_feq, nl_sub, nl_ss, nl_lt, nl_llt, nl_ltt, nl_le, nl_lle, nl_lee, nl_eq, nl_leq, nl_ee, nl_div, nl_rem, nl_cl, nl_n1, nl_n2, nl_n3, nl_n4, nl_add, nl_ladd, nl_aa, nl_mul, nl_rmul, nl_mm, pu_wi_1, pu_wi_2, bX12_bounds_56, bX12_bounds_209, bX12_bounds_203, bX12_bounds_105, bX12_bounds_114, bX12_bounds_132, bX12_bounds_179, a_ald, a_cs, a_cv, a_icge, a_icle, a_icne, a_ifeq, a_ifgt, a_ifne, a_ild, a_inc, a_ist, a_pi, a_push, sh_71, pu_rv, pu_as, Value.category, pu_bk, pu_kl, pu_qe0, pu_qe1, hc, e1, e2, e3, c3, e4, e7, e6, c5]
        · have n := no (I 27 st = 1 ∨ sd = I 40 (2 * d + w)) (fun l hl hs => by
            have := hl.2.2.2.1
            rw [hs] at this
            rcases this with q | q
            · exact Or.inl (Int32.toInt_inj.mp (by rw [q]; decide))
            · exact Or.inr (Int32.toInt_inj.mp q.symm)) c4
          rw [pu_q0 c4] at e7
          refine ⟨be, ah, lo, hi, t10, t11, pz_lo_s n, pz_hi_s n, ?_⟩
          rw [qX12_bounds_56]
          simp [bX12_bounds_56, bX12_bounds_209, bX12_bounds_203, bX12_bounds_105, bX12_bounds_114, bX12_bounds_132, bX12_bounds_179, a_ald, a_cs, a_cv, a_icge, a_icle, a_icne, a_ifeq, a_ifgt, a_ifne, a_ild, a_inc, a_ist, a_pi, a_push, sh_71, pu_rv, pu_as, Value.category, pu_bk, pu_kl, List.replicate, pu_wi_1, pu_wi_2, nl_add, nl_ladd, nl_aa, nl_mul, nl_rmul, nl_mm, pu_qe0, pu_qe1, hc, e1, e2, e3, c3, e4, e7]
          all_goals try simp (maxSteps := 400000) (disch := omega) [nl_tle, nl_fle, nl_tlt, nl_flt, nl_teq, nl_feq, nl_sub, nl_ss, nl_lt, nl_llt, nl_ltt, nl_le, nl_lle, nl_lee, nl_eq, nl_leq, nl_ee, nl_div, nl_rem, nl_cl, nl_n1, nl_n2, nl_n3, nl_n4, nl_add, nl_ladd, nl_aa, nl_mul, nl_rmul, nl_mm, pu_wi_1, pu_wi_2, bX12_bounds_56, bX12_bounds_209, bX12_bounds_203, bX12_bounds_105, bX12_bounds_114, bX12_bounds_132, bX12_bounds_179, a_ald, a_cs, a_cv, a_icge, a_icle, a_icne, a_ifeq, a_ifgt, a_ifne, a_ild, a_inc, a_ist, a_pi, a_push, sh_71, pu_rv, pu_as, Value.category, pu_bk, pu_kl, pu_qe0, pu_qe1, hc, e1, e2, e3, c3, e4, e7]
          all_goals try simp [bX12_bounds_56, bX12_bounds_209, bX12_bounds_203, bX12_bounds_105, bX12_bounds_114, bX12_bounds_132, bX12_bounds_179, a_ald, a_cs, a_cv, a_icge, a_icle, a_icne, a_ifeq, a_ifgt, a_ifne, a_ild, a_inc, a_ist, a_pi, a_push, sh_71, pu_rv, pu_as, Value.category, pu_bk, pu_kl, List.replicate, pu_wi_1, pu_wi_2, nl_add, nl_ladd, nl_aa, nl_mul, nl_rmul, nl_mm, pu_qe0, pu_qe1, hc, e1, e2, e3, c3, e4, e7]
          all_goals try simp (maxSteps := 400000) (disch := omega) [nl_tle, nl_fle, nl_tlt, nl_flt, nl_teq, nl_feq, nl_sub, nl_ss, nl_lt, nl_llt, nl_ltt, nl_le, nl_lle, nl_lee, nl_eq, nl_leq, nl_ee, nl_div, nl_rem, nl_cl, nl_n1, nl_n2, nl_n3, nl_n4, nl_add, nl_ladd, nl_aa, nl_mul, nl_rmul, nl_mm, pu_wi_1, pu_wi_2, bX12_bounds_56, bX12_bounds_209, bX12_bounds_203, bX12_bounds_105, bX12_bounds_114, bX12_bounds_132, bX12_bounds_179, a_ald, a_cs, a_cv, a_icge, a_icle, a_icne, a_ifeq, a_ifgt, a_ifne, a_ild, a_inc, a_ist, a_pi, a_push, sh_71, pu_rv, pu_as, Value.category, pu_bk, pu_kl, pu_qe0, pu_qe1, hc, e1, e2, e3, c3, e4, e7]
      · have n := no (I 39 (2 * d + w) = nI st) (fun l hl hs => by rw [← hs]; exact hl.2.1) c3
        refine ⟨be, ah, lo, hi, t10, t11, pz_lo_s n, pz_hi_s n, ?_⟩
        rw [qX12_bounds_56]
        simp [bX12_bounds_56, bX12_bounds_209, bX12_bounds_203, bX12_bounds_105, bX12_bounds_114, bX12_bounds_132, bX12_bounds_179, a_ald, a_cs, a_cv, a_icge, a_icle, a_icne, a_ifeq, a_ifgt, a_ifne, a_ild, a_inc, a_ist, a_pi, a_push, sh_71, pu_rv, pu_as, Value.category, pu_bk, pu_kl, List.replicate, pu_wi_1, pu_wi_2, nl_add, nl_ladd, nl_aa, nl_mul, nl_rmul, nl_mm, pu_qe0, pu_qe1, hc, e1, e2, e3, c3]
        all_goals try simp (maxSteps := 400000) (disch := omega) [nl_tle, nl_fle, nl_tlt, nl_flt, nl_teq, nl_feq, nl_sub, nl_ss, nl_lt, nl_llt, nl_ltt, nl_le, nl_lle, nl_lee, nl_eq, nl_leq, nl_ee, nl_div, nl_rem, nl_cl, nl_n1, nl_n2, nl_n3, nl_n4, nl_add, nl_ladd, nl_aa, nl_mul, nl_rmul, nl_mm, pu_wi_1, pu_wi_2, bX12_bounds_56, bX12_bounds_209, bX12_bounds_203, bX12_bounds_105, bX12_bounds_114, bX12_bounds_132, bX12_bounds_179, a_ald, a_cs, a_cv, a_icge, a_icle, a_icne, a_ifeq, a_ifgt, a_ifne, a_ild, a_inc, a_ist, a_pi, a_push, sh_71, pu_rv, pu_as, Value.category, pu_bk, pu_kl, pu_qe0, pu_qe1, hc, e1, e2, e3, c3]
        all_goals try simp [bX12_bounds_56, bX12_bounds_209, bX12_bounds_203, bX12_bounds_105, bX12_bounds_114, bX12_bounds_132, bX12_bounds_179, a_ald, a_cs, a_cv, a_icge, a_icle, a_icne, a_ifeq, a_ifgt, a_ifne, a_ild, a_inc, a_ist, a_pi, a_push, sh_71, pu_rv, pu_as, Value.category, pu_bk, pu_kl, List.replicate, pu_wi_1, pu_wi_2, nl_add, nl_ladd, nl_aa, nl_mul, nl_rmul, nl_mm, pu_qe0, pu_qe1, hc, e1, e2, e3, c3]
        all_goals try simp (maxSteps := 400000) (disch := omega) [nl_tle, nl_fle, nl_tlt, nl_flt, nl_teq, nl_feq, nl_sub, nl_ss, nl_lt, nl_llt, nl_ltt, nl_le, nl_lle, nl_lee, nl_eq, nl_leq, nl_ee, nl_div, nl_rem, nl_cl, nl_n1, nl_n2, nl_n3, nl_n4, nl_add, nl_ladd, nl_aa, nl_mul, nl_rmul, nl_mm, pu_wi_1, pu_wi_2, bX12_bounds_56, bX12_bounds_209, bX12_bounds_203, bX12_bounds_105, bX12_bounds_114, bX12_bounds_132, bX12_bounds_179, a_ald, a_cs, a_cv, a_icge, a_icle, a_icne, a_ifeq, a_ifgt, a_ifne, a_ild, a_inc, a_ist, a_pi, a_push, sh_71, pu_rv, pu_as, Value.category, pu_bk, pu_kl, pu_qe0, pu_qe1, hc, e1, e2, e3, c3]
    · have n := no (pu_hp I d w) (fun l hl hs => by
        have := (pz_os_d hw ⟨hl.1, hs, hl.2.2.1⟩).2.1
        rw [j1, j2] at this
        exact this) c2
      rw [pu_q0 c2] at e2
      refine ⟨be, ah, lo, hi, t10, t11, pz_lo_s n, pz_hi_s n, ?_⟩
      rw [qX12_bounds_56]
      simp [bX12_bounds_56, bX12_bounds_209, bX12_bounds_203, bX12_bounds_105, bX12_bounds_114, bX12_bounds_132, bX12_bounds_179, a_ald, a_cs, a_cv, a_icge, a_icle, a_icne, a_ifeq, a_ifgt, a_ifne, a_ild, a_inc, a_ist, a_pi, a_push, sh_71, pu_rv, pu_as, Value.category, pu_bk, pu_kl, List.replicate, pu_wi_1, pu_wi_2, nl_add, nl_ladd, nl_aa, nl_mul, nl_rmul, nl_mm, pu_qe0, pu_qe1, hc, e1, e2]
      all_goals try simp (maxSteps := 400000) (disch := omega) [nl_tle, nl_fle, nl_tlt, nl_flt, nl_teq, nl_feq, nl_sub, nl_ss, nl_lt, nl_llt, nl_ltt, nl_le, nl_lle, nl_lee, nl_eq, nl_leq, nl_ee, nl_div, nl_rem, nl_cl, nl_n1, nl_n2, nl_n3, nl_n4, nl_add, nl_ladd, nl_aa, nl_mul, nl_rmul, nl_mm, pu_wi_1, pu_wi_2, bX12_bounds_56, bX12_bounds_209, bX12_bounds_203, bX12_bounds_105, bX12_bounds_114, bX12_bounds_132, bX12_bounds_179, a_ald, a_cs, a_cv, a_icge, a_icle, a_icne, a_ifeq, a_ifgt, a_ifne, a_ild, a_inc, a_ist, a_pi, a_push, sh_71, pu_rv, pu_as, Value.category, pu_bk, pu_kl, pu_qe0, pu_qe1, hc, e1, e2]
      all_goals try simp [bX12_bounds_56, bX12_bounds_209, bX12_bounds_203, bX12_bounds_105, bX12_bounds_114, bX12_bounds_132, bX12_bounds_179, a_ald, a_cs, a_cv, a_icge, a_icle, a_icne, a_ifeq, a_ifgt, a_ifne, a_ild, a_inc, a_ist, a_pi, a_push, sh_71, pu_rv, pu_as, Value.category, pu_bk, pu_kl, List.replicate, pu_wi_1, pu_wi_2, nl_add, nl_ladd, nl_aa, nl_mul, nl_rmul, nl_mm, pu_qe0, pu_qe1, hc, e1, e2]
      all_goals try simp (maxSteps := 400000) (disch := omega) [nl_tle, nl_fle, nl_tlt, nl_flt, nl_teq, nl_feq, nl_sub, nl_ss, nl_lt, nl_llt, nl_ltt, nl_le, nl_lle, nl_lee, nl_eq, nl_leq, nl_ee, nl_div, nl_rem, nl_cl, nl_n1, nl_n2, nl_n3, nl_n4, nl_add, nl_ladd, nl_aa, nl_mul, nl_rmul, nl_mm, pu_wi_1, pu_wi_2, bX12_bounds_56, bX12_bounds_209, bX12_bounds_203, bX12_bounds_105, bX12_bounds_114, bX12_bounds_132, bX12_bounds_179, a_ald, a_cs, a_cv, a_icge, a_icle, a_icne, a_ifeq, a_ifgt, a_ifne, a_ild, a_inc, a_ist, a_pi, a_push, sh_71, pu_rv, pu_as, Value.category, pu_bk, pu_kl, pu_qe0, pu_qe1, hc, e1, e2]
  · have n := no (I 37 d = -1) (fun l hl hs => by
      have := (pz_os_d hw ⟨hl.1, hs, hl.2.2.1⟩).1
      rw [j1] at this
      exact this) c1
    rw [pu_q0 c1] at e1
    refine ⟨be, ah, lo, hi, t10, t11, pz_lo_s n, pz_hi_s n, ?_⟩
    rw [qX12_bounds_56]
    simp [bX12_bounds_56, bX12_bounds_209, bX12_bounds_203, bX12_bounds_105, bX12_bounds_114, bX12_bounds_132, bX12_bounds_179, a_ald, a_cs, a_cv, a_icge, a_icle, a_icne, a_ifeq, a_ifgt, a_ifne, a_ild, a_inc, a_ist, a_pi, a_push, sh_71, pu_rv, pu_as, Value.category, pu_bk, pu_kl, List.replicate, pu_wi_1, pu_wi_2, nl_add, nl_ladd, nl_aa, nl_mul, nl_rmul, nl_mm, pu_qe0, pu_qe1, hc, e1]
    all_goals try simp (maxSteps := 400000) (disch := omega) [nl_tle, nl_fle, nl_tlt, nl_flt, nl_teq, nl_feq, nl_sub, nl_ss, nl_lt, nl_llt, nl_ltt, nl_le, nl_lle, nl_lee, nl_eq, nl_leq, nl_ee, nl_div, nl_rem, nl_cl, nl_n1, nl_n2, nl_n3, nl_n4, nl_add, nl_ladd, nl_aa, nl_mul, nl_rmul, nl_mm, pu_wi_1, pu_wi_2, bX12_bounds_56, bX12_bounds_209, bX12_bounds_203, bX12_bounds_105, bX12_bounds_114, bX12_bounds_132, bX12_bounds_179, a_ald, a_cs, a_cv, a_icge, a_icle, a_icne, a_ifeq, a_ifgt, a_ifne, a_ild, a_inc, a_ist, a_pi, a_push, sh_71, pu_rv, pu_as, Value.category, pu_bk, pu_kl, pu_qe0, pu_qe1, hc, e1]
    all_goals try simp [bX12_bounds_56, bX12_bounds_209, bX12_bounds_203, bX12_bounds_105, bX12_bounds_114, bX12_bounds_132, bX12_bounds_179, a_ald, a_cs, a_cv, a_icge, a_icle, a_icne, a_ifeq, a_ifgt, a_ifne, a_ild, a_inc, a_ist, a_pi, a_push, sh_71, pu_rv, pu_as, Value.category, pu_bk, pu_kl, List.replicate, pu_wi_1, pu_wi_2, nl_add, nl_ladd, nl_aa, nl_mul, nl_rmul, nl_mm, pu_qe0, pu_qe1, hc, e1]
    all_goals try simp (maxSteps := 400000) (disch := omega) [nl_tle, nl_fle, nl_tlt, nl_flt, nl_teq, nl_feq, nl_sub, nl_ss, nl_lt, nl_llt, nl_ltt, nl_le, nl_lle, nl_lee, nl_eq, nl_leq, nl_ee, nl_div, nl_rem, nl_cl, nl_n1, nl_n2, nl_n3, nl_n4, nl_add, nl_ladd, nl_aa, nl_mul, nl_rmul, nl_mm, pu_wi_1, pu_wi_2, bX12_bounds_56, bX12_bounds_209, bX12_bounds_203, bX12_bounds_105, bX12_bounds_114, bX12_bounds_132, bX12_bounds_179, a_ald, a_cs, a_cv, a_icge, a_icle, a_icne, a_ifeq, a_ifgt, a_ifne, a_ild, a_inc, a_ist, a_pi, a_push, sh_71, pu_rv, pu_as, Value.category, pu_bk, pu_kl, pu_qe0, pu_qe1, hc, e1]
theorem r_bounds_l (hx : pu_fx M) (hr : pu_Rel I L (M.1 72)) (hw : pu_WF I L) (st : Nat) (hst : st < cK I) (sd pc here : Int32) : ∀ (m d : Nat) (be ah lo hi : Int32) (t9 t10 t11 : Option Value), d + m = cD I → pz_lo I st sd.toInt here.toInt (2 * d) be.toInt lo → pz_hi I st sd.toInt here.toInt (2 * d) ah.toInt hi →
    ∃ be2 ah2 lo2 hi2, pz_lo I st sd.toInt here.toInt (2 * cD I) be2 lo2 ∧ pz_hi I st sd.toInt here.toInt (2 * cD I) ah2 hi2 ∧ pu_r 458 [some (.ref 71), some (.int (nI st)), some (.int sd), some (.int pc), some (.int (I 27 st)), some (.int here), some (.int be), some (.int ah), some (.int (nI d)), t9, t10, t11] [] (pz_lh M lo hi) = some (none, pz_lh M lo2 hi2)
  | 0, d, be, ah, lo, hi, t9, t10, t11, h, g1, g2 => by
    have hr2 : pu_Rel I L ((pz_lh M lo hi).1 72) := by rw [pz_lh_s]; exact hr
    have hD := wx_bD hw
    have hc : nI (cD I) ≤ nI d := nI_le (by omega) (by omega)
    have e : d = cD I := by omega
    subst e
    refine ⟨be.toInt, ah.toInt, lo, hi, g1, g2, ?_⟩
    have hx : pu_fx (pz_lh M lo hi) := hx
    have a4 := rl_h4 hr2
    generalize pz_lh M lo hi = N at *
    rw [qX12_bounds_42]
    simp [bX12_bounds_42, bX12_bounds_215, a_ai, a_ald, a_gr, a_icge, a_ild, a_ist, a_push, a_vret, fx_71_0 hx, sh_71, sh_72, pu_rv, pu_as, Value.category, pu_bk, pu_kl, List.replicate, pu_wi_1, pu_wi_2, nl_add, nl_ladd, nl_aa, nl_mul, nl_rmul, nl_mm, pu_qe0, pu_qe1, a4, hc]
    all_goals try simp (maxSteps := 400000) (disch := omega) [nl_tle, nl_fle, nl_tlt, nl_flt, nl_teq, nl_feq, nl_sub, nl_ss, nl_lt, nl_llt, nl_ltt, nl_le, nl_lle, nl_lee, nl_eq, nl_leq, nl_ee, nl_div, nl_rem, nl_cl, nl_n1, nl_n2, nl_n3, nl_n4, nl_add, nl_ladd, nl_aa, nl_mul, nl_rmul, nl_mm, pu_wi_1, pu_wi_2, bX12_bounds_42, bX12_bounds_215, a_ai, a_ald, a_gr, a_icge, a_ild, a_ist, a_push, a_vret, fx_71_0 hx, sh_71, sh_72, pu_rv, pu_as, Value.category, pu_bk, pu_kl, pu_qe0, pu_qe1, a4, hc]
    all_goals try simp [bX12_bounds_42, bX12_bounds_215, a_ai, a_ald, a_gr, a_icge, a_ild, a_ist, a_push, a_vret, fx_71_0 hx, sh_71, sh_72, pu_rv, pu_as, Value.category, pu_bk, pu_kl, List.replicate, pu_wi_1, pu_wi_2, nl_add, nl_ladd, nl_aa, nl_mul, nl_rmul, nl_mm, pu_qe0, pu_qe1, a4, hc]
    all_goals try simp (maxSteps := 400000) (disch := omega) [nl_tle, nl_fle, nl_tlt, nl_flt, nl_teq, nl_feq, nl_sub, nl_ss, nl_lt, nl_llt, nl_ltt, nl_le, nl_lle, nl_lee, nl_eq, nl_leq, nl_ee, nl_div, nl_rem, nl_cl, nl_n1, nl_n2, nl_n3, nl_n4, nl_add, nl_ladd, nl_aa, nl_mul, nl_rmul, nl_mm, pu_wi_1, pu_wi_2, bX12_bounds_42, bX12_bounds_215, a_ai, a_ald, a_gr, a_icge, a_ild, a_ist, a_push, a_vret, fx_71_0 hx, sh_71, sh_72, pu_rv, pu_as, Value.category, pu_bk, pu_kl, pu_qe0, pu_qe1, a4, hc]
  | m + 1, d, be, ah, lo, hi, t9, t10, t11, h, g1, g2 => by
    have hr2 : pu_Rel I L ((pz_lh M lo hi).1 72) := by rw [pz_lh_s]; exact hr
    have hD := wx_bD hw
    have hc : ¬ nI (cD I) ≤ nI d := nI_ge (by omega) (by omega)
    obtain ⟨b1, a1, l1, i1, u1, v1, x1, y1, z1⟩ := r_bounds_i hx hr hw st d 0 hst (by omega) (by omega) sd pc here be ah lo hi t10 t11
    obtain ⟨b2, a2, l2, i2, u2, v2, x2, y2, z2⟩ := r_bounds_i hx hr hw st d 1 hst (by omega) (by omega) sd pc here b1 a1 l1 i1 u1 v1
    obtain ⟨b3, a3, l3, i3, x3, y3, z3⟩ := r_bounds_l hx hr hw st hst sd pc here m (d + 1) b2 a2 l2 i2 (some (.int (nI (1 + 1)))) u2 v2 (by omega) (x2 (x1 g1)) (y2 (y1 g2))
    refine ⟨b3, a3, l3, i3, x3, y3, ?_⟩
    rw [nI_0] at z1
    have z : pu_r 459 [some (.ref 71), some (.int (nI st)), some (.int sd), some (.int pc), some (.int (I 27 st)), some (.int here), some (.int be), some (.int ah), some (.int (nI d)), some (.int 0), t10, t11] [] (pz_lh M lo hi) = some (none, pz_lh M l3 i3) := by
      rw [z1, z2, ← z3]
      have h2 : 2 ≤ nI (1 + 1) := by decide
      rw [qX12_bounds_56]
      simp [bX12_bounds_56, bX12_bounds_209, bX12_bounds_203, bX12_bounds_105, bX12_bounds_114, bX12_bounds_132, bX12_bounds_179, a_ald, a_cs, a_cv, a_icge, a_icle, a_icne, a_ifeq, a_ifgt, a_ifne, a_ild, a_inc, a_ist, a_pi, a_push, sh_71, pu_rv, pu_as, Value.category, pu_bk, pu_kl, List.replicate, pu_wi_1, pu_wi_2, nl_add, nl_ladd, nl_aa, nl_mul, nl_rmul, nl_mm, pu_qe0, pu_qe1, h2]
      all_goals try simp (maxSteps := 400000) (disch := omega) [nl_tle, nl_fle, nl_tlt, nl_flt, nl_teq, nl_feq, nl_sub, nl_ss, nl_lt, nl_llt, nl_ltt, nl_le, nl_lle, nl_lee, nl_eq, nl_leq, nl_ee, nl_div, nl_rem, nl_cl, nl_n1, nl_n2, nl_n3, nl_n4, nl_add, nl_ladd, nl_aa, nl_mul, nl_rmul, nl_mm, pu_wi_1, pu_wi_2, bX12_bounds_56, bX12_bounds_209, bX12_bounds_203, bX12_bounds_105, bX12_bounds_114, bX12_bounds_132, bX12_bounds_179, a_ald, a_cs, a_cv, a_icge, a_icle, a_icne, a_ifeq, a_ifgt, a_ifne, a_ild, a_inc, a_ist, a_pi, a_push, sh_71, pu_rv, pu_as, Value.category, pu_bk, pu_kl, pu_qe0, pu_qe1, h2]
      all_goals try simp [bX12_bounds_56, bX12_bounds_209, bX12_bounds_203, bX12_bounds_105, bX12_bounds_114, bX12_bounds_132, bX12_bounds_179, a_ald, a_cs, a_cv, a_icge, a_icle, a_icne, a_ifeq, a_ifgt, a_ifne, a_ild, a_inc, a_ist, a_pi, a_push, sh_71, pu_rv, pu_as, Value.category, pu_bk, pu_kl, List.replicate, pu_wi_1, pu_wi_2, nl_add, nl_ladd, nl_aa, nl_mul, nl_rmul, nl_mm, pu_qe0, pu_qe1, h2]
      all_goals try simp (maxSteps := 400000) (disch := omega) [nl_tle, nl_fle, nl_tlt, nl_flt, nl_teq, nl_feq, nl_sub, nl_ss, nl_lt, nl_llt, nl_ltt, nl_le, nl_lle, nl_lee, nl_eq, nl_leq, nl_ee, nl_div, nl_rem, nl_cl, nl_n1, nl_n2, nl_n3, nl_n4, nl_add, nl_ladd, nl_aa, nl_mul, nl_rmul, nl_mm, pu_wi_1, pu_wi_2, bX12_bounds_56, bX12_bounds_209, bX12_bounds_203, bX12_bounds_105, bX12_bounds_114, bX12_bounds_132, bX12_bounds_179, a_ald, a_cs, a_cv, a_icge, a_icle, a_icne, a_ifeq, a_ifgt, a_ifne, a_ild, a_inc, a_ist, a_pi, a_push, sh_71, pu_rv, pu_as, Value.category, pu_bk, pu_kl, pu_qe0, pu_qe1, h2]
    have hx : pu_fx (pz_lh M lo hi) := hx
    have a4 := rl_h4 hr2
    generalize pz_lh M lo hi = N at *
    rw [qX12_bounds_42]
    simp [bX12_bounds_42, bX12_bounds_215, a_ai, a_ald, a_gr, a_icge, a_ild, a_ist, a_push, a_vret, fx_71_0 hx, sh_71, sh_72, pu_rv, pu_as, Value.category, pu_bk, pu_kl, List.replicate, pu_wi_1, pu_wi_2, nl_add, nl_ladd, nl_aa, nl_mul, nl_rmul, nl_mm, pu_qe0, pu_qe1, a4, hc, z]
    all_goals try simp (maxSteps := 400000) (disch := omega) [nl_tle, nl_fle, nl_tlt, nl_flt, nl_teq, nl_feq, nl_sub, nl_ss, nl_lt, nl_llt, nl_ltt, nl_le, nl_lle, nl_lee, nl_eq, nl_leq, nl_ee, nl_div, nl_rem, nl_cl, nl_n1, nl_n2, nl_n3, nl_n4, nl_add, nl_ladd, nl_aa, nl_mul, nl_rmul, nl_mm, pu_wi_1, pu_wi_2, bX12_bounds_42, bX12_bounds_215, a_ai, a_ald, a_gr, a_icge, a_ild, a_ist, a_push, a_vret, fx_71_0 hx, sh_71, sh_72, pu_rv, pu_as, Value.category, pu_bk, pu_kl, pu_qe0, pu_qe1, a4, hc, z]
    all_goals try simp [bX12_bounds_42, bX12_bounds_215, a_ai, a_ald, a_gr, a_icge, a_ild, a_ist, a_push, a_vret, fx_71_0 hx, sh_71, sh_72, pu_rv, pu_as, Value.category, pu_bk, pu_kl, List.replicate, pu_wi_1, pu_wi_2, nl_add, nl_ladd, nl_aa, nl_mul, nl_rmul, nl_mm, pu_qe0, pu_qe1, a4, hc, z]
    all_goals try simp (maxSteps := 400000) (disch := omega) [nl_tle, nl_fle, nl_tlt, nl_flt, nl_teq, nl_feq, nl_sub, nl_ss, nl_lt, nl_llt, nl_ltt, nl_le, nl_lle, nl_lee, nl_eq, nl_leq, nl_ee, nl_div, nl_rem, nl_cl, nl_n1, nl_n2, nl_n3, nl_n4, nl_add, nl_ladd, nl_aa, nl_mul, nl_rmul, nl_mm, pu_wi_1, pu_wi_2, bX12_bounds_42, bX12_bounds_215, a_ai, a_ald, a_gr, a_icge, a_ild, a_ist, a_push, a_vret, fx_71_0 hx, sh_71, sh_72, pu_rv, pu_as, Value.category, pu_bk, pu_kl, pu_qe0, pu_qe1, a4, hc, z]
theorem r_bounds (hx : pu_fx M) (hr : pu_Rel I L (M.1 72)) (hw : pu_WF I L) (st : Nat) (hst : st < cK I) (sd pc : Int32) (h1 : 0 ≤ sd.toInt) (h2 : sd.toInt ≤ 1) (h3 : 0 ≤ pc.toInt) (h4 : pc.toInt ≤ 9999) : ∃ be2 ah2 lo2 hi2, pz_lo I st sd.toInt (pz_al (I 27 st).toInt sd.toInt pc.toInt) (2 * cD I) be2 lo2 ∧ pz_hi I st sd.toInt (pz_al (I 27 st).toInt sd.toInt pc.toInt) (2 * cD I) ah2 hi2 ∧ pu_r 277 [some (.ref 71), some (.int (nI st)), some (.int sd), some (.int pc)] [] M = some (none, pz_lh M lo2 hi2) := by
  have hK := wx_bK hw
  have e1 := r_along (I 27 st) sd pc M
  have e2 := pz_al_e (r := I 27 st) h1 h2 h3 h4
  obtain ⟨b, a, l, i, x, y, z⟩ := r_bounds_l hx hr hw st hst sd pc (pz_alx (I 27 st) sd pc) (cD I) 0 (-1) 1000000 0 160000 none none none (by omega) (Or.inl ⟨by decide, rfl, fun k _ q => by omega⟩) (Or.inl ⟨by decide, rfl, fun k _ q => by omega⟩)
  rw [e2] at x y
  refine ⟨b, a, l, i, x, y, ?_⟩
  rw [nI_0] at z
  unfold pz_lh at z ⊢
  rw [qX12_bounds]
  simp [a_ent, bX12_bounds_0, a_ai, a_ald, a_cs, a_gr, a_iadd, a_ild, a_ist, a_pi, a_push, fx_71_0 hx, sh_71, sh_72, pu_rv, pu_as, Value.category, pu_bk, pu_kl, List.replicate, pu_wi_1, pu_wi_2, nl_add, nl_ladd, nl_aa, nl_mul, nl_rmul, nl_mm, pu_qe0, pu_qe1, e1, z, rl_k0 hr]
  all_goals try simp (maxSteps := 400000) (disch := omega) [nl_tle, nl_fle, nl_tlt, nl_flt, nl_teq, nl_feq, nl_sub, nl_ss, nl_lt, nl_llt, nl_ltt, nl_le, nl_lle, nl_lee, nl_eq, nl_leq, nl_ee, nl_div, nl_rem, nl_cl, nl_n1, nl_n2, nl_n3, nl_n4, nl_add, nl_ladd, nl_aa, nl_mul, nl_rmul, nl_mm, pu_wi_1, pu_wi_2, bX12_bounds_0, a_ai, a_ald, a_cs, a_gr, a_iadd, a_ild, a_ist, a_pi, a_push, fx_71_0 hx, sh_71, sh_72, pu_rv, pu_as, Value.category, pu_bk, pu_kl, pu_qe0, pu_qe1, e1, z, rl_k0 hr]
  all_goals try simp [bX12_bounds_0, a_ai, a_ald, a_cs, a_gr, a_iadd, a_ild, a_ist, a_pi, a_push, fx_71_0 hx, sh_71, sh_72, pu_rv, pu_as, Value.category, pu_bk, pu_kl, List.replicate, pu_wi_1, pu_wi_2, nl_add, nl_ladd, nl_aa, nl_mul, nl_rmul, nl_mm, pu_qe0, pu_qe1, e1, z, rl_k0 hr]
  all_goals try simp (maxSteps := 400000) (disch := omega) [nl_tle, nl_fle, nl_tlt, nl_flt, nl_teq, nl_feq, nl_sub, nl_ss, nl_lt, nl_llt, nl_ltt, nl_le, nl_lle, nl_lee, nl_eq, nl_leq, nl_ee, nl_div, nl_rem, nl_cl, nl_n1, nl_n2, nl_n3, nl_n4, nl_add, nl_ladd, nl_aa, nl_mul, nl_rmul, nl_mm, pu_wi_1, pu_wi_2, bX12_bounds_0, a_ai, a_ald, a_cs, a_gr, a_iadd, a_ild, a_ist, a_pi, a_push, fx_71_0 hx, sh_71, sh_72, pu_rv, pu_as, Value.category, pu_bk, pu_kl, pu_qe0, pu_qe1, e1, z, rl_k0 hr]
end
