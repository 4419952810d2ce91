/-! addresses: the reference reads one -/
def py_zz (M : pu_M) (i : Nat) : pu_M := (fun a j => if (a = 78 ∨ a = 82) ∧ j < i then 0 else M.1 a j, M.2)
theorem py_zz_s (M : pu_M) (i : Nat) : pu_wi (pu_wi (py_zz M i) 78 i 0) 82 i 0 = py_zz M (i + 1) := by
  unfold pu_wi py_zz
  congr 1
  funext a j
  grind
theorem r_clrA {M : pu_M} (hx : pu_fx M) : ∀ m i, i + m = 36 → pu_r 494 [some (.ref 71), some (.int (nI i))] [] (py_zz M i) = kX12_readsAddress_45 pu_r [some (.ref 71), some (.int (nI 36))] [] (py_zz M 36)
  | 0, i, h => by
    have e : i = 36 := by omega
    subst e
    have hc : 36 ≤ nI 36 := by decide
    generalize py_zz M 36 = N
    rw [qX12_readsAddress_19]
    simp [bX12_readsAddress_19, a_ald, a_gr, a_icge, a_ild, a_inc, a_push, a_wi, sh_71, sh_78, sh_82, pu_rv, pu_as, Value.category, pu_bk, pu_kl, List.replicate, pu_wi_1, pu_wi_2, nl_add, nl_ladd, nl_aa, nl_mul, nl_rmul, nl_mm, pu_qe0, pu_qe1, hc]
    all_goals try simp (maxSteps := 400000) (disch := omega) [nl_tle, nl_fle, nl_tlt, nl_flt, nl_teq, nl_feq, nl_sub, nl_ss, nl_lt, nl_llt, nl_ltt, nl_le, nl_lle, nl_lee, nl_eq, nl_leq, nl_ee, nl_div, nl_rem, nl_cl, nl_n1, nl_n2, nl_n3, nl_n4, nl_add, nl_ladd, nl_aa, nl_mul, nl_rmul, nl_mm, pu_wi_1, pu_wi_2, bX12_readsAddress_19, a_ald, a_gr, a_icge, a_ild, a_inc, a_push, a_wi, sh_71, sh_78, sh_82, pu_rv, pu_as, Value.category, pu_bk, pu_kl, pu_qe0, pu_qe1, hc]
    all_goals try simp [bX12_readsAddress_19, a_ald, a_gr, a_icge, a_ild, a_inc, a_push, a_wi, sh_71, sh_78, sh_82, pu_rv, pu_as, Value.category, pu_bk, pu_kl, List.replicate, pu_wi_1, pu_wi_2, nl_add, nl_ladd, nl_aa, nl_mul, nl_rmul, nl_mm, pu_qe0, pu_qe1, hc]
    all_goals try simp (maxSteps := 400000) (disch := omega) [nl_tle, nl_fle, nl_tlt, nl_flt, nl_teq, nl_feq, nl_sub, nl_ss, nl_lt, nl_llt, nl_ltt, nl_le, nl_lle, nl_lee, nl_eq, nl_leq, nl_ee, nl_div, nl_rem, nl_cl, nl_n1, nl_n2, nl_n3, nl_n4, nl_add, nl_ladd, nl_aa, nl_mul, nl_rmul, nl_mm, pu_wi_1, pu_wi_2, bX12_readsAddress_19, a_ald, a_gr, a_icge, a_ild, a_inc, a_push, a_wi, sh_71, sh_78, sh_82, pu_rv, pu_as, Value.category, pu_bk, pu_kl, pu_qe0, pu_qe1, hc]
    all_goals try simp [bX12_readsAddress_19, a_ald, a_gr, a_icge, a_ild, a_inc, a_push, a_wi, sh_71, sh_78, sh_82, pu_rv, pu_as, Value.category, pu_bk, pu_kl, List.replicate, pu_wi_1, pu_wi_2, nl_add, nl_ladd, nl_aa, nl_mul, nl_rmul, nl_mm, pu_qe0, pu_qe1, hc]
    all_goals try simp (maxSteps := 400000) (disch := omega) [nl_tle, nl_fle, nl_tlt, nl_flt, nl_teq, nl_feq, nl_sub, nl_ss, nl_lt, nl_llt, nl_ltt, nl_le, nl_lle, nl_lee, nl_eq, nl_leq, nl_ee, nl_div, nl_rem, nl_cl, nl_n1, nl_n2, nl_n3, nl_n4, nl_add, nl_ladd, nl_aa, nl_mul, nl_rmul, nl_mm, pu_wi_1, pu_wi_2, bX12_readsAddress_19, a_ald, a_gr, a_icge, a_ild, a_inc, a_push, a_wi, sh_71, sh_78, sh_82, pu_rv, pu_as, Value.category, pu_bk, pu_kl, pu_qe0, pu_qe1, hc]
    all_goals try simp [bX12_readsAddress_19, a_ald, a_gr, a_icge, a_ild, a_inc, a_push, a_wi, sh_71, sh_78, sh_82, pu_rv, pu_as, Value.category, pu_bk, pu_kl, List.replicate, pu_wi_1, pu_wi_2, nl_add, nl_ladd, nl_aa, nl_mul, nl_rmul, nl_mm, pu_qe0, pu_qe1, hc]
  | m + 1, i, h => by
    have hc : ¬ 36 ≤ nI i := nI_ge (b := 36) (by omega) (by omega)
    have ih := r_clrA hx m (i + 1) (by omega)
    rw [← py_zz_s] at ih
    have i36 : i < 36 := by omega
    have f9 : (py_zz M i).2.2.1 71 9 = some 78 := fx_71_9 hx
    have f16 : (py_zz M i).2.2.1 71 16 = some 82 := fx_71_16 hx
    rw [← ih]
    generalize py_zz M i = N at *
    rw [qX12_readsAddress_19]
    simp [bX12_readsAddress_19, a_ald, a_gr, a_icge, a_ild, a_inc, a_push, a_wi, sh_71, sh_78, sh_82, pu_rv, pu_as, Value.category, pu_bk, pu_kl, List.replicate, pu_wi_1, pu_wi_2, nl_add, nl_ladd, nl_aa, nl_mul, nl_rmul, nl_mm, pu_qe0, pu_qe1, hc, f9, f16, sh_78, sh_82, i36]
    all_goals try simp (maxSteps := 400000) (disch := omega) [nl_tle, nl_fle, nl_tlt, nl_flt, nl_teq, nl_feq, nl_sub, nl_ss, nl_lt, nl_llt, nl_ltt, nl_le, nl_lle, nl_lee, nl_eq, nl_leq, nl_ee, nl_div, nl_rem, nl_cl, nl_n1, nl_n2, nl_n3, nl_n4, nl_add, nl_ladd, nl_aa, nl_mul, nl_rmul, nl_mm, pu_wi_1, pu_wi_2, bX12_readsAddress_19, a_ald, a_gr, a_icge, a_ild, a_inc, a_push, a_wi, sh_71, sh_78, sh_82, pu_rv, pu_as, Value.category, pu_bk, pu_kl, pu_qe0, pu_qe1, hc, f9, f16, sh_78, sh_82, i36]
    all_goals try simp [bX12_readsAddress_19, a_ald, a_gr, a_icge, a_ild, a_inc, a_push, a_wi, sh_71, sh_78, sh_82, pu_rv, pu_as, Value.category, pu_bk, pu_kl, List.replicate, pu_wi_1, pu_wi_2, nl_add, nl_ladd, nl_aa, nl_mul, nl_rmul, nl_mm, pu_qe0, pu_qe1, hc, f9, f16, sh_78, sh_82, i36]
    all_goals try simp (maxSteps := 400000) (disch := omega) [nl_tle, nl_fle, nl_tlt, nl_flt, nl_teq, nl_feq, nl_sub, nl_ss, nl_lt, nl_llt, nl_ltt, nl_le, nl_lle, nl_lee, nl_eq, nl_leq, nl_ee, nl_div, nl_rem, nl_cl, nl_n1, nl_n2, nl_n3, nl_n4, nl_add, nl_ladd, nl_aa, nl_mul, nl_rmul, nl_mm, pu_wi_1, pu_wi_2, bX12_readsAddress_19, a_ald, a_gr, a_icge, a_ild, a_inc, a_push, a_wi, sh_71, sh_78, sh_82, pu_rv, pu_as, Value.category, pu_bk, pu_kl, pu_qe0, pu_qe1, hc, f9, f16, sh_78, sh_82, i36]
    all_goals try simp [bX12_readsAddress_19, a_ald, a_gr, a_icge, a_ild, a_inc, a_push, a_wi, sh_71, sh_78, sh_82, pu_rv, pu_as, Value.category, pu_bk, pu_kl, List.replicate, pu_wi_1, pu_wi_2, nl_add, nl_ladd, nl_aa, nl_mul, nl_rmul, nl_mm, pu_qe0, pu_qe1, hc, f9, f16, sh_78, sh_82, i36]
    all_goals try simp (maxSteps := 400000) (disch := omega) [nl_tle, nl_fle, nl_tlt, nl_flt, nl_teq, nl_feq, nl_sub, nl_ss, nl_lt, nl_llt, nl_ltt, nl_le, nl_lle, nl_lee, nl_eq, nl_leq, nl_ee, nl_div, nl_rem, nl_cl, nl_n1, nl_n2, nl_n3, nl_n4, nl_add, nl_ladd, nl_aa, nl_mul, nl_rmul, nl_mm, pu_wi_1, pu_wi_2, bX12_readsAddress_19, a_ald, a_gr, a_icge, a_ild, a_inc, a_push, a_wi, sh_71, sh_78, sh_82, pu_rv, pu_as, Value.category, pu_bk, pu_kl, pu_qe0, pu_qe1, hc, f9, f16, sh_78, sh_82, i36]
    all_goals try simp [bX12_readsAddress_19, a_ald, a_gr, a_icge, a_ild, a_inc, a_push, a_wi, sh_71, sh_78, sh_82, pu_rv, pu_as, Value.category, pu_bk, pu_kl, List.replicate, pu_wi_1, pu_wi_2, nl_add, nl_ladd, nl_aa, nl_mul, nl_rmul, nl_mm, pu_qe0, pu_qe1, hc, f9, f16, sh_78, sh_82, i36]
section
variable {I : Nat → Nat → Int32} {L : Nat → Nat → Int64}
theorem r_lenA {N : pu_M} (hx : pu_fx N) (hr : pu_Rel I L (N.1 72)) (hw : pu_WF I L) (x y : Nat → Int64) : ∀ m w (P : pu_M), w + m = 3 → P.2 = N.2 → (∀ a j, a ≠ 78 → a ≠ 82 → P.1 a j = N.1 a j) → (∀ k, k < 3 → (k < w → pu_Wd (P.1 78) (12 * k) (py_fu I L (x k))) ∧ (w ≤ k → pu_Wd (P.1 78) (12 * k) (x k))) → (∀ k, k < 3 → (k < w → pu_Wd (P.1 82) (12 * k) (py_fu I L (y k))) ∧ (w ≤ k → pu_Wd (P.1 82) (12 * k) (y k))) → ∃ R, R.2 = N.2 ∧ (∀ a j, a ≠ 78 → a ≠ 82 → R.1 a j = N.1 a j) ∧ (∀ k, k < 3 → pu_Wd (R.1 78) (12 * k) (py_fu I L (x k))) ∧ (∀ k, k < 3 → pu_Wd (R.1 82) (12 * k) (py_fu I L (y k))) ∧ pu_r 495 [some (.ref 71), some (.int (nI w))] [] P = some (some (.int 1), R)
  | 0, w, P, h, p1, p2, p3, p4 => by
    have e : w = 3 := by omega
    subst e
    refine ⟨P, p1, p2, fun k hk => (p3 k hk).1 hk, fun k hk => (p4 k hk).1 hk, ?_⟩
    have hc : 3 ≤ nI 3 := by decide
    rw [qX12_readsAddress_95]
    simp [bX12_readsAddress_95, bX12_readsAddress_148, bX12_readsAddress_121, bX12_readsAddress_142, a_ai, a_ald, a_cv, a_gr, a_icge, a_ifeq, a_ild, a_imul, a_inc, a_push, a_zret, sh_71, sh_78, sh_82, pu_rv, pu_as, Value.category, pu_bk, pu_kl, List.replicate, pu_wi_1, pu_wi_2, nl_add, nl_ladd, nl_aa, nl_mul, nl_rmul, nl_mm, pu_qe0, pu_qe1, hc]
    all_goals try simp (maxSteps := 400000) (disch := omega) [nl_tle, nl_fle, nl_tlt, nl_flt, nl_teq, nl_feq, nl_sub, nl_ss, nl_lt, nl_llt, nl_ltt, nl_le, nl_lle, nl_lee, nl_eq, nl_leq, nl_ee, nl_div, nl_rem, nl_cl, nl_n1, nl_n2, nl_n3, nl_n4, nl_add, nl_ladd, nl_aa, nl_mul, nl_rmul, nl_mm, pu_wi_1, pu_wi_2, bX12_readsAddress_95, bX12_readsAddress_148, bX12_readsAddress_121, bX12_readsAddress_142, a_ai, a_ald, a_cv, a_gr, a_icge, a_ifeq, a_ild, a_imul, a_inc, a_push, a_zret, sh_71, sh_78, sh_82, pu_rv, pu_as, Value.category, pu_bk, pu_kl, pu_qe0, pu_qe1, hc]
    all_goals try simp [bX12_readsAddress_95, bX12_readsAddress_148, bX12_readsAddress_121, bX12_readsAddress_142, a_ai, a_ald, a_cv, a_gr, a_icge, a_ifeq, a_ild, a_imul, a_inc, a_push, a_zret, sh_71, sh_78, sh_82, pu_rv, pu_as, Value.category, pu_bk, pu_kl, List.replicate, pu_wi_1, pu_wi_2, nl_add, nl_ladd, nl_aa, nl_mul, nl_rmul, nl_mm, pu_qe0, pu_qe1, hc]
    all_goals try simp (maxSteps := 400000) (disch := omega) [nl_tle, nl_fle, nl_tlt, nl_flt, nl_teq, nl_feq, nl_sub, nl_ss, nl_lt, nl_llt, nl_ltt, nl_le, nl_lle, nl_lee, nl_eq, nl_leq, nl_ee, nl_div, nl_rem, nl_cl, nl_n1, nl_n2, nl_n3, nl_n4, nl_add, nl_ladd, nl_aa, nl_mul, nl_rmul, nl_mm, pu_wi_1, pu_wi_2, bX12_readsAddress_95, bX12_readsAddress_148, bX12_readsAddress_121, bX12_readsAddress_142, a_ai, a_ald, a_cv, a_gr, a_icge, a_ifeq, a_ild, a_imul, a_inc, a_push, a_zret, sh_71, sh_78, sh_82, pu_rv, pu_as, Value.category, pu_bk, pu_kl, pu_qe0, pu_qe1, hc]
    all_goals try simp [bX12_readsAddress_95, bX12_readsAddress_148, bX12_readsAddress_121, bX12_readsAddress_142, a_ai, a_ald, a_cv, a_gr, a_icge, a_ifeq, a_ild, a_imul, a_inc, a_push, a_zret, sh_71, sh_78, sh_82, pu_rv, pu_as, Value.category, pu_bk, pu_kl, List.replicate, pu_wi_1, pu_wi_2, nl_add, nl_ladd, nl_aa, nl_mul, nl_rmul, nl_mm, pu_qe0, pu_qe1, hc]
    all_goals try simp (maxSteps := 400000) (disch := omega) [nl_tle, nl_fle, nl_tlt, nl_flt, nl_teq, nl_feq, nl_sub, nl_ss, nl_lt, nl_llt, nl_ltt, nl_le, nl_lle, nl_lee, nl_eq, nl_leq, nl_ee, nl_div, nl_rem, nl_cl, nl_n1, nl_n2, nl_n3, nl_n4, nl_add, nl_ladd, nl_aa, nl_mul, nl_rmul, nl_mm, pu_wi_1, pu_wi_2, bX12_readsAddress_95, bX12_readsAddress_148, bX12_readsAddress_121, bX12_readsAddress_142, a_ai, a_ald, a_cv, a_gr, a_icge, a_ifeq, a_ild, a_imul, a_inc, a_push, a_zret, sh_71, sh_78, sh_82, pu_rv, pu_as, Value.category, pu_bk, pu_kl, pu_qe0, pu_qe1, hc]
    all_goals try simp [bX12_readsAddress_95, bX12_readsAddress_148, bX12_readsAddress_121, bX12_readsAddress_142, a_ai, a_ald, a_cv, a_gr, a_icge, a_ifeq, a_ild, a_imul, a_inc, a_push, a_zret, sh_71, sh_78, sh_82, pu_rv, pu_as, Value.category, pu_bk, pu_kl, List.replicate, pu_wi_1, pu_wi_2, nl_add, nl_ladd, nl_aa, nl_mul, nl_rmul, nl_mm, pu_qe0, pu_qe1, hc]
  | m + 1, w, P, h, p1, p2, p3, p4 => by
    have hc : ¬ 3 ≤ nI w := nI_ge (b := 3) (by omega) (by omega)
    -- one row's word lengthened, or none there
    have S : ∀ (P : pu_M) (rr : Nat) (v : Int64), pu_sh rr = (1, 36) → rr = 78 ∨ rr = 82 → P.2 = N.2 → (∀ a j, a ≠ 78 → a ≠ 82 → P.1 a j = N.1 a j) → pu_Wd (P.1 rr) (12 * w) v → ∃ P2 : pu_M, P2.2 = N.2 ∧ (∀ a j, ¬ (a = rr ∧ 12 * w ≤ j ∧ j < 12 * w + 12) → P2.1 a j = P.1 a j) ∧ pu_Wd (P2.1 rr) (12 * w) (py_fu I L v) ∧ ((P.1 rr (12 * w) = 0 ∧ P2 = P) ∨ (¬ P.1 rr (12 * w) = 0 ∧ pu_r 242 [some (.ref 71), some (.ref rr), some (.int (nI w))] [] P = some (none, P2))) := fun P rr v srr hrr q1 q2 dw => by
      have hxP : pu_fx P := pz_fx_of hx q1
      have hrP : pu_Rel I L (P.1 72) := by
        rw [show P.1 72 = N.1 72 from funext (fun j => q2 72 j (by omega) (by omega))]
        exact hr
      have z0 := py_wd_0 dw
      by_cases c : P.1 rr (12 * w) = 0
      · have x0 := z0.mp c
        refine ⟨P, q1, fun _ _ _ => rfl, ?_, Or.inl ⟨c, rfl⟩⟩
        rw [x0, py_fu_0 hw, ← x0]
        exact dw
      · obtain ⟨P2, r1, r2, r3, r4⟩ := r_lengthen hxP hrP hw rr srr (by omega) w (by omega) _ dw
        exact ⟨P2, r1.trans q1, r2, r3, Or.inr ⟨c, r4⟩⟩
    obtain ⟨P2, a1, a2, a3, a4⟩ := S P 78 (x w) sh_78 (Or.inl rfl) p1 p2 ((p3 w (by omega)).2 (Nat.le_refl _))
    have o2 : ∀ a j, a ≠ 78 → a ≠ 82 → P2.1 a j = N.1 a j := fun a j h1 h2 => by rw [a2 a j (by omega)]; exact p2 a j h1 h2
    obtain ⟨P3, b1, b2, b3, b4⟩ := S P2 82 (y w) sh_82 (Or.inr rfl) a1 o2 (pu_Wd_fr ((p4 w (by omega)).2 (Nat.le_refl _)) (fun i hi => a2 82 _ (by omega)))
    obtain ⟨R, r1, r2, r3, r4, r5⟩ := r_lenA hx hr hw x y m (w + 1) P3 (by omega) b1 (fun a j h1 h2 => by rw [b2 a j (by omega)]; exact o2 a j h1 h2) (fun k hk => ⟨fun kw => by
      refine pu_Wd_fr (s := P2.1 78) ?_ (fun i hi => b2 78 _ (by omega))
      by_cases kk : k = w
      · rw [kk]; exact a3
      · exact pu_Wd_fr ((p3 k hk).1 (by omega)) (fun i hi => a2 78 _ (by omega)), fun kw => pu_Wd_fr (s := P2.1 78) (pu_Wd_fr ((p3 k hk).2 (by omega)) (fun i hi => a2 78 _ (by omega))) (fun i hi => b2 78 _ (by omega))⟩) (fun k hk => ⟨fun kw => by
      by_cases kk : k = w
      · rw [kk]; exact b3
      · exact pu_Wd_fr (s := P2.1 82) (pu_Wd_fr ((p4 k hk).1 (by omega)) (fun i hi => a2 82 _ (by omega))) (fun i hi => b2 82 _ (by omega)), fun kw => pu_Wd_fr (s := P2.1 82) (pu_Wd_fr ((p4 k hk).2 (by omega)) (fun i hi => a2 82 _ (by omega))) (fun i hi => b2 82 _ (by omega))⟩)
    refine ⟨R, r1, r2, r3, r4, ?_⟩
    have f9 := fx_71_9 (pz_fx_of hx p1)
    have f16 := fx_71_16 (pz_fx_of hx a1)
    rcases a4 with ⟨c1, e1⟩ | ⟨c1, e1⟩
    · rcases b4 with ⟨c2, e2⟩ | ⟨c2, e2⟩
      · subst e1 e2
        rw [qX12_readsAddress_95]
        simp [bX12_readsAddress_95, bX12_readsAddress_148, bX12_readsAddress_121, bX12_readsAddress_142, a_ai, a_ald, a_cv, a_gr, a_icge, a_ifeq, a_ild, a_imul, a_inc, a_push, a_zret, sh_71, sh_78, sh_82, pu_rv, pu_as, Value.category, pu_bk, pu_kl, List.replicate, pu_wi_1, pu_wi_2, nl_add, nl_ladd, nl_aa, nl_mul, nl_rmul, nl_mm, pu_qe0, pu_qe1, hc, f9, f16, sh_78, sh_82, c1, c2, r5]
        all_goals try simp (maxSteps := 400000) (disch := omega) [nl_tle, nl_fle, nl_tlt, nl_flt, nl_teq, nl_feq, nl_sub, nl_ss, nl_lt, nl_llt, nl_ltt, nl_le, nl_lle, nl_lee, nl_eq, nl_leq, nl_ee, nl_div, nl_rem, nl_cl, nl_n1, nl_n2, nl_n3, nl_n4, nl_add, nl_ladd, nl_aa, nl_mul, nl_rmul, nl_mm, pu_wi_1, pu_wi_2, bX12_readsAddress_95, bX12_readsAddress_148, bX12_readsAddress_121, bX12_readsAddress_142, a_ai, a_ald, a_cv, a_gr, a_icge, a_ifeq, a_ild, a_imul, a_inc, a_push, a_zret, sh_71, sh_78, sh_82, pu_rv, pu_as, Value.category, pu_bk, pu_kl, pu_qe0, pu_qe1, hc, f9, f16, sh_78, sh_82, c1, c2, r5]
        all_goals try simp [bX12_readsAddress_95, bX12_readsAddress_148, bX12_readsAddress_121, bX12_readsAddress_142, a_ai, a_ald, a_cv, a_gr, a_icge, a_ifeq, a_ild, a_imul, a_inc, a_push, a_zret, sh_71, sh_78, sh_82, pu_rv, pu_as, Value.category, pu_bk, pu_kl, List.replicate, pu_wi_1, pu_wi_2, nl_add, nl_ladd, nl_aa, nl_mul, nl_rmul, nl_mm, pu_qe0, pu_qe1, hc, f9, f16, sh_78, sh_82, c1, c2, r5]
        all_goals try simp (maxSteps := 400000) (disch := omega) [nl_tle, nl_fle, nl_tlt, nl_flt, nl_teq, nl_feq, nl_sub, nl_ss, nl_lt, nl_llt, nl_ltt, nl_le, nl_lle, nl_lee, nl_eq, nl_leq, nl_ee, nl_div, nl_rem, nl_cl, nl_n1, nl_n2, nl_n3, nl_n4, nl_add, nl_ladd, nl_aa, nl_mul, nl_rmul, nl_mm, pu_wi_1, pu_wi_2, bX12_readsAddress_95, bX12_readsAddress_148, bX12_readsAddress_121, bX12_readsAddress_142, a_ai, a_ald, a_cv, a_gr, a_icge, a_ifeq, a_ild, a_imul, a_inc, a_push, a_zret, sh_71, sh_78, sh_82, pu_rv, pu_as, Value.category, pu_bk, pu_kl, pu_qe0, pu_qe1, hc, f9, f16, sh_78, sh_82, c1, c2, r5]
        all_goals try simp [bX12_readsAddress_95, bX12_readsAddress_148, bX12_readsAddress_121, bX12_readsAddress_142, a_ai, a_ald, a_cv, a_gr, a_icge, a_ifeq, a_ild, a_imul, a_inc, a_push, a_zret, sh_71, sh_78, sh_82, pu_rv, pu_as, Value.category, pu_bk, pu_kl, List.replicate, pu_wi_1, pu_wi_2, nl_add, nl_ladd, nl_aa, nl_mul, nl_rmul, nl_mm, pu_qe0, pu_qe1, hc, f9, f16, sh_78, sh_82, c1, c2, r5]
        all_goals try simp (maxSteps := 400000) (disch := omega) [nl_tle, nl_fle, nl_tlt, nl_flt, nl_teq, nl_feq, nl_sub, nl_ss, nl_lt, nl_llt, nl_ltt, nl_le, nl_lle, nl_lee, nl_eq, nl_leq, nl_ee, nl_div, nl_rem, nl_cl, nl_n1, nl_n2, nl_n3, nl_n4, nl_add, nl_ladd, nl_aa, nl_mul, nl_rmul, nl_mm, pu_wi_1, pu_wi_2, bX12_readsAddress_95, bX12_readsAddress_148, bX12_readsAddress_121, bX12_readsAddress_142, a_ai, a_ald, a_cv, a_gr, a_icge, a_ifeq, a_ild, a_imul, a_inc, a_push, a_zret, sh_71, sh_78, sh_82, pu_rv, pu_as, Value.category, pu_bk, pu_kl, pu_qe0, pu_qe1, hc, f9, f16, sh_78, sh_82, c1, c2, r5]
        all_goals try simp [bX12_readsAddress_95, bX12_readsAddress_148, bX12_readsAddress_121, bX12_readsAddress_142, a_ai, a_ald, a_cv, a_gr, a_icge, a_ifeq, a_ild, a_imul, a_inc, a_push, a_zret, sh_71, sh_78, sh_82, pu_rv, pu_as, Value.category, pu_bk, pu_kl, List.replicate, pu_wi_1, pu_wi_2, nl_add, nl_ladd, nl_aa, nl_mul, nl_rmul, nl_mm, pu_qe0, pu_qe1, hc, f9, f16, sh_78, sh_82, c1, c2, r5]
      · subst e1
        rw [qX12_readsAddress_95]
        simp [bX12_readsAddress_95, bX12_readsAddress_148, bX12_readsAddress_121, bX12_readsAddress_142, a_ai, a_ald, a_cv, a_gr, a_icge, a_ifeq, a_ild, a_imul, a_inc, a_push, a_zret, sh_71, sh_78, sh_82, pu_rv, pu_as, Value.category, pu_bk, pu_kl, List.replicate, pu_wi_1, pu_wi_2, nl_add, nl_ladd, nl_aa, nl_mul, nl_rmul, nl_mm, pu_qe0, pu_qe1, hc, f9, f16, sh_78, sh_82, c1, c2, e2, r5]
        all_goals try simp (maxSteps := 400000) (disch := omega) [nl_tle, nl_fle, nl_tlt, nl_flt, nl_teq, nl_feq, nl_sub, nl_ss, nl_lt, nl_llt, nl_ltt, nl_le, nl_lle, nl_lee, nl_eq, nl_leq, nl_ee, nl_div, nl_rem, nl_cl, nl_n1, nl_n2, nl_n3, nl_n4, nl_add, nl_ladd, nl_aa, nl_mul, nl_rmul, nl_mm, pu_wi_1, pu_wi_2, bX12_readsAddress_95, bX12_readsAddress_148, bX12_readsAddress_121, bX12_readsAddress_142, a_ai, a_ald, a_cv, a_gr, a_icge, a_ifeq, a_ild, a_imul, a_inc, a_push, a_zret, sh_71, sh_78, sh_82, pu_rv, pu_as, Value.category, pu_bk, pu_kl, pu_qe0, pu_qe1, hc, f9, f16, sh_78, sh_82, c1, c2, e2, r5]
        all_goals try simp [bX12_readsAddress_95, bX12_readsAddress_148, bX12_readsAddress_121, bX12_readsAddress_142, a_ai, a_ald, a_cv, a_gr, a_icge, a_ifeq, a_ild, a_imul, a_inc, a_push, a_zret, sh_71, sh_78, sh_82, pu_rv, pu_as, Value.category, pu_bk, pu_kl, List.replicate, pu_wi_1, pu_wi_2, nl_add, nl_ladd, nl_aa, nl_mul, nl_rmul, nl_mm, pu_qe0, pu_qe1, hc, f9, f16, sh_78, sh_82, c1, c2, e2, r5]
        all_goals try simp (maxSteps := 400000) (disch := omega) [nl_tle, nl_fle, nl_tlt, nl_flt, nl_teq, nl_feq, nl_sub, nl_ss, nl_lt, nl_llt, nl_ltt, nl_le, nl_lle, nl_lee, nl_eq, nl_leq, nl_ee, nl_div, nl_rem, nl_cl, nl_n1, nl_n2, nl_n3, nl_n4, nl_add, nl_ladd, nl_aa, nl_mul, nl_rmul, nl_mm, pu_wi_1, pu_wi_2, bX12_readsAddress_95, bX12_readsAddress_148, bX12_readsAddress_121, bX12_readsAddress_142, a_ai, a_ald, a_cv, a_gr, a_icge, a_ifeq, a_ild, a_imul, a_inc, a_push, a_zret, sh_71, sh_78, sh_82, pu_rv, pu_as, Value.category, pu_bk, pu_kl, pu_qe0, pu_qe1, hc, f9, f16, sh_78, sh_82, c1, c2, e2, r5]
        all_goals try simp [bX12_readsAddress_95, bX12_readsAddress_148, bX12_readsAddress_121, bX12_readsAddress_142, a_ai, a_ald, a_cv, a_gr, a_icge, a_ifeq, a_ild, a_imul, a_inc, a_push, a_zret, sh_71, sh_78, sh_82, pu_rv, pu_as, Value.category, pu_bk, pu_kl, List.replicate, pu_wi_1, pu_wi_2, nl_add, nl_ladd, nl_aa, nl_mul, nl_rmul, nl_mm, pu_qe0, pu_qe1, hc, f9, f16, sh_78, sh_82, c1, c2, e2, r5]
        all_goals try simp (maxSteps := 400000) (disch := omega) [nl_tle, nl_fle, nl_tlt, nl_flt, nl_teq, nl_feq, nl_sub, nl_ss, nl_lt, nl_llt, nl_ltt, nl_le, nl_lle, nl_lee, nl_eq, nl_leq, nl_ee, nl_div, nl_rem, nl_cl, nl_n1, nl_n2, nl_n3, nl_n4, nl_add, nl_ladd, nl_aa, nl_mul, nl_rmul, nl_mm, pu_wi_1, pu_wi_2, bX12_readsAddress_95, bX12_readsAddress_148, bX12_readsAddress_121, bX12_readsAddress_142, a_ai, a_ald, a_cv, a_gr, a_icge, a_ifeq, a_ild, a_imul, a_inc, a_push, a_zret, sh_71, sh_78, sh_82, pu_rv, pu_as, Value.category, pu_bk, pu_kl, pu_qe0, pu_qe1, hc, f9, f16, sh_78, sh_82, c1, c2, e2, r5]
        all_goals try simp [bX12_readsAddress_95, bX12_readsAddress_148, bX12_readsAddress_121, bX12_readsAddress_142, a_ai, a_ald, a_cv, a_gr, a_icge, a_ifeq, a_ild, a_imul, a_inc, a_push, a_zret, sh_71, sh_78, sh_82, pu_rv, pu_as, Value.category, pu_bk, pu_kl, List.replicate, pu_wi_1, pu_wi_2, nl_add, nl_ladd, nl_aa, nl_mul, nl_rmul, nl_mm, pu_qe0, pu_qe1, hc, f9, f16, sh_78, sh_82, c1, c2, e2, r5]
    · rcases b4 with ⟨c2, e2⟩ | ⟨c2, e2⟩
      · subst e2
        rw [qX12_readsAddress_95]
        simp [bX12_readsAddress_95, bX12_readsAddress_148, bX12_readsAddress_121, bX12_readsAddress_142, a_ai, a_ald, a_cv, a_gr, a_icge, a_ifeq, a_ild, a_imul, a_inc, a_push, a_zret, sh_71, sh_78, sh_82, pu_rv, pu_as, Value.category, pu_bk, pu_kl, List.replicate, pu_wi_1, pu_wi_2, nl_add, nl_ladd, nl_aa, nl_mul, nl_rmul, nl_mm, pu_qe0, pu_qe1, hc, f9, f16, sh_78, sh_82, c1, e1, c2, r5]
        all_goals try simp (maxSteps := 400000) (disch := omega) [nl_tle, nl_fle, nl_tlt, nl_flt, nl_teq, nl_feq, nl_sub, nl_ss, nl_lt, nl_llt, nl_ltt, nl_le, nl_lle, nl_lee, nl_eq, nl_leq, nl_ee, nl_div, nl_rem, nl_cl, nl_n1, nl_n2, nl_n3, nl_n4, nl_add, nl_ladd, nl_aa, nl_mul, nl_rmul, nl_mm, pu_wi_1, pu_wi_2, bX12_readsAddress_95, bX12_readsAddress_148, bX12_readsAddress_121, bX12_readsAddress_142, a_ai, a_ald, a_cv, a_gr, a_icge, a_ifeq, a_ild, a_imul, a_inc, a_push, a_zret, sh_71, sh_78, sh_82, pu_rv, pu_as, Value.category, pu_bk, pu_kl, pu_qe0, pu_qe1, hc, f9, f16, sh_78, sh_82, c1, e1, c2, r5]
        all_goals try simp [bX12_readsAddress_95, bX12_readsAddress_148, bX12_readsAddress_121, bX12_readsAddress_142, a_ai, a_ald, a_cv, a_gr, a_icge, a_ifeq, a_ild, a_imul, a_inc, a_push, a_zret, sh_71, sh_78, sh_82, pu_rv, pu_as, Value.category, pu_bk, pu_kl, List.replicate, pu_wi_1, pu_wi_2, nl_add, nl_ladd, nl_aa, nl_mul, nl_rmul, nl_mm, pu_qe0, pu_qe1, hc, f9, f16, sh_78, sh_82, c1, e1, c2, r5]
        all_goals try simp (maxSteps := 400000) (disch := omega) [nl_tle, nl_fle, nl_tlt, nl_flt, nl_teq, nl_feq, nl_sub, nl_ss, nl_lt, nl_llt, nl_ltt, nl_le, nl_lle, nl_lee, nl_eq, nl_leq, nl_ee, nl_div, nl_rem, nl_cl, nl_n1, nl_n2, nl_n3, nl_n4, nl_add, nl_ladd, nl_aa, nl_mul, nl_rmul, nl_mm, pu_wi_1, pu_wi_2, bX12_readsAddress_95, bX12_readsAddress_148, bX12_readsAddress_121, bX12_readsAddress_142, a_ai, a_ald, a_cv, a_gr, a_icge, a_ifeq, a_ild, a_imul, a_inc, a_push, a_zret, sh_71, sh_78, sh_82, pu_rv, pu_as, Value.category, pu_bk, pu_kl, pu_qe0, pu_qe1, hc, f9, f16, sh_78, sh_82, c1, e1, c2, r5]
        all_goals try simp [bX12_readsAddress_95, bX12_readsAddress_148, bX12_readsAddress_121, bX12_readsAddress_142, a_ai, a_ald, a_cv, a_gr, a_icge, a_ifeq, a_ild, a_imul, a_inc, a_push, a_zret, sh_71, sh_78, sh_82, pu_rv, pu_as, Value.category, pu_bk, pu_kl, List.replicate, pu_wi_1, pu_wi_2, nl_add, nl_ladd, nl_aa, nl_mul, nl_rmul, nl_mm, pu_qe0, pu_qe1, hc, f9, f16, sh_78, sh_82, c1, e1, c2, r5]
        all_goals try simp (maxSteps := 400000) (disch := omega) [nl_tle, nl_fle, nl_tlt, nl_flt, nl_teq, nl_feq, nl_sub, nl_ss, nl_lt, nl_llt, nl_ltt, nl_le, nl_lle, nl_lee, nl_eq, nl_leq, nl_ee, nl_div, nl_rem, nl_cl, nl_n1, nl_n2, nl_n3, nl_n4, nl_add, nl_ladd, nl_aa, nl_mul, nl_rmul, nl_mm, pu_wi_1, pu_wi_2, bX12_readsAddress_95, bX12_readsAddress_148, bX12_readsAddress_121, bX12_readsAddress_142, a_ai, a_ald, a_cv, a_gr, a_icge, a_ifeq, a_ild, a_imul, a_inc, a_push, a_zret, sh_71, sh_78, sh_82, pu_rv, pu_as, Value.category, pu_bk, pu_kl, pu_qe0, pu_qe1, hc, f9, f16, sh_78, sh_82, c1, e1, c2, r5]
        all_goals try simp [bX12_readsAddress_95, bX12_readsAddress_148, bX12_readsAddress_121, bX12_readsAddress_142, a_ai, a_ald, a_cv, a_gr, a_icge, a_ifeq, a_ild, a_imul, a_inc, a_push, a_zret, sh_71, sh_78, sh_82, pu_rv, pu_as, Value.category, pu_bk, pu_kl, List.replicate, pu_wi_1, pu_wi_2, nl_add, nl_ladd, nl_aa, nl_mul, nl_rmul, nl_mm, pu_qe0, pu_qe1, hc, f9, f16, sh_78, sh_82, c1, e1, c2, r5]
      · rw [qX12_readsAddress_95]
        simp [bX12_readsAddress_95, bX12_readsAddress_148, bX12_readsAddress_121, bX12_readsAddress_142, a_ai, a_ald, a_cv, a_gr, a_icge, a_ifeq, a_ild, a_imul, a_inc, a_push, a_zret, sh_71, sh_78, sh_82, pu_rv, pu_as, Value.category, pu_bk, pu_kl, List.replicate, pu_wi_1, pu_wi_2, nl_add, nl_ladd, nl_aa, nl_mul, nl_rmul, nl_mm, pu_qe0, pu_qe1, hc, f9, f16, sh_78, sh_82, c1, e1, c2, e2, r5]
        all_goals try simp (maxSteps := 400000) (disch := omega) [nl_tle, nl_fle, nl_tlt, nl_flt, nl_teq, nl_feq, nl_sub, nl_ss, nl_lt, nl_llt, nl_ltt, nl_le, nl_lle, nl_lee, nl_eq, nl_leq, nl_ee, nl_div, nl_rem, nl_cl, nl_n1, nl_n2, nl_n3, nl_n4, nl_add, nl_ladd, nl_aa, nl_mul, nl_rmul, nl_mm, pu_wi_1, pu_wi_2, bX12_readsAddress_95, bX12_readsAddress_148, bX12_readsAddress_121, bX12_readsAddress_142, a_ai, a_ald, a_cv, a_gr, a_icge, a_ifeq, a_ild, a_imul, a_inc, a_push, a_zret, sh_71, sh_78, sh_82, pu_rv, pu_as, Value.category, pu_bk, pu_kl, pu_qe0, pu_qe1, hc, f9, f16, sh_78, sh_82, c1, e1, c2, e2, r5]
        all_goals try simp [bX12_readsAddress_95, bX12_readsAddress_148, bX12_readsAddress_121, bX12_readsAddress_142, a_ai, a_ald, a_cv, a_gr, a_icge, a_ifeq, a_ild, a_imul, a_inc, a_push, a_zret, sh_71, sh_78, sh_82, pu_rv, pu_as, Value.category, pu_bk, pu_kl, List.replicate, pu_wi_1, pu_wi_2, nl_add, nl_ladd, nl_aa, nl_mul, nl_rmul, nl_mm, pu_qe0, pu_qe1, hc, f9, f16, sh_78, sh_82, c1, e1, c2, e2, r5]
        all_goals try simp (maxSteps := 400000) (disch := omega) [nl_tle, nl_fle, nl_tlt, nl_flt, nl_teq, nl_feq, nl_sub, nl_ss, nl_lt, nl_llt, nl_ltt, nl_le, nl_lle, nl_lee, nl_eq, nl_leq, nl_ee, nl_div, nl_rem, nl_cl, nl_n1, nl_n2, nl_n3, nl_n4, nl_add, nl_ladd, nl_aa, nl_mul, nl_rmul, nl_mm, pu_wi_1, pu_wi_2, bX12_readsAddress_95, bX12_readsAddress_148, bX12_readsAddress_121, bX12_readsAddress_142, a_ai, a_ald, a_cv, a_gr, a_icge, a_ifeq, a_ild, a_imul, a_inc, a_push, a_zret, sh_71, sh_78, sh_82, pu_rv, pu_as, Value.category, pu_bk, pu_kl, pu_qe0, pu_qe1, hc, f9, f16, sh_78, sh_82, c1, e1, c2, e2, r5]
        all_goals try simp [bX12_readsAddress_95, bX12_readsAddress_148, bX12_readsAddress_121, bX12_readsAddress_142, a_ai, a_ald, a_cv, a_gr, a_icge, a_ifeq, a_ild, a_imul, a_inc, a_push, a_zret, sh_71, sh_78, sh_82, pu_rv, pu_as, Value.category, pu_bk, pu_kl, List.replicate, pu_wi_1, pu_wi_2, nl_add, nl_ladd, nl_aa, nl_mul, nl_rmul, nl_mm, pu_qe0, pu_qe1, hc, f9, f16, sh_78, sh_82, c1, e1, c2, e2, r5]
        all_goals try simp (maxSteps := 400000) (disch := omega) [nl_tle, nl_fle, nl_tlt, nl_flt, nl_teq, nl_feq, nl_sub, nl_ss, nl_lt, nl_llt, nl_ltt, nl_le, nl_lle, nl_lee, nl_eq, nl_leq, nl_ee, nl_div, nl_rem, nl_cl, nl_n1, nl_n2, nl_n3, nl_n4, nl_add, nl_ladd, nl_aa, nl_mul, nl_rmul, nl_mm, pu_wi_1, pu_wi_2, bX12_readsAddress_95, bX12_readsAddress_148, bX12_readsAddress_121, bX12_readsAddress_142, a_ai, a_ald, a_cv, a_gr, a_icge, a_ifeq, a_ild, a_imul, a_inc, a_push, a_zret, sh_71, sh_78, sh_82, pu_rv, pu_as, Value.category, pu_bk, pu_kl, pu_qe0, pu_qe1, hc, f9, f16, sh_78, sh_82, c1, e1, c2, e2, r5]
        all_goals try simp [bX12_readsAddress_95, bX12_readsAddress_148, bX12_readsAddress_121, bX12_readsAddress_142, a_ai, a_ald, a_cv, a_gr, a_icge, a_ifeq, a_ild, a_imul, a_inc, a_push, a_zret, sh_71, sh_78, sh_82, pu_rv, pu_as, Value.category, pu_bk, pu_kl, List.replicate, pu_wi_1, pu_wi_2, nl_add, nl_ladd, nl_aa, nl_mul, nl_rmul, nl_mm, pu_qe0, pu_qe1, hc, f9, f16, sh_78, sh_82, c1, e1, c2, e2, r5]
/-- the reference's text, its rows, what it read and its fault have changed -/
def py_cB (Q R : pu_M) (f : Int32) : Prop := R.2 = Q.2 ∧ (∀ a j, ¬ (a = 71 ∧ (j = 4 ∨ j = 6 ∨ j = 17 ∨ j = 18 ∨ j = 19 ∨ j = 20)) → a ≠ 76 → a ≠ 78 → a ≠ 82 → ¬ (a = 72 ∧ j = 15) → R.1 a j = Q.1 a j) ∧ R.1 71 4 = 0 ∧ R.1 72 15 = f
theorem py_sw_l (b : Nat → Nat) (t : Nat) : ∀ n pos l, pos ≤ t → py_sw b t n pos = some l → ∀ ds ∈ l, ds.length ≤ 12 ∧ ∀ d ∈ ds, d < 26
  | 0, pos, l, hp, h => by cases h
  | n + 1, pos, l, hp, h => by
    have q := py_lw_l b t 12 pos hp
    unfold py_sw at h
    by_cases c0 : py_lw b t 12 pos = []
    · rw [if_pos c0] at h
      cases h
    · rw [if_neg c0] at h
      by_cases c1 : pos + (py_lw b t 12 pos).length < t ∧ b (pos + (py_lw b t 12 pos).length) = 32
      · rw [if_pos c1] at h
        by_cases c2 : pos + (py_lw b t 12 pos).length + 1 < t ∧ 49 ≤ b (pos + (py_lw b t 12 pos).length + 1) ∧ b (pos + (py_lw b t 12 pos).length + 1) ≤ 57
        · rw [if_pos c2] at h
          cases h
          intro ds hds
          rw [List.mem_singleton] at hds
          rw [hds]
          exact ⟨q.1, q.2.2⟩
        · rw [if_neg c2, Option.map_eq_some_iff] at h
          obtain ⟨l2, h1, h2⟩ := h
          have ih := py_sw_l b t n _ l2 (by omega) h1
          rw [← h2]
          intro ds hds
          rcases List.mem_cons.mp hds with z | z
          · rw [z]
            exact ⟨q.1, q.2.2⟩
          · exact ih ds z
      · rw [if_neg c1] at h
        cases h
theorem py_wdl {r : Nat → Int32} {l : List (List Nat)} (h : ∀ ds ∈ l, ds.length ≤ 12 ∧ ∀ d ∈ ds, d < 26) {k a : Nat} (e : ∀ i, i < 12 → r (a + i) = pu_lt (l.getD k []) i) : pu_Wd r a (lN (pu_wv (l.getD k []))) := by
  have g : l.getD k [] = [] ∨ l.getD k [] ∈ l := by
    by_cases c : k < l.length
    · right
      have : l.getD k [] = l[k] := by simp [List.getD, c]
      rw [this]
      exact List.getElem_mem c
    · left
      simp [List.getD, List.getElem?_eq_none (show l.length ≤ k by omega)]
  refine ⟨l.getD k [], ?_, ?_, e, rfl⟩
  · rcases g with z | z
    · rw [z]; exact Nat.zero_le _
    · exact (h _ z).1
  · rcases g with z | z
    · rw [z]; exact fun d hd => by cases hd
    · exact (h _ z).2
set_option maxRecDepth 8000 in
theorem r_readsAddress {Q : pu_M} {b : Nat → Nat} {t : Nat} (hx : pu_fx Q) (hS : pu_St I L (Q.1 72)) (ht : t ≤ 1200) (h4 : Q.1 71 4 = nI t) (hb : ∀ j, j < t → Q.1 75 j &&& 255 = nI (b j) ∧ b j < 256) : ∃ R, py_cB Q R (py_fl b t) ∧ (py_ok b t → R.1 71 17 = nI (py_wo b t) ∧ R.1 71 18 = nI (py_xx b t).2.2.1 ∧ R.1 71 19 = nI (py_xx b t).2.2.2 ∧ (∀ l, py_sw b t 3 0 = some l → ∀ k, k < 3 → pu_Wd (R.1 78) (12 * k) (py_fu I L (lN (pu_wv (l.getD k []))))) ∧ (∀ l, py_ns b t 3 ((py_xx b t).2.1 + 2) = some l → ∀ k, k < 3 → pu_Wd (R.1 82) (12 * k) (py_fu I L (lN (pu_wv (l.getD k [])))))) ∧ pu_r 314 [some (.ref 71)] [] Q = some (some (.int (pu_q (py_ok b t))), R) := by
  have tk := e_X12_takes hx (w := t) h4 ht
  have T4 : (pu_tk Q t).1 71 4 = 0 := by simp [pu_tk, pu_wi_1]
  have fT : (pu_tk Q t).2.2.1 71 0 = some 72 := fx_71_0 hx
  obtain ⟨Z0, hZ0⟩ : ∃ Z0, Z0 = pu_wi (pu_wi (pu_tk Q t) 72 15 (-1)) 71 20 0 := ⟨_, rfl⟩
  obtain ⟨Z, hZ⟩ : ∃ Z, Z = py_zz Z0 36 := ⟨_, rfl⟩
  have hxZ0 : pu_fx Z0 := by rw [hZ0]; exact hx
  have hxZ : pu_fx Z := by rw [hZ]; exact hxZ0
  have cl := r_clrA hxZ0 36 0 (by omega)
  rw [show py_zz Z0 0 = Z0 by unfold py_zz; simp, ← hZ, nI_0, show nI 36 = (36 : Int32) from rfl] at cl
  have Zo : ∀ a j, a ≠ 78 → a ≠ 82 → Z.1 a j = Z0.1 a j := fun a j h1 h2 => by
    rw [hZ]
    show (if (a = 78 ∨ a = 82) ∧ j < 36 then 0 else Z0.1 a j) = _
    rw [if_neg (by omega)]
  have Zz : ∀ a j, a = 78 ∨ a = 82 → j < 36 → Z.1 a j = 0 := fun a j h1 h2 => by
    rw [hZ]
    show (if (a = 78 ∨ a = 82) ∧ j < 36 then 0 else Z0.1 a j) = _
    rw [if_pos ⟨h1, h2⟩]
  have Z15 : Z.1 72 15 = -1 := by
    rw [Zo 72 15 (by omega) (by omega), hZ0, py_wi_o (by omega)]
    simp [pu_wi_1]
  have Z20 : Z.1 71 20 = nI 0 := by
    rw [Zo 71 20 (by omega) (by omega), hZ0]
    simp [pu_wi_1]
    rfl
  have ZQ : ∀ a j, ¬ (a = 71 ∧ (j = 4 ∨ j = 6 ∨ j = 17 ∨ j = 18 ∨ j = 19 ∨ j = 20)) → a ≠ 76 → a ≠ 78 → a ≠ 82 → ¬ (a = 72 ∧ j = 15) → Z.1 a j = Q.1 a j := fun a j q1 q2 q3 q4 q5 => by
    rw [Zo a j q3 q4, hZ0, py_wi_o (by omega), py_wi_o q5, pz_tk_o (by omega) q2]
  have Z4 : Z.1 71 4 = 0 := by
    rw [Zo 71 4 (by omega) (by omega), hZ0, py_wi_o (by omega), py_wi_o (by omega)]
    exact T4
  have Z2 : Z.2 = Q.2 := by rw [hZ, hZ0]; rfl
  have trZ : py_tr Z b t := ⟨by rw [Zo 71 6 (by omega) (by omega), hZ0, py_wi_o (by omega), py_wi_o (by omega)]; exact pz_tk_6, ht, fun j hj => ⟨by rw [Zo 76 j (by omega) (by omega), hZ0, py_wi_o (by omega), py_wi_o (by omega), pz_tk_b hj]; exact (hb j hj).1, (hb j hj).2⟩⟩
  -- the frame
  have CB : ∀ N f, N.2 = Z.2 → (∀ a j, ¬ (a = 71 ∧ (j = 17 ∨ j = 18 ∨ j = 19 ∨ j = 20)) → a ≠ 78 → a ≠ 82 → ¬ (a = 72 ∧ j = 15) → N.1 a j = Z.1 a j) → N.1 72 15 = f → py_cB Q N f := fun N f n1 n2 n3 => ⟨n1.trans Z2, fun a j q1 q2 q3 q4 q5 => by rw [n2 a j (by omega) q3 q4 q5, ZQ a j q1 q2 q3 q4 q5], by rw [n2 71 4 (by omega) (by omega) (by omega) (by omega)]; exact Z4, n3⟩
  have G8 : ∀ {A B : pu_M}, py_rG A B 78 → (A.2 = Z.2 ∧ ∀ a j, ¬ (a = 71 ∧ (j = 17 ∨ j = 18 ∨ j = 19 ∨ j = 20)) → a ≠ 78 → a ≠ 82 → ¬ (a = 72 ∧ j = 15) → A.1 a j = Z.1 a j) → (B.2 = Z.2 ∧ ∀ a j, ¬ (a = 71 ∧ (j = 17 ∨ j = 18 ∨ j = 19 ∨ j = 20)) → a ≠ 78 → a ≠ 82 → ¬ (a = 72 ∧ j = 15) → B.1 a j = Z.1 a j) := fun {A B} g k => ⟨g.1.trans k.1, fun a j q1 q2 q3 q4 => by rw [g.2 a j q1 q2 q4]; exact k.2 a j q1 q2 q3 q4⟩
  have TR : ∀ A : pu_M, (∀ a j, ¬ (a = 71 ∧ (j = 17 ∨ j = 18 ∨ j = 19 ∨ j = 20)) → a ≠ 78 → a ≠ 82 → ¬ (a = 72 ∧ j = 15) → A.1 a j = Z.1 a j) → py_tr A b t := fun A k => ⟨by rw [k 71 6 (by omega) (by omega) (by omega) (by omega)]; exact trZ.1, ht, fun j hj => by rw [k 76 j (by omega) (by omega) (by omega) (by omega)]; exact trZ.2.2 j hj⟩
  have FL0 : ¬ py_ok b t → py_fl b t = nI (py_fp b t) := fun no => by unfold py_fl; rw [if_neg no]
  have FAIL : ∀ (N : pu_M), (N.2 = Z.2 ∧ ∀ a j, ¬ (a = 71 ∧ (j = 17 ∨ j = 18 ∨ j = 19 ∨ j = 20)) → a ≠ 78 → a ≠ 82 → ¬ (a = 72 ∧ j = 15) → N.1 a j = Z.1 a j) → N.1 72 15 = nI (py_fp b t) → ¬ py_ok b t → pu_r 314 [some (.ref 71)] [] Q = some (some (.int 0), N) → ∃ R, py_cB Q R (py_fl b t) ∧ (py_ok b t → R.1 71 17 = nI (py_wo b t) ∧ R.1 71 18 = nI (py_xx b t).2.2.1 ∧ R.1 71 19 = nI (py_xx b t).2.2.2 ∧ (∀ l, py_sw b t 3 0 = some l → ∀ k, k < 3 → pu_Wd (R.1 78) (12 * k) (py_fu I L (lN (pu_wv (l.getD k []))))) ∧ (∀ l, py_ns b t 3 ((py_xx b t).2.1 + 2) = some l → ∀ k, k < 3 → pu_Wd (R.1 82) (12 * k) (py_fu I L (lN (pu_wv (l.getD k [])))))) ∧ pu_r 314 [some (.ref 71)] [] Q = some (some (.int (pu_q (py_ok b t))), R) := fun N k n15 no K => ⟨N, CB N _ k.1 k.2 (by rw [n15, FL0 no]), fun z => absurd z no, by rw [pu_q0 no]; exact K⟩
  -- the street
  obtain ⟨N1, a1, a2, a3, a4, a5, a6⟩ := r_street_l (b := b) (t := t) 3 0 0 Z none hxZ trZ (by omega) (by omega) (Nat.zero_le _) Z20 (fun i _ hi => Zz 78 i (Or.inl rfl) hi)
  have k1 := G8 a1 ⟨rfl, fun _ _ _ _ _ _ => rfl⟩
  have hx1 : pu_fx N1 := pz_fx_of hxZ k1.1
  have E1 : pu_r 308 [some (.ref 71)] [] Z = some (some (.int (pu_q (py_sw b t 3 0 ≠ none))), N1) := by
    rw [nI_0] at a6
    generalize pu_q (py_sw b t 3 0 ≠ none) = zz at *
    rw [qX12_streetPart]
    simp [a_ent, bX12_streetPart_0, a_ist, a_push, pu_rv, pu_as, Value.category, pu_bk, pu_kl, List.replicate, pu_wi_1, pu_wi_2, nl_add, nl_ladd, nl_aa, nl_mul, nl_rmul, nl_mm, pu_qe0, pu_qe1, a6]
    all_goals try simp (maxSteps := 400000) (disch := omega) [nl_tle, nl_fle, nl_tlt, nl_flt, nl_teq, nl_feq, nl_sub, nl_ss, nl_lt, nl_llt, nl_ltt, nl_le, nl_lle, nl_lee, nl_eq, nl_leq, nl_ee, nl_div, nl_rem, nl_cl, nl_n1, nl_n2, nl_n3, nl_n4, nl_add, nl_ladd, nl_aa, nl_mul, nl_rmul, nl_mm, pu_wi_1, pu_wi_2, bX12_streetPart_0, a_ist, a_push, pu_rv, pu_as, Value.category, pu_bk, pu_kl, pu_qe0, pu_qe1, a6]
    all_goals try simp [bX12_streetPart_0, a_ist, a_push, pu_rv, pu_as, Value.category, pu_bk, pu_kl, List.replicate, pu_wi_1, pu_wi_2, nl_add, nl_ladd, nl_aa, nl_mul, nl_rmul, nl_mm, pu_qe0, pu_qe1, a6]
    all_goals try simp (maxSteps := 400000) (disch := omega) [nl_tle, nl_fle, nl_tlt, nl_flt, nl_teq, nl_feq, nl_sub, nl_ss, nl_lt, nl_llt, nl_ltt, nl_le, nl_lle, nl_lee, nl_eq, nl_leq, nl_ee, nl_div, nl_rem, nl_cl, nl_n1, nl_n2, nl_n3, nl_n4, nl_add, nl_ladd, nl_aa, nl_mul, nl_rmul, nl_mm, pu_wi_1, pu_wi_2, bX12_streetPart_0, a_ist, a_push, pu_rv, pu_as, Value.category, pu_bk, pu_kl, pu_qe0, pu_qe1, a6]
    all_goals try simp [bX12_streetPart_0, a_ist, a_push, pu_rv, pu_as, Value.category, pu_bk, pu_kl, List.replicate, pu_wi_1, pu_wi_2, nl_add, nl_ladd, nl_aa, nl_mul, nl_rmul, nl_mm, pu_qe0, pu_qe1, a6]
    all_goals try simp (maxSteps := 400000) (disch := omega) [nl_tle, nl_fle, nl_tlt, nl_flt, nl_teq, nl_feq, nl_sub, nl_ss, nl_lt, nl_llt, nl_ltt, nl_le, nl_lle, nl_lee, nl_eq, nl_leq, nl_ee, nl_div, nl_rem, nl_cl, nl_n1, nl_n2, nl_n3, nl_n4, nl_add, nl_ladd, nl_aa, nl_mul, nl_rmul, nl_mm, pu_wi_1, pu_wi_2, bX12_streetPart_0, a_ist, a_push, pu_rv, pu_as, Value.category, pu_bk, pu_kl, pu_qe0, pu_qe1, a6]
    all_goals try simp [bX12_streetPart_0, a_ist, a_push, pu_rv, pu_as, Value.category, pu_bk, pu_kl, List.replicate, pu_wi_1, pu_wi_2, nl_add, nl_ladd, nl_aa, nl_mul, nl_rmul, nl_mm, pu_qe0, pu_qe1, a6]
  have sb := py_sq_b b t 3 0 (Nat.zero_le t)
  by_cases g1 : py_sw b t 3 0 ≠ none
  rotate_left
  · rw [pu_q0 g1] at E1
    refine FAIL N1 k1 ?_ (fun z => g1 z.1) ?_
    · rw [a3 g1]
      unfold py_fp
      rw [if_pos (Classical.not_not.mp g1)]
    · rw [hZ0] at cl
      rw [qX12_readsAddress]
      simp [a_ent, bX12_readsAddress_0, a_ald, a_cv, a_gr, a_ist, a_pi, a_push, a_wi, sh_71, sh_72, pu_rv, pu_as, Value.category, pu_bk, pu_kl, List.replicate, pu_wi_1, pu_wi_2, nl_add, nl_ladd, nl_aa, nl_mul, nl_rmul, nl_mm, pu_qe0, pu_qe1, tk, fT, cl]
      all_goals try simp (maxSteps := 400000) (disch := omega) [nl_tle, nl_fle, nl_tlt, nl_flt, nl_teq, nl_feq, nl_sub, nl_ss, nl_lt, nl_llt, nl_ltt, nl_le, nl_lle, nl_lee, nl_eq, nl_leq, nl_ee, nl_div, nl_rem, nl_cl, nl_n1, nl_n2, nl_n3, nl_n4, nl_add, nl_ladd, nl_aa, nl_mul, nl_rmul, nl_mm, pu_wi_1, pu_wi_2, bX12_readsAddress_0, a_ald, a_cv, a_gr, a_ist, a_pi, a_push, a_wi, sh_71, sh_72, pu_rv, pu_as, Value.category, pu_bk, pu_kl, pu_qe0, pu_qe1, tk, fT, cl]
      all_goals try simp [bX12_readsAddress_0, a_ald, a_cv, a_gr, a_ist, a_pi, a_push, a_wi, sh_71, sh_72, pu_rv, pu_as, Value.category, pu_bk, pu_kl, List.replicate, pu_wi_1, pu_wi_2, nl_add, nl_ladd, nl_aa, nl_mul, nl_rmul, nl_mm, pu_qe0, pu_qe1, tk, fT, cl]
      all_goals try simp (maxSteps := 400000) (disch := omega) [nl_tle, nl_fle, nl_tlt, nl_flt, nl_teq, nl_feq, nl_sub, nl_ss, nl_lt, nl_llt, nl_ltt, nl_le, nl_lle, nl_lee, nl_eq, nl_leq, nl_ee, nl_div, nl_rem, nl_cl, nl_n1, nl_n2, nl_n3, nl_n4, nl_add, nl_ladd, nl_aa, nl_mul, nl_rmul, nl_mm, pu_wi_1, pu_wi_2, bX12_readsAddress_0, a_ald, a_cv, a_gr, a_ist, a_pi, a_push, a_wi, sh_71, sh_72, pu_rv, pu_as, Value.category, pu_bk, pu_kl, pu_qe0, pu_qe1, tk, fT, cl]
      all_goals try simp [bX12_readsAddress_0, a_ald, a_cv, a_gr, a_ist, a_pi, a_push, a_wi, sh_71, sh_72, pu_rv, pu_as, Value.category, pu_bk, pu_kl, List.replicate, pu_wi_1, pu_wi_2, nl_add, nl_ladd, nl_aa, nl_mul, nl_rmul, nl_mm, pu_qe0, pu_qe1, tk, fT, cl]
      all_goals try simp (maxSteps := 400000) (disch := omega) [nl_tle, nl_fle, nl_tlt, nl_flt, nl_teq, nl_feq, nl_sub, nl_ss, nl_lt, nl_llt, nl_ltt, nl_le, nl_lle, nl_lee, nl_eq, nl_leq, nl_ee, nl_div, nl_rem, nl_cl, nl_n1, nl_n2, nl_n3, nl_n4, nl_add, nl_ladd, nl_aa, nl_mul, nl_rmul, nl_mm, pu_wi_1, pu_wi_2, bX12_readsAddress_0, a_ald, a_cv, a_gr, a_ist, a_pi, a_push, a_wi, sh_71, sh_72, pu_rv, pu_as, Value.category, pu_bk, pu_kl, pu_qe0, pu_qe1, tk, fT, cl]
      all_goals try simp [bX12_readsAddress_0, a_ald, a_cv, a_gr, a_ist, a_pi, a_push, a_wi, sh_71, sh_72, pu_rv, pu_as, Value.category, pu_bk, pu_kl, List.replicate, pu_wi_1, pu_wi_2, nl_add, nl_ladd, nl_aa, nl_mul, nl_rmul, nl_mm, pu_qe0, pu_qe1, tk, fT, cl]
      simp [bX12_readsAddress_45, bX12_readsAddress_91, bX12_readsAddress_93, a_ald, a_cv, a_ifeq, a_ifne, a_ist, a_push, a_zret, sh_71, pu_rv, pu_as, Value.category, pu_bk, pu_kl, List.replicate, pu_wi_1, pu_wi_2, nl_add, nl_ladd, nl_aa, nl_mul, nl_rmul, nl_mm, pu_qe0, pu_qe1, E1]
      all_goals try simp (maxSteps := 400000) (disch := omega) [nl_tle, nl_fle, nl_tlt, nl_flt, nl_teq, nl_feq, nl_sub, nl_ss, nl_lt, nl_llt, nl_ltt, nl_le, nl_lle, nl_lee, nl_eq, nl_leq, nl_ee, nl_div, nl_rem, nl_cl, nl_n1, nl_n2, nl_n3, nl_n4, nl_add, nl_ladd, nl_aa, nl_mul, nl_rmul, nl_mm, pu_wi_1, pu_wi_2, bX12_readsAddress_45, bX12_readsAddress_91, bX12_readsAddress_93, a_ald, a_cv, a_ifeq, a_ifne, a_ist, a_push, a_zret, sh_71, pu_rv, pu_as, Value.category, pu_bk, pu_kl, pu_qe0, pu_qe1, E1]
      all_goals try simp [bX12_readsAddress_45, bX12_readsAddress_91, bX12_readsAddress_93, a_ald, a_cv, a_ifeq, a_ifne, a_ist, a_push, a_zret, sh_71, pu_rv, pu_as, Value.category, pu_bk, pu_kl, List.replicate, pu_wi_1, pu_wi_2, nl_add, nl_ladd, nl_aa, nl_mul, nl_rmul, nl_mm, pu_qe0, pu_qe1, E1]
      all_goals try simp (maxSteps := 400000) (disch := omega) [nl_tle, nl_fle, nl_tlt, nl_flt, nl_teq, nl_feq, nl_sub, nl_ss, nl_lt, nl_llt, nl_ltt, nl_le, nl_lle, nl_lee, nl_eq, nl_leq, nl_ee, nl_div, nl_rem, nl_cl, nl_n1, nl_n2, nl_n3, nl_n4, nl_add, nl_ladd, nl_aa, nl_mul, nl_rmul, nl_mm, pu_wi_1, pu_wi_2, bX12_readsAddress_45, bX12_readsAddress_91, bX12_readsAddress_93, a_ald, a_cv, a_ifeq, a_ifne, a_ist, a_push, a_zret, sh_71, pu_rv, pu_as, Value.category, pu_bk, pu_kl, pu_qe0, pu_qe1, E1]
      all_goals try simp [bX12_readsAddress_45, bX12_readsAddress_91, bX12_readsAddress_93, a_ald, a_cv, a_ifeq, a_ifne, a_ist, a_push, a_zret, sh_71, pu_rv, pu_as, Value.category, pu_bk, pu_kl, List.replicate, pu_wi_1, pu_wi_2, nl_add, nl_ladd, nl_aa, nl_mul, nl_rmul, nl_mm, pu_qe0, pu_qe1, E1]
      all_goals try simp (maxSteps := 400000) (disch := omega) [nl_tle, nl_fle, nl_tlt, nl_flt, nl_teq, nl_feq, nl_sub, nl_ss, nl_lt, nl_llt, nl_ltt, nl_le, nl_lle, nl_lee, nl_eq, nl_leq, nl_ee, nl_div, nl_rem, nl_cl, nl_n1, nl_n2, nl_n3, nl_n4, nl_add, nl_ladd, nl_aa, nl_mul, nl_rmul, nl_mm, pu_wi_1, pu_wi_2, bX12_readsAddress_45, bX12_readsAddress_91, bX12_readsAddress_93, a_ald, a_cv, a_ifeq, a_ifne, a_ist, a_push, a_zret, sh_71, pu_rv, pu_as, Value.category, pu_bk, pu_kl, pu_qe0, pu_qe1, E1]
      all_goals try simp [bX12_readsAddress_45, bX12_readsAddress_91, bX12_readsAddress_93, a_ald, a_cv, a_ifeq, a_ifne, a_ist, a_push, a_zret, sh_71, pu_rv, pu_as, Value.category, pu_bk, pu_kl, List.replicate, pu_wi_1, pu_wi_2, nl_add, nl_ladd, nl_aa, nl_mul, nl_rmul, nl_mm, pu_qe0, pu_qe1, E1]
  rw [pu_q1 g1] at E1
  obtain ⟨N2, b1, b2, b3, b4, b5⟩ := r_number hx1 (TR N1 k1.2) (by omega) (a2 g1).1 (sb.2.2 g1)
  have k2 := G8 b1 k1
  have hx2 : pu_fx N2 := pz_fx_of hxZ k2.1
  have db := py_d1_b b t 3 (py_sq b t 3 0) (by omega)
  have lb := py_nl2_b b t (py_d1 b t 3 (py_sq b t 3 0)).2 (by omega)
  by_cases g2 : (py_d1 b t 3 (py_sq b t 3 0)).2 < t ∧ 48 ≤ b (py_d1 b t 3 (py_sq b t 3 0)).2 ∧ b (py_d1 b t 3 (py_sq b t 3 0)).2 ≤ 57
  · -- a fifth digit
    rw [pu_q0 (fun z => z g2)] at b5
    have l0 : py_nl2 b t (py_d1 b t 3 (py_sq b t 3 0)).2 = (0, (py_d1 b t 3 (py_sq b t 3 0)).2) := by
      unfold py_nl2
      rw [if_neg (by omega), if_neg (by omega)]
    have x0 : py_xx b t = (true, (py_d1 b t 3 (py_sq b t 3 0)).2, 0, 0) := by
      unfold py_xx py_p3
      rw [l0]
      unfold py_x
      rw [if_neg (by simp only; omega)]
    have no : ¬ py_ok b t := fun z => by
      have := z.2.2.1.2
      rw [x0] at this
      simp only at this
      omega
    refine FAIL N2 k2 ?_ no ?_
    · rw [b4 g2]
      unfold py_fp
      rw [if_neg g1, x0, if_neg (by simp), if_pos (by simp only; omega)]
    · rw [hZ0] at cl
      rw [qX12_readsAddress]
      simp [a_ent, bX12_readsAddress_0, a_ald, a_cv, a_gr, a_ist, a_pi, a_push, a_wi, sh_71, sh_72, pu_rv, pu_as, Value.category, pu_bk, pu_kl, List.replicate, pu_wi_1, pu_wi_2, nl_add, nl_ladd, nl_aa, nl_mul, nl_rmul, nl_mm, pu_qe0, pu_qe1, tk, fT, cl]
      all_goals try simp (maxSteps := 400000) (disch := omega) [nl_tle, nl_fle, nl_tlt, nl_flt, nl_teq, nl_feq, nl_sub, nl_ss, nl_lt, nl_llt, nl_ltt, nl_le, nl_lle, nl_lee, nl_eq, nl_leq, nl_ee, nl_div, nl_rem, nl_cl, nl_n1, nl_n2, nl_n3, nl_n4, nl_add, nl_ladd, nl_aa, nl_mul, nl_rmul, nl_mm, pu_wi_1, pu_wi_2, bX12_readsAddress_0, a_ald, a_cv, a_gr, a_ist, a_pi, a_push, a_wi, sh_71, sh_72, pu_rv, pu_as, Value.category, pu_bk, pu_kl, pu_qe0, pu_qe1, tk, fT, cl]
      all_goals try simp [bX12_readsAddress_0, a_ald, a_cv, a_gr, a_ist, a_pi, a_push, a_wi, sh_71, sh_72, pu_rv, pu_as, Value.category, pu_bk, pu_kl, List.replicate, pu_wi_1, pu_wi_2, nl_add, nl_ladd, nl_aa, nl_mul, nl_rmul, nl_mm, pu_qe0, pu_qe1, tk, fT, cl]
      all_goals try simp (maxSteps := 400000) (disch := omega) [nl_tle, nl_fle, nl_tlt, nl_flt, nl_teq, nl_feq, nl_sub, nl_ss, nl_lt, nl_llt, nl_ltt, nl_le, nl_lle, nl_lee, nl_eq, nl_leq, nl_ee, nl_div, nl_rem, nl_cl, nl_n1, nl_n2, nl_n3, nl_n4, nl_add, nl_ladd, nl_aa, nl_mul, nl_rmul, nl_mm, pu_wi_1, pu_wi_2, bX12_readsAddress_0, a_ald, a_cv, a_gr, a_ist, a_pi, a_push, a_wi, sh_71, sh_72, pu_rv, pu_as, Value.category, pu_bk, pu_kl, pu_qe0, pu_qe1, tk, fT, cl]
      all_goals try simp [bX12_readsAddress_0, a_ald, a_cv, a_gr, a_ist, a_pi, a_push, a_wi, sh_71, sh_72, pu_rv, pu_as, Value.category, pu_bk, pu_kl, List.replicate, pu_wi_1, pu_wi_2, nl_add, nl_ladd, nl_aa, nl_mul, nl_rmul, nl_mm, pu_qe0, pu_qe1, tk, fT, cl]
      all_goals try simp (maxSteps := 400000) (disch := omega) [nl_tle, nl_fle, nl_tlt, nl_flt, nl_teq, nl_feq, nl_sub, nl_ss, nl_lt, nl_llt, nl_ltt, nl_le, nl_lle, nl_lee, nl_eq, nl_leq, nl_ee, nl_div, nl_rem, nl_cl, nl_n1, nl_n2, nl_n3, nl_n4, nl_add, nl_ladd, nl_aa, nl_mul, nl_rmul, nl_mm, pu_wi_1, pu_wi_2, bX12_readsAddress_0, a_ald, a_cv, a_gr, a_ist, a_pi, a_push, a_wi, sh_71, sh_72, pu_rv, pu_as, Value.category, pu_bk, pu_kl, pu_qe0, pu_qe1, tk, fT, cl]
      all_goals try simp [bX12_readsAddress_0, a_ald, a_cv, a_gr, a_ist, a_pi, a_push, a_wi, sh_71, sh_72, pu_rv, pu_as, Value.category, pu_bk, pu_kl, List.replicate, pu_wi_1, pu_wi_2, nl_add, nl_ladd, nl_aa, nl_mul, nl_rmul, nl_mm, pu_qe0, pu_qe1, tk, fT, cl]
      simp [bX12_readsAddress_45, bX12_readsAddress_91, bX12_readsAddress_93, a_ald, a_cv, a_ifeq, a_ifne, a_ist, a_push, a_zret, sh_71, pu_rv, pu_as, Value.category, pu_bk, pu_kl, List.replicate, pu_wi_1, pu_wi_2, nl_add, nl_ladd, nl_aa, nl_mul, nl_rmul, nl_mm, pu_qe0, pu_qe1, E1, b5]
      all_goals try simp (maxSteps := 400000) (disch := omega) [nl_tle, nl_fle, nl_tlt, nl_flt, nl_teq, nl_feq, nl_sub, nl_ss, nl_lt, nl_llt, nl_ltt, nl_le, nl_lle, nl_lee, nl_eq, nl_leq, nl_ee, nl_div, nl_rem, nl_cl, nl_n1, nl_n2, nl_n3, nl_n4, nl_add, nl_ladd, nl_aa, nl_mul, nl_rmul, nl_mm, pu_wi_1, pu_wi_2, bX12_readsAddress_45, bX12_readsAddress_91, bX12_readsAddress_93, a_ald, a_cv, a_ifeq, a_ifne, a_ist, a_push, a_zret, sh_71, pu_rv, pu_as, Value.category, pu_bk, pu_kl, pu_qe0, pu_qe1, E1, b5]
      all_goals try simp [bX12_readsAddress_45, bX12_readsAddress_91, bX12_readsAddress_93, a_ald, a_cv, a_ifeq, a_ifne, a_ist, a_push, a_zret, sh_71, pu_rv, pu_as, Value.category, pu_bk, pu_kl, List.replicate, pu_wi_1, pu_wi_2, nl_add, nl_ladd, nl_aa, nl_mul, nl_rmul, nl_mm, pu_qe0, pu_qe1, E1, b5]
      all_goals try simp (maxSteps := 400000) (disch := omega) [nl_tle, nl_fle, nl_tlt, nl_flt, nl_teq, nl_feq, nl_sub, nl_ss, nl_lt, nl_llt, nl_ltt, nl_le, nl_lle, nl_lee, nl_eq, nl_leq, nl_ee, nl_div, nl_rem, nl_cl, nl_n1, nl_n2, nl_n3, nl_n4, nl_add, nl_ladd, nl_aa, nl_mul, nl_rmul, nl_mm, pu_wi_1, pu_wi_2, bX12_readsAddress_45, bX12_readsAddress_91, bX12_readsAddress_93, a_ald, a_cv, a_ifeq, a_ifne, a_ist, a_push, a_zret, sh_71, pu_rv, pu_as, Value.category, pu_bk, pu_kl, pu_qe0, pu_qe1, E1, b5]
      all_goals try simp [bX12_readsAddress_45, bX12_readsAddress_91, bX12_readsAddress_93, a_ald, a_cv, a_ifeq, a_ifne, a_ist, a_push, a_zret, sh_71, pu_rv, pu_as, Value.category, pu_bk, pu_kl, List.replicate, pu_wi_1, pu_wi_2, nl_add, nl_ladd, nl_aa, nl_mul, nl_rmul, nl_mm, pu_qe0, pu_qe1, E1, b5]
      all_goals try simp (maxSteps := 400000) (disch := omega) [nl_tle, nl_fle, nl_tlt, nl_flt, nl_teq, nl_feq, nl_sub, nl_ss, nl_lt, nl_llt, nl_ltt, nl_le, nl_lle, nl_lee, nl_eq, nl_leq, nl_ee, nl_div, nl_rem, nl_cl, nl_n1, nl_n2, nl_n3, nl_n4, nl_add, nl_ladd, nl_aa, nl_mul, nl_rmul, nl_mm, pu_wi_1, pu_wi_2, bX12_readsAddress_45, bX12_readsAddress_91, bX12_readsAddress_93, a_ald, a_cv, a_ifeq, a_ifne, a_ist, a_push, a_zret, sh_71, pu_rv, pu_as, Value.category, pu_bk, pu_kl, pu_qe0, pu_qe1, E1, b5]
      all_goals try simp [bX12_readsAddress_45, bX12_readsAddress_91, bX12_readsAddress_93, a_ald, a_cv, a_ifeq, a_ifne, a_ist, a_push, a_zret, sh_71, pu_rv, pu_as, Value.category, pu_bk, pu_kl, List.replicate, pu_wi_1, pu_wi_2, nl_add, nl_ladd, nl_aa, nl_mul, nl_rmul, nl_mm, pu_qe0, pu_qe1, E1, b5]
  rw [pu_q1 g2] at b5
  obtain ⟨b31, b32, b33⟩ := b3 g2
  obtain ⟨N3, c1, c2, c3, c4, c5, c6⟩ := r_extra hx2 (TR N2 k2.2) (by omega) b31
  have k3 := G8 c1 k2
  have hx3 : pu_fx N3 := pz_fx_of hxZ k3.1
  have xb := py_x_b b t (py_p3 b t) (by unfold py_p3; omega)
  have c4' : (py_xx b t).1 = true → N3.1 71 20 = nI (py_xx b t).2.1 ∧ N3.1 71 18 = nI (py_xx b t).2.2.1 ∧ N3.1 71 19 = nI (py_xx b t).2.2.2 ∧ N3.1 72 15 = N2.1 72 15 := c4
  have c5' : ¬ (py_xx b t).1 = true → N3.1 72 15 = nI (py_xx b t).2.1 := c5
  have c6' : pu_r 312 [some (.ref 71)] [] N2 = some (some (.int (pu_q ((py_xx b t).1 = true))), N3) := c6
  have xb' : (py_xx b t).2.1 ≤ t := xb.2.1
  clear c4 c5 c6 xb
  by_cases g3 : (py_xx b t).1 = true
  rotate_left
  · rw [pu_q0 g3] at c6'
    refine FAIL N3 k3 ?_ (fun z => g3 z.2.1) ?_
    · rw [c5' g3]
      unfold py_fp
      rw [if_neg g1, if_pos g3]
    · rw [hZ0] at cl
      rw [qX12_readsAddress]
      simp [a_ent, bX12_readsAddress_0, a_ald, a_cv, a_gr, a_ist, a_pi, a_push, a_wi, sh_71, sh_72, pu_rv, pu_as, Value.category, pu_bk, pu_kl, List.replicate, pu_wi_1, pu_wi_2, nl_add, nl_ladd, nl_aa, nl_mul, nl_rmul, nl_mm, pu_qe0, pu_qe1, tk, fT, cl]
      all_goals try simp (maxSteps := 400000) (disch := omega) [nl_tle, nl_fle, nl_tlt, nl_flt, nl_teq, nl_feq, nl_sub, nl_ss, nl_lt, nl_llt, nl_ltt, nl_le, nl_lle, nl_lee, nl_eq, nl_leq, nl_ee, nl_div, nl_rem, nl_cl, nl_n1, nl_n2, nl_n3, nl_n4, nl_add, nl_ladd, nl_aa, nl_mul, nl_rmul, nl_mm, pu_wi_1, pu_wi_2, bX12_readsAddress_0, a_ald, a_cv, a_gr, a_ist, a_pi, a_push, a_wi, sh_71, sh_72, pu_rv, pu_as, Value.category, pu_bk, pu_kl, pu_qe0, pu_qe1, tk, fT, cl]
      all_goals try simp [bX12_readsAddress_0, a_ald, a_cv, a_gr, a_ist, a_pi, a_push, a_wi, sh_71, sh_72, pu_rv, pu_as, Value.category, pu_bk, pu_kl, List.replicate, pu_wi_1, pu_wi_2, nl_add, nl_ladd, nl_aa, nl_mul, nl_rmul, nl_mm, pu_qe0, pu_qe1, tk, fT, cl]
      all_goals try simp (maxSteps := 400000) (disch := omega) [nl_tle, nl_fle, nl_tlt, nl_flt, nl_teq, nl_feq, nl_sub, nl_ss, nl_lt, nl_llt, nl_ltt, nl_le, nl_lle, nl_lee, nl_eq, nl_leq, nl_ee, nl_div, nl_rem, nl_cl, nl_n1, nl_n2, nl_n3, nl_n4, nl_add, nl_ladd, nl_aa, nl_mul, nl_rmul, nl_mm, pu_wi_1, pu_wi_2, bX12_readsAddress_0, a_ald, a_cv, a_gr, a_ist, a_pi, a_push, a_wi, sh_71, sh_72, pu_rv, pu_as, Value.category, pu_bk, pu_kl, pu_qe0, pu_qe1, tk, fT, cl]
      all_goals try simp [bX12_readsAddress_0, a_ald, a_cv, a_gr, a_ist, a_pi, a_push, a_wi, sh_71, sh_72, pu_rv, pu_as, Value.category, pu_bk, pu_kl, List.replicate, pu_wi_1, pu_wi_2, nl_add, nl_ladd, nl_aa, nl_mul, nl_rmul, nl_mm, pu_qe0, pu_qe1, tk, fT, cl]
      all_goals try simp (maxSteps := 400000) (disch := omega) [nl_tle, nl_fle, nl_tlt, nl_flt, nl_teq, nl_feq, nl_sub, nl_ss, nl_lt, nl_llt, nl_ltt, nl_le, nl_lle, nl_lee, nl_eq, nl_leq, nl_ee, nl_div, nl_rem, nl_cl, nl_n1, nl_n2, nl_n3, nl_n4, nl_add, nl_ladd, nl_aa, nl_mul, nl_rmul, nl_mm, pu_wi_1, pu_wi_2, bX12_readsAddress_0, a_ald, a_cv, a_gr, a_ist, a_pi, a_push, a_wi, sh_71, sh_72, pu_rv, pu_as, Value.category, pu_bk, pu_kl, pu_qe0, pu_qe1, tk, fT, cl]
      all_goals try simp [bX12_readsAddress_0, a_ald, a_cv, a_gr, a_ist, a_pi, a_push, a_wi, sh_71, sh_72, pu_rv, pu_as, Value.category, pu_bk, pu_kl, List.replicate, pu_wi_1, pu_wi_2, nl_add, nl_ladd, nl_aa, nl_mul, nl_rmul, nl_mm, pu_qe0, pu_qe1, tk, fT, cl]
      simp [bX12_readsAddress_45, bX12_readsAddress_91, bX12_readsAddress_93, a_ald, a_cv, a_ifeq, a_ifne, a_ist, a_push, a_zret, sh_71, pu_rv, pu_as, Value.category, pu_bk, pu_kl, List.replicate, pu_wi_1, pu_wi_2, nl_add, nl_ladd, nl_aa, nl_mul, nl_rmul, nl_mm, pu_qe0, pu_qe1, E1, b5, c6']
      all_goals try simp (maxSteps := 400000) (disch := omega) [nl_tle, nl_fle, nl_tlt, nl_flt, nl_teq, nl_feq, nl_sub, nl_ss, nl_lt, nl_llt, nl_ltt, nl_le, nl_lle, nl_lee, nl_eq, nl_leq, nl_ee, nl_div, nl_rem, nl_cl, nl_n1, nl_n2, nl_n3, nl_n4, nl_add, nl_ladd, nl_aa, nl_mul, nl_rmul, nl_mm, pu_wi_1, pu_wi_2, bX12_readsAddress_45, bX12_readsAddress_91, bX12_readsAddress_93, a_ald, a_cv, a_ifeq, a_ifne, a_ist, a_push, a_zret, sh_71, pu_rv, pu_as, Value.category, pu_bk, pu_kl, pu_qe0, pu_qe1, E1, b5, c6']
      all_goals try simp [bX12_readsAddress_45, bX12_readsAddress_91, bX12_readsAddress_93, a_ald, a_cv, a_ifeq, a_ifne, a_ist, a_push, a_zret, sh_71, pu_rv, pu_as, Value.category, pu_bk, pu_kl, List.replicate, pu_wi_1, pu_wi_2, nl_add, nl_ladd, nl_aa, nl_mul, nl_rmul, nl_mm, pu_qe0, pu_qe1, E1, b5, c6']
      all_goals try simp (maxSteps := 400000) (disch := omega) [nl_tle, nl_fle, nl_tlt, nl_flt, nl_teq, nl_feq, nl_sub, nl_ss, nl_lt, nl_llt, nl_ltt, nl_le, nl_lle, nl_lee, nl_eq, nl_leq, nl_ee, nl_div, nl_rem, nl_cl, nl_n1, nl_n2, nl_n3, nl_n4, nl_add, nl_ladd, nl_aa, nl_mul, nl_rmul, nl_mm, pu_wi_1, pu_wi_2, bX12_readsAddress_45, bX12_readsAddress_91, bX12_readsAddress_93, a_ald, a_cv, a_ifeq, a_ifne, a_ist, a_push, a_zret, sh_71, pu_rv, pu_as, Value.category, pu_bk, pu_kl, pu_qe0, pu_qe1, E1, b5, c6']
      all_goals try simp [bX12_readsAddress_45, bX12_readsAddress_91, bX12_readsAddress_93, a_ald, a_cv, a_ifeq, a_ifne, a_ist, a_push, a_zret, sh_71, pu_rv, pu_as, Value.category, pu_bk, pu_kl, List.replicate, pu_wi_1, pu_wi_2, nl_add, nl_ladd, nl_aa, nl_mul, nl_rmul, nl_mm, pu_qe0, pu_qe1, E1, b5, c6']
      all_goals try simp (maxSteps := 400000) (disch := omega) [nl_tle, nl_fle, nl_tlt, nl_flt, nl_teq, nl_feq, nl_sub, nl_ss, nl_lt, nl_llt, nl_ltt, nl_le, nl_lle, nl_lee, nl_eq, nl_leq, nl_ee, nl_div, nl_rem, nl_cl, nl_n1, nl_n2, nl_n3, nl_n4, nl_add, nl_ladd, nl_aa, nl_mul, nl_rmul, nl_mm, pu_wi_1, pu_wi_2, bX12_readsAddress_45, bX12_readsAddress_91, bX12_readsAddress_93, a_ald, a_cv, a_ifeq, a_ifne, a_ist, a_push, a_zret, sh_71, pu_rv, pu_as, Value.category, pu_bk, pu_kl, pu_qe0, pu_qe1, E1, b5, c6']
      all_goals try simp [bX12_readsAddress_45, bX12_readsAddress_91, bX12_readsAddress_93, a_ald, a_cv, a_ifeq, a_ifne, a_ist, a_push, a_zret, sh_71, pu_rv, pu_as, Value.category, pu_bk, pu_kl, List.replicate, pu_wi_1, pu_wi_2, nl_add, nl_ladd, nl_aa, nl_mul, nl_rmul, nl_mm, pu_qe0, pu_qe1, E1, b5, c6']
  rw [pu_q1 g3] at c6'
  obtain ⟨d1, d2, d3, d4⟩ := c4' g3
  have s15 : N3.1 72 15 = -1 := by rw [d4, b33, (a2 g1).2]; exact Z15
  rcases r_must hx3 (TR N3 k3.2) xb' d1 44 (by omega) with ⟨r1, r2, r3⟩ | ⟨r1, r2⟩
  rotate_left
  · rw [show nI 44 = (44 : Int32) from rfl] at r2
    refine FAIL (pu_wi N3 72 15 (nI (py_xx b t).2.1)) ⟨k3.1, fun a j q1 q2 q3 q4 => by rw [py_wi_o q4]; exact k3.2 a j q1 q2 q3 q4⟩ ?_ (fun z => r1 z.2.2.1) ?_
    · unfold py_fp
      rw [if_neg g1, if_neg (fun z => z g3), if_pos r1]
      simp [pu_wi_1]
    · rw [hZ0] at cl
      rw [qX12_readsAddress]
      simp [a_ent, bX12_readsAddress_0, a_ald, a_cv, a_gr, a_ist, a_pi, a_push, a_wi, sh_71, sh_72, pu_rv, pu_as, Value.category, pu_bk, pu_kl, List.replicate, pu_wi_1, pu_wi_2, nl_add, nl_ladd, nl_aa, nl_mul, nl_rmul, nl_mm, pu_qe0, pu_qe1, tk, fT, cl]
      all_goals try simp (maxSteps := 400000) (disch := omega) [nl_tle, nl_fle, nl_tlt, nl_flt, nl_teq, nl_feq, nl_sub, nl_ss, nl_lt, nl_llt, nl_ltt, nl_le, nl_lle, nl_lee, nl_eq, nl_leq, nl_ee, nl_div, nl_rem, nl_cl, nl_n1, nl_n2, nl_n3, nl_n4, nl_add, nl_ladd, nl_aa, nl_mul, nl_rmul, nl_mm, pu_wi_1, pu_wi_2, bX12_readsAddress_0, a_ald, a_cv, a_gr, a_ist, a_pi, a_push, a_wi, sh_71, sh_72, pu_rv, pu_as, Value.category, pu_bk, pu_kl, pu_qe0, pu_qe1, tk, fT, cl]
      all_goals try simp [bX12_readsAddress_0, a_ald, a_cv, a_gr, a_ist, a_pi, a_push, a_wi, sh_71, sh_72, pu_rv, pu_as, Value.category, pu_bk, pu_kl, List.replicate, pu_wi_1, pu_wi_2, nl_add, nl_ladd, nl_aa, nl_mul, nl_rmul, nl_mm, pu_qe0, pu_qe1, tk, fT, cl]
      all_goals try simp (maxSteps := 400000) (disch := omega) [nl_tle, nl_fle, nl_tlt, nl_flt, nl_teq, nl_feq, nl_sub, nl_ss, nl_lt, nl_llt, nl_ltt, nl_le, nl_lle, nl_lee, nl_eq, nl_leq, nl_ee, nl_div, nl_rem, nl_cl, nl_n1, nl_n2, nl_n3, nl_n4, nl_add, nl_ladd, nl_aa, nl_mul, nl_rmul, nl_mm, pu_wi_1, pu_wi_2, bX12_readsAddress_0, a_ald, a_cv, a_gr, a_ist, a_pi, a_push, a_wi, sh_71, sh_72, pu_rv, pu_as, Value.category, pu_bk, pu_kl, pu_qe0, pu_qe1, tk, fT, cl]
      all_goals try simp [bX12_readsAddress_0, a_ald, a_cv, a_gr, a_ist, a_pi, a_push, a_wi, sh_71, sh_72, pu_rv, pu_as, Value.category, pu_bk, pu_kl, List.replicate, pu_wi_1, pu_wi_2, nl_add, nl_ladd, nl_aa, nl_mul, nl_rmul, nl_mm, pu_qe0, pu_qe1, tk, fT, cl]
      all_goals try simp (maxSteps := 400000) (disch := omega) [nl_tle, nl_fle, nl_tlt, nl_flt, nl_teq, nl_feq, nl_sub, nl_ss, nl_lt, nl_llt, nl_ltt, nl_le, nl_lle, nl_lee, nl_eq, nl_leq, nl_ee, nl_div, nl_rem, nl_cl, nl_n1, nl_n2, nl_n3, nl_n4, nl_add, nl_ladd, nl_aa, nl_mul, nl_rmul, nl_mm, pu_wi_1, pu_wi_2, bX12_readsAddress_0, a_ald, a_cv, a_gr, a_ist, a_pi, a_push, a_wi, sh_71, sh_72, pu_rv, pu_as, Value.category, pu_bk, pu_kl, pu_qe0, pu_qe1, tk, fT, cl]
      all_goals try simp [bX12_readsAddress_0, a_ald, a_cv, a_gr, a_ist, a_pi, a_push, a_wi, sh_71, sh_72, pu_rv, pu_as, Value.category, pu_bk, pu_kl, List.replicate, pu_wi_1, pu_wi_2, nl_add, nl_ladd, nl_aa, nl_mul, nl_rmul, nl_mm, pu_qe0, pu_qe1, tk, fT, cl]
      simp [bX12_readsAddress_45, bX12_readsAddress_91, bX12_readsAddress_93, a_ald, a_cv, a_ifeq, a_ifne, a_ist, a_push, a_zret, sh_71, pu_rv, pu_as, Value.category, pu_bk, pu_kl, List.replicate, pu_wi_1, pu_wi_2, nl_add, nl_ladd, nl_aa, nl_mul, nl_rmul, nl_mm, pu_qe0, pu_qe1, E1, b5, c6', r2]
      all_goals try simp (maxSteps := 400000) (disch := omega) [nl_tle, nl_fle, nl_tlt, nl_flt, nl_teq, nl_feq, nl_sub, nl_ss, nl_lt, nl_llt, nl_ltt, nl_le, nl_lle, nl_lee, nl_eq, nl_leq, nl_ee, nl_div, nl_rem, nl_cl, nl_n1, nl_n2, nl_n3, nl_n4, nl_add, nl_ladd, nl_aa, nl_mul, nl_rmul, nl_mm, pu_wi_1, pu_wi_2, bX12_readsAddress_45, bX12_readsAddress_91, bX12_readsAddress_93, a_ald, a_cv, a_ifeq, a_ifne, a_ist, a_push, a_zret, sh_71, pu_rv, pu_as, Value.category, pu_bk, pu_kl, pu_qe0, pu_qe1, E1, b5, c6', r2]
      all_goals try simp [bX12_readsAddress_45, bX12_readsAddress_91, bX12_readsAddress_93, a_ald, a_cv, a_ifeq, a_ifne, a_ist, a_push, a_zret, sh_71, pu_rv, pu_as, Value.category, pu_bk, pu_kl, List.replicate, pu_wi_1, pu_wi_2, nl_add, nl_ladd, nl_aa, nl_mul, nl_rmul, nl_mm, pu_qe0, pu_qe1, E1, b5, c6', r2]
      all_goals try simp (maxSteps := 400000) (disch := omega) [nl_tle, nl_fle, nl_tlt, nl_flt, nl_teq, nl_feq, nl_sub, nl_ss, nl_lt, nl_llt, nl_ltt, nl_le, nl_lle, nl_lee, nl_eq, nl_leq, nl_ee, nl_div, nl_rem, nl_cl, nl_n1, nl_n2, nl_n3, nl_n4, nl_add, nl_ladd, nl_aa, nl_mul, nl_rmul, nl_mm, pu_wi_1, pu_wi_2, bX12_readsAddress_45, bX12_readsAddress_91, bX12_readsAddress_93, a_ald, a_cv, a_ifeq, a_ifne, a_ist, a_push, a_zret, sh_71, pu_rv, pu_as, Value.category, pu_bk, pu_kl, pu_qe0, pu_qe1, E1, b5, c6', r2]
      all_goals try simp [bX12_readsAddress_45, bX12_readsAddress_91, bX12_readsAddress_93, a_ald, a_cv, a_ifeq, a_ifne, a_ist, a_push, a_zret, sh_71, pu_rv, pu_as, Value.category, pu_bk, pu_kl, List.replicate, pu_wi_1, pu_wi_2, nl_add, nl_ladd, nl_aa, nl_mul, nl_rmul, nl_mm, pu_qe0, pu_qe1, E1, b5, c6', r2]
      all_goals try simp (maxSteps := 400000) (disch := omega) [nl_tle, nl_fle, nl_tlt, nl_flt, nl_teq, nl_feq, nl_sub, nl_ss, nl_lt, nl_llt, nl_ltt, nl_le, nl_lle, nl_lee, nl_eq, nl_leq, nl_ee, nl_div, nl_rem, nl_cl, nl_n1, nl_n2, nl_n3, nl_n4, nl_add, nl_ladd, nl_aa, nl_mul, nl_rmul, nl_mm, pu_wi_1, pu_wi_2, bX12_readsAddress_45, bX12_readsAddress_91, bX12_readsAddress_93, a_ald, a_cv, a_ifeq, a_ifne, a_ist, a_push, a_zret, sh_71, pu_rv, pu_as, Value.category, pu_bk, pu_kl, pu_qe0, pu_qe1, E1, b5, c6', r2]
      all_goals try simp [bX12_readsAddress_45, bX12_readsAddress_91, bX12_readsAddress_93, a_ald, a_cv, a_ifeq, a_ifne, a_ist, a_push, a_zret, sh_71, pu_rv, pu_as, Value.category, pu_bk, pu_kl, List.replicate, pu_wi_1, pu_wi_2, nl_add, nl_ladd, nl_aa, nl_mul, nl_rmul, nl_mm, pu_qe0, pu_qe1, E1, b5, c6', r2]
  rw [show nI 44 = (44 : Int32) from rfl] at r3
  have C3 : (py_xx b t).2.1 < t ∧ b (py_xx b t).2.1 = 44 := ⟨r1, r2⟩
  have k4 : (pu_wi N3 71 20 (nI ((py_xx b t).2.1 + 1))).2 = Z.2 ∧ ∀ a j, ¬ (a = 71 ∧ (j = 17 ∨ j = 18 ∨ j = 19 ∨ j = 20)) → a ≠ 78 → a ≠ 82 → ¬ (a = 72 ∧ j = 15) → (pu_wi N3 71 20 (nI ((py_xx b t).2.1 + 1))).1 a j = Z.1 a j := ⟨k3.1, fun a j q1 q2 q3 q4 => by rw [py_wi_o (by omega)]; exact k3.2 a j q1 q2 q3 q4⟩
  have p4 : (pu_wi N3 71 20 (nI ((py_xx b t).2.1 + 1))).1 71 20 = nI ((py_xx b t).2.1 + 1) := by simp [pu_wi_1]
  have o4 : ∀ a j, ¬ (a = 71 ∧ j = 20) → (pu_wi N3 71 20 (nI ((py_xx b t).2.1 + 1))).1 a j = N3.1 a j := fun a j hj => py_wi_o hj
  generalize pu_wi N3 71 20 (nI ((py_xx b t).2.1 + 1)) = N4 at *
  have hx4 : pu_fx N4 := pz_fx_of hxZ k4.1
  rcases r_must hx4 (TR N4 k4.2) (by omega) p4 32 (by omega) with ⟨s1, s2, s3⟩ | ⟨s1, s2⟩
  rotate_left
  · rw [show nI 32 = (32 : Int32) from rfl] at s2
    refine FAIL (pu_wi N4 72 15 (nI ((py_xx b t).2.1 + 1))) ⟨k4.1, fun a j q1 q2 q3 q4 => by rw [py_wi_o q4]; exact k4.2 a j q1 q2 q3 q4⟩ ?_ (fun z => s1 z.2.2.2.1) ?_
    · unfold py_fp
      rw [if_neg g1, if_neg (fun z => z g3), if_neg (fun z => z C3), if_pos s1]
      simp [pu_wi_1]
    · rw [hZ0] at cl
      rw [qX12_readsAddress]
      simp [a_ent, bX12_readsAddress_0, a_ald, a_cv, a_gr, a_ist, a_pi, a_push, a_wi, sh_71, sh_72, pu_rv, pu_as, Value.category, pu_bk, pu_kl, List.replicate, pu_wi_1, pu_wi_2, nl_add, nl_ladd, nl_aa, nl_mul, nl_rmul, nl_mm, pu_qe0, pu_qe1, tk, fT, cl]
      all_goals try simp (maxSteps := 400000) (disch := omega) [nl_tle, nl_fle, nl_tlt, nl_flt, nl_teq, nl_feq, nl_sub, nl_ss, nl_lt, nl_llt, nl_ltt, nl_le, nl_lle, nl_lee, nl_eq, nl_leq, nl_ee, nl_div, nl_rem, nl_cl, nl_n1, nl_n2, nl_n3, nl_n4, nl_add, nl_ladd, nl_aa, nl_mul, nl_rmul, nl_mm, pu_wi_1, pu_wi_2, bX12_readsAddress_0, a_ald, a_cv, a_gr, a_ist, a_pi, a_push, a_wi, sh_71, sh_72, pu_rv, pu_as, Value.category, pu_bk, pu_kl, pu_qe0, pu_qe1, tk, fT, cl]
      all_goals try simp [bX12_readsAddress_0, a_ald, a_cv, a_gr, a_ist, a_pi, a_push, a_wi, sh_71, sh_72, pu_rv, pu_as, Value.category, pu_bk, pu_kl, List.replicate, pu_wi_1, pu_wi_2, nl_add, nl_ladd, nl_aa, nl_mul, nl_rmul, nl_mm, pu_qe0, pu_qe1, tk, fT, cl]
      all_goals try simp (maxSteps := 400000) (disch := omega) [nl_tle, nl_fle, nl_tlt, nl_flt, nl_teq, nl_feq, nl_sub, nl_ss, nl_lt, nl_llt, nl_ltt, nl_le, nl_lle, nl_lee, nl_eq, nl_leq, nl_ee, nl_div, nl_rem, nl_cl, nl_n1, nl_n2, nl_n3, nl_n4, nl_add, nl_ladd, nl_aa, nl_mul, nl_rmul, nl_mm, pu_wi_1, pu_wi_2, bX12_readsAddress_0, a_ald, a_cv, a_gr, a_ist, a_pi, a_push, a_wi, sh_71, sh_72, pu_rv, pu_as, Value.category, pu_bk, pu_kl, pu_qe0, pu_qe1, tk, fT, cl]
      all_goals try simp [bX12_readsAddress_0, a_ald, a_cv, a_gr, a_ist, a_pi, a_push, a_wi, sh_71, sh_72, pu_rv, pu_as, Value.category, pu_bk, pu_kl, List.replicate, pu_wi_1, pu_wi_2, nl_add, nl_ladd, nl_aa, nl_mul, nl_rmul, nl_mm, pu_qe0, pu_qe1, tk, fT, cl]
      all_goals try simp (maxSteps := 400000) (disch := omega) [nl_tle, nl_fle, nl_tlt, nl_flt, nl_teq, nl_feq, nl_sub, nl_ss, nl_lt, nl_llt, nl_ltt, nl_le, nl_lle, nl_lee, nl_eq, nl_leq, nl_ee, nl_div, nl_rem, nl_cl, nl_n1, nl_n2, nl_n3, nl_n4, nl_add, nl_ladd, nl_aa, nl_mul, nl_rmul, nl_mm, pu_wi_1, pu_wi_2, bX12_readsAddress_0, a_ald, a_cv, a_gr, a_ist, a_pi, a_push, a_wi, sh_71, sh_72, pu_rv, pu_as, Value.category, pu_bk, pu_kl, pu_qe0, pu_qe1, tk, fT, cl]
      all_goals try simp [bX12_readsAddress_0, a_ald, a_cv, a_gr, a_ist, a_pi, a_push, a_wi, sh_71, sh_72, pu_rv, pu_as, Value.category, pu_bk, pu_kl, List.replicate, pu_wi_1, pu_wi_2, nl_add, nl_ladd, nl_aa, nl_mul, nl_rmul, nl_mm, pu_qe0, pu_qe1, tk, fT, cl]
      simp [bX12_readsAddress_45, bX12_readsAddress_91, bX12_readsAddress_93, a_ald, a_cv, a_ifeq, a_ifne, a_ist, a_push, a_zret, sh_71, pu_rv, pu_as, Value.category, pu_bk, pu_kl, List.replicate, pu_wi_1, pu_wi_2, nl_add, nl_ladd, nl_aa, nl_mul, nl_rmul, nl_mm, pu_qe0, pu_qe1, E1, b5, c6', r3, s2]
      all_goals try simp (maxSteps := 400000) (disch := omega) [nl_tle, nl_fle, nl_tlt, nl_flt, nl_teq, nl_feq, nl_sub, nl_ss, nl_lt, nl_llt, nl_ltt, nl_le, nl_lle, nl_lee, nl_eq, nl_leq, nl_ee, nl_div, nl_rem, nl_cl, nl_n1, nl_n2, nl_n3, nl_n4, nl_add, nl_ladd, nl_aa, nl_mul, nl_rmul, nl_mm, pu_wi_1, pu_wi_2, bX12_readsAddress_45, bX12_readsAddress_91, bX12_readsAddress_93, a_ald, a_cv, a_ifeq, a_ifne, a_ist, a_push, a_zret, sh_71, pu_rv, pu_as, Value.category, pu_bk, pu_kl, pu_qe0, pu_qe1, E1, b5, c6', r3, s2]
      all_goals try simp [bX12_readsAddress_45, bX12_readsAddress_91, bX12_readsAddress_93, a_ald, a_cv, a_ifeq, a_ifne, a_ist, a_push, a_zret, sh_71, pu_rv, pu_as, Value.category, pu_bk, pu_kl, List.replicate, pu_wi_1, pu_wi_2, nl_add, nl_ladd, nl_aa, nl_mul, nl_rmul, nl_mm, pu_qe0, pu_qe1, E1, b5, c6', r3, s2]
      all_goals try simp (maxSteps := 400000) (disch := omega) [nl_tle, nl_fle, nl_tlt, nl_flt, nl_teq, nl_feq, nl_sub, nl_ss, nl_lt, nl_llt, nl_ltt, nl_le, nl_lle, nl_lee, nl_eq, nl_leq, nl_ee, nl_div, nl_rem, nl_cl, nl_n1, nl_n2, nl_n3, nl_n4, nl_add, nl_ladd, nl_aa, nl_mul, nl_rmul, nl_mm, pu_wi_1, pu_wi_2, bX12_readsAddress_45, bX12_readsAddress_91, bX12_readsAddress_93, a_ald, a_cv, a_ifeq, a_ifne, a_ist, a_push, a_zret, sh_71, pu_rv, pu_as, Value.category, pu_bk, pu_kl, pu_qe0, pu_qe1, E1, b5, c6', r3, s2]
      all_goals try simp [bX12_readsAddress_45, bX12_readsAddress_91, bX12_readsAddress_93, a_ald, a_cv, a_ifeq, a_ifne, a_ist, a_push, a_zret, sh_71, pu_rv, pu_as, Value.category, pu_bk, pu_kl, List.replicate, pu_wi_1, pu_wi_2, nl_add, nl_ladd, nl_aa, nl_mul, nl_rmul, nl_mm, pu_qe0, pu_qe1, E1, b5, c6', r3, s2]
      all_goals try simp (maxSteps := 400000) (disch := omega) [nl_tle, nl_fle, nl_tlt, nl_flt, nl_teq, nl_feq, nl_sub, nl_ss, nl_lt, nl_llt, nl_ltt, nl_le, nl_lle, nl_lee, nl_eq, nl_leq, nl_ee, nl_div, nl_rem, nl_cl, nl_n1, nl_n2, nl_n3, nl_n4, nl_add, nl_ladd, nl_aa, nl_mul, nl_rmul, nl_mm, pu_wi_1, pu_wi_2, bX12_readsAddress_45, bX12_readsAddress_91, bX12_readsAddress_93, a_ald, a_cv, a_ifeq, a_ifne, a_ist, a_push, a_zret, sh_71, pu_rv, pu_as, Value.category, pu_bk, pu_kl, pu_qe0, pu_qe1, E1, b5, c6', r3, s2]
      all_goals try simp [bX12_readsAddress_45, bX12_readsAddress_91, bX12_readsAddress_93, a_ald, a_cv, a_ifeq, a_ifne, a_ist, a_push, a_zret, sh_71, pu_rv, pu_as, Value.category, pu_bk, pu_kl, List.replicate, pu_wi_1, pu_wi_2, nl_add, nl_ladd, nl_aa, nl_mul, nl_rmul, nl_mm, pu_qe0, pu_qe1, E1, b5, c6', r3, s2]
  rw [show nI 32 = (32 : Int32) from rfl] at s3
  have C4 : (py_xx b t).2.1 + 1 < t ∧ b ((py_xx b t).2.1 + 1) = 32 := ⟨s1, s2⟩
  have k5 : (pu_wi N4 71 20 (nI ((py_xx b t).2.1 + 1 + 1))).2 = Z.2 ∧ ∀ a j, ¬ (a = 71 ∧ (j = 17 ∨ j = 18 ∨ j = 19 ∨ j = 20)) → a ≠ 78 → a ≠ 82 → ¬ (a = 72 ∧ j = 15) → (pu_wi N4 71 20 (nI ((py_xx b t).2.1 + 1 + 1))).1 a j = Z.1 a j := ⟨k4.1, fun a j q1 q2 q3 q4 => by rw [py_wi_o (by omega)]; exact k4.2 a j q1 q2 q3 q4⟩
  have p5 : (pu_wi N4 71 20 (nI ((py_xx b t).2.1 + 1 + 1))).1 71 20 = nI ((py_xx b t).2.1 + 2) := by simp [pu_wi_1]
  have o5 : ∀ a j, ¬ (a = 71 ∧ j = 20) → (pu_wi N4 71 20 (nI ((py_xx b t).2.1 + 1 + 1))).1 a j = N3.1 a j := fun a j hj => by rw [py_wi_o hj]; exact o4 a j hj
  generalize pu_wi N4 71 20 (nI ((py_xx b t).2.1 + 1 + 1)) = N5 at *
  have hx5 : pu_fx N5 := pz_fx_of hxZ k5.1
  have z82 : ∀ i, i < 36 → N5.1 82 i = 0 := fun i hi => by
    rw [o5 82 i (by omega), c1.2 82 i (by omega) (by omega) (by omega), b1.2 82 i (by omega) (by omega) (by omega), a1.2 82 i (by omega) (by omega) (by omega)]
    exact Zz 82 i (Or.inr rfl) hi
  obtain ⟨N6, t1, t7, t8, t9, t2, t3, t4, t5, t6⟩ := r_town_l (b := b) (t := t) 3 0 ((py_xx b t).2.1 + 2) N5 hx5 (TR N5 k5.2) (by omega) (by omega) (by omega) p5 (fun i _ hi => z82 i hi)
  have k6 : N6.2 = Z.2 ∧ ∀ a j, ¬ (a = 71 ∧ (j = 17 ∨ j = 18 ∨ j = 19 ∨ j = 20)) → a ≠ 78 → a ≠ 82 → ¬ (a = 72 ∧ j = 15) → N6.1 a j = Z.1 a j := ⟨t1.1.trans k5.1, fun a j q1 q2 q3 q4 => by rw [t1.2 a j q1 q3 q4]; exact k5.2 a j q1 q2 q3 q4⟩
  have E6 : pu_r 313 [some (.ref 71)] [] N5 = some (some (.int (pu_q (py_ns b t 3 ((py_xx b t).2.1 + 2) ≠ none))), N6) := by
    rw [nI_0] at t6
    generalize pu_q (py_ns b t 3 ((py_xx b t).2.1 + 2) ≠ none) = zz at *
    rw [qX12_townPart]
    simp [a_ent, bX12_townPart_0, a_ist, a_push, pu_rv, pu_as, Value.category, pu_bk, pu_kl, List.replicate, pu_wi_1, pu_wi_2, nl_add, nl_ladd, nl_aa, nl_mul, nl_rmul, nl_mm, pu_qe0, pu_qe1, t6]
    all_goals try simp (maxSteps := 400000) (disch := omega) [nl_tle, nl_fle, nl_tlt, nl_flt, nl_teq, nl_feq, nl_sub, nl_ss, nl_lt, nl_llt, nl_ltt, nl_le, nl_lle, nl_lee, nl_eq, nl_leq, nl_ee, nl_div, nl_rem, nl_cl, nl_n1, nl_n2, nl_n3, nl_n4, nl_add, nl_ladd, nl_aa, nl_mul, nl_rmul, nl_mm, pu_wi_1, pu_wi_2, bX12_townPart_0, a_ist, a_push, pu_rv, pu_as, Value.category, pu_bk, pu_kl, pu_qe0, pu_qe1, t6]
    all_goals try simp [bX12_townPart_0, a_ist, a_push, pu_rv, pu_as, Value.category, pu_bk, pu_kl, List.replicate, pu_wi_1, pu_wi_2, nl_add, nl_ladd, nl_aa, nl_mul, nl_rmul, nl_mm, pu_qe0, pu_qe1, t6]
    all_goals try simp (maxSteps := 400000) (disch := omega) [nl_tle, nl_fle, nl_tlt, nl_flt, nl_teq, nl_feq, nl_sub, nl_ss, nl_lt, nl_llt, nl_ltt, nl_le, nl_lle, nl_lee, nl_eq, nl_leq, nl_ee, nl_div, nl_rem, nl_cl, nl_n1, nl_n2, nl_n3, nl_n4, nl_add, nl_ladd, nl_aa, nl_mul, nl_rmul, nl_mm, pu_wi_1, pu_wi_2, bX12_townPart_0, a_ist, a_push, pu_rv, pu_as, Value.category, pu_bk, pu_kl, pu_qe0, pu_qe1, t6]
    all_goals try simp [bX12_townPart_0, a_ist, a_push, pu_rv, pu_as, Value.category, pu_bk, pu_kl, List.replicate, pu_wi_1, pu_wi_2, nl_add, nl_ladd, nl_aa, nl_mul, nl_rmul, nl_mm, pu_qe0, pu_qe1, t6]
    all_goals try simp (maxSteps := 400000) (disch := omega) [nl_tle, nl_fle, nl_tlt, nl_flt, nl_teq, nl_feq, nl_sub, nl_ss, nl_lt, nl_llt, nl_ltt, nl_le, nl_lle, nl_lee, nl_eq, nl_leq, nl_ee, nl_div, nl_rem, nl_cl, nl_n1, nl_n2, nl_n3, nl_n4, nl_add, nl_ladd, nl_aa, nl_mul, nl_rmul, nl_mm, pu_wi_1, pu_wi_2, bX12_townPart_0, a_ist, a_push, pu_rv, pu_as, Value.category, pu_bk, pu_kl, pu_qe0, pu_qe1, t6]
    all_goals try simp [bX12_townPart_0, a_ist, a_push, pu_rv, pu_as, Value.category, pu_bk, pu_kl, List.replicate, pu_wi_1, pu_wi_2, nl_add, nl_ladd, nl_aa, nl_mul, nl_rmul, nl_mm, pu_qe0, pu_qe1, t6]
  by_cases g4 : py_ns b t 3 ((py_xx b t).2.1 + 2) ≠ none
  rotate_left
  · rw [pu_q0 g4] at E6
    refine FAIL N6 k6 ?_ (fun z => g4 z.2.2.2.2) ?_
    · rw [t3 g4]
      unfold py_fp
      rw [if_neg g1, if_neg (fun z => z g3), if_neg (fun z => z C3), if_neg (fun z => z C4)]
    · rw [hZ0] at cl
      rw [qX12_readsAddress]
      simp [a_ent, bX12_readsAddress_0, a_ald, a_cv, a_gr, a_ist, a_pi, a_push, a_wi, sh_71, sh_72, pu_rv, pu_as, Value.category, pu_bk, pu_kl, List.replicate, pu_wi_1, pu_wi_2, nl_add, nl_ladd, nl_aa, nl_mul, nl_rmul, nl_mm, pu_qe0, pu_qe1, tk, fT, cl]
      all_goals try simp (maxSteps := 400000) (disch := omega) [nl_tle, nl_fle, nl_tlt, nl_flt, nl_teq, nl_feq, nl_sub, nl_ss, nl_lt, nl_llt, nl_ltt, nl_le, nl_lle, nl_lee, nl_eq, nl_leq, nl_ee, nl_div, nl_rem, nl_cl, nl_n1, nl_n2, nl_n3, nl_n4, nl_add, nl_ladd, nl_aa, nl_mul, nl_rmul, nl_mm, pu_wi_1, pu_wi_2, bX12_readsAddress_0, a_ald, a_cv, a_gr, a_ist, a_pi, a_push, a_wi, sh_71, sh_72, pu_rv, pu_as, Value.category, pu_bk, pu_kl, pu_qe0, pu_qe1, tk, fT, cl]
      all_goals try simp [bX12_readsAddress_0, a_ald, a_cv, a_gr, a_ist, a_pi, a_push, a_wi, sh_71, sh_72, pu_rv, pu_as, Value.category, pu_bk, pu_kl, List.replicate, pu_wi_1, pu_wi_2, nl_add, nl_ladd, nl_aa, nl_mul, nl_rmul, nl_mm, pu_qe0, pu_qe1, tk, fT, cl]
      all_goals try simp (maxSteps := 400000) (disch := omega) [nl_tle, nl_fle, nl_tlt, nl_flt, nl_teq, nl_feq, nl_sub, nl_ss, nl_lt, nl_llt, nl_ltt, nl_le, nl_lle, nl_lee, nl_eq, nl_leq, nl_ee, nl_div, nl_rem, nl_cl, nl_n1, nl_n2, nl_n3, nl_n4, nl_add, nl_ladd, nl_aa, nl_mul, nl_rmul, nl_mm, pu_wi_1, pu_wi_2, bX12_readsAddress_0, a_ald, a_cv, a_gr, a_ist, a_pi, a_push, a_wi, sh_71, sh_72, pu_rv, pu_as, Value.category, pu_bk, pu_kl, pu_qe0, pu_qe1, tk, fT, cl]
      all_goals try simp [bX12_readsAddress_0, a_ald, a_cv, a_gr, a_ist, a_pi, a_push, a_wi, sh_71, sh_72, pu_rv, pu_as, Value.category, pu_bk, pu_kl, List.replicate, pu_wi_1, pu_wi_2, nl_add, nl_ladd, nl_aa, nl_mul, nl_rmul, nl_mm, pu_qe0, pu_qe1, tk, fT, cl]
      all_goals try simp (maxSteps := 400000) (disch := omega) [nl_tle, nl_fle, nl_tlt, nl_flt, nl_teq, nl_feq, nl_sub, nl_ss, nl_lt, nl_llt, nl_ltt, nl_le, nl_lle, nl_lee, nl_eq, nl_leq, nl_ee, nl_div, nl_rem, nl_cl, nl_n1, nl_n2, nl_n3, nl_n4, nl_add, nl_ladd, nl_aa, nl_mul, nl_rmul, nl_mm, pu_wi_1, pu_wi_2, bX12_readsAddress_0, a_ald, a_cv, a_gr, a_ist, a_pi, a_push, a_wi, sh_71, sh_72, pu_rv, pu_as, Value.category, pu_bk, pu_kl, pu_qe0, pu_qe1, tk, fT, cl]
      all_goals try simp [bX12_readsAddress_0, a_ald, a_cv, a_gr, a_ist, a_pi, a_push, a_wi, sh_71, sh_72, pu_rv, pu_as, Value.category, pu_bk, pu_kl, List.replicate, pu_wi_1, pu_wi_2, nl_add, nl_ladd, nl_aa, nl_mul, nl_rmul, nl_mm, pu_qe0, pu_qe1, tk, fT, cl]
      simp [bX12_readsAddress_45, bX12_readsAddress_91, bX12_readsAddress_93, a_ald, a_cv, a_ifeq, a_ifne, a_ist, a_push, a_zret, sh_71, pu_rv, pu_as, Value.category, pu_bk, pu_kl, List.replicate, pu_wi_1, pu_wi_2, nl_add, nl_ladd, nl_aa, nl_mul, nl_rmul, nl_mm, pu_qe0, pu_qe1, E1, b5, c6', r3, s3, E6]
      all_goals try simp (maxSteps := 400000) (disch := omega) [nl_tle, nl_fle, nl_tlt, nl_flt, nl_teq, nl_feq, nl_sub, nl_ss, nl_lt, nl_llt, nl_ltt, nl_le, nl_lle, nl_lee, nl_eq, nl_leq, nl_ee, nl_div, nl_rem, nl_cl, nl_n1, nl_n2, nl_n3, nl_n4, nl_add, nl_ladd, nl_aa, nl_mul, nl_rmul, nl_mm, pu_wi_1, pu_wi_2, bX12_readsAddress_45, bX12_readsAddress_91, bX12_readsAddress_93, a_ald, a_cv, a_ifeq, a_ifne, a_ist, a_push, a_zret, sh_71, pu_rv, pu_as, Value.category, pu_bk, pu_kl, pu_qe0, pu_qe1, E1, b5, c6', r3, s3, E6]
      all_goals try simp [bX12_readsAddress_45, bX12_readsAddress_91, bX12_readsAddress_93, a_ald, a_cv, a_ifeq, a_ifne, a_ist, a_push, a_zret, sh_71, pu_rv, pu_as, Value.category, pu_bk, pu_kl, List.replicate, pu_wi_1, pu_wi_2, nl_add, nl_ladd, nl_aa, nl_mul, nl_rmul, nl_mm, pu_qe0, pu_qe1, E1, b5, c6', r3, s3, E6]
      all_goals try simp (maxSteps := 400000) (disch := omega) [nl_tle, nl_fle, nl_tlt, nl_flt, nl_teq, nl_feq, nl_sub, nl_ss, nl_lt, nl_llt, nl_ltt, nl_le, nl_lle, nl_lee, nl_eq, nl_leq, nl_ee, nl_div, nl_rem, nl_cl, nl_n1, nl_n2, nl_n3, nl_n4, nl_add, nl_ladd, nl_aa, nl_mul, nl_rmul, nl_mm, pu_wi_1, pu_wi_2, bX12_readsAddress_45, bX12_readsAddress_91, bX12_readsAddress_93, a_ald, a_cv, a_ifeq, a_ifne, a_ist, a_push, a_zret, sh_71, pu_rv, pu_as, Value.category, pu_bk, pu_kl, pu_qe0, pu_qe1, E1, b5, c6', r3, s3, E6]
      all_goals try simp [bX12_readsAddress_45, bX12_readsAddress_91, bX12_readsAddress_93, a_ald, a_cv, a_ifeq, a_ifne, a_ist, a_push, a_zret, sh_71, pu_rv, pu_as, Value.category, pu_bk, pu_kl, List.replicate, pu_wi_1, pu_wi_2, nl_add, nl_ladd, nl_aa, nl_mul, nl_rmul, nl_mm, pu_qe0, pu_qe1, E1, b5, c6', r3, s3, E6]
      all_goals try simp (maxSteps := 400000) (disch := omega) [nl_tle, nl_fle, nl_tlt, nl_flt, nl_teq, nl_feq, nl_sub, nl_ss, nl_lt, nl_llt, nl_ltt, nl_le, nl_lle, nl_lee, nl_eq, nl_leq, nl_ee, nl_div, nl_rem, nl_cl, nl_n1, nl_n2, nl_n3, nl_n4, nl_add, nl_ladd, nl_aa, nl_mul, nl_rmul, nl_mm, pu_wi_1, pu_wi_2, bX12_readsAddress_45, bX12_readsAddress_91, bX12_readsAddress_93, a_ald, a_cv, a_ifeq, a_ifne, a_ist, a_push, a_zret, sh_71, pu_rv, pu_as, Value.category, pu_bk, pu_kl, pu_qe0, pu_qe1, E1, b5, c6', r3, s3, E6]
      all_goals try simp [bX12_readsAddress_45, bX12_readsAddress_91, bX12_readsAddress_93, a_ald, a_cv, a_ifeq, a_ifne, a_ist, a_push, a_zret, sh_71, pu_rv, pu_as, Value.category, pu_bk, pu_kl, List.replicate, pu_wi_1, pu_wi_2, nl_add, nl_ladd, nl_aa, nl_mul, nl_rmul, nl_mm, pu_qe0, pu_qe1, E1, b5, c6', r3, s3, E6]
  rw [pu_q1 g4] at E6
  have ok : py_ok b t := ⟨g1, g3, C3, C4, g4⟩
  obtain ⟨l1, hl1⟩ : ∃ l, py_sw b t 3 0 = some l := by
    cases hl : py_sw b t 3 0 with
    | none => exact absurd hl g1
    | some l => exact ⟨l, rfl⟩
  obtain ⟨l2, hl2⟩ : ∃ l, py_ns b t 3 ((py_xx b t).2.1 + 2) = some l := by
    cases hl : py_ns b t 3 ((py_xx b t).2.1 + 2) with
    | none => exact absurd hl g4
    | some l => exact ⟨l, rfl⟩
  have N15 : N6.1 72 15 = -1 := by rw [t2 g4, o5 72 15 (by omega)]; exact s15
  have hx6 : pu_fx N6 := pz_fx_of hxZ k6.1
  -- the office with the fault -1
  have St6 : pu_St (fun a j => if a = 45 ∧ j = 0 then -1 else I a j) L (N6.1 72) := St_fault hS (fun x j hj => if_neg hj) (fun j hj => by rw [k6.2 72 j (by omega) (by omega) (by omega) (by omega), ZQ 72 j (by omega) (by omega) (by omega) (by omega) (by omega)]) (by rw [N15]; rfl)
  have FU : ∀ v, py_fu (fun a j => if a = 45 ∧ j = 0 then -1 else I a j) L v = py_fu I L v := fun v => by
    unfold py_fu py_fi
    rw [show cF (fun a j => if a = 45 ∧ j = 0 then -1 else I a j) = cF I from rfl]
  have W1 : ∀ k, k < 3 → pu_Wd (N6.1 78) (12 * k) (lN (pu_wv (l1.getD k []))) := fun k hk => py_wdl (py_sw_l b t 3 0 l1 (Nat.zero_le _) hl1) (fun i hi => by
    have := a5 l1 hl1 k i hk hi
    rw [Nat.zero_add] at this
    rw [t1.2 78 _ (by omega) (by omega) (by omega), o5 78 _ (by omega), c2, b2]
    exact this)
  have W2 : ∀ k, k < 3 → pu_Wd (N6.1 82) (12 * k) (lN (pu_wv (l2.getD k []))) := fun k hk => py_wdl (fun ds hds => ((py_ns_l b t 3 _ l2 (by omega) hl2).2 ds hds).2) (fun i hi => by
    have := t5 l2 hl2 k i hk hi
    rw [Nat.zero_add] at this
    exact this)
  obtain ⟨R, u1, u2, u3, u4, u5⟩ := r_lenA hx6 St6.2 St6.1 (fun k => lN (pu_wv (l1.getD k []))) (fun k => lN (pu_wv (l2.getD k []))) 3 0 N6 (by omega) rfl (fun _ _ _ _ => rfl) (fun k hk => ⟨fun z => by omega, fun _ => W1 k hk⟩) (fun k hk => ⟨fun z => by omega, fun _ => W2 k hk⟩)
  rw [nI_0] at u5
  have q71 : ∀ j, j ≠ 20 → R.1 71 j = N6.1 71 j := fun j _ => u2 71 j (by omega) (by omega)
  refine ⟨R, CB R _ (u1.trans k6.1) (fun a j q1 q2 q3 q4 => by rw [u2 a j q2 q3]; exact k6.2 a j q1 q2 q3 q4) (by rw [u2 72 15 (by omega) (by omega), N15]; unfold py_fl; rw [if_pos ok]), fun _ => ⟨?_, ?_, ?_, fun l hl k hk => ?_, fun l hl k hk => ?_⟩, ?_⟩
  · rw [q71 17 (by omega), t7, o5 71 17 (by omega), c3, b32]
    rfl
  · rw [q71 18 (by omega), t8, o5 71 18 (by omega)]
    exact d2
  · rw [q71 19 (by omega), t9, o5 71 19 (by omega)]
    exact d3
  · rw [hl1] at hl
    cases hl
    have := u3 k hk
    rw [FU] at this
    exact this
  · rw [hl2] at hl
    cases hl
    have := u4 k hk
    rw [FU] at this
    exact this
  · rw [pu_q1 ok]
    rw [hZ0] at cl
    rw [qX12_readsAddress]
    simp [a_ent, bX12_readsAddress_0, a_ald, a_cv, a_gr, a_ist, a_pi, a_push, a_wi, sh_71, sh_72, pu_rv, pu_as, Value.category, pu_bk, pu_kl, List.replicate, pu_wi_1, pu_wi_2, nl_add, nl_ladd, nl_aa, nl_mul, nl_rmul, nl_mm, pu_qe0, pu_qe1, tk, fT, cl]
    all_goals try simp (maxSteps := 400000) (disch := omega) [nl_tle, nl_fle, nl_tlt, nl_flt, nl_teq, nl_feq, nl_sub, nl_ss, nl_lt, nl_llt, nl_ltt, nl_le, nl_lle, nl_lee, nl_eq, nl_leq, nl_ee, nl_div, nl_rem, nl_cl, nl_n1, nl_n2, nl_n3, nl_n4, nl_add, nl_ladd, nl_aa, nl_mul, nl_rmul, nl_mm, pu_wi_1, pu_wi_2, bX12_readsAddress_0, a_ald, a_cv, a_gr, a_ist, a_pi, a_push, a_wi, sh_71, sh_72, pu_rv, pu_as, Value.category, pu_bk, pu_kl, pu_qe0, pu_qe1, tk, fT, cl]
    all_goals try simp [bX12_readsAddress_0, a_ald, a_cv, a_gr, a_ist, a_pi, a_push, a_wi, sh_71, sh_72, pu_rv, pu_as, Value.category, pu_bk, pu_kl, List.replicate, pu_wi_1, pu_wi_2, nl_add, nl_ladd, nl_aa, nl_mul, nl_rmul, nl_mm, pu_qe0, pu_qe1, tk, fT, cl]
    all_goals try simp (maxSteps := 400000) (disch := omega) [nl_tle, nl_fle, nl_tlt, nl_flt, nl_teq, nl_feq, nl_sub, nl_ss, nl_lt, nl_llt, nl_ltt, nl_le, nl_lle, nl_lee, nl_eq, nl_leq, nl_ee, nl_div, nl_rem, nl_cl, nl_n1, nl_n2, nl_n3, nl_n4, nl_add, nl_ladd, nl_aa, nl_mul, nl_rmul, nl_mm, pu_wi_1, pu_wi_2, bX12_readsAddress_0, a_ald, a_cv, a_gr, a_ist, a_pi, a_push, a_wi, sh_71, sh_72, pu_rv, pu_as, Value.category, pu_bk, pu_kl, pu_qe0, pu_qe1, tk, fT, cl]
    all_goals try simp [bX12_readsAddress_0, a_ald, a_cv, a_gr, a_ist, a_pi, a_push, a_wi, sh_71, sh_72, pu_rv, pu_as, Value.category, pu_bk, pu_kl, List.replicate, pu_wi_1, pu_wi_2, nl_add, nl_ladd, nl_aa, nl_mul, nl_rmul, nl_mm, pu_qe0, pu_qe1, tk, fT, cl]
    all_goals try simp (maxSteps := 400000) (disch := omega) [nl_tle, nl_fle, nl_tlt, nl_flt, nl_teq, nl_feq, nl_sub, nl_ss, nl_lt, nl_llt, nl_ltt, nl_le, nl_lle, nl_lee, nl_eq, nl_leq, nl_ee, nl_div, nl_rem, nl_cl, nl_n1, nl_n2, nl_n3, nl_n4, nl_add, nl_ladd, nl_aa, nl_mul, nl_rmul, nl_mm, pu_wi_1, pu_wi_2, bX12_readsAddress_0, a_ald, a_cv, a_gr, a_ist, a_pi, a_push, a_wi, sh_71, sh_72, pu_rv, pu_as, Value.category, pu_bk, pu_kl, pu_qe0, pu_qe1, tk, fT, cl]
    all_goals try simp [bX12_readsAddress_0, a_ald, a_cv, a_gr, a_ist, a_pi, a_push, a_wi, sh_71, sh_72, pu_rv, pu_as, Value.category, pu_bk, pu_kl, List.replicate, pu_wi_1, pu_wi_2, nl_add, nl_ladd, nl_aa, nl_mul, nl_rmul, nl_mm, pu_qe0, pu_qe1, tk, fT, cl]
    simp [bX12_readsAddress_45, bX12_readsAddress_91, bX12_readsAddress_93, a_ald, a_cv, a_ifeq, a_ifne, a_ist, a_push, a_zret, sh_71, pu_rv, pu_as, Value.category, pu_bk, pu_kl, List.replicate, pu_wi_1, pu_wi_2, nl_add, nl_ladd, nl_aa, nl_mul, nl_rmul, nl_mm, pu_qe0, pu_qe1, E1, b5, c6', r3, s3, E6, u5]
    all_goals try simp (maxSteps := 400000) (disch := omega) [nl_tle, nl_fle, nl_tlt, nl_flt, nl_teq, nl_feq, nl_sub, nl_ss, nl_lt, nl_llt, nl_ltt, nl_le, nl_lle, nl_lee, nl_eq, nl_leq, nl_ee, nl_div, nl_rem, nl_cl, nl_n1, nl_n2, nl_n3, nl_n4, nl_add, nl_ladd, nl_aa, nl_mul, nl_rmul, nl_mm, pu_wi_1, pu_wi_2, bX12_readsAddress_45, bX12_readsAddress_91, bX12_readsAddress_93, a_ald, a_cv, a_ifeq, a_ifne, a_ist, a_push, a_zret, sh_71, pu_rv, pu_as, Value.category, pu_bk, pu_kl, pu_qe0, pu_qe1, E1, b5, c6', r3, s3, E6, u5]
    all_goals try simp [bX12_readsAddress_45, bX12_readsAddress_91, bX12_readsAddress_93, a_ald, a_cv, a_ifeq, a_ifne, a_ist, a_push, a_zret, sh_71, pu_rv, pu_as, Value.category, pu_bk, pu_kl, List.replicate, pu_wi_1, pu_wi_2, nl_add, nl_ladd, nl_aa, nl_mul, nl_rmul, nl_mm, pu_qe0, pu_qe1, E1, b5, c6', r3, s3, E6, u5]
    all_goals try simp (maxSteps := 400000) (disch := omega) [nl_tle, nl_fle, nl_tlt, nl_flt, nl_teq, nl_feq, nl_sub, nl_ss, nl_lt, nl_llt, nl_ltt, nl_le, nl_lle, nl_lee, nl_eq, nl_leq, nl_ee, nl_div, nl_rem, nl_cl, nl_n1, nl_n2, nl_n3, nl_n4, nl_add, nl_ladd, nl_aa, nl_mul, nl_rmul, nl_mm, pu_wi_1, pu_wi_2, bX12_readsAddress_45, bX12_readsAddress_91, bX12_readsAddress_93, a_ald, a_cv, a_ifeq, a_ifne, a_ist, a_push, a_zret, sh_71, pu_rv, pu_as, Value.category, pu_bk, pu_kl, pu_qe0, pu_qe1, E1, b5, c6', r3, s3, E6, u5]
    all_goals try simp [bX12_readsAddress_45, bX12_readsAddress_91, bX12_readsAddress_93, a_ald, a_cv, a_ifeq, a_ifne, a_ist, a_push, a_zret, sh_71, pu_rv, pu_as, Value.category, pu_bk, pu_kl, List.replicate, pu_wi_1, pu_wi_2, nl_add, nl_ladd, nl_aa, nl_mul, nl_rmul, nl_mm, pu_qe0, pu_qe1, E1, b5, c6', r3, s3, E6, u5]
    all_goals try simp (maxSteps := 400000) (disch := omega) [nl_tle, nl_fle, nl_tlt, nl_flt, nl_teq, nl_feq, nl_sub, nl_ss, nl_lt, nl_llt, nl_ltt, nl_le, nl_lle, nl_lee, nl_eq, nl_leq, nl_ee, nl_div, nl_rem, nl_cl, nl_n1, nl_n2, nl_n3, nl_n4, nl_add, nl_ladd, nl_aa, nl_mul, nl_rmul, nl_mm, pu_wi_1, pu_wi_2, bX12_readsAddress_45, bX12_readsAddress_91, bX12_readsAddress_93, a_ald, a_cv, a_ifeq, a_ifne, a_ist, a_push, a_zret, sh_71, pu_rv, pu_as, Value.category, pu_bk, pu_kl, pu_qe0, pu_qe1, E1, b5, c6', r3, s3, E6, u5]
    all_goals try simp [bX12_readsAddress_45, bX12_readsAddress_91, bX12_readsAddress_93, a_ald, a_cv, a_ifeq, a_ifne, a_ist, a_push, a_zret, sh_71, pu_rv, pu_as, Value.category, pu_bk, pu_kl, List.replicate, pu_wi_1, pu_wi_2, nl_add, nl_ladd, nl_aa, nl_mul, nl_rmul, nl_mm, pu_qe0, pu_qe1, E1, b5, c6', r3, s3, E6, u5]
end
