/-! addresses: the class reads one -/
def py_p3 (b : Nat → Nat) (t : Nat) : Nat := (py_nl2 b t (py_d1 b t 3 (py_sq b t 3 0)).2).2
def py_wo (b : Nat → Nat) (t : Nat) : Nat := 16 * (py_d1 b t 3 (py_sq b t 3 0)).1 + (py_nl2 b t (py_d1 b t 3 (py_sq b t 3 0)).2).1
def py_xx (b : Nat → Nat) (t : Nat) : Bool × Nat × Nat × Nat := py_x b t (py_p3 b t)
def py_ok (b : Nat → Nat) (t : Nat) : Prop := py_sw b t 3 0 ≠ none ∧ (py_xx b t).1 = true ∧ ((py_xx b t).2.1 < t ∧ b (py_xx b t).2.1 = 44) ∧ ((py_xx b t).2.1 + 1 < t ∧ b ((py_xx b t).2.1 + 1) = 32) ∧ py_ns b t 3 ((py_xx b t).2.1 + 2) ≠ none
def py_fp (b : Nat → Nat) (t : Nat) : Nat := if py_sw b t 3 0 = none then py_sq b t 3 0 else if (py_xx b t).1 ≠ true then (py_xx b t).2.1 else if ¬ ((py_xx b t).2.1 < t ∧ b (py_xx b t).2.1 = 44) then (py_xx b t).2.1 else if ¬ ((py_xx b t).2.1 + 1 < t ∧ b ((py_xx b t).2.1 + 1) = 32) then (py_xx b t).2.1 + 1 else py_nq b t 3 ((py_xx b t).2.1 + 2)
def py_rY (M N : pu_M) : Prop := N.2.2 = M.2.2 ∧ (∀ x j, x ≠ 59 → N.1 x j = M.1 x j) ∧ (∀ x j, x ≠ 60 → x ≠ 61 → N.2.1 x j = M.2.1 x j)
theorem py_rY_t {M N P : pu_M} (h1 : py_rY M N) (h2 : py_rY N P) : py_rY M P := ⟨h2.1.trans h1.1, fun x j hx => by rw [h2.2.1 x j hx, h1.2.1 x j hx], fun x j hx hy => by rw [h2.2.2 x j hx hy, h1.2.2 x j hx hy]⟩
theorem py_rY_f {M N : pu_M} {a : Nat} (ha : a = 60 ∨ a = 61) (h : py_rf M N a 0) : py_rY M N := ⟨h.1, fun x j hx => h.2.1 x j (by omega), fun x j hx hy => h.2.2 x j (by omega)⟩
theorem py_rY_9 {M N : pu_M} (h : py_r9 M N) : py_rY M N := ⟨by rw [h.1], fun x j hx => h.2 x j (by omega), fun x j _ _ => by rw [h.1]⟩
theorem py_rY_w (M : pu_M) (j : Nat) (v : Int32) : py_rY M (pu_wi M 59 j v) := ⟨rfl, fun x i hx => py_wi_o (by omega), fun _ _ _ _ => rfl⟩
theorem py_rY_x {M N : pu_M} (hx : pu_fx M) (h : py_rY M N) : pu_fx N := fun a k r q => by
  rw [h.1]
  exact hx a k r q
theorem py_rY_v {M N : pu_M} {b : Nat → Nat} {t : Nat} (hv : py_tv M b t) (h : py_rY M N) : py_tv N b t := py_tv_m hv (h.2.1 1 0 (by omega)) (fun j => h.2.1 2 j (by omega)) (by rw [h.1])
section
variable {I : Nat → Nat → Int32} {L : Nat → Nat → Int64}
theorem c_adT {Q : pu_M} (z : Int32) (hz : z = 0 ∨ z = 1) (hx : pu_fx Q) (hI : pu_ag Q I) (hL : pu_al Q L) (hw : pu_WF I L) (t3 : Option Value) : ∃ F, (∀ a j, ¬ (a = 59 ∧ j = 5) → F.1 a j = Q.1 a j) ∧ F.1 59 5 = (if z = 1 then -1 else Q.1 59 7) ∧ F.2.2 = Q.2.2 ∧ (∀ x j, x ≠ 60 → x ≠ 61 → F.2.1 x j = Q.2.1 x j) ∧ (∀ k, k < 3 → F.2.1 60 k = py_fu I L (Q.2.1 60 k)) ∧ (∀ k, k < 3 → F.2.1 61 k = py_fu I L (Q.2.1 61 k)) ∧ kX7_readAddress_60 pu_r [some (.ref 59), some (.ref 1), some (.ref 42), t3] [.int z] Q = some (some (.int z), F) := by
  obtain ⟨P, hP⟩ : ∃ P, P = pu_wi Q 59 5 (if z = 1 then -1 else Q.1 59 7) := ⟨_, rfl⟩
  have hxP : pu_fx P := by rw [hP]; exact hx
  have hIP : pu_ag P I := fun a j q1 q2 => by rw [hP, py_wi_o (by omega)]; exact hI a j q1 q2
  have hLP : pu_al P L := fun a j q1 q2 => by rw [hP]; exact hL a j q1 q2
  obtain ⟨A, a1, a2, a3, a4, a5⟩ := c_lengthen 60 sh_60 (by omega) hxP hIP hLP hw
  have hxA : pu_fx A := fun a k r q => by rw [a2]; exact hxP a k r q
  obtain ⟨F, b1, b2, b3, b4, b5⟩ := c_lengthen (M := A) (I := I) (L := L) 61 sh_61 (by omega) hxA (fun a j q1 q2 => by rw [a1]; exact hIP a j q1 q2) (fun a j q1 q2 => by rw [a3 a j (by omega)]; exact hLP a j q1 q2) hw
  have P2 : P.2 = Q.2 := by rw [hP]; rfl
  refine ⟨F, fun a j hj => by rw [b1, a1, hP, py_wi_o hj], by rw [b1, a1, hP]; simp [pu_wi_1], by rw [b2, a2, P2], fun x j h1 h2 => by rw [b3 x j h2, a3 x j h1, P2], fun k hk => by rw [b3 60 k (by omega), a4 k hk, P2], fun k hk => by rw [b4 k hk, a3 61 k (by omega), P2], ?_⟩
  have f60 := fx_59_0 hxP
  have f61 := fx_59_1 hxA
  rcases hz with z0 | z0
  · subst z0
    rw [if_neg (by decide)] at hP
    rw [hP] at a5 f60
    have f60' := fx_59_0 hx
    simp [bX7_readAddress_60, bX7_readAddress_70, bX7_readAddress_74, a_ald, a_cs, a_gi, a_gr, a_ifeq, a_ild, a_ist, a_pi, a_push, a_zret, sh_59, sh_60, sh_61, pu_rv, pu_as, Value.category, pu_bk, pu_kl, List.replicate, pu_wi_1, pu_wi_2, nl_add, nl_ladd, nl_aa, nl_mul, nl_rmul, nl_mm, pu_qe0, pu_qe1, f60, f60', f61, a5, b5, sh_42, sh_60, sh_61]
    all_goals try simp (maxSteps := 400000) (disch := omega) [nl_tle, nl_fle, nl_tlt, nl_flt, nl_teq, nl_feq, nl_sub, nl_ss, nl_lt, nl_llt, nl_ltt, nl_le, nl_lle, nl_lee, nl_eq, nl_leq, nl_ee, nl_div, nl_rem, nl_cl, nl_n1, nl_n2, nl_n3, nl_n4, nl_add, nl_ladd, nl_aa, nl_mul, nl_rmul, nl_mm, pu_wi_1, pu_wi_2, bX7_readAddress_60, bX7_readAddress_70, bX7_readAddress_74, a_ald, a_cs, a_gi, a_gr, a_ifeq, a_ild, a_ist, a_pi, a_push, a_zret, sh_59, sh_60, sh_61, pu_rv, pu_as, Value.category, pu_bk, pu_kl, pu_qe0, pu_qe1, f60, f60', f61, a5, b5, sh_42, sh_60, sh_61]
    all_goals try simp [bX7_readAddress_60, bX7_readAddress_70, bX7_readAddress_74, a_ald, a_cs, a_gi, a_gr, a_ifeq, a_ild, a_ist, a_pi, a_push, a_zret, sh_59, sh_60, sh_61, pu_rv, pu_as, Value.category, pu_bk, pu_kl, List.replicate, pu_wi_1, pu_wi_2, nl_add, nl_ladd, nl_aa, nl_mul, nl_rmul, nl_mm, pu_qe0, pu_qe1, f60, f60', f61, a5, b5, sh_42, sh_60, sh_61]
    all_goals try simp (maxSteps := 400000) (disch := omega) [nl_tle, nl_fle, nl_tlt, nl_flt, nl_teq, nl_feq, nl_sub, nl_ss, nl_lt, nl_llt, nl_ltt, nl_le, nl_lle, nl_lee, nl_eq, nl_leq, nl_ee, nl_div, nl_rem, nl_cl, nl_n1, nl_n2, nl_n3, nl_n4, nl_add, nl_ladd, nl_aa, nl_mul, nl_rmul, nl_mm, pu_wi_1, pu_wi_2, bX7_readAddress_60, bX7_readAddress_70, bX7_readAddress_74, a_ald, a_cs, a_gi, a_gr, a_ifeq, a_ild, a_ist, a_pi, a_push, a_zret, sh_59, sh_60, sh_61, pu_rv, pu_as, Value.category, pu_bk, pu_kl, pu_qe0, pu_qe1, f60, f60', f61, a5, b5, sh_42, sh_60, sh_61]
    all_goals try simp [bX7_readAddress_60, bX7_readAddress_70, bX7_readAddress_74, a_ald, a_cs, a_gi, a_gr, a_ifeq, a_ild, a_ist, a_pi, a_push, a_zret, sh_59, sh_60, sh_61, pu_rv, pu_as, Value.category, pu_bk, pu_kl, List.replicate, pu_wi_1, pu_wi_2, nl_add, nl_ladd, nl_aa, nl_mul, nl_rmul, nl_mm, pu_qe0, pu_qe1, f60, f60', f61, a5, b5, sh_42, sh_60, sh_61]
    all_goals try simp (maxSteps := 400000) (disch := omega) [nl_tle, nl_fle, nl_tlt, nl_flt, nl_teq, nl_feq, nl_sub, nl_ss, nl_lt, nl_llt, nl_ltt, nl_le, nl_lle, nl_lee, nl_eq, nl_leq, nl_ee, nl_div, nl_rem, nl_cl, nl_n1, nl_n2, nl_n3, nl_n4, nl_add, nl_ladd, nl_aa, nl_mul, nl_rmul, nl_mm, pu_wi_1, pu_wi_2, bX7_readAddress_60, bX7_readAddress_70, bX7_readAddress_74, a_ald, a_cs, a_gi, a_gr, a_ifeq, a_ild, a_ist, a_pi, a_push, a_zret, sh_59, sh_60, sh_61, pu_rv, pu_as, Value.category, pu_bk, pu_kl, pu_qe0, pu_qe1, f60, f60', f61, a5, b5, sh_42, sh_60, sh_61]
    all_goals try simp [bX7_readAddress_60, bX7_readAddress_70, bX7_readAddress_74, a_ald, a_cs, a_gi, a_gr, a_ifeq, a_ild, a_ist, a_pi, a_push, a_zret, sh_59, sh_60, sh_61, pu_rv, pu_as, Value.category, pu_bk, pu_kl, List.replicate, pu_wi_1, pu_wi_2, nl_add, nl_ladd, nl_aa, nl_mul, nl_rmul, nl_mm, pu_qe0, pu_qe1, f60, f60', f61, a5, b5, sh_42, sh_60, sh_61]
  · subst z0
    rw [if_pos rfl] at hP
    rw [hP] at a5 f60
    have f60' := fx_59_0 hx
    simp [bX7_readAddress_60, bX7_readAddress_70, bX7_readAddress_74, a_ald, a_cs, a_gi, a_gr, a_ifeq, a_ild, a_ist, a_pi, a_push, a_zret, sh_59, sh_60, sh_61, pu_rv, pu_as, Value.category, pu_bk, pu_kl, List.replicate, pu_wi_1, pu_wi_2, nl_add, nl_ladd, nl_aa, nl_mul, nl_rmul, nl_mm, pu_qe0, pu_qe1, f60, f60', f61, a5, b5, sh_42, sh_60, sh_61]
    all_goals try simp (maxSteps := 400000) (disch := omega) [nl_tle, nl_fle, nl_tlt, nl_flt, nl_teq, nl_feq, nl_sub, nl_ss, nl_lt, nl_llt, nl_ltt, nl_le, nl_lle, nl_lee, nl_eq, nl_leq, nl_ee, nl_div, nl_rem, nl_cl, nl_n1, nl_n2, nl_n3, nl_n4, nl_add, nl_ladd, nl_aa, nl_mul, nl_rmul, nl_mm, pu_wi_1, pu_wi_2, bX7_readAddress_60, bX7_readAddress_70, bX7_readAddress_74, a_ald, a_cs, a_gi, a_gr, a_ifeq, a_ild, a_ist, a_pi, a_push, a_zret, sh_59, sh_60, sh_61, pu_rv, pu_as, Value.category, pu_bk, pu_kl, pu_qe0, pu_qe1, f60, f60', f61, a5, b5, sh_42, sh_60, sh_61]
    all_goals try simp [bX7_readAddress_60, bX7_readAddress_70, bX7_readAddress_74, a_ald, a_cs, a_gi, a_gr, a_ifeq, a_ild, a_ist, a_pi, a_push, a_zret, sh_59, sh_60, sh_61, pu_rv, pu_as, Value.category, pu_bk, pu_kl, List.replicate, pu_wi_1, pu_wi_2, nl_add, nl_ladd, nl_aa, nl_mul, nl_rmul, nl_mm, pu_qe0, pu_qe1, f60, f60', f61, a5, b5, sh_42, sh_60, sh_61]
    all_goals try simp (maxSteps := 400000) (disch := omega) [nl_tle, nl_fle, nl_tlt, nl_flt, nl_teq, nl_feq, nl_sub, nl_ss, nl_lt, nl_llt, nl_ltt, nl_le, nl_lle, nl_lee, nl_eq, nl_leq, nl_ee, nl_div, nl_rem, nl_cl, nl_n1, nl_n2, nl_n3, nl_n4, nl_add, nl_ladd, nl_aa, nl_mul, nl_rmul, nl_mm, pu_wi_1, pu_wi_2, bX7_readAddress_60, bX7_readAddress_70, bX7_readAddress_74, a_ald, a_cs, a_gi, a_gr, a_ifeq, a_ild, a_ist, a_pi, a_push, a_zret, sh_59, sh_60, sh_61, pu_rv, pu_as, Value.category, pu_bk, pu_kl, pu_qe0, pu_qe1, f60, f60', f61, a5, b5, sh_42, sh_60, sh_61]
    all_goals try simp [bX7_readAddress_60, bX7_readAddress_70, bX7_readAddress_74, a_ald, a_cs, a_gi, a_gr, a_ifeq, a_ild, a_ist, a_pi, a_push, a_zret, sh_59, sh_60, sh_61, pu_rv, pu_as, Value.category, pu_bk, pu_kl, List.replicate, pu_wi_1, pu_wi_2, nl_add, nl_ladd, nl_aa, nl_mul, nl_rmul, nl_mm, pu_qe0, pu_qe1, f60, f60', f61, a5, b5, sh_42, sh_60, sh_61]
    all_goals try simp (maxSteps := 400000) (disch := omega) [nl_tle, nl_fle, nl_tlt, nl_flt, nl_teq, nl_feq, nl_sub, nl_ss, nl_lt, nl_llt, nl_ltt, nl_le, nl_lle, nl_lee, nl_eq, nl_leq, nl_ee, nl_div, nl_rem, nl_cl, nl_n1, nl_n2, nl_n3, nl_n4, nl_add, nl_ladd, nl_aa, nl_mul, nl_rmul, nl_mm, pu_wi_1, pu_wi_2, bX7_readAddress_60, bX7_readAddress_70, bX7_readAddress_74, a_ald, a_cs, a_gi, a_gr, a_ifeq, a_ild, a_ist, a_pi, a_push, a_zret, sh_59, sh_60, sh_61, pu_rv, pu_as, Value.category, pu_bk, pu_kl, pu_qe0, pu_qe1, f60, f60', f61, a5, b5, sh_42, sh_60, sh_61]
    all_goals try simp [bX7_readAddress_60, bX7_readAddress_70, bX7_readAddress_74, a_ald, a_cs, a_gi, a_gr, a_ifeq, a_ild, a_ist, a_pi, a_push, a_zret, sh_59, sh_60, sh_61, pu_rv, pu_as, Value.category, pu_bk, pu_kl, List.replicate, pu_wi_1, pu_wi_2, nl_add, nl_ladd, nl_aa, nl_mul, nl_rmul, nl_mm, pu_qe0, pu_qe1, f60, f60', f61, a5, b5, sh_42, sh_60, sh_61]
theorem c_addr7 {M : pu_M} {b : Nat → Nat} {t : Nat} (hx : pu_fx M) (hI : pu_ag M I) (hL : pu_al M L) (hw : pu_WF I L) (ht : t ≤ 1200) (h1 : M.1 1 0 = nI t) (hb : ∀ j, j < t → M.1 2 j = nI (b j) ∧ b j < 256) : ∃ F, F.2.2 = (pu_wr M 59 6 (some 1)).2.2 ∧ (∀ x j, x ≠ 59 → F.1 x j = M.1 x j) ∧ (∀ x j, x ≠ 60 → x ≠ 61 → F.2.1 x j = M.2.1 x j) ∧ (py_ok b t → F.1 59 5 = -1 ∧ F.1 59 2 = nI (py_wo b t) ∧ F.1 59 3 = (if (py_xx b t).2.2.1 = 0 then -1 else nI (py_xx b t).2.2.1) ∧ F.1 59 4 = nI (py_xx b t).2.2.2 ∧ (∀ l, py_sw b t 3 0 = some l → ∀ k, k < 3 → F.2.1 60 k = py_fu I L (lN (pu_wv (l.getD k [])))) ∧ (∀ l, py_ns b t 3 ((py_xx b t).2.1 + 2) = some l → ∀ k, k < 3 → F.2.1 61 k = py_fu I L (lN (pu_wv (l.getD k []))))) ∧ (¬ py_ok b t → F.1 59 5 = nI (py_fp b t)) ∧ pu_r 170 [some (.ref 59), some (.ref 1), some (.ref 42)] [] M = some (some (.int (pu_q (py_ok b t))), F) := by
  obtain ⟨B, hB⟩ : ∃ B, B = pu_wi (pu_wr M 59 6 (some 1)) 59 7 0 := ⟨_, rfl⟩
  have bg := c_begin (M := M)
  rw [← hB] at bg
  have hxB : pu_fx B := by rw [hB]; exact py_fx_wr hx _
  have B7 : B.1 59 7 = nI 0 := by rw [hB]; simp [pu_wi_1]; rfl
  have BM : ∀ x j, x ≠ 59 → B.1 x j = M.1 x j := fun x j h => by rw [hB, py_wi_o (by omega)]; rfl
  have B2 : B.2.2 = (pu_wr M 59 6 (some 1)).2.2 := by rw [hB]; rfl
  have BL : B.2.1 = M.2.1 := by rw [hB]; rfl
  have tvB : py_tv B b t := ⟨by rw [BM 1 0 (by omega)]; exact h1, ht, by rw [B2, pu_wr_3, if_pos rfl, if_pos rfl], fun j hj => by rw [BM 2 j (by omega)]; exact hb j hj⟩
  have R : ∀ Q, py_rY B Q → pu_fx Q ∧ py_tv Q b t ∧ pu_ag Q I ∧ pu_al Q L := fun Q q => ⟨py_rY_x hxB q, py_rY_v tvB q, fun a j q1 q2 => by rw [q.2.1 a j (by omega), BM a j (by omega)]; exact hI a j q1 q2, fun a j q1 q2 => by rw [q.2.2 a j (by omega) (by omega), BL]; exact hL a j q1 q2⟩
  -- a failure at Q
  have FAIL : ∀ Q p, py_rY B Q → Q.1 59 7 = nI p → ¬ py_ok b t → py_fp b t = p → (∀ F, kX7_readAddress_60 pu_r [some (.ref 59), some (.ref 1), some (.ref 42), none] [.int 0] Q = some (some (.int 0), F) → pu_r 170 [some (.ref 59), some (.ref 1), some (.ref 42)] [] M = some (some (.int 0), F)) → ∃ F, F.2.2 = (pu_wr M 59 6 (some 1)).2.2 ∧ (∀ x j, x ≠ 59 → F.1 x j = M.1 x j) ∧ (∀ x j, x ≠ 60 → x ≠ 61 → F.2.1 x j = M.2.1 x j) ∧ (py_ok b t → F.1 59 5 = -1 ∧ F.1 59 2 = nI (py_wo b t) ∧ F.1 59 3 = (if (py_xx b t).2.2.1 = 0 then -1 else nI (py_xx b t).2.2.1) ∧ F.1 59 4 = nI (py_xx b t).2.2.2 ∧ (∀ l, py_sw b t 3 0 = some l → ∀ k, k < 3 → F.2.1 60 k = py_fu I L (lN (pu_wv (l.getD k [])))) ∧ (∀ l, py_ns b t 3 ((py_xx b t).2.1 + 2) = some l → ∀ k, k < 3 → F.2.1 61 k = py_fu I L (lN (pu_wv (l.getD k []))))) ∧ (¬ py_ok b t → F.1 59 5 = nI (py_fp b t)) ∧ pu_r 170 [some (.ref 59), some (.ref 1), some (.ref 42)] [] M = some (some (.int (pu_q (py_ok b t))), F) := fun Q p q q7 no fp K => by
    obtain ⟨c1, c2, c3, c4⟩ := R Q q
    obtain ⟨F, f1, f2, f3, f4, f5, f6, f7⟩ := c_adT 0 (Or.inl rfl) c1 c3 c4 hw none
    refine ⟨F, by rw [f3, q.1, B2], fun x j hx => by rw [f1 x j (by omega), q.2.1 x j hx, BM x j hx], fun x j h1 h2 => by rw [f4 x j h1 h2, q.2.2 x j h1 h2, BL], fun z => absurd z no, fun _ => ?_, ?_⟩
    · rw [f2, if_neg (by decide), q7, fp]
    · rw [pu_q0 no]
      exact K F f7
  obtain ⟨N1, n1, n2, n3, n4⟩ := c_readStreet hxB tvB (Nat.zero_le t) B7
  have z1 := py_rY_f (Or.inl rfl) n1
  have sb := py_sq_b b t 3 0 (Nat.zero_le t)
  by_cases g1 : py_sw b t 3 0 ≠ none
  rotate_left
  · rw [pu_q0 g1] at n4
    refine FAIL N1 (py_sq b t 3 0) z1 n2 (fun z => g1 z.1) ?_ (fun F f => ?_)
    · unfold py_fp
      rw [if_pos (Classical.not_not.mp g1)]
    · rw [qX7_readAddress]
      simp [a_ent, bX7_readAddress_0, bX7_readAddress_59, bX7_readAddress_52, a_ald, a_cv, a_gr, a_ifeq, a_push, sh_59, sh_61, pu_rv, pu_as, Value.category, pu_bk, pu_kl, List.replicate, pu_wi_1, pu_wi_2, nl_add, nl_ladd, nl_aa, nl_mul, nl_rmul, nl_mm, pu_qe0, pu_qe1, bg, n4, f]
      all_goals try simp (maxSteps := 400000) (disch := omega) [nl_tle, nl_fle, nl_tlt, nl_flt, nl_teq, nl_feq, nl_sub, nl_ss, nl_lt, nl_llt, nl_ltt, nl_le, nl_lle, nl_lee, nl_eq, nl_leq, nl_ee, nl_div, nl_rem, nl_cl, nl_n1, nl_n2, nl_n3, nl_n4, nl_add, nl_ladd, nl_aa, nl_mul, nl_rmul, nl_mm, pu_wi_1, pu_wi_2, bX7_readAddress_0, bX7_readAddress_59, bX7_readAddress_52, a_ald, a_cv, a_gr, a_ifeq, a_push, sh_59, sh_61, pu_rv, pu_as, Value.category, pu_bk, pu_kl, pu_qe0, pu_qe1, bg, n4, f]
      all_goals try simp [bX7_readAddress_0, bX7_readAddress_59, bX7_readAddress_52, a_ald, a_cv, a_gr, a_ifeq, a_push, sh_59, sh_61, pu_rv, pu_as, Value.category, pu_bk, pu_kl, List.replicate, pu_wi_1, pu_wi_2, nl_add, nl_ladd, nl_aa, nl_mul, nl_rmul, nl_mm, pu_qe0, pu_qe1, bg, n4, f]
      all_goals try simp (maxSteps := 400000) (disch := omega) [nl_tle, nl_fle, nl_tlt, nl_flt, nl_teq, nl_feq, nl_sub, nl_ss, nl_lt, nl_llt, nl_ltt, nl_le, nl_lle, nl_lee, nl_eq, nl_leq, nl_ee, nl_div, nl_rem, nl_cl, nl_n1, nl_n2, nl_n3, nl_n4, nl_add, nl_ladd, nl_aa, nl_mul, nl_rmul, nl_mm, pu_wi_1, pu_wi_2, bX7_readAddress_0, bX7_readAddress_59, bX7_readAddress_52, a_ald, a_cv, a_gr, a_ifeq, a_push, sh_59, sh_61, pu_rv, pu_as, Value.category, pu_bk, pu_kl, pu_qe0, pu_qe1, bg, n4, f]
      all_goals try simp [bX7_readAddress_0, bX7_readAddress_59, bX7_readAddress_52, a_ald, a_cv, a_gr, a_ifeq, a_push, sh_59, sh_61, pu_rv, pu_as, Value.category, pu_bk, pu_kl, List.replicate, pu_wi_1, pu_wi_2, nl_add, nl_ladd, nl_aa, nl_mul, nl_rmul, nl_mm, pu_qe0, pu_qe1, bg, n4, f]
      all_goals try simp (maxSteps := 400000) (disch := omega) [nl_tle, nl_fle, nl_tlt, nl_flt, nl_teq, nl_feq, nl_sub, nl_ss, nl_lt, nl_llt, nl_ltt, nl_le, nl_lle, nl_lee, nl_eq, nl_leq, nl_ee, nl_div, nl_rem, nl_cl, nl_n1, nl_n2, nl_n3, nl_n4, nl_add, nl_ladd, nl_aa, nl_mul, nl_rmul, nl_mm, pu_wi_1, pu_wi_2, bX7_readAddress_0, bX7_readAddress_59, bX7_readAddress_52, a_ald, a_cv, a_gr, a_ifeq, a_push, sh_59, sh_61, pu_rv, pu_as, Value.category, pu_bk, pu_kl, pu_qe0, pu_qe1, bg, n4, f]
      all_goals try simp [bX7_readAddress_0, bX7_readAddress_59, bX7_readAddress_52, a_ald, a_cv, a_gr, a_ifeq, a_push, sh_59, sh_61, pu_rv, pu_as, Value.category, pu_bk, pu_kl, List.replicate, pu_wi_1, pu_wi_2, nl_add, nl_ladd, nl_aa, nl_mul, nl_rmul, nl_mm, pu_qe0, pu_qe1, bg, n4, f]
  rw [pu_q1 g1] at n4
  obtain ⟨x1, v1, _, _⟩ := R N1 z1
  obtain ⟨N2, m1, m2, m3, m4⟩ := c_readNumber x1 v1 (by omega) n2 (sb.2.2 g1)
  have z2 := py_rY_t z1 (py_rY_9 m1)
  obtain ⟨x2, v2, _, _⟩ := R N2 z2
  have db := py_d1_b b t 3 (py_sq b t 3 0) (by omega)
  have lb := py_nl2_b b t (py_d1 b t 3 (py_sq b t 3 0)).2 (by omega)
  obtain ⟨N3, e1, e2, e3, e4, e5, e6⟩ := c_readExtra x2 v2 (by omega) m2
  have z3 := py_rY_t z2 (py_rY_9 e1)
  obtain ⟨x3, v3, _, _⟩ := R N3 z3
  have xb := py_x_b b t (py_p3 b t) (by unfold py_p3; omega)
  have e3' : N3.1 59 7 = nI (py_xx b t).2.1 := e3
  have e4' : N3.1 59 3 = (if (py_xx b t).2.2.1 = 0 then -1 else nI (py_xx b t).2.2.1) := e4
  have e5' : N3.1 59 4 = nI (py_xx b t).2.2.2 := e5
  have e6' : pu_r 169 [some (.ref 59)] [] N2 = some (some (.int (pu_q ((py_xx b t).1 = true))), N3) := e6
  have xb' : (py_xx b t).2.1 ≤ t := xb.2.1
  clear e3 e4 e5 e6 xb
  by_cases g2 : (py_xx b t).1 = true
  rotate_left
  · rw [pu_q0 g2] at e6'
    refine FAIL N3 (py_xx b t).2.1 z3 e3' (fun z => g2 z.2.1) ?_ (fun F f => ?_)
    · unfold py_fp
      rw [if_neg g1, if_pos g2]
    · rw [qX7_readAddress]
      simp [a_ent, bX7_readAddress_0, bX7_readAddress_59, bX7_readAddress_52, a_ald, a_cv, a_gr, a_ifeq, a_push, sh_59, sh_61, pu_rv, pu_as, Value.category, pu_bk, pu_kl, List.replicate, pu_wi_1, pu_wi_2, nl_add, nl_ladd, nl_aa, nl_mul, nl_rmul, nl_mm, pu_qe0, pu_qe1, bg, n4, m4, e6', f]
      all_goals try simp (maxSteps := 400000) (disch := omega) [nl_tle, nl_fle, nl_tlt, nl_flt, nl_teq, nl_feq, nl_sub, nl_ss, nl_lt, nl_llt, nl_ltt, nl_le, nl_lle, nl_lee, nl_eq, nl_leq, nl_ee, nl_div, nl_rem, nl_cl, nl_n1, nl_n2, nl_n3, nl_n4, nl_add, nl_ladd, nl_aa, nl_mul, nl_rmul, nl_mm, pu_wi_1, pu_wi_2, bX7_readAddress_0, bX7_readAddress_59, bX7_readAddress_52, a_ald, a_cv, a_gr, a_ifeq, a_push, sh_59, sh_61, pu_rv, pu_as, Value.category, pu_bk, pu_kl, pu_qe0, pu_qe1, bg, n4, m4, e6', f]
      all_goals try simp [bX7_readAddress_0, bX7_readAddress_59, bX7_readAddress_52, a_ald, a_cv, a_gr, a_ifeq, a_push, sh_59, sh_61, pu_rv, pu_as, Value.category, pu_bk, pu_kl, List.replicate, pu_wi_1, pu_wi_2, nl_add, nl_ladd, nl_aa, nl_mul, nl_rmul, nl_mm, pu_qe0, pu_qe1, bg, n4, m4, e6', f]
      all_goals try simp (maxSteps := 400000) (disch := omega) [nl_tle, nl_fle, nl_tlt, nl_flt, nl_teq, nl_feq, nl_sub, nl_ss, nl_lt, nl_llt, nl_ltt, nl_le, nl_lle, nl_lee, nl_eq, nl_leq, nl_ee, nl_div, nl_rem, nl_cl, nl_n1, nl_n2, nl_n3, nl_n4, nl_add, nl_ladd, nl_aa, nl_mul, nl_rmul, nl_mm, pu_wi_1, pu_wi_2, bX7_readAddress_0, bX7_readAddress_59, bX7_readAddress_52, a_ald, a_cv, a_gr, a_ifeq, a_push, sh_59, sh_61, pu_rv, pu_as, Value.category, pu_bk, pu_kl, pu_qe0, pu_qe1, bg, n4, m4, e6', f]
      all_goals try simp [bX7_readAddress_0, bX7_readAddress_59, bX7_readAddress_52, a_ald, a_cv, a_gr, a_ifeq, a_push, sh_59, sh_61, pu_rv, pu_as, Value.category, pu_bk, pu_kl, List.replicate, pu_wi_1, pu_wi_2, nl_add, nl_ladd, nl_aa, nl_mul, nl_rmul, nl_mm, pu_qe0, pu_qe1, bg, n4, m4, e6', f]
      all_goals try simp (maxSteps := 400000) (disch := omega) [nl_tle, nl_fle, nl_tlt, nl_flt, nl_teq, nl_feq, nl_sub, nl_ss, nl_lt, nl_llt, nl_ltt, nl_le, nl_lle, nl_lee, nl_eq, nl_leq, nl_ee, nl_div, nl_rem, nl_cl, nl_n1, nl_n2, nl_n3, nl_n4, nl_add, nl_ladd, nl_aa, nl_mul, nl_rmul, nl_mm, pu_wi_1, pu_wi_2, bX7_readAddress_0, bX7_readAddress_59, bX7_readAddress_52, a_ald, a_cv, a_gr, a_ifeq, a_push, sh_59, sh_61, pu_rv, pu_as, Value.category, pu_bk, pu_kl, pu_qe0, pu_qe1, bg, n4, m4, e6', f]
      all_goals try simp [bX7_readAddress_0, bX7_readAddress_59, bX7_readAddress_52, a_ald, a_cv, a_gr, a_ifeq, a_push, sh_59, sh_61, pu_rv, pu_as, Value.category, pu_bk, pu_kl, List.replicate, pu_wi_1, pu_wi_2, nl_add, nl_ladd, nl_aa, nl_mul, nl_rmul, nl_mm, pu_qe0, pu_qe1, bg, n4, m4, e6', f]
  rw [pu_q1 g2] at e6'
  rcases c_readByte x3 v3 xb' e3' 44 (by omega) with ⟨r1, r2, r3⟩ | ⟨r1, r2⟩
  rotate_left
  · rw [show nI 44 = (44 : Int32) from rfl] at r2
    refine FAIL N3 (py_xx b t).2.1 z3 e3' (fun z => r1 z.2.2.1) ?_ (fun F f => ?_)
    · unfold py_fp
      rw [if_neg g1, if_neg (fun z => z g2), if_pos r1]
    · rw [qX7_readAddress]
      simp [a_ent, bX7_readAddress_0, bX7_readAddress_59, bX7_readAddress_52, a_ald, a_cv, a_gr, a_ifeq, a_push, sh_59, sh_61, pu_rv, pu_as, Value.category, pu_bk, pu_kl, List.replicate, pu_wi_1, pu_wi_2, nl_add, nl_ladd, nl_aa, nl_mul, nl_rmul, nl_mm, pu_qe0, pu_qe1, bg, n4, m4, e6', r2, f]
      all_goals try simp (maxSteps := 400000) (disch := omega) [nl_tle, nl_fle, nl_tlt, nl_flt, nl_teq, nl_feq, nl_sub, nl_ss, nl_lt, nl_llt, nl_ltt, nl_le, nl_lle, nl_lee, nl_eq, nl_leq, nl_ee, nl_div, nl_rem, nl_cl, nl_n1, nl_n2, nl_n3, nl_n4, nl_add, nl_ladd, nl_aa, nl_mul, nl_rmul, nl_mm, pu_wi_1, pu_wi_2, bX7_readAddress_0, bX7_readAddress_59, bX7_readAddress_52, a_ald, a_cv, a_gr, a_ifeq, a_push, sh_59, sh_61, pu_rv, pu_as, Value.category, pu_bk, pu_kl, pu_qe0, pu_qe1, bg, n4, m4, e6', r2, f]
      all_goals try simp [bX7_readAddress_0, bX7_readAddress_59, bX7_readAddress_52, a_ald, a_cv, a_gr, a_ifeq, a_push, sh_59, sh_61, pu_rv, pu_as, Value.category, pu_bk, pu_kl, List.replicate, pu_wi_1, pu_wi_2, nl_add, nl_ladd, nl_aa, nl_mul, nl_rmul, nl_mm, pu_qe0, pu_qe1, bg, n4, m4, e6', r2, f]
      all_goals try simp (maxSteps := 400000) (disch := omega) [nl_tle, nl_fle, nl_tlt, nl_flt, nl_teq, nl_feq, nl_sub, nl_ss, nl_lt, nl_llt, nl_ltt, nl_le, nl_lle, nl_lee, nl_eq, nl_leq, nl_ee, nl_div, nl_rem, nl_cl, nl_n1, nl_n2, nl_n3, nl_n4, nl_add, nl_ladd, nl_aa, nl_mul, nl_rmul, nl_mm, pu_wi_1, pu_wi_2, bX7_readAddress_0, bX7_readAddress_59, bX7_readAddress_52, a_ald, a_cv, a_gr, a_ifeq, a_push, sh_59, sh_61, pu_rv, pu_as, Value.category, pu_bk, pu_kl, pu_qe0, pu_qe1, bg, n4, m4, e6', r2, f]
      all_goals try simp [bX7_readAddress_0, bX7_readAddress_59, bX7_readAddress_52, a_ald, a_cv, a_gr, a_ifeq, a_push, sh_59, sh_61, pu_rv, pu_as, Value.category, pu_bk, pu_kl, List.replicate, pu_wi_1, pu_wi_2, nl_add, nl_ladd, nl_aa, nl_mul, nl_rmul, nl_mm, pu_qe0, pu_qe1, bg, n4, m4, e6', r2, f]
      all_goals try simp (maxSteps := 400000) (disch := omega) [nl_tle, nl_fle, nl_tlt, nl_flt, nl_teq, nl_feq, nl_sub, nl_ss, nl_lt, nl_llt, nl_ltt, nl_le, nl_lle, nl_lee, nl_eq, nl_leq, nl_ee, nl_div, nl_rem, nl_cl, nl_n1, nl_n2, nl_n3, nl_n4, nl_add, nl_ladd, nl_aa, nl_mul, nl_rmul, nl_mm, pu_wi_1, pu_wi_2, bX7_readAddress_0, bX7_readAddress_59, bX7_readAddress_52, a_ald, a_cv, a_gr, a_ifeq, a_push, sh_59, sh_61, pu_rv, pu_as, Value.category, pu_bk, pu_kl, pu_qe0, pu_qe1, bg, n4, m4, e6', r2, f]
      all_goals try simp [bX7_readAddress_0, bX7_readAddress_59, bX7_readAddress_52, a_ald, a_cv, a_gr, a_ifeq, a_push, sh_59, sh_61, pu_rv, pu_as, Value.category, pu_bk, pu_kl, List.replicate, pu_wi_1, pu_wi_2, nl_add, nl_ladd, nl_aa, nl_mul, nl_rmul, nl_mm, pu_qe0, pu_qe1, bg, n4, m4, e6', r2, f]
  rw [show nI 44 = (44 : Int32) from rfl] at r3
  have C3 : (py_xx b t).2.1 < t ∧ b (py_xx b t).2.1 = 44 := ⟨r1, r2⟩
  have z4 := py_rY_t z3 (py_rY_w N3 7 (nI ((py_xx b t).2.1 + 1)))
  have p4 : (pu_wi N3 59 7 (nI ((py_xx b t).2.1 + 1))).1 59 7 = nI ((py_xx b t).2.1 + 1) := by simp [pu_wi_1]
  have o4 : ∀ j, j ≠ 7 → (pu_wi N3 59 7 (nI ((py_xx b t).2.1 + 1))).1 59 j = N3.1 59 j := fun j hj => py_wi_o (by omega)
  have l4 : (pu_wi N3 59 7 (nI ((py_xx b t).2.1 + 1))).2.1 = N3.2.1 := rfl
  generalize pu_wi N3 59 7 (nI ((py_xx b t).2.1 + 1)) = N4 at *
  obtain ⟨x4, v4, _, _⟩ := R N4 z4
  rcases c_readByte x4 v4 (by omega) p4 32 (by omega) with ⟨s1, s2, s3⟩ | ⟨s1, s2⟩
  rotate_left
  · rw [show nI 32 = (32 : Int32) from rfl] at s2
    refine FAIL N4 ((py_xx b t).2.1 + 1) z4 p4 (fun z => s1 z.2.2.2.1) ?_ (fun F f => ?_)
    · unfold py_fp
      rw [if_neg g1, if_neg (fun z => z g2), if_neg (fun z => z C3), if_pos s1]
    · rw [qX7_readAddress]
      simp [a_ent, bX7_readAddress_0, bX7_readAddress_59, bX7_readAddress_52, a_ald, a_cv, a_gr, a_ifeq, a_push, sh_59, sh_61, pu_rv, pu_as, Value.category, pu_bk, pu_kl, List.replicate, pu_wi_1, pu_wi_2, nl_add, nl_ladd, nl_aa, nl_mul, nl_rmul, nl_mm, pu_qe0, pu_qe1, bg, n4, m4, e6', r3, s2, f]
      all_goals try simp (maxSteps := 400000) (disch := omega) [nl_tle, nl_fle, nl_tlt, nl_flt, nl_teq, nl_feq, nl_sub, nl_ss, nl_lt, nl_llt, nl_ltt, nl_le, nl_lle, nl_lee, nl_eq, nl_leq, nl_ee, nl_div, nl_rem, nl_cl, nl_n1, nl_n2, nl_n3, nl_n4, nl_add, nl_ladd, nl_aa, nl_mul, nl_rmul, nl_mm, pu_wi_1, pu_wi_2, bX7_readAddress_0, bX7_readAddress_59, bX7_readAddress_52, a_ald, a_cv, a_gr, a_ifeq, a_push, sh_59, sh_61, pu_rv, pu_as, Value.category, pu_bk, pu_kl, pu_qe0, pu_qe1, bg, n4, m4, e6', r3, s2, f]
      all_goals try simp [bX7_readAddress_0, bX7_readAddress_59, bX7_readAddress_52, a_ald, a_cv, a_gr, a_ifeq, a_push, sh_59, sh_61, pu_rv, pu_as, Value.category, pu_bk, pu_kl, List.replicate, pu_wi_1, pu_wi_2, nl_add, nl_ladd, nl_aa, nl_mul, nl_rmul, nl_mm, pu_qe0, pu_qe1, bg, n4, m4, e6', r3, s2, f]
      all_goals try simp (maxSteps := 400000) (disch := omega) [nl_tle, nl_fle, nl_tlt, nl_flt, nl_teq, nl_feq, nl_sub, nl_ss, nl_lt, nl_llt, nl_ltt, nl_le, nl_lle, nl_lee, nl_eq, nl_leq, nl_ee, nl_div, nl_rem, nl_cl, nl_n1, nl_n2, nl_n3, nl_n4, nl_add, nl_ladd, nl_aa, nl_mul, nl_rmul, nl_mm, pu_wi_1, pu_wi_2, bX7_readAddress_0, bX7_readAddress_59, bX7_readAddress_52, a_ald, a_cv, a_gr, a_ifeq, a_push, sh_59, sh_61, pu_rv, pu_as, Value.category, pu_bk, pu_kl, pu_qe0, pu_qe1, bg, n4, m4, e6', r3, s2, f]
      all_goals try simp [bX7_readAddress_0, bX7_readAddress_59, bX7_readAddress_52, a_ald, a_cv, a_gr, a_ifeq, a_push, sh_59, sh_61, pu_rv, pu_as, Value.category, pu_bk, pu_kl, List.replicate, pu_wi_1, pu_wi_2, nl_add, nl_ladd, nl_aa, nl_mul, nl_rmul, nl_mm, pu_qe0, pu_qe1, bg, n4, m4, e6', r3, s2, f]
      all_goals try simp (maxSteps := 400000) (disch := omega) [nl_tle, nl_fle, nl_tlt, nl_flt, nl_teq, nl_feq, nl_sub, nl_ss, nl_lt, nl_llt, nl_ltt, nl_le, nl_lle, nl_lee, nl_eq, nl_leq, nl_ee, nl_div, nl_rem, nl_cl, nl_n1, nl_n2, nl_n3, nl_n4, nl_add, nl_ladd, nl_aa, nl_mul, nl_rmul, nl_mm, pu_wi_1, pu_wi_2, bX7_readAddress_0, bX7_readAddress_59, bX7_readAddress_52, a_ald, a_cv, a_gr, a_ifeq, a_push, sh_59, sh_61, pu_rv, pu_as, Value.category, pu_bk, pu_kl, pu_qe0, pu_qe1, bg, n4, m4, e6', r3, s2, f]
      all_goals try simp [bX7_readAddress_0, bX7_readAddress_59, bX7_readAddress_52, a_ald, a_cv, a_gr, a_ifeq, a_push, sh_59, sh_61, pu_rv, pu_as, Value.category, pu_bk, pu_kl, List.replicate, pu_wi_1, pu_wi_2, nl_add, nl_ladd, nl_aa, nl_mul, nl_rmul, nl_mm, pu_qe0, pu_qe1, bg, n4, m4, e6', r3, s2, f]
  rw [show nI 32 = (32 : Int32) from rfl] at s3
  have C4 : (py_xx b t).2.1 + 1 < t ∧ b ((py_xx b t).2.1 + 1) = 32 := ⟨s1, s2⟩
  have z5 := py_rY_t z4 (py_rY_w N4 7 (nI ((py_xx b t).2.1 + 1 + 1)))
  have p5 : (pu_wi N4 59 7 (nI ((py_xx b t).2.1 + 1 + 1))).1 59 7 = nI ((py_xx b t).2.1 + 2) := by simp [pu_wi_1]
  have o5 : ∀ j, j ≠ 7 → (pu_wi N4 59 7 (nI ((py_xx b t).2.1 + 1 + 1))).1 59 j = N3.1 59 j := fun j hj => by rw [py_wi_o (by omega)]; exact o4 j hj
  have l5 : (pu_wi N4 59 7 (nI ((py_xx b t).2.1 + 1 + 1))).2.1 = N3.2.1 := l4
  generalize pu_wi N4 59 7 (nI ((py_xx b t).2.1 + 1 + 1)) = N5 at *
  obtain ⟨x5, v5, _, _⟩ := R N5 z5
  obtain ⟨N6, t1, t2, t3, t4⟩ := c_toEndP b t 61 sh_61 ((py_xx b t).2.1 + 2) x5 v5 (by omega) p5
  have z6 := py_rY_t z5 (py_rY_f (Or.inr rfl) t1)
  have f61 := fx_59_1 x5
  by_cases g3 : py_ns b t 3 ((py_xx b t).2.1 + 2) ≠ none
  rotate_left
  · rw [pu_q0 g3] at t4
    refine FAIL N6 (py_nq b t 3 ((py_xx b t).2.1 + 2)) z6 t2 (fun z => g3 z.2.2.2.2) ?_ (fun F f => ?_)
    · unfold py_fp
      rw [if_neg g1, if_neg (fun z => z g2), if_neg (fun z => z C3), if_neg (fun z => z C4)]
    · rw [qX7_readAddress]
      simp [a_ent, bX7_readAddress_0, bX7_readAddress_59, bX7_readAddress_52, a_ald, a_cv, a_gr, a_ifeq, a_push, sh_59, sh_61, pu_rv, pu_as, Value.category, pu_bk, pu_kl, List.replicate, pu_wi_1, pu_wi_2, nl_add, nl_ladd, nl_aa, nl_mul, nl_rmul, nl_mm, pu_qe0, pu_qe1, bg, n4, m4, e6', r3, s3, f61, t4, f]
      all_goals try simp (maxSteps := 400000) (disch := omega) [nl_tle, nl_fle, nl_tlt, nl_flt, nl_teq, nl_feq, nl_sub, nl_ss, nl_lt, nl_llt, nl_ltt, nl_le, nl_lle, nl_lee, nl_eq, nl_leq, nl_ee, nl_div, nl_rem, nl_cl, nl_n1, nl_n2, nl_n3, nl_n4, nl_add, nl_ladd, nl_aa, nl_mul, nl_rmul, nl_mm, pu_wi_1, pu_wi_2, bX7_readAddress_0, bX7_readAddress_59, bX7_readAddress_52, a_ald, a_cv, a_gr, a_ifeq, a_push, sh_59, sh_61, pu_rv, pu_as, Value.category, pu_bk, pu_kl, pu_qe0, pu_qe1, bg, n4, m4, e6', r3, s3, f61, t4, f]
      all_goals try simp [bX7_readAddress_0, bX7_readAddress_59, bX7_readAddress_52, a_ald, a_cv, a_gr, a_ifeq, a_push, sh_59, sh_61, pu_rv, pu_as, Value.category, pu_bk, pu_kl, List.replicate, pu_wi_1, pu_wi_2, nl_add, nl_ladd, nl_aa, nl_mul, nl_rmul, nl_mm, pu_qe0, pu_qe1, bg, n4, m4, e6', r3, s3, f61, t4, f]
      all_goals try simp (maxSteps := 400000) (disch := omega) [nl_tle, nl_fle, nl_tlt, nl_flt, nl_teq, nl_feq, nl_sub, nl_ss, nl_lt, nl_llt, nl_ltt, nl_le, nl_lle, nl_lee, nl_eq, nl_leq, nl_ee, nl_div, nl_rem, nl_cl, nl_n1, nl_n2, nl_n3, nl_n4, nl_add, nl_ladd, nl_aa, nl_mul, nl_rmul, nl_mm, pu_wi_1, pu_wi_2, bX7_readAddress_0, bX7_readAddress_59, bX7_readAddress_52, a_ald, a_cv, a_gr, a_ifeq, a_push, sh_59, sh_61, pu_rv, pu_as, Value.category, pu_bk, pu_kl, pu_qe0, pu_qe1, bg, n4, m4, e6', r3, s3, f61, t4, f]
      all_goals try simp [bX7_readAddress_0, bX7_readAddress_59, bX7_readAddress_52, a_ald, a_cv, a_gr, a_ifeq, a_push, sh_59, sh_61, pu_rv, pu_as, Value.category, pu_bk, pu_kl, List.replicate, pu_wi_1, pu_wi_2, nl_add, nl_ladd, nl_aa, nl_mul, nl_rmul, nl_mm, pu_qe0, pu_qe1, bg, n4, m4, e6', r3, s3, f61, t4, f]
      all_goals try simp (maxSteps := 400000) (disch := omega) [nl_tle, nl_fle, nl_tlt, nl_flt, nl_teq, nl_feq, nl_sub, nl_ss, nl_lt, nl_llt, nl_ltt, nl_le, nl_lle, nl_lee, nl_eq, nl_leq, nl_ee, nl_div, nl_rem, nl_cl, nl_n1, nl_n2, nl_n3, nl_n4, nl_add, nl_ladd, nl_aa, nl_mul, nl_rmul, nl_mm, pu_wi_1, pu_wi_2, bX7_readAddress_0, bX7_readAddress_59, bX7_readAddress_52, a_ald, a_cv, a_gr, a_ifeq, a_push, sh_59, sh_61, pu_rv, pu_as, Value.category, pu_bk, pu_kl, pu_qe0, pu_qe1, bg, n4, m4, e6', r3, s3, f61, t4, f]
      all_goals try simp [bX7_readAddress_0, bX7_readAddress_59, bX7_readAddress_52, a_ald, a_cv, a_gr, a_ifeq, a_push, sh_59, sh_61, pu_rv, pu_as, Value.category, pu_bk, pu_kl, List.replicate, pu_wi_1, pu_wi_2, nl_add, nl_ladd, nl_aa, nl_mul, nl_rmul, nl_mm, pu_qe0, pu_qe1, bg, n4, m4, e6', r3, s3, f61, t4, f]
  rw [pu_q1 g3] at t4
  have ok : py_ok b t := ⟨g1, g2, C3, C4, g3⟩
  obtain ⟨x6, v6, i6, j6⟩ := R N6 z6
  obtain ⟨F, f1, f2, f3, f4, f5, f6, f7⟩ := c_adT 1 (Or.inr rfl) x6 i6 j6 hw none
  have w2 : ∀ j, j ≠ 7 → j ≠ 5 → F.1 59 j = N3.1 59 j := fun j h7 h5 => by rw [f1 59 j (by omega), t1.2.1 59 j (by omega), o5 j h7]
  refine ⟨F, by rw [f3, z6.1, B2], fun x j hx => by rw [f1 x j (by omega), z6.2.1 x j hx, BM x j hx], fun x j h1 h2 => by rw [f4 x j h1 h2, z6.2.2 x j h1 h2, BL], fun _ => ⟨?_, ?_, ?_, ?_, fun l hl k hk => ?_, fun l hl k hk => ?_⟩, fun no => absurd ok no, ?_⟩
  · rw [f2, if_pos rfl]
  · rw [w2 2 (by omega) (by omega), e2]
    exact m3
  · rw [w2 3 (by omega) (by omega)]
    exact e4'
  · rw [w2 4 (by omega) (by omega)]
    exact e5'
  · rw [f5 k hk, t1.2.2 60 k (by omega), l5, e1.1, m1.1, n3 l hl k hk]
  · rw [f6 k hk, t3 l hl k hk]
  · rw [pu_q1 ok]
    rw [qX7_readAddress]
    simp [a_ent, bX7_readAddress_0, bX7_readAddress_59, bX7_readAddress_52, a_ald, a_cv, a_gr, a_ifeq, a_push, sh_59, sh_61, pu_rv, pu_as, Value.category, pu_bk, pu_kl, List.replicate, pu_wi_1, pu_wi_2, nl_add, nl_ladd, nl_aa, nl_mul, nl_rmul, nl_mm, pu_qe0, pu_qe1, bg, n4, m4, e6', r3, s3, f61, t4, f7]
    all_goals try simp (maxSteps := 400000) (disch := omega) [nl_tle, nl_fle, nl_tlt, nl_flt, nl_teq, nl_feq, nl_sub, nl_ss, nl_lt, nl_llt, nl_ltt, nl_le, nl_lle, nl_lee, nl_eq, nl_leq, nl_ee, nl_div, nl_rem, nl_cl, nl_n1, nl_n2, nl_n3, nl_n4, nl_add, nl_ladd, nl_aa, nl_mul, nl_rmul, nl_mm, pu_wi_1, pu_wi_2, bX7_readAddress_0, bX7_readAddress_59, bX7_readAddress_52, a_ald, a_cv, a_gr, a_ifeq, a_push, sh_59, sh_61, pu_rv, pu_as, Value.category, pu_bk, pu_kl, pu_qe0, pu_qe1, bg, n4, m4, e6', r3, s3, f61, t4, f7]
    all_goals try simp [bX7_readAddress_0, bX7_readAddress_59, bX7_readAddress_52, a_ald, a_cv, a_gr, a_ifeq, a_push, sh_59, sh_61, pu_rv, pu_as, Value.category, pu_bk, pu_kl, List.replicate, pu_wi_1, pu_wi_2, nl_add, nl_ladd, nl_aa, nl_mul, nl_rmul, nl_mm, pu_qe0, pu_qe1, bg, n4, m4, e6', r3, s3, f61, t4, f7]
    all_goals try simp (maxSteps := 400000) (disch := omega) [nl_tle, nl_fle, nl_tlt, nl_flt, nl_teq, nl_feq, nl_sub, nl_ss, nl_lt, nl_llt, nl_ltt, nl_le, nl_lle, nl_lee, nl_eq, nl_leq, nl_ee, nl_div, nl_rem, nl_cl, nl_n1, nl_n2, nl_n3, nl_n4, nl_add, nl_ladd, nl_aa, nl_mul, nl_rmul, nl_mm, pu_wi_1, pu_wi_2, bX7_readAddress_0, bX7_readAddress_59, bX7_readAddress_52, a_ald, a_cv, a_gr, a_ifeq, a_push, sh_59, sh_61, pu_rv, pu_as, Value.category, pu_bk, pu_kl, pu_qe0, pu_qe1, bg, n4, m4, e6', r3, s3, f61, t4, f7]
    all_goals try simp [bX7_readAddress_0, bX7_readAddress_59, bX7_readAddress_52, a_ald, a_cv, a_gr, a_ifeq, a_push, sh_59, sh_61, pu_rv, pu_as, Value.category, pu_bk, pu_kl, List.replicate, pu_wi_1, pu_wi_2, nl_add, nl_ladd, nl_aa, nl_mul, nl_rmul, nl_mm, pu_qe0, pu_qe1, bg, n4, m4, e6', r3, s3, f61, t4, f7]
    all_goals try simp (maxSteps := 400000) (disch := omega) [nl_tle, nl_fle, nl_tlt, nl_flt, nl_teq, nl_feq, nl_sub, nl_ss, nl_lt, nl_llt, nl_ltt, nl_le, nl_lle, nl_lee, nl_eq, nl_leq, nl_ee, nl_div, nl_rem, nl_cl, nl_n1, nl_n2, nl_n3, nl_n4, nl_add, nl_ladd, nl_aa, nl_mul, nl_rmul, nl_mm, pu_wi_1, pu_wi_2, bX7_readAddress_0, bX7_readAddress_59, bX7_readAddress_52, a_ald, a_cv, a_gr, a_ifeq, a_push, sh_59, sh_61, pu_rv, pu_as, Value.category, pu_bk, pu_kl, pu_qe0, pu_qe1, bg, n4, m4, e6', r3, s3, f61, t4, f7]
    all_goals try simp [bX7_readAddress_0, bX7_readAddress_59, bX7_readAddress_52, a_ald, a_cv, a_gr, a_ifeq, a_push, sh_59, sh_61, pu_rv, pu_as, Value.category, pu_bk, pu_kl, List.replicate, pu_wi_1, pu_wi_2, nl_add, nl_ladd, nl_aa, nl_mul, nl_rmul, nl_mm, pu_qe0, pu_qe1, bg, n4, m4, e6', r3, s3, f61, t4, f7]
end
/-- the class's reader, its tape and its fault have changed -/
def py_cA (M N : pu_M) (f : Int32) : Prop := N.2.2.2 = M.2.2.2 ∧ (∀ a j, ¬ (a = 59 ∧ j = 6) → N.2.2.1 a j = M.2.2.1 a j) ∧ (∀ a j, a ≠ 59 → ¬ (a = 1 ∧ j = 0) → ¬ (a = 45 ∧ j = 0) → N.1 a j = M.1 a j) ∧ (∀ a j, a ≠ 60 → a ≠ 61 → N.2.1 a j = M.2.1 a j) ∧ N.1 1 0 = 0 ∧ pu_fx N ∧ N.1 45 0 = f
/-- the fault that is left -/
noncomputable def py_fl (b : Nat → Nat) (t : Nat) : Int32 := @ite Int32 (py_ok b t) (Classical.propDecidable _) (-1) (nI (py_fp b t))
theorem c_readAddress {M : pu_M} (h : pu_Inv M) {t : Nat} (ht : t ≤ 1200) (h1 : M.1 1 0 = nI t) (h2 : ∀ j, j < t → M.1 2 j = M.1 75 j &&& 255) : ∃ N, py_cA M N (py_fl (py_by M) t) ∧ (py_ok (py_by M) t → N.1 59 2 = nI (py_wo (py_by M) t) ∧ N.1 59 3 = (if (py_xx (py_by M) t).2.2.1 = 0 then -1 else nI (py_xx (py_by M) t).2.2.1) ∧ N.1 59 4 = nI (py_xx (py_by M) t).2.2.2 ∧ (∀ l, py_sw (py_by M) t 3 0 = some l → ∀ k, k < 3 → N.2.1 60 k = py_fu (pu_si M 5) (pu_sj M 5) (lN (pu_wv (l.getD k [])))) ∧ (∀ l, py_ns (py_by M) t 3 ((py_xx (py_by M) t).2.1 + 2) = some l → ∀ k, k < 3 → N.2.1 61 k = py_fu (pu_si M 5) (pu_sj M 5) (lN (pu_wv (l.getD k []))))) ∧ pu_r 171 [some (.ref 0)] [] M = some (some (.int (pu_q (py_ok (py_by M) t))), N) := by
  have hx := h.1
  have hI := pu_ag5 M
  have hL := pu_al5 M
  have hw := pu_hS h
  obtain ⟨F, f1, f2, f3, f4, f5, f6⟩ := c_addr7 hx hI hL hw ht h1 (fun j hj => ⟨(h2 j hj).trans (py_by_b M j).1, (py_by_b M j).2⟩)
  have FR : ∀ a j, ¬ (a = 59 ∧ j = 6) → F.2.2.1 a j = M.2.2.1 a j := fun a j hj => by
    rw [f1, pu_wr_3]
    by_cases c : a = 59
    · rw [if_pos c, if_neg (fun z => hj ⟨c, z⟩)]
    · rw [if_neg c]
  have hxF : pu_fx F := fun a k r q => by
    have hm := pu_RTm q
    have D : ∀ q ∈ pu_RTl, ¬ (q.1 = 59 ∧ q.2.1 = 6) := by decide
    have d := D _ hm
    rw [FR a k d]
    exact hx a k r q
  have g0 := fx_0_0 hxF
  have g4 := fx_0_4 hxF
  have g2 := fx_0_2 hxF
  have g6 := fx_5_6 hxF
  have E : F.1 59 5 = (py_fl (py_by M) t) := by
    unfold py_fl
    by_cases c : py_ok (py_by M) t
    · rw [if_pos c]; exact (f4 c).1
    · rw [if_neg c]; exact f5 c
  generalize (py_fl (py_by M) t) = fl at *
  refine ⟨pu_wi (pu_wi F 1 0 0) 45 0 fl, ⟨by show F.2.2.2 = _; rw [f1]; rfl, fun a j hj => FR a j hj, fun a j q1 q2 q3 => by rw [py_wi_o q3, py_wi_o q2, f2 a j q1], fun a j q1 q2 => by show F.2.1 a j = _; exact f3 a j q1 q2, by rw [py_wi_o (by omega)]; simp [pu_wi_1], hxF, by simp [pu_wi_1]⟩, fun c => ?_, ?_⟩
  · obtain ⟨_, c2, c3, c4, c5, c6⟩ := f4 c
    exact ⟨by rw [py_wi_o (by omega), py_wi_o (by omega)]; exact c2, by rw [py_wi_o (by omega), py_wi_o (by omega)]; exact c3, by rw [py_wi_o (by omega), py_wi_o (by omega)]; exact c4, c5, c6⟩
  · rcases py_q01 (py_ok (py_by M) t) with z | z
    · rw [z] at f6 ⊢
      rw [qX11_readAddress]
      simp [a_ent, bX11_readAddress_0, a_ald, a_cv, a_gi, a_gr, a_ild, a_ist, a_pi, a_push, a_zret, fx_0_0 hx, fx_0_2 hx, fx_0_4 hx, fx_5_5 hx, fx_5_6 hx, sh_0, sh_1, sh_3, sh_42, sh_45, sh_5, sh_59, pu_rv, pu_as, Value.category, pu_bk, pu_kl, List.replicate, pu_wi_1, pu_wi_2, nl_add, nl_ladd, nl_aa, nl_mul, nl_rmul, nl_mm, pu_qe0, pu_qe1, f6, g0, g2, g4, g6, E, sh_59, sh_1, sh_42, sh_45]
      all_goals try simp (maxSteps := 400000) (disch := omega) [nl_tle, nl_fle, nl_tlt, nl_flt, nl_teq, nl_feq, nl_sub, nl_ss, nl_lt, nl_llt, nl_ltt, nl_le, nl_lle, nl_lee, nl_eq, nl_leq, nl_ee, nl_div, nl_rem, nl_cl, nl_n1, nl_n2, nl_n3, nl_n4, nl_add, nl_ladd, nl_aa, nl_mul, nl_rmul, nl_mm, pu_wi_1, pu_wi_2, bX11_readAddress_0, a_ald, a_cv, a_gi, a_gr, a_ild, a_ist, a_pi, a_push, a_zret, fx_0_0 hx, fx_0_2 hx, fx_0_4 hx, fx_5_5 hx, fx_5_6 hx, sh_0, sh_1, sh_3, sh_42, sh_45, sh_5, sh_59, pu_rv, pu_as, Value.category, pu_bk, pu_kl, pu_qe0, pu_qe1, f6, g0, g2, g4, g6, E, sh_59, sh_1, sh_42, sh_45]
      all_goals try simp [bX11_readAddress_0, a_ald, a_cv, a_gi, a_gr, a_ild, a_ist, a_pi, a_push, a_zret, fx_0_0 hx, fx_0_2 hx, fx_0_4 hx, fx_5_5 hx, fx_5_6 hx, sh_0, sh_1, sh_3, sh_42, sh_45, sh_5, sh_59, pu_rv, pu_as, Value.category, pu_bk, pu_kl, List.replicate, pu_wi_1, pu_wi_2, nl_add, nl_ladd, nl_aa, nl_mul, nl_rmul, nl_mm, pu_qe0, pu_qe1, f6, g0, g2, g4, g6, E, sh_59, sh_1, sh_42, sh_45]
      all_goals try simp (maxSteps := 400000) (disch := omega) [nl_tle, nl_fle, nl_tlt, nl_flt, nl_teq, nl_feq, nl_sub, nl_ss, nl_lt, nl_llt, nl_ltt, nl_le, nl_lle, nl_lee, nl_eq, nl_leq, nl_ee, nl_div, nl_rem, nl_cl, nl_n1, nl_n2, nl_n3, nl_n4, nl_add, nl_ladd, nl_aa, nl_mul, nl_rmul, nl_mm, pu_wi_1, pu_wi_2, bX11_readAddress_0, a_ald, a_cv, a_gi, a_gr, a_ild, a_ist, a_pi, a_push, a_zret, fx_0_0 hx, fx_0_2 hx, fx_0_4 hx, fx_5_5 hx, fx_5_6 hx, sh_0, sh_1, sh_3, sh_42, sh_45, sh_5, sh_59, pu_rv, pu_as, Value.category, pu_bk, pu_kl, pu_qe0, pu_qe1, f6, g0, g2, g4, g6, E, sh_59, sh_1, sh_42, sh_45]
      all_goals try simp [bX11_readAddress_0, a_ald, a_cv, a_gi, a_gr, a_ild, a_ist, a_pi, a_push, a_zret, fx_0_0 hx, fx_0_2 hx, fx_0_4 hx, fx_5_5 hx, fx_5_6 hx, sh_0, sh_1, sh_3, sh_42, sh_45, sh_5, sh_59, pu_rv, pu_as, Value.category, pu_bk, pu_kl, List.replicate, pu_wi_1, pu_wi_2, nl_add, nl_ladd, nl_aa, nl_mul, nl_rmul, nl_mm, pu_qe0, pu_qe1, f6, g0, g2, g4, g6, E, sh_59, sh_1, sh_42, sh_45]
      all_goals try simp (maxSteps := 400000) (disch := omega) [nl_tle, nl_fle, nl_tlt, nl_flt, nl_teq, nl_feq, nl_sub, nl_ss, nl_lt, nl_llt, nl_ltt, nl_le, nl_lle, nl_lee, nl_eq, nl_leq, nl_ee, nl_div, nl_rem, nl_cl, nl_n1, nl_n2, nl_n3, nl_n4, nl_add, nl_ladd, nl_aa, nl_mul, nl_rmul, nl_mm, pu_wi_1, pu_wi_2, bX11_readAddress_0, a_ald, a_cv, a_gi, a_gr, a_ild, a_ist, a_pi, a_push, a_zret, fx_0_0 hx, fx_0_2 hx, fx_0_4 hx, fx_5_5 hx, fx_5_6 hx, sh_0, sh_1, sh_3, sh_42, sh_45, sh_5, sh_59, pu_rv, pu_as, Value.category, pu_bk, pu_kl, pu_qe0, pu_qe1, f6, g0, g2, g4, g6, E, sh_59, sh_1, sh_42, sh_45]
      all_goals try simp [bX11_readAddress_0, a_ald, a_cv, a_gi, a_gr, a_ild, a_ist, a_pi, a_push, a_zret, fx_0_0 hx, fx_0_2 hx, fx_0_4 hx, fx_5_5 hx, fx_5_6 hx, sh_0, sh_1, sh_3, sh_42, sh_45, sh_5, sh_59, pu_rv, pu_as, Value.category, pu_bk, pu_kl, List.replicate, pu_wi_1, pu_wi_2, nl_add, nl_ladd, nl_aa, nl_mul, nl_rmul, nl_mm, pu_qe0, pu_qe1, f6, g0, g2, g4, g6, E, sh_59, sh_1, sh_42, sh_45]
    · rw [z] at f6 ⊢
      rw [qX11_readAddress]
      simp [a_ent, bX11_readAddress_0, a_ald, a_cv, a_gi, a_gr, a_ild, a_ist, a_pi, a_push, a_zret, fx_0_0 hx, fx_0_2 hx, fx_0_4 hx, fx_5_5 hx, fx_5_6 hx, sh_0, sh_1, sh_3, sh_42, sh_45, sh_5, sh_59, pu_rv, pu_as, Value.category, pu_bk, pu_kl, List.replicate, pu_wi_1, pu_wi_2, nl_add, nl_ladd, nl_aa, nl_mul, nl_rmul, nl_mm, pu_qe0, pu_qe1, f6, g0, g2, g4, g6, E, sh_59, sh_1, sh_42, sh_45]
      all_goals try simp (maxSteps := 400000) (disch := omega) [nl_tle, nl_fle, nl_tlt, nl_flt, nl_teq, nl_feq, nl_sub, nl_ss, nl_lt, nl_llt, nl_ltt, nl_le, nl_lle, nl_lee, nl_eq, nl_leq, nl_ee, nl_div, nl_rem, nl_cl, nl_n1, nl_n2, nl_n3, nl_n4, nl_add, nl_ladd, nl_aa, nl_mul, nl_rmul, nl_mm, pu_wi_1, pu_wi_2, bX11_readAddress_0, a_ald, a_cv, a_gi, a_gr, a_ild, a_ist, a_pi, a_push, a_zret, fx_0_0 hx, fx_0_2 hx, fx_0_4 hx, fx_5_5 hx, fx_5_6 hx, sh_0, sh_1, sh_3, sh_42, sh_45, sh_5, sh_59, pu_rv, pu_as, Value.category, pu_bk, pu_kl, pu_qe0, pu_qe1, f6, g0, g2, g4, g6, E, sh_59, sh_1, sh_42, sh_45]
      all_goals try simp [bX11_readAddress_0, a_ald, a_cv, a_gi, a_gr, a_ild, a_ist, a_pi, a_push, a_zret, fx_0_0 hx, fx_0_2 hx, fx_0_4 hx, fx_5_5 hx, fx_5_6 hx, sh_0, sh_1, sh_3, sh_42, sh_45, sh_5, sh_59, pu_rv, pu_as, Value.category, pu_bk, pu_kl, List.replicate, pu_wi_1, pu_wi_2, nl_add, nl_ladd, nl_aa, nl_mul, nl_rmul, nl_mm, pu_qe0, pu_qe1, f6, g0, g2, g4, g6, E, sh_59, sh_1, sh_42, sh_45]
      all_goals try simp (maxSteps := 400000) (disch := omega) [nl_tle, nl_fle, nl_tlt, nl_flt, nl_teq, nl_feq, nl_sub, nl_ss, nl_lt, nl_llt, nl_ltt, nl_le, nl_lle, nl_lee, nl_eq, nl_leq, nl_ee, nl_div, nl_rem, nl_cl, nl_n1, nl_n2, nl_n3, nl_n4, nl_add, nl_ladd, nl_aa, nl_mul, nl_rmul, nl_mm, pu_wi_1, pu_wi_2, bX11_readAddress_0, a_ald, a_cv, a_gi, a_gr, a_ild, a_ist, a_pi, a_push, a_zret, fx_0_0 hx, fx_0_2 hx, fx_0_4 hx, fx_5_5 hx, fx_5_6 hx, sh_0, sh_1, sh_3, sh_42, sh_45, sh_5, sh_59, pu_rv, pu_as, Value.category, pu_bk, pu_kl, pu_qe0, pu_qe1, f6, g0, g2, g4, g6, E, sh_59, sh_1, sh_42, sh_45]
      all_goals try simp [bX11_readAddress_0, a_ald, a_cv, a_gi, a_gr, a_ild, a_ist, a_pi, a_push, a_zret, fx_0_0 hx, fx_0_2 hx, fx_0_4 hx, fx_5_5 hx, fx_5_6 hx, sh_0, sh_1, sh_3, sh_42, sh_45, sh_5, sh_59, pu_rv, pu_as, Value.category, pu_bk, pu_kl, List.replicate, pu_wi_1, pu_wi_2, nl_add, nl_ladd, nl_aa, nl_mul, nl_rmul, nl_mm, pu_qe0, pu_qe1, f6, g0, g2, g4, g6, E, sh_59, sh_1, sh_42, sh_45]
      all_goals try simp (maxSteps := 400000) (disch := omega) [nl_tle, nl_fle, nl_tlt, nl_flt, nl_teq, nl_feq, nl_sub, nl_ss, nl_lt, nl_llt, nl_ltt, nl_le, nl_lle, nl_lee, nl_eq, nl_leq, nl_ee, nl_div, nl_rem, nl_cl, nl_n1, nl_n2, nl_n3, nl_n4, nl_add, nl_ladd, nl_aa, nl_mul, nl_rmul, nl_mm, pu_wi_1, pu_wi_2, bX11_readAddress_0, a_ald, a_cv, a_gi, a_gr, a_ild, a_ist, a_pi, a_push, a_zret, fx_0_0 hx, fx_0_2 hx, fx_0_4 hx, fx_5_5 hx, fx_5_6 hx, sh_0, sh_1, sh_3, sh_42, sh_45, sh_5, sh_59, pu_rv, pu_as, Value.category, pu_bk, pu_kl, pu_qe0, pu_qe1, f6, g0, g2, g4, g6, E, sh_59, sh_1, sh_42, sh_45]
      all_goals try simp [bX11_readAddress_0, a_ald, a_cv, a_gi, a_gr, a_ild, a_ist, a_pi, a_push, a_zret, fx_0_0 hx, fx_0_2 hx, fx_0_4 hx, fx_5_5 hx, fx_5_6 hx, sh_0, sh_1, sh_3, sh_42, sh_45, sh_5, sh_59, pu_rv, pu_as, Value.category, pu_bk, pu_kl, List.replicate, pu_wi_1, pu_wi_2, nl_add, nl_ladd, nl_aa, nl_mul, nl_rmul, nl_mm, pu_qe0, pu_qe1, f6, g0, g2, g4, g6, E, sh_59, sh_1, sh_42, sh_45]
