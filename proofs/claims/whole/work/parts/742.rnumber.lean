/-! addresses: the reference's number, EXTRA, town -/
section
variable {b : Nat → Nat} {t : Nat}
theorem py_dv_e (b : Nat → Nat) (t : Nat) : ∀ m pos v, (py_dv b t m pos v).2 = pos + m ∨ ¬ ((py_dv b t m pos v).2 < t ∧ 48 ≤ b (py_dv b t m pos v).2 ∧ b (py_dv b t m pos v).2 ≤ 57)
  | 0, pos, v => Or.inl rfl
  | m + 1, pos, v => by
    unfold py_dv
    by_cases c : pos < t ∧ 48 ≤ b pos ∧ b pos ≤ 57
    · rw [if_pos c]
      rcases py_dv_e b t m (pos + 1) (v * 10 + b pos - 48) with z | z
      · exact Or.inl (by rw [z]; omega)
      · exact Or.inr z
    · rw [if_neg c]
      exact Or.inr c
/-- what is read at a place, as a number -/
theorem r_hereV {M : pu_M} (hx : pu_fx M) (h : py_tr M b t) {pos : Nat} (hp : pos ≤ t) : ∃ v : Int32, pu_r 241 [some (.ref 71), some (.int (nI pos))] [] M = some (some (.int v), M) ∧ ((pos < t ∧ v = nI (b pos) ∧ b pos < 256) ∨ (¬ pos < t ∧ v = -1)) := by
  have ht := h.2.1
  by_cases c : pos < t
  · exact ⟨_, r_here1 hx h c, Or.inl ⟨c, rfl, (h.2.2 pos c).2⟩⟩
  · exact ⟨_, r_here0 hx h c (by omega), Or.inr ⟨c, rfl⟩⟩
theorem r_digitV {M : pu_M} {pos : Nat} {v : Int32} (h : (pos < t ∧ v = nI (b pos) ∧ b pos < 256) ∨ (¬ pos < t ∧ v = -1)) : pu_r 307 [some (.int v)] [] M = some (some (.int (pu_q (pos < t ∧ 48 ≤ b pos ∧ b pos ≤ 57))), M) := by
  rcases h with ⟨c, rfl, bb⟩ | ⟨c, rfl⟩
  · have := r_isDigit (b pos) bb M
    rw [show (48 ≤ b pos ∧ b pos ≤ 57) = (pos < t ∧ 48 ≤ b pos ∧ b pos ≤ 57) from propext ⟨fun z => ⟨c, z⟩, fun z => z.2⟩] at this
    exact this
  · rw [pu_q0 (fun z => c z.1)]
    exact r_isDigitN M
theorem py_hv {pos : Nat} {v : Int32} (h : (pos < t ∧ v = nI (b pos) ∧ b pos < 256) ∨ (¬ pos < t ∧ v = -1)) (c : Nat) (hc : c < 256) : (v = nI c) = (pos < t ∧ b pos = c) := by
  apply propext
  rcases h with ⟨c0, rfl, bb⟩ | ⟨c0, rfl⟩
  · rw [nI_eq (by omega) (by omega)]
    exact ⟨fun z => ⟨c0, z⟩, fun z => z.2⟩
  · constructor
    · intro z
      rw [eq_comm, nl_n1 _ (by omega)] at z
      exact z.elim
    · intro z
      exact absurd z.1 c0
theorem r_num_e1 (M : pu_M) (hx : pu_fx M) {v c : Nat} {p : Nat} (h20 : M.1 71 20 = nI p) (n : Int32) (t3 t4 : Option Value) (c1 : 97 ≤ c) (c2 : c ≤ 104) (e : pu_r 241 [some (.ref 71), some (.int (nI p))] [] M = some (some (.int (nI c)), M)) (dg : pu_r 307 [some (.int (nI c))] [] M = some (some (.int 0), M)) : pu_r 492 [some (.ref 71), some (.int n), some (.int (nI v)), t3, t4] [] M = some (some (.int 1), pu_wi (pu_wi M 71 20 (nI (p + 1))) 71 17 (nI (16 * v + (c - 96)))) := by
  have a3 : ¬ nI c < 97 := fun q => by
    rw [show (97 : Int32) = nI 97 from rfl, nI_ltI (by omega) (by omega)] at q
    omega
  have a4 : ¬ 104 < nI c := fun q => by
    rw [show (104 : Int32) = nI 104 from rfl, nI_ltI (by omega) (by omega)] at q
    omega
  have a5 : nI c - 97 + 1 = nI (c - 96) := by
    rw [show (97 : Int32) = nI 97 from rfl, pk_sub c1, show (1 : Int32) = nI 1 from rfl, nI_add, show c - 97 + 1 = c - 96 by omega]
  have a6 : ¬ nI (c - 96) ≤ 0 := fun q => by
    rw [show (0 : Int32) = nI 0 from rfl, nI_leI (by omega) (by omega)] at q
    omega
  generalize nI c = u at *
  generalize c - 96 = lv at *
  rw [qX12_numberPart_4]
  simp [bX12_numberPart_4, bX12_numberPart_65, bX12_numberPart_107, bX12_numberPart_124, a_ald, a_ild, a_gi, a_cv, a_cs, a_ifeq, a_ist, a_push, a_iclt, a_icgt, a_isub, a_iadd, a_imul, a_ifle, a_dup, a_pi, a_zret, sh_71, pu_rv, pu_as, Value.category, pu_bk, pu_kl, h20, e, dg, a3, a4, a5, a6, pu_wi_1, pu_wi_2, nl_add, nl_ladd, nl_mul, nl_rmul, nl_aa]
theorem r_num_e2 (M : pu_M) (hx : pu_fx M) {v : Nat} {p : Nat} {u : Int32} (h20 : M.1 71 20 = nI p) (n : Int32) (t3 t4 : Option Value) (h97 : u < 97) (h43 : (u = 43) = True) (e : pu_r 241 [some (.ref 71), some (.int (nI p))] [] M = some (some (.int u), M)) (dg : pu_r 307 [some (.int u)] [] M = some (some (.int 0), M)) : pu_r 492 [some (.ref 71), some (.int n), some (.int (nI v)), t3, t4] [] M = some (some (.int 1), pu_wi (pu_wi M 71 20 (nI (p + 1))) 71 17 (nI (16 * v + 9))) := by
  rw [qX12_numberPart_4]
  simp [bX12_numberPart_4, bX12_numberPart_65, bX12_numberPart_95, bX12_numberPart_106, bX12_numberPart_107, bX12_numberPart_124, bX12_numberPart_32, a_ald, a_cs, a_cv, a_dup, a_gi, a_iadd, a_icgt, a_iclt, a_icne, a_ifeq, a_ifle, a_ild, a_imul, a_inc, a_ist, a_isub, a_pi, a_push, a_zret, sh_71, pu_rv, pu_as, Value.category, pu_bk, pu_kl, List.replicate, pu_wi_1, pu_wi_2, nl_add, nl_ladd, nl_aa, nl_mul, nl_rmul, nl_mm, pu_qe0, pu_qe1, h20, e, dg, h97, h43]
  all_goals try simp (maxSteps := 400000) (disch := omega) [nl_tle, nl_fle, nl_tlt, nl_flt, nl_teq, nl_feq, nl_sub, nl_ss, nl_lt, nl_llt, nl_ltt, nl_le, nl_lle, nl_lee, nl_eq, nl_leq, nl_ee, nl_div, nl_rem, nl_cl, nl_n1, nl_n2, nl_n3, nl_n4, nl_add, nl_ladd, nl_aa, nl_mul, nl_rmul, nl_mm, pu_wi_1, pu_wi_2, bX12_numberPart_4, bX12_numberPart_65, bX12_numberPart_95, bX12_numberPart_106, bX12_numberPart_107, bX12_numberPart_124, bX12_numberPart_32, a_ald, a_cs, a_cv, a_dup, a_gi, a_iadd, a_icgt, a_iclt, a_icne, a_ifeq, a_ifle, a_ild, a_imul, a_inc, a_ist, a_isub, a_pi, a_push, a_zret, sh_71, pu_rv, pu_as, Value.category, pu_bk, pu_kl, pu_qe0, pu_qe1, h20, e, dg, h97, h43]
  all_goals try simp [bX12_numberPart_4, bX12_numberPart_65, bX12_numberPart_95, bX12_numberPart_106, bX12_numberPart_107, bX12_numberPart_124, bX12_numberPart_32, a_ald, a_cs, a_cv, a_dup, a_gi, a_iadd, a_icgt, a_iclt, a_icne, a_ifeq, a_ifle, a_ild, a_imul, a_inc, a_ist, a_isub, a_pi, a_push, a_zret, sh_71, pu_rv, pu_as, Value.category, pu_bk, pu_kl, List.replicate, pu_wi_1, pu_wi_2, nl_add, nl_ladd, nl_aa, nl_mul, nl_rmul, nl_mm, pu_qe0, pu_qe1, h20, e, dg, h97, h43]
  all_goals try simp (maxSteps := 400000) (disch := omega) [nl_tle, nl_fle, nl_tlt, nl_flt, nl_teq, nl_feq, nl_sub, nl_ss, nl_lt, nl_llt, nl_ltt, nl_le, nl_lle, nl_lee, nl_eq, nl_leq, nl_ee, nl_div, nl_rem, nl_cl, nl_n1, nl_n2, nl_n3, nl_n4, nl_add, nl_ladd, nl_aa, nl_mul, nl_rmul, nl_mm, pu_wi_1, pu_wi_2, bX12_numberPart_4, bX12_numberPart_65, bX12_numberPart_95, bX12_numberPart_106, bX12_numberPart_107, bX12_numberPart_124, bX12_numberPart_32, a_ald, a_cs, a_cv, a_dup, a_gi, a_iadd, a_icgt, a_iclt, a_icne, a_ifeq, a_ifle, a_ild, a_imul, a_inc, a_ist, a_isub, a_pi, a_push, a_zret, sh_71, pu_rv, pu_as, Value.category, pu_bk, pu_kl, pu_qe0, pu_qe1, h20, e, dg, h97, h43]
  all_goals try simp [bX12_numberPart_4, bX12_numberPart_65, bX12_numberPart_95, bX12_numberPart_106, bX12_numberPart_107, bX12_numberPart_124, bX12_numberPart_32, a_ald, a_cs, a_cv, a_dup, a_gi, a_iadd, a_icgt, a_iclt, a_icne, a_ifeq, a_ifle, a_ild, a_imul, a_inc, a_ist, a_isub, a_pi, a_push, a_zret, sh_71, pu_rv, pu_as, Value.category, pu_bk, pu_kl, List.replicate, pu_wi_1, pu_wi_2, nl_add, nl_ladd, nl_aa, nl_mul, nl_rmul, nl_mm, pu_qe0, pu_qe1, h20, e, dg, h97, h43]
  all_goals try simp (maxSteps := 400000) (disch := omega) [nl_tle, nl_fle, nl_tlt, nl_flt, nl_teq, nl_feq, nl_sub, nl_ss, nl_lt, nl_llt, nl_ltt, nl_le, nl_lle, nl_lee, nl_eq, nl_leq, nl_ee, nl_div, nl_rem, nl_cl, nl_n1, nl_n2, nl_n3, nl_n4, nl_add, nl_ladd, nl_aa, nl_mul, nl_rmul, nl_mm, pu_wi_1, pu_wi_2, bX12_numberPart_4, bX12_numberPart_65, bX12_numberPart_95, bX12_numberPart_106, bX12_numberPart_107, bX12_numberPart_124, bX12_numberPart_32, a_ald, a_cs, a_cv, a_dup, a_gi, a_iadd, a_icgt, a_iclt, a_icne, a_ifeq, a_ifle, a_ild, a_imul, a_inc, a_ist, a_isub, a_pi, a_push, a_zret, sh_71, pu_rv, pu_as, Value.category, pu_bk, pu_kl, pu_qe0, pu_qe1, h20, e, dg, h97, h43]
  all_goals try simp [bX12_numberPart_4, bX12_numberPart_65, bX12_numberPart_95, bX12_numberPart_106, bX12_numberPart_107, bX12_numberPart_124, bX12_numberPart_32, a_ald, a_cs, a_cv, a_dup, a_gi, a_iadd, a_icgt, a_iclt, a_icne, a_ifeq, a_ifle, a_ild, a_imul, a_inc, a_ist, a_isub, a_pi, a_push, a_zret, sh_71, pu_rv, pu_as, Value.category, pu_bk, pu_kl, List.replicate, pu_wi_1, pu_wi_2, nl_add, nl_ladd, nl_aa, nl_mul, nl_rmul, nl_mm, pu_qe0, pu_qe1, h20, e, dg, h97, h43]
theorem r_num_e3 (M : pu_M) (hx : pu_fx M) {v : Nat} {p : Nat} {u : Int32} (h20 : M.1 71 20 = nI p) (n : Int32) (t3 t4 : Option Value) (e : pu_r 241 [some (.ref 71), some (.int (nI p))] [] M = some (some (.int u), M)) (dg : pu_r 307 [some (.int u)] [] M = some (some (.int 0), M)) (u43 : ¬ u = 43) (ur : u < 97 ∨ 104 < u) : pu_r 492 [some (.ref 71), some (.int n), some (.int (nI v)), t3, t4] [] M = some (some (.int 1), pu_wi M 71 17 (nI (16 * v))) := by
  by_cases a3 : u < 97
  · rw [qX12_numberPart_4]
    simp [bX12_numberPart_4, bX12_numberPart_65, bX12_numberPart_95, bX12_numberPart_106, bX12_numberPart_107, bX12_numberPart_124, bX12_numberPart_32, a_ald, a_cs, a_cv, a_dup, a_gi, a_iadd, a_icgt, a_iclt, a_icne, a_ifeq, a_ifle, a_ild, a_imul, a_inc, a_ist, a_isub, a_pi, a_push, a_zret, sh_71, pu_rv, pu_as, Value.category, pu_bk, pu_kl, List.replicate, pu_wi_1, pu_wi_2, nl_add, nl_ladd, nl_aa, nl_mul, nl_rmul, nl_mm, pu_qe0, pu_qe1, h20, e, dg, a3, u43]
    all_goals try simp (maxSteps := 400000) (disch := omega) [nl_tle, nl_fle, nl_tlt, nl_flt, nl_teq, nl_feq, nl_sub, nl_ss, nl_lt, nl_llt, nl_ltt, nl_le, nl_lle, nl_lee, nl_eq, nl_leq, nl_ee, nl_div, nl_rem, nl_cl, nl_n1, nl_n2, nl_n3, nl_n4, nl_add, nl_ladd, nl_aa, nl_mul, nl_rmul, nl_mm, pu_wi_1, pu_wi_2, bX12_numberPart_4, bX12_numberPart_65, bX12_numberPart_95, bX12_numberPart_106, bX12_numberPart_107, bX12_numberPart_124, bX12_numberPart_32, a_ald, a_cs, a_cv, a_dup, a_gi, a_iadd, a_icgt, a_iclt, a_icne, a_ifeq, a_ifle, a_ild, a_imul, a_inc, a_ist, a_isub, a_pi, a_push, a_zret, sh_71, pu_rv, pu_as, Value.category, pu_bk, pu_kl, pu_qe0, pu_qe1, h20, e, dg, a3, u43]
    all_goals try simp [bX12_numberPart_4, bX12_numberPart_65, bX12_numberPart_95, bX12_numberPart_106, bX12_numberPart_107, bX12_numberPart_124, bX12_numberPart_32, a_ald, a_cs, a_cv, a_dup, a_gi, a_iadd, a_icgt, a_iclt, a_icne, a_ifeq, a_ifle, a_ild, a_imul, a_inc, a_ist, a_isub, a_pi, a_push, a_zret, sh_71, pu_rv, pu_as, Value.category, pu_bk, pu_kl, List.replicate, pu_wi_1, pu_wi_2, nl_add, nl_ladd, nl_aa, nl_mul, nl_rmul, nl_mm, pu_qe0, pu_qe1, h20, e, dg, a3, u43]
    all_goals try simp (maxSteps := 400000) (disch := omega) [nl_tle, nl_fle, nl_tlt, nl_flt, nl_teq, nl_feq, nl_sub, nl_ss, nl_lt, nl_llt, nl_ltt, nl_le, nl_lle, nl_lee, nl_eq, nl_leq, nl_ee, nl_div, nl_rem, nl_cl, nl_n1, nl_n2, nl_n3, nl_n4, nl_add, nl_ladd, nl_aa, nl_mul, nl_rmul, nl_mm, pu_wi_1, pu_wi_2, bX12_numberPart_4, bX12_numberPart_65, bX12_numberPart_95, bX12_numberPart_106, bX12_numberPart_107, bX12_numberPart_124, bX12_numberPart_32, a_ald, a_cs, a_cv, a_dup, a_gi, a_iadd, a_icgt, a_iclt, a_icne, a_ifeq, a_ifle, a_ild, a_imul, a_inc, a_ist, a_isub, a_pi, a_push, a_zret, sh_71, pu_rv, pu_as, Value.category, pu_bk, pu_kl, pu_qe0, pu_qe1, h20, e, dg, a3, u43]
    all_goals try simp [bX12_numberPart_4, bX12_numberPart_65, bX12_numberPart_95, bX12_numberPart_106, bX12_numberPart_107, bX12_numberPart_124, bX12_numberPart_32, a_ald, a_cs, a_cv, a_dup, a_gi, a_iadd, a_icgt, a_iclt, a_icne, a_ifeq, a_ifle, a_ild, a_imul, a_inc, a_ist, a_isub, a_pi, a_push, a_zret, sh_71, pu_rv, pu_as, Value.category, pu_bk, pu_kl, List.replicate, pu_wi_1, pu_wi_2, nl_add, nl_ladd, nl_aa, nl_mul, nl_rmul, nl_mm, pu_qe0, pu_qe1, h20, e, dg, a3, u43]
    all_goals try simp (maxSteps := 400000) (disch := omega) [nl_tle, nl_fle, nl_tlt, nl_flt, nl_teq, nl_feq, nl_sub, nl_ss, nl_lt, nl_llt, nl_ltt, nl_le, nl_lle, nl_lee, nl_eq, nl_leq, nl_ee, nl_div, nl_rem, nl_cl, nl_n1, nl_n2, nl_n3, nl_n4, nl_add, nl_ladd, nl_aa, nl_mul, nl_rmul, nl_mm, pu_wi_1, pu_wi_2, bX12_numberPart_4, bX12_numberPart_65, bX12_numberPart_95, bX12_numberPart_106, bX12_numberPart_107, bX12_numberPart_124, bX12_numberPart_32, a_ald, a_cs, a_cv, a_dup, a_gi, a_iadd, a_icgt, a_iclt, a_icne, a_ifeq, a_ifle, a_ild, a_imul, a_inc, a_ist, a_isub, a_pi, a_push, a_zret, sh_71, pu_rv, pu_as, Value.category, pu_bk, pu_kl, pu_qe0, pu_qe1, h20, e, dg, a3, u43]
    all_goals try simp [bX12_numberPart_4, bX12_numberPart_65, bX12_numberPart_95, bX12_numberPart_106, bX12_numberPart_107, bX12_numberPart_124, bX12_numberPart_32, a_ald, a_cs, a_cv, a_dup, a_gi, a_iadd, a_icgt, a_iclt, a_icne, a_ifeq, a_ifle, a_ild, a_imul, a_inc, a_ist, a_isub, a_pi, a_push, a_zret, sh_71, pu_rv, pu_as, Value.category, pu_bk, pu_kl, List.replicate, pu_wi_1, pu_wi_2, nl_add, nl_ladd, nl_aa, nl_mul, nl_rmul, nl_mm, pu_qe0, pu_qe1, h20, e, dg, a3, u43]
  · have a4 := ur.resolve_left a3
    rw [qX12_numberPart_4]
    simp [bX12_numberPart_4, bX12_numberPart_65, bX12_numberPart_95, bX12_numberPart_106, bX12_numberPart_107, bX12_numberPart_124, bX12_numberPart_32, a_ald, a_cs, a_cv, a_dup, a_gi, a_iadd, a_icgt, a_iclt, a_icne, a_ifeq, a_ifle, a_ild, a_imul, a_inc, a_ist, a_isub, a_pi, a_push, a_zret, sh_71, pu_rv, pu_as, Value.category, pu_bk, pu_kl, List.replicate, pu_wi_1, pu_wi_2, nl_add, nl_ladd, nl_aa, nl_mul, nl_rmul, nl_mm, pu_qe0, pu_qe1, h20, e, dg, a3, a4, u43]
    all_goals try simp (maxSteps := 400000) (disch := omega) [nl_tle, nl_fle, nl_tlt, nl_flt, nl_teq, nl_feq, nl_sub, nl_ss, nl_lt, nl_llt, nl_ltt, nl_le, nl_lle, nl_lee, nl_eq, nl_leq, nl_ee, nl_div, nl_rem, nl_cl, nl_n1, nl_n2, nl_n3, nl_n4, nl_add, nl_ladd, nl_aa, nl_mul, nl_rmul, nl_mm, pu_wi_1, pu_wi_2, bX12_numberPart_4, bX12_numberPart_65, bX12_numberPart_95, bX12_numberPart_106, bX12_numberPart_107, bX12_numberPart_124, bX12_numberPart_32, a_ald, a_cs, a_cv, a_dup, a_gi, a_iadd, a_icgt, a_iclt, a_icne, a_ifeq, a_ifle, a_ild, a_imul, a_inc, a_ist, a_isub, a_pi, a_push, a_zret, sh_71, pu_rv, pu_as, Value.category, pu_bk, pu_kl, pu_qe0, pu_qe1, h20, e, dg, a3, a4, u43]
    all_goals try simp [bX12_numberPart_4, bX12_numberPart_65, bX12_numberPart_95, bX12_numberPart_106, bX12_numberPart_107, bX12_numberPart_124, bX12_numberPart_32, a_ald, a_cs, a_cv, a_dup, a_gi, a_iadd, a_icgt, a_iclt, a_icne, a_ifeq, a_ifle, a_ild, a_imul, a_inc, a_ist, a_isub, a_pi, a_push, a_zret, sh_71, pu_rv, pu_as, Value.category, pu_bk, pu_kl, List.replicate, pu_wi_1, pu_wi_2, nl_add, nl_ladd, nl_aa, nl_mul, nl_rmul, nl_mm, pu_qe0, pu_qe1, h20, e, dg, a3, a4, u43]
    all_goals try simp (maxSteps := 400000) (disch := omega) [nl_tle, nl_fle, nl_tlt, nl_flt, nl_teq, nl_feq, nl_sub, nl_ss, nl_lt, nl_llt, nl_ltt, nl_le, nl_lle, nl_lee, nl_eq, nl_leq, nl_ee, nl_div, nl_rem, nl_cl, nl_n1, nl_n2, nl_n3, nl_n4, nl_add, nl_ladd, nl_aa, nl_mul, nl_rmul, nl_mm, pu_wi_1, pu_wi_2, bX12_numberPart_4, bX12_numberPart_65, bX12_numberPart_95, bX12_numberPart_106, bX12_numberPart_107, bX12_numberPart_124, bX12_numberPart_32, a_ald, a_cs, a_cv, a_dup, a_gi, a_iadd, a_icgt, a_iclt, a_icne, a_ifeq, a_ifle, a_ild, a_imul, a_inc, a_ist, a_isub, a_pi, a_push, a_zret, sh_71, pu_rv, pu_as, Value.category, pu_bk, pu_kl, pu_qe0, pu_qe1, h20, e, dg, a3, a4, u43]
    all_goals try simp [bX12_numberPart_4, bX12_numberPart_65, bX12_numberPart_95, bX12_numberPart_106, bX12_numberPart_107, bX12_numberPart_124, bX12_numberPart_32, a_ald, a_cs, a_cv, a_dup, a_gi, a_iadd, a_icgt, a_iclt, a_icne, a_ifeq, a_ifle, a_ild, a_imul, a_inc, a_ist, a_isub, a_pi, a_push, a_zret, sh_71, pu_rv, pu_as, Value.category, pu_bk, pu_kl, List.replicate, pu_wi_1, pu_wi_2, nl_add, nl_ladd, nl_aa, nl_mul, nl_rmul, nl_mm, pu_qe0, pu_qe1, h20, e, dg, a3, a4, u43]
    all_goals try simp (maxSteps := 400000) (disch := omega) [nl_tle, nl_fle, nl_tlt, nl_flt, nl_teq, nl_feq, nl_sub, nl_ss, nl_lt, nl_llt, nl_ltt, nl_le, nl_lle, nl_lee, nl_eq, nl_leq, nl_ee, nl_div, nl_rem, nl_cl, nl_n1, nl_n2, nl_n3, nl_n4, nl_add, nl_ladd, nl_aa, nl_mul, nl_rmul, nl_mm, pu_wi_1, pu_wi_2, bX12_numberPart_4, bX12_numberPart_65, bX12_numberPart_95, bX12_numberPart_106, bX12_numberPart_107, bX12_numberPart_124, bX12_numberPart_32, a_ald, a_cs, a_cv, a_dup, a_gi, a_iadd, a_icgt, a_iclt, a_icne, a_ifeq, a_ifle, a_ild, a_imul, a_inc, a_ist, a_isub, a_pi, a_push, a_zret, sh_71, pu_rv, pu_as, Value.category, pu_bk, pu_kl, pu_qe0, pu_qe1, h20, e, dg, a3, a4, u43]
    all_goals try simp [bX12_numberPart_4, bX12_numberPart_65, bX12_numberPart_95, bX12_numberPart_106, bX12_numberPart_107, bX12_numberPart_124, bX12_numberPart_32, a_ald, a_cs, a_cv, a_dup, a_gi, a_iadd, a_icgt, a_iclt, a_icne, a_ifeq, a_ifle, a_ild, a_imul, a_inc, a_ist, a_isub, a_pi, a_push, a_zret, sh_71, pu_rv, pu_as, Value.category, pu_bk, pu_kl, List.replicate, pu_wi_1, pu_wi_2, nl_add, nl_ladd, nl_aa, nl_mul, nl_rmul, nl_mm, pu_qe0, pu_qe1, h20, e, dg, a3, a4, u43]
theorem r_num_e (M : pu_M) (hx : pu_fx M) (h : py_tr M b t) {p v : Nat} (hp : p ≤ t) (h20 : M.1 71 20 = nI p) (n : Int32) (t3 t4 : Option Value) (nd : ¬ (p < t ∧ 48 ≤ b p ∧ b p ≤ 57)) : ∃ N, py_rG M N 78 ∧ (∀ j, N.1 78 j = M.1 78 j) ∧ N.1 71 20 = nI (py_nl2 b t p).2 ∧ N.1 71 17 = nI (16 * v + (py_nl2 b t p).1) ∧ N.1 72 15 = M.1 72 15 ∧ pu_r 492 [some (.ref 71), some (.int n), some (.int (nI v)), t3, t4] [] M = some (some (.int 1), N) := by
  obtain ⟨u, e, hu⟩ := r_hereV hx h hp
  have dg := r_digitV (M := M) hu
  rw [pu_q0 nd] at dg
  have e43 := py_hv hu 43 (by omega)
  have w2 : ∀ j x, (pu_wi (pu_wi M 71 20 (nI (p + 1))) 71 17 x).1 78 j = M.1 78 j := fun j x => by rw [py_wi_o (by omega), py_wi_o (by omega)]
  have w20 : ∀ x, (pu_wi (pu_wi M 71 20 (nI (p + 1))) 71 17 x).1 71 20 = nI (p + 1) := fun x => by
    rw [py_wi_o (by omega)]
    simp [pu_wi_1]
  have w17 : ∀ (Q : pu_M) x, (pu_wi Q 71 17 x).1 71 17 = x := fun Q x => by simp [pu_wi_1]
  have g : ∀ x, py_rG M (pu_wi (pu_wi M 71 20 (nI (p + 1))) 71 17 x) 78 := fun x => ⟨rfl, fun a j q1 q2 q3 => by rw [py_wi_o (by omega), py_wi_o (by omega)]⟩
  have w15 : ∀ x, (pu_wi (pu_wi M 71 20 (nI (p + 1))) 71 17 x).1 72 15 = M.1 72 15 := fun x => by rw [py_wi_o (by omega), py_wi_o (by omega)]
  unfold py_nl2
  by_cases c1 : p < t ∧ 97 ≤ b p ∧ b p ≤ 104
  · rw [if_pos c1]
    have hv : u = nI (b p) := by
      rcases hu with z | z
      · exact z.2.1
      · exact absurd c1.1 z.1
    rw [hv] at e dg
    exact ⟨_, g _, fun j => w2 j _, w20 _, w17 _ _, w15 _, r_num_e1 M hx h20 n t3 t4 c1.2.1 c1.2.2 e dg⟩
  · rw [if_neg c1]
    by_cases c2 : p < t ∧ b p = 43
    · rw [if_pos c2]
      have u43 : u = nI 43 := by rw [e43]; exact c2
      have h97 : u < nI 97 := by
        rw [u43, nI_ltI (by omega) (by omega)]
        omega
      exact ⟨_, g _, fun j => w2 j _, w20 _, w17 _ _, w15 _, r_num_e2 M hx h20 n t3 t4 h97 (eq_true u43) e dg⟩
    · rw [if_neg c2]
      have u43 : ¬ u = nI 43 := by rw [e43]; exact c2
      have ur : u < nI 97 ∨ nI 104 < u := by
        rcases hu with ⟨z1, z2, z3⟩ | ⟨z1, z2⟩
        · rw [z2, nI_ltI (by omega) (by omega), nI_ltI (by omega) (by omega)]
          omega
        · rw [z2]
          exact Or.inl (by decide)
      exact ⟨pu_wi M 71 17 (nI (16 * v)), ⟨rfl, fun a j q1 q2 q3 => py_wi_o (by omega)⟩, fun j => py_wi_o (by omega), by rw [py_wi_o (by omega)]; exact h20, w17 _ _, py_wi_o (by omega), r_num_e3 M hx h20 n t3 t4 e dg u43 ur⟩
theorem r_num_l : ∀ (m n pos v : Nat) (M : pu_M) (t3 t4 : Option Value), pu_fx M → py_tr M b t → n + m = 4 → pos ≤ t → M.1 71 20 = nI pos → ∃ N, py_rG M N 78 ∧ (∀ j, N.1 78 j = M.1 78 j) ∧ (¬ ((py_dv b t m pos v).2 < t ∧ 48 ≤ b (py_dv b t m pos v).2 ∧ b (py_dv b t m pos v).2 ≤ 57) → N.1 71 20 = nI (py_nl2 b t (py_dv b t m pos v).2).2 ∧ N.1 71 17 = nI (16 * (py_dv b t m pos v).1 + (py_nl2 b t (py_dv b t m pos v).2).1) ∧ N.1 72 15 = M.1 72 15) ∧ (((py_dv b t m pos v).2 < t ∧ 48 ≤ b (py_dv b t m pos v).2 ∧ b (py_dv b t m pos v).2 ≤ 57) → N.1 72 15 = nI (py_dv b t m pos v).2) ∧ pu_r 492 [some (.ref 71), some (.int (nI n)), some (.int (nI v)), t3, t4] [] M = some (some (.int (pu_q (¬ ((py_dv b t m pos v).2 < t ∧ 48 ≤ b (py_dv b t m pos v).2 ∧ b (py_dv b t m pos v).2 ≤ 57)))), N)
  | 0, n, pos, v, M, t3, t4, hx, h, hn, hp, h20 => by
    show ∃ N, py_rG M N 78 ∧ (∀ j, N.1 78 j = M.1 78 j) ∧ (¬ (pos < t ∧ 48 ≤ b pos ∧ b pos ≤ 57) → N.1 71 20 = nI (py_nl2 b t pos).2 ∧ N.1 71 17 = nI (16 * v + (py_nl2 b t pos).1) ∧ N.1 72 15 = M.1 72 15) ∧ ((pos < t ∧ 48 ≤ b pos ∧ b pos ≤ 57) → N.1 72 15 = nI pos) ∧ pu_r 492 [some (.ref 71), some (.int (nI n)), some (.int (nI v)), t3, t4] [] M = some (some (.int (pu_q (¬ (pos < t ∧ 48 ≤ b pos ∧ b pos ≤ 57)))), N)
    have n4 : n = 4 := by omega
    subst n4
    by_cases d : pos < t ∧ 48 ≤ b pos ∧ b pos ≤ 57
    · obtain ⟨u, e, hu⟩ := r_hereV hx h hp
      have dg := r_digitV (M := M) hu
      rw [pu_q1 d] at dg
      have fa := r_faulty hx (nI pos)
      have e4 : nI 4 = (4 : Int32) := rfl
      refine ⟨pu_wi M 72 15 (nI pos), ⟨rfl, fun a j q1 q2 q3 => py_wi_o q3⟩, fun j => py_wi_o (by omega), fun z => absurd d z, fun _ => by simp [pu_wi_1], ?_⟩
      rw [pu_q0 (fun z => z d)]
      rw [qX12_numberPart_4]
      simp [bX12_numberPart_4, bX12_numberPart_65, bX12_numberPart_95, bX12_numberPart_106, bX12_numberPart_107, bX12_numberPart_124, bX12_numberPart_32, a_ald, a_cs, a_cv, a_dup, a_gi, a_iadd, a_icgt, a_iclt, a_icne, a_ifeq, a_ifle, a_ild, a_imul, a_inc, a_ist, a_isub, a_pi, a_push, a_zret, sh_71, pu_rv, pu_as, Value.category, pu_bk, pu_kl, List.replicate, pu_wi_1, pu_wi_2, nl_add, nl_ladd, nl_aa, nl_mul, nl_rmul, nl_mm, pu_qe0, pu_qe1, h20, e, dg, e4, fa]
      all_goals try simp (maxSteps := 400000) (disch := omega) [nl_tle, nl_fle, nl_tlt, nl_flt, nl_teq, nl_feq, nl_sub, nl_ss, nl_lt, nl_llt, nl_ltt, nl_le, nl_lle, nl_lee, nl_eq, nl_leq, nl_ee, nl_div, nl_rem, nl_cl, nl_n1, nl_n2, nl_n3, nl_n4, nl_add, nl_ladd, nl_aa, nl_mul, nl_rmul, nl_mm, pu_wi_1, pu_wi_2, bX12_numberPart_4, bX12_numberPart_65, bX12_numberPart_95, bX12_numberPart_106, bX12_numberPart_107, bX12_numberPart_124, bX12_numberPart_32, a_ald, a_cs, a_cv, a_dup, a_gi, a_iadd, a_icgt, a_iclt, a_icne, a_ifeq, a_ifle, a_ild, a_imul, a_inc, a_ist, a_isub, a_pi, a_push, a_zret, sh_71, pu_rv, pu_as, Value.category, pu_bk, pu_kl, pu_qe0, pu_qe1, h20, e, dg, e4, fa]
      all_goals try simp [bX12_numberPart_4, bX12_numberPart_65, bX12_numberPart_95, bX12_numberPart_106, bX12_numberPart_107, bX12_numberPart_124, bX12_numberPart_32, a_ald, a_cs, a_cv, a_dup, a_gi, a_iadd, a_icgt, a_iclt, a_icne, a_ifeq, a_ifle, a_ild, a_imul, a_inc, a_ist, a_isub, a_pi, a_push, a_zret, sh_71, pu_rv, pu_as, Value.category, pu_bk, pu_kl, List.replicate, pu_wi_1, pu_wi_2, nl_add, nl_ladd, nl_aa, nl_mul, nl_rmul, nl_mm, pu_qe0, pu_qe1, h20, e, dg, e4, fa]
      all_goals try simp (maxSteps := 400000) (disch := omega) [nl_tle, nl_fle, nl_tlt, nl_flt, nl_teq, nl_feq, nl_sub, nl_ss, nl_lt, nl_llt, nl_ltt, nl_le, nl_lle, nl_lee, nl_eq, nl_leq, nl_ee, nl_div, nl_rem, nl_cl, nl_n1, nl_n2, nl_n3, nl_n4, nl_add, nl_ladd, nl_aa, nl_mul, nl_rmul, nl_mm, pu_wi_1, pu_wi_2, bX12_numberPart_4, bX12_numberPart_65, bX12_numberPart_95, bX12_numberPart_106, bX12_numberPart_107, bX12_numberPart_124, bX12_numberPart_32, a_ald, a_cs, a_cv, a_dup, a_gi, a_iadd, a_icgt, a_iclt, a_icne, a_ifeq, a_ifle, a_ild, a_imul, a_inc, a_ist, a_isub, a_pi, a_push, a_zret, sh_71, pu_rv, pu_as, Value.category, pu_bk, pu_kl, pu_qe0, pu_qe1, h20, e, dg, e4, fa]
      all_goals try simp [bX12_numberPart_4, bX12_numberPart_65, bX12_numberPart_95, bX12_numberPart_106, bX12_numberPart_107, bX12_numberPart_124, bX12_numberPart_32, a_ald, a_cs, a_cv, a_dup, a_gi, a_iadd, a_icgt, a_iclt, a_icne, a_ifeq, a_ifle, a_ild, a_imul, a_inc, a_ist, a_isub, a_pi, a_push, a_zret, sh_71, pu_rv, pu_as, Value.category, pu_bk, pu_kl, List.replicate, pu_wi_1, pu_wi_2, nl_add, nl_ladd, nl_aa, nl_mul, nl_rmul, nl_mm, pu_qe0, pu_qe1, h20, e, dg, e4, fa]
      all_goals try simp (maxSteps := 400000) (disch := omega) [nl_tle, nl_fle, nl_tlt, nl_flt, nl_teq, nl_feq, nl_sub, nl_ss, nl_lt, nl_llt, nl_ltt, nl_le, nl_lle, nl_lee, nl_eq, nl_leq, nl_ee, nl_div, nl_rem, nl_cl, nl_n1, nl_n2, nl_n3, nl_n4, nl_add, nl_ladd, nl_aa, nl_mul, nl_rmul, nl_mm, pu_wi_1, pu_wi_2, bX12_numberPart_4, bX12_numberPart_65, bX12_numberPart_95, bX12_numberPart_106, bX12_numberPart_107, bX12_numberPart_124, bX12_numberPart_32, a_ald, a_cs, a_cv, a_dup, a_gi, a_iadd, a_icgt, a_iclt, a_icne, a_ifeq, a_ifle, a_ild, a_imul, a_inc, a_ist, a_isub, a_pi, a_push, a_zret, sh_71, pu_rv, pu_as, Value.category, pu_bk, pu_kl, pu_qe0, pu_qe1, h20, e, dg, e4, fa]
      all_goals try simp [bX12_numberPart_4, bX12_numberPart_65, bX12_numberPart_95, bX12_numberPart_106, bX12_numberPart_107, bX12_numberPart_124, bX12_numberPart_32, a_ald, a_cs, a_cv, a_dup, a_gi, a_iadd, a_icgt, a_iclt, a_icne, a_ifeq, a_ifle, a_ild, a_imul, a_inc, a_ist, a_isub, a_pi, a_push, a_zret, sh_71, pu_rv, pu_as, Value.category, pu_bk, pu_kl, List.replicate, pu_wi_1, pu_wi_2, nl_add, nl_ladd, nl_aa, nl_mul, nl_rmul, nl_mm, pu_qe0, pu_qe1, h20, e, dg, e4, fa]
    · obtain ⟨N, a1, a2, a3, a4, a5, a6⟩ := r_num_e M hx h (p := pos) (v := v) hp h20 (nI 4) t3 t4 d
      refine ⟨N, a1, a2, fun _ => ⟨a3, a4, a5⟩, fun z => absurd z d, ?_⟩
      rw [pu_q1 d]
      exact a6
  | m + 1, n, pos, v, M, t3, t4, hx, h, hn, hp, h20 => by
    by_cases d : pos < t ∧ 48 ≤ b pos ∧ b pos ≤ 57
    · have dve : py_dv b t (m + 1) pos v = py_dv b t m (pos + 1) (v * 10 + b pos - 48) := by
        show (if pos < t ∧ 48 ≤ b pos ∧ b pos ≤ 57 then _ else _) = _
        rw [if_pos d]
      rw [dve]
      have e := r_here1 hx h d.1
      have bb := (h.2.2 pos d.1).2
      have dg := r_isDigit (b pos) bb M
      rw [pu_q1 d.2] at dg
      have n4 : ¬ nI n = 4 := fun q => by
        rw [show (4 : Int32) = nI 4 from rfl, nI_eq (by omega) (by omega)] at q
        omega
      have v1 : nI (10 * v + b pos) - 48 = nI (v * 10 + b pos - 48) := by
        rw [show (48 : Int32) = nI 48 from rfl, pk_sub (by omega), Nat.mul_comm]
      obtain ⟨N, a1, a2, a3, a4, a5⟩ := r_num_l m (n + 1) (pos + 1) (v * 10 + b pos - 48) (pu_wi M 71 20 (nI (pos + 1))) t3 t4 hx (py_tr_w h (by omega) (by omega)) (by omega) (by omega) (by simp [pu_wi_1])
      refine ⟨N, ⟨a1.1, fun a j q1 q2 q3 => by rw [a1.2 a j q1 q2 q3, py_wi_o (by omega)]⟩, fun j => by rw [a2 j, py_wi_o (by omega)], fun z => ⟨(a3 z).1, (a3 z).2.1, by rw [(a3 z).2.2, py_wi_o (by omega)]⟩, a4, ?_⟩
      generalize pu_q (¬ ((py_dv b t m (pos + 1) (v * 10 + b pos - 48)).2 < t ∧ 48 ≤ b (py_dv b t m (pos + 1) (v * 10 + b pos - 48)).2 ∧ b (py_dv b t m (pos + 1) (v * 10 + b pos - 48)).2 ≤ 57)) = zz at *
      rw [qX12_numberPart_4]
      simp [bX12_numberPart_4, bX12_numberPart_65, bX12_numberPart_95, bX12_numberPart_106, bX12_numberPart_107, bX12_numberPart_124, bX12_numberPart_32, a_ald, a_cs, a_cv, a_dup, a_gi, a_iadd, a_icgt, a_iclt, a_icne, a_ifeq, a_ifle, a_ild, a_imul, a_inc, a_ist, a_isub, a_pi, a_push, a_zret, sh_71, pu_rv, pu_as, Value.category, pu_bk, pu_kl, List.replicate, pu_wi_1, pu_wi_2, nl_add, nl_ladd, nl_aa, nl_mul, nl_rmul, nl_mm, pu_qe0, pu_qe1, h20, e, dg, n4, v1, a5]
      all_goals try simp (maxSteps := 400000) (disch := omega) [nl_tle, nl_fle, nl_tlt, nl_flt, nl_teq, nl_feq, nl_sub, nl_ss, nl_lt, nl_llt, nl_ltt, nl_le, nl_lle, nl_lee, nl_eq, nl_leq, nl_ee, nl_div, nl_rem, nl_cl, nl_n1, nl_n2, nl_n3, nl_n4, nl_add, nl_ladd, nl_aa, nl_mul, nl_rmul, nl_mm, pu_wi_1, pu_wi_2, bX12_numberPart_4, bX12_numberPart_65, bX12_numberPart_95, bX12_numberPart_106, bX12_numberPart_107, bX12_numberPart_124, bX12_numberPart_32, a_ald, a_cs, a_cv, a_dup, a_gi, a_iadd, a_icgt, a_iclt, a_icne, a_ifeq, a_ifle, a_ild, a_imul, a_inc, a_ist, a_isub, a_pi, a_push, a_zret, sh_71, pu_rv, pu_as, Value.category, pu_bk, pu_kl, pu_qe0, pu_qe1, h20, e, dg, n4, v1, a5]
      all_goals try simp [bX12_numberPart_4, bX12_numberPart_65, bX12_numberPart_95, bX12_numberPart_106, bX12_numberPart_107, bX12_numberPart_124, bX12_numberPart_32, a_ald, a_cs, a_cv, a_dup, a_gi, a_iadd, a_icgt, a_iclt, a_icne, a_ifeq, a_ifle, a_ild, a_imul, a_inc, a_ist, a_isub, a_pi, a_push, a_zret, sh_71, pu_rv, pu_as, Value.category, pu_bk, pu_kl, List.replicate, pu_wi_1, pu_wi_2, nl_add, nl_ladd, nl_aa, nl_mul, nl_rmul, nl_mm, pu_qe0, pu_qe1, h20, e, dg, n4, v1, a5]
      all_goals try simp (maxSteps := 400000) (disch := omega) [nl_tle, nl_fle, nl_tlt, nl_flt, nl_teq, nl_feq, nl_sub, nl_ss, nl_lt, nl_llt, nl_ltt, nl_le, nl_lle, nl_lee, nl_eq, nl_leq, nl_ee, nl_div, nl_rem, nl_cl, nl_n1, nl_n2, nl_n3, nl_n4, nl_add, nl_ladd, nl_aa, nl_mul, nl_rmul, nl_mm, pu_wi_1, pu_wi_2, bX12_numberPart_4, bX12_numberPart_65, bX12_numberPart_95, bX12_numberPart_106, bX12_numberPart_107, bX12_numberPart_124, bX12_numberPart_32, a_ald, a_cs, a_cv, a_dup, a_gi, a_iadd, a_icgt, a_iclt, a_icne, a_ifeq, a_ifle, a_ild, a_imul, a_inc, a_ist, a_isub, a_pi, a_push, a_zret, sh_71, pu_rv, pu_as, Value.category, pu_bk, pu_kl, pu_qe0, pu_qe1, h20, e, dg, n4, v1, a5]
      all_goals try simp [bX12_numberPart_4, bX12_numberPart_65, bX12_numberPart_95, bX12_numberPart_106, bX12_numberPart_107, bX12_numberPart_124, bX12_numberPart_32, a_ald, a_cs, a_cv, a_dup, a_gi, a_iadd, a_icgt, a_iclt, a_icne, a_ifeq, a_ifle, a_ild, a_imul, a_inc, a_ist, a_isub, a_pi, a_push, a_zret, sh_71, pu_rv, pu_as, Value.category, pu_bk, pu_kl, List.replicate, pu_wi_1, pu_wi_2, nl_add, nl_ladd, nl_aa, nl_mul, nl_rmul, nl_mm, pu_qe0, pu_qe1, h20, e, dg, n4, v1, a5]
      all_goals try simp (maxSteps := 400000) (disch := omega) [nl_tle, nl_fle, nl_tlt, nl_flt, nl_teq, nl_feq, nl_sub, nl_ss, nl_lt, nl_llt, nl_ltt, nl_le, nl_lle, nl_lee, nl_eq, nl_leq, nl_ee, nl_div, nl_rem, nl_cl, nl_n1, nl_n2, nl_n3, nl_n4, nl_add, nl_ladd, nl_aa, nl_mul, nl_rmul, nl_mm, pu_wi_1, pu_wi_2, bX12_numberPart_4, bX12_numberPart_65, bX12_numberPart_95, bX12_numberPart_106, bX12_numberPart_107, bX12_numberPart_124, bX12_numberPart_32, a_ald, a_cs, a_cv, a_dup, a_gi, a_iadd, a_icgt, a_iclt, a_icne, a_ifeq, a_ifle, a_ild, a_imul, a_inc, a_ist, a_isub, a_pi, a_push, a_zret, sh_71, pu_rv, pu_as, Value.category, pu_bk, pu_kl, pu_qe0, pu_qe1, h20, e, dg, n4, v1, a5]
      all_goals try simp [bX12_numberPart_4, bX12_numberPart_65, bX12_numberPart_95, bX12_numberPart_106, bX12_numberPart_107, bX12_numberPart_124, bX12_numberPart_32, a_ald, a_cs, a_cv, a_dup, a_gi, a_iadd, a_icgt, a_iclt, a_icne, a_ifeq, a_ifle, a_ild, a_imul, a_inc, a_ist, a_isub, a_pi, a_push, a_zret, sh_71, pu_rv, pu_as, Value.category, pu_bk, pu_kl, List.replicate, pu_wi_1, pu_wi_2, nl_add, nl_ladd, nl_aa, nl_mul, nl_rmul, nl_mm, pu_qe0, pu_qe1, h20, e, dg, n4, v1, a5]
    · have dve : py_dv b t (m + 1) pos v = (v, pos) := by
        show (if pos < t ∧ 48 ≤ b pos ∧ b pos ≤ 57 then _ else _) = _
        rw [if_neg d]
      rw [dve]
      obtain ⟨N, a1, a2, a3, a4, a5, a6⟩ := r_num_e M hx h (p := pos) (v := v) hp h20 (nI n) t3 t4 d
      refine ⟨N, a1, a2, fun _ => ⟨a3, a4, a5⟩, fun z => absurd z d, ?_⟩
      rw [pu_q1 d]
      exact a6
/-- what a wanted text leaves -/
def py_mf (b : Nat → Nat) (t : Nat) : List Nat → Nat → pu_M → pu_M
  | [], _, M => M
  | c :: cs, pos, M => if pos < t ∧ b pos = c then py_mf b t cs (pos + 1) (pu_wi M 71 20 (nI (pos + 1))) else pu_wi M 72 15 (nI pos)
theorem py_mf_p (b : Nat → Nat) (t : Nat) : ∀ (cs : List Nat) (pos : Nat) (M : pu_M), M.1 71 20 = nI pos → (py_mf b t cs pos M).2 = M.2 ∧ (∀ a j, ¬ (a = 71 ∧ j = 20) → ¬ (a = 72 ∧ j = 15) → (py_mf b t cs pos M).1 a j = M.1 a j) ∧ (py_mo b t cs pos = true → (py_mf b t cs pos M).1 71 20 = nI (py_mq b t cs pos) ∧ (py_mf b t cs pos M).1 72 15 = M.1 72 15) ∧ (¬ py_mo b t cs pos = true → (py_mf b t cs pos M).1 72 15 = nI (py_mq b t cs pos))
  | [], pos, M, h => ⟨rfl, fun _ _ _ _ => rfl, fun _ => ⟨h, rfl⟩, fun z => absurd rfl z⟩
  | c :: cs, pos, M, h => by
    unfold py_mf py_mo py_mq
    by_cases z : pos < t ∧ b pos = c
    · rw [if_pos z, if_pos z, if_pos z]
      obtain ⟨a1, a2, a3, a4⟩ := py_mf_p b t cs (pos + 1) (pu_wi M 71 20 (nI (pos + 1))) (by simp [pu_wi_1])
      exact ⟨a1, fun a j q1 q2 => by rw [a2 a j q1 q2, py_wi_o q1], fun y => ⟨(a3 y).1, by rw [(a3 y).2, py_wi_o (by omega)]⟩, a4⟩
    · rw [if_neg z, if_neg z, if_neg z]
      exact ⟨rfl, fun a j q1 q2 => py_wi_o q2, fun y => absurd y (by decide), fun _ => by simp [pu_wi_1]⟩
theorem r_court {M : pu_M} (hx : pu_fx M) (h : py_tr M b t) {pos : Nat} (hp : pos ≤ t) (h20 : M.1 71 20 = nI pos) : pu_r 310 [some (.ref 71)] [] M = some (some (.int (pu_q (py_mo b t [99, 111, 117, 114, 116, 32] pos = true))), py_mf b t [99, 111, 117, 114, 116, 32] pos M) := by
  rcases r_must hx h (pos := pos) (by omega) h20 99 (by omega) with ⟨c0, d0, e0⟩ | ⟨c0, e0⟩
  rotate_left
  · rw [show nI 99 = (99 : Int32) from rfl] at e0
    have m0 : py_mo b t [99, 111, 117, 114, 116, 32] pos = false := by simp [py_mo, c0]
    have m1 : py_mf b t [99, 111, 117, 114, 116, 32] pos M = pu_wi M 72 15 (nI pos) := by simp [py_mf, c0]
    rw [m0, m1, pu_q0 (by decide)]
    rw [qX12_court]
    simp [a_ent, bX12_court_0, bX12_court_58, bX12_court_59, bX12_court_54, a_ald, a_cv, a_ifeq, a_push, a_zret, sh_71, pu_rv, pu_as, Value.category, pu_bk, pu_kl, List.replicate, pu_wi_1, pu_wi_2, nl_add, nl_ladd, nl_aa, nl_mul, nl_rmul, nl_mm, pu_qe0, pu_qe1, e0]
    all_goals try simp (maxSteps := 400000) (disch := omega) [nl_tle, nl_fle, nl_tlt, nl_flt, nl_teq, nl_feq, nl_sub, nl_ss, nl_lt, nl_llt, nl_ltt, nl_le, nl_lle, nl_lee, nl_eq, nl_leq, nl_ee, nl_div, nl_rem, nl_cl, nl_n1, nl_n2, nl_n3, nl_n4, nl_add, nl_ladd, nl_aa, nl_mul, nl_rmul, nl_mm, pu_wi_1, pu_wi_2, bX12_court_0, bX12_court_58, bX12_court_59, bX12_court_54, a_ald, a_cv, a_ifeq, a_push, a_zret, sh_71, pu_rv, pu_as, Value.category, pu_bk, pu_kl, pu_qe0, pu_qe1, e0]
    all_goals try simp [bX12_court_0, bX12_court_58, bX12_court_59, bX12_court_54, a_ald, a_cv, a_ifeq, a_push, a_zret, sh_71, pu_rv, pu_as, Value.category, pu_bk, pu_kl, List.replicate, pu_wi_1, pu_wi_2, nl_add, nl_ladd, nl_aa, nl_mul, nl_rmul, nl_mm, pu_qe0, pu_qe1, e0]
    all_goals try simp (maxSteps := 400000) (disch := omega) [nl_tle, nl_fle, nl_tlt, nl_flt, nl_teq, nl_feq, nl_sub, nl_ss, nl_lt, nl_llt, nl_ltt, nl_le, nl_lle, nl_lee, nl_eq, nl_leq, nl_ee, nl_div, nl_rem, nl_cl, nl_n1, nl_n2, nl_n3, nl_n4, nl_add, nl_ladd, nl_aa, nl_mul, nl_rmul, nl_mm, pu_wi_1, pu_wi_2, bX12_court_0, bX12_court_58, bX12_court_59, bX12_court_54, a_ald, a_cv, a_ifeq, a_push, a_zret, sh_71, pu_rv, pu_as, Value.category, pu_bk, pu_kl, pu_qe0, pu_qe1, e0]
    all_goals try simp [bX12_court_0, bX12_court_58, bX12_court_59, bX12_court_54, a_ald, a_cv, a_ifeq, a_push, a_zret, sh_71, pu_rv, pu_as, Value.category, pu_bk, pu_kl, List.replicate, pu_wi_1, pu_wi_2, nl_add, nl_ladd, nl_aa, nl_mul, nl_rmul, nl_mm, pu_qe0, pu_qe1, e0]
    all_goals try simp (maxSteps := 400000) (disch := omega) [nl_tle, nl_fle, nl_tlt, nl_flt, nl_teq, nl_feq, nl_sub, nl_ss, nl_lt, nl_llt, nl_ltt, nl_le, nl_lle, nl_lee, nl_eq, nl_leq, nl_ee, nl_div, nl_rem, nl_cl, nl_n1, nl_n2, nl_n3, nl_n4, nl_add, nl_ladd, nl_aa, nl_mul, nl_rmul, nl_mm, pu_wi_1, pu_wi_2, bX12_court_0, bX12_court_58, bX12_court_59, bX12_court_54, a_ald, a_cv, a_ifeq, a_push, a_zret, sh_71, pu_rv, pu_as, Value.category, pu_bk, pu_kl, pu_qe0, pu_qe1, e0]
    all_goals try simp [bX12_court_0, bX12_court_58, bX12_court_59, bX12_court_54, a_ald, a_cv, a_ifeq, a_push, a_zret, sh_71, pu_rv, pu_as, Value.category, pu_bk, pu_kl, List.replicate, pu_wi_1, pu_wi_2, nl_add, nl_ladd, nl_aa, nl_mul, nl_rmul, nl_mm, pu_qe0, pu_qe1, e0]
  rw [show nI 99 = (99 : Int32) from rfl] at e0
  have K0 : pos < t ∧ b pos = 99 := ⟨c0, d0⟩
  have x1 : pu_fx (pu_wi M 71 20 (nI (pos + 1))) := hx
  have t1 : py_tr (pu_wi M 71 20 (nI (pos + 1))) b t := py_tr_w h (by omega) (by omega)
  have p1 : (pu_wi M 71 20 (nI (pos + 1))).1 71 20 = nI (pos + 1) := by simp [pu_wi_1]
  generalize hQ1 : pu_wi M 71 20 (nI (pos + 1)) = Q1 at *
  rcases r_must x1 t1 (pos := (pos + 1)) (by omega) p1 111 (by omega) with ⟨c1, d1, e1⟩ | ⟨c1, e1⟩
  rotate_left
  · rw [show nI 111 = (111 : Int32) from rfl] at e1
    have m0 : py_mo b t [99, 111, 117, 114, 116, 32] pos = false := by simp [py_mo, K0, c1]
    have m1 : py_mf b t [99, 111, 117, 114, 116, 32] pos M = pu_wi Q1 72 15 (nI (pos + 1)) := by simp [py_mf, K0, c1, hQ1]
    rw [m0, m1, pu_q0 (by decide)]
    rw [qX12_court]
    simp [a_ent, bX12_court_0, bX12_court_58, bX12_court_59, bX12_court_54, a_ald, a_cv, a_ifeq, a_push, a_zret, sh_71, pu_rv, pu_as, Value.category, pu_bk, pu_kl, List.replicate, pu_wi_1, pu_wi_2, nl_add, nl_ladd, nl_aa, nl_mul, nl_rmul, nl_mm, pu_qe0, pu_qe1, e0, e1]
    all_goals try simp (maxSteps := 400000) (disch := omega) [nl_tle, nl_fle, nl_tlt, nl_flt, nl_teq, nl_feq, nl_sub, nl_ss, nl_lt, nl_llt, nl_ltt, nl_le, nl_lle, nl_lee, nl_eq, nl_leq, nl_ee, nl_div, nl_rem, nl_cl, nl_n1, nl_n2, nl_n3, nl_n4, nl_add, nl_ladd, nl_aa, nl_mul, nl_rmul, nl_mm, pu_wi_1, pu_wi_2, bX12_court_0, bX12_court_58, bX12_court_59, bX12_court_54, a_ald, a_cv, a_ifeq, a_push, a_zret, sh_71, pu_rv, pu_as, Value.category, pu_bk, pu_kl, pu_qe0, pu_qe1, e0, e1]
    all_goals try simp [bX12_court_0, bX12_court_58, bX12_court_59, bX12_court_54, a_ald, a_cv, a_ifeq, a_push, a_zret, sh_71, pu_rv, pu_as, Value.category, pu_bk, pu_kl, List.replicate, pu_wi_1, pu_wi_2, nl_add, nl_ladd, nl_aa, nl_mul, nl_rmul, nl_mm, pu_qe0, pu_qe1, e0, e1]
    all_goals try simp (maxSteps := 400000) (disch := omega) [nl_tle, nl_fle, nl_tlt, nl_flt, nl_teq, nl_feq, nl_sub, nl_ss, nl_lt, nl_llt, nl_ltt, nl_le, nl_lle, nl_lee, nl_eq, nl_leq, nl_ee, nl_div, nl_rem, nl_cl, nl_n1, nl_n2, nl_n3, nl_n4, nl_add, nl_ladd, nl_aa, nl_mul, nl_rmul, nl_mm, pu_wi_1, pu_wi_2, bX12_court_0, bX12_court_58, bX12_court_59, bX12_court_54, a_ald, a_cv, a_ifeq, a_push, a_zret, sh_71, pu_rv, pu_as, Value.category, pu_bk, pu_kl, pu_qe0, pu_qe1, e0, e1]
    all_goals try simp [bX12_court_0, bX12_court_58, bX12_court_59, bX12_court_54, a_ald, a_cv, a_ifeq, a_push, a_zret, sh_71, pu_rv, pu_as, Value.category, pu_bk, pu_kl, List.replicate, pu_wi_1, pu_wi_2, nl_add, nl_ladd, nl_aa, nl_mul, nl_rmul, nl_mm, pu_qe0, pu_qe1, e0, e1]
    all_goals try simp (maxSteps := 400000) (disch := omega) [nl_tle, nl_fle, nl_tlt, nl_flt, nl_teq, nl_feq, nl_sub, nl_ss, nl_lt, nl_llt, nl_ltt, nl_le, nl_lle, nl_lee, nl_eq, nl_leq, nl_ee, nl_div, nl_rem, nl_cl, nl_n1, nl_n2, nl_n3, nl_n4, nl_add, nl_ladd, nl_aa, nl_mul, nl_rmul, nl_mm, pu_wi_1, pu_wi_2, bX12_court_0, bX12_court_58, bX12_court_59, bX12_court_54, a_ald, a_cv, a_ifeq, a_push, a_zret, sh_71, pu_rv, pu_as, Value.category, pu_bk, pu_kl, pu_qe0, pu_qe1, e0, e1]
    all_goals try simp [bX12_court_0, bX12_court_58, bX12_court_59, bX12_court_54, a_ald, a_cv, a_ifeq, a_push, a_zret, sh_71, pu_rv, pu_as, Value.category, pu_bk, pu_kl, List.replicate, pu_wi_1, pu_wi_2, nl_add, nl_ladd, nl_aa, nl_mul, nl_rmul, nl_mm, pu_qe0, pu_qe1, e0, e1]
  rw [show nI 111 = (111 : Int32) from rfl] at e1
  have K1 : pos + 1 < t ∧ b (pos + 1) = 111 := ⟨c1, d1⟩
  have x2 : pu_fx (pu_wi Q1 71 20 (nI (pos + 1 + 1))) := x1
  have t2 : py_tr (pu_wi Q1 71 20 (nI (pos + 1 + 1))) b t := py_tr_w t1 (by omega) (by omega)
  have p2 : (pu_wi Q1 71 20 (nI (pos + 1 + 1))).1 71 20 = nI (pos + 2) := by simp [pu_wi_1]
  generalize hQ2 : pu_wi Q1 71 20 (nI (pos + 1 + 1)) = Q2 at *
  rcases r_must x2 t2 (pos := (pos + 2)) (by omega) p2 117 (by omega) with ⟨c2, d2, e2⟩ | ⟨c2, e2⟩
  rotate_left
  · rw [show nI 117 = (117 : Int32) from rfl] at e2
    have m0 : py_mo b t [99, 111, 117, 114, 116, 32] pos = false := by simp [py_mo, K0, K1, c2]
    have m1 : py_mf b t [99, 111, 117, 114, 116, 32] pos M = pu_wi Q2 72 15 (nI (pos + 2)) := by simp [py_mf, K0, K1, c2, hQ1, hQ2]
    rw [m0, m1, pu_q0 (by decide)]
    rw [qX12_court]
    simp [a_ent, bX12_court_0, bX12_court_58, bX12_court_59, bX12_court_54, a_ald, a_cv, a_ifeq, a_push, a_zret, sh_71, pu_rv, pu_as, Value.category, pu_bk, pu_kl, List.replicate, pu_wi_1, pu_wi_2, nl_add, nl_ladd, nl_aa, nl_mul, nl_rmul, nl_mm, pu_qe0, pu_qe1, e0, e1, e2]
    all_goals try simp (maxSteps := 400000) (disch := omega) [nl_tle, nl_fle, nl_tlt, nl_flt, nl_teq, nl_feq, nl_sub, nl_ss, nl_lt, nl_llt, nl_ltt, nl_le, nl_lle, nl_lee, nl_eq, nl_leq, nl_ee, nl_div, nl_rem, nl_cl, nl_n1, nl_n2, nl_n3, nl_n4, nl_add, nl_ladd, nl_aa, nl_mul, nl_rmul, nl_mm, pu_wi_1, pu_wi_2, bX12_court_0, bX12_court_58, bX12_court_59, bX12_court_54, a_ald, a_cv, a_ifeq, a_push, a_zret, sh_71, pu_rv, pu_as, Value.category, pu_bk, pu_kl, pu_qe0, pu_qe1, e0, e1, e2]
    all_goals try simp [bX12_court_0, bX12_court_58, bX12_court_59, bX12_court_54, a_ald, a_cv, a_ifeq, a_push, a_zret, sh_71, pu_rv, pu_as, Value.category, pu_bk, pu_kl, List.replicate, pu_wi_1, pu_wi_2, nl_add, nl_ladd, nl_aa, nl_mul, nl_rmul, nl_mm, pu_qe0, pu_qe1, e0, e1, e2]
    all_goals try simp (maxSteps := 400000) (disch := omega) [nl_tle, nl_fle, nl_tlt, nl_flt, nl_teq, nl_feq, nl_sub, nl_ss, nl_lt, nl_llt, nl_ltt, nl_le, nl_lle, nl_lee, nl_eq, nl_leq, nl_ee, nl_div, nl_rem, nl_cl, nl_n1, nl_n2, nl_n3, nl_n4, nl_add, nl_ladd, nl_aa, nl_mul, nl_rmul, nl_mm, pu_wi_1, pu_wi_2, bX12_court_0, bX12_court_58, bX12_court_59, bX12_court_54, a_ald, a_cv, a_ifeq, a_push, a_zret, sh_71, pu_rv, pu_as, Value.category, pu_bk, pu_kl, pu_qe0, pu_qe1, e0, e1, e2]
    all_goals try simp [bX12_court_0, bX12_court_58, bX12_court_59, bX12_court_54, a_ald, a_cv, a_ifeq, a_push, a_zret, sh_71, pu_rv, pu_as, Value.category, pu_bk, pu_kl, List.replicate, pu_wi_1, pu_wi_2, nl_add, nl_ladd, nl_aa, nl_mul, nl_rmul, nl_mm, pu_qe0, pu_qe1, e0, e1, e2]
    all_goals try simp (maxSteps := 400000) (disch := omega) [nl_tle, nl_fle, nl_tlt, nl_flt, nl_teq, nl_feq, nl_sub, nl_ss, nl_lt, nl_llt, nl_ltt, nl_le, nl_lle, nl_lee, nl_eq, nl_leq, nl_ee, nl_div, nl_rem, nl_cl, nl_n1, nl_n2, nl_n3, nl_n4, nl_add, nl_ladd, nl_aa, nl_mul, nl_rmul, nl_mm, pu_wi_1, pu_wi_2, bX12_court_0, bX12_court_58, bX12_court_59, bX12_court_54, a_ald, a_cv, a_ifeq, a_push, a_zret, sh_71, pu_rv, pu_as, Value.category, pu_bk, pu_kl, pu_qe0, pu_qe1, e0, e1, e2]
    all_goals try simp [bX12_court_0, bX12_court_58, bX12_court_59, bX12_court_54, a_ald, a_cv, a_ifeq, a_push, a_zret, sh_71, pu_rv, pu_as, Value.category, pu_bk, pu_kl, List.replicate, pu_wi_1, pu_wi_2, nl_add, nl_ladd, nl_aa, nl_mul, nl_rmul, nl_mm, pu_qe0, pu_qe1, e0, e1, e2]
  rw [show nI 117 = (117 : Int32) from rfl] at e2
  have K2 : pos + 2 < t ∧ b (pos + 2) = 117 := ⟨c2, d2⟩
  have x3 : pu_fx (pu_wi Q2 71 20 (nI (pos + 2 + 1))) := x2
  have t3 : py_tr (pu_wi Q2 71 20 (nI (pos + 2 + 1))) b t := py_tr_w t2 (by omega) (by omega)
  have p3 : (pu_wi Q2 71 20 (nI (pos + 2 + 1))).1 71 20 = nI (pos + 3) := by simp [pu_wi_1]
  generalize hQ3 : pu_wi Q2 71 20 (nI (pos + 2 + 1)) = Q3 at *
  rcases r_must x3 t3 (pos := (pos + 3)) (by omega) p3 114 (by omega) with ⟨c3, d3, e3⟩ | ⟨c3, e3⟩
  rotate_left
  · rw [show nI 114 = (114 : Int32) from rfl] at e3
    have m0 : py_mo b t [99, 111, 117, 114, 116, 32] pos = false := by simp [py_mo, K0, K1, K2, c3]
    have m1 : py_mf b t [99, 111, 117, 114, 116, 32] pos M = pu_wi Q3 72 15 (nI (pos + 3)) := by simp [py_mf, K0, K1, K2, c3, hQ1, hQ2, hQ3]
    rw [m0, m1, pu_q0 (by decide)]
    rw [qX12_court]
    simp [a_ent, bX12_court_0, bX12_court_58, bX12_court_59, bX12_court_54, a_ald, a_cv, a_ifeq, a_push, a_zret, sh_71, pu_rv, pu_as, Value.category, pu_bk, pu_kl, List.replicate, pu_wi_1, pu_wi_2, nl_add, nl_ladd, nl_aa, nl_mul, nl_rmul, nl_mm, pu_qe0, pu_qe1, e0, e1, e2, e3]
    all_goals try simp (maxSteps := 400000) (disch := omega) [nl_tle, nl_fle, nl_tlt, nl_flt, nl_teq, nl_feq, nl_sub, nl_ss, nl_lt, nl_llt, nl_ltt, nl_le, nl_lle, nl_lee, nl_eq, nl_leq, nl_ee, nl_div, nl_rem, nl_cl, nl_n1, nl_n2, nl_n3, nl_n4, nl_add, nl_ladd, nl_aa, nl_mul, nl_rmul, nl_mm, pu_wi_1, pu_wi_2, bX12_court_0, bX12_court_58, bX12_court_59, bX12_court_54, a_ald, a_cv, a_ifeq, a_push, a_zret, sh_71, pu_rv, pu_as, Value.category, pu_bk, pu_kl, pu_qe0, pu_qe1, e0, e1, e2, e3]
    all_goals try simp [bX12_court_0, bX12_court_58, bX12_court_59, bX12_court_54, a_ald, a_cv, a_ifeq, a_push, a_zret, sh_71, pu_rv, pu_as, Value.category, pu_bk, pu_kl, List.replicate, pu_wi_1, pu_wi_2, nl_add, nl_ladd, nl_aa, nl_mul, nl_rmul, nl_mm, pu_qe0, pu_qe1, e0, e1, e2, e3]
    all_goals try simp (maxSteps := 400000) (disch := omega) [nl_tle, nl_fle, nl_tlt, nl_flt, nl_teq, nl_feq, nl_sub, nl_ss, nl_lt, nl_llt, nl_ltt, nl_le, nl_lle, nl_lee, nl_eq, nl_leq, nl_ee, nl_div, nl_rem, nl_cl, nl_n1, nl_n2, nl_n3, nl_n4, nl_add, nl_ladd, nl_aa, nl_mul, nl_rmul, nl_mm, pu_wi_1, pu_wi_2, bX12_court_0, bX12_court_58, bX12_court_59, bX12_court_54, a_ald, a_cv, a_ifeq, a_push, a_zret, sh_71, pu_rv, pu_as, Value.category, pu_bk, pu_kl, pu_qe0, pu_qe1, e0, e1, e2, e3]
    all_goals try simp [bX12_court_0, bX12_court_58, bX12_court_59, bX12_court_54, a_ald, a_cv, a_ifeq, a_push, a_zret, sh_71, pu_rv, pu_as, Value.category, pu_bk, pu_kl, List.replicate, pu_wi_1, pu_wi_2, nl_add, nl_ladd, nl_aa, nl_mul, nl_rmul, nl_mm, pu_qe0, pu_qe1, e0, e1, e2, e3]
    all_goals try simp (maxSteps := 400000) (disch := omega) [nl_tle, nl_fle, nl_tlt, nl_flt, nl_teq, nl_feq, nl_sub, nl_ss, nl_lt, nl_llt, nl_ltt, nl_le, nl_lle, nl_lee, nl_eq, nl_leq, nl_ee, nl_div, nl_rem, nl_cl, nl_n1, nl_n2, nl_n3, nl_n4, nl_add, nl_ladd, nl_aa, nl_mul, nl_rmul, nl_mm, pu_wi_1, pu_wi_2, bX12_court_0, bX12_court_58, bX12_court_59, bX12_court_54, a_ald, a_cv, a_ifeq, a_push, a_zret, sh_71, pu_rv, pu_as, Value.category, pu_bk, pu_kl, pu_qe0, pu_qe1, e0, e1, e2, e3]
    all_goals try simp [bX12_court_0, bX12_court_58, bX12_court_59, bX12_court_54, a_ald, a_cv, a_ifeq, a_push, a_zret, sh_71, pu_rv, pu_as, Value.category, pu_bk, pu_kl, List.replicate, pu_wi_1, pu_wi_2, nl_add, nl_ladd, nl_aa, nl_mul, nl_rmul, nl_mm, pu_qe0, pu_qe1, e0, e1, e2, e3]
  rw [show nI 114 = (114 : Int32) from rfl] at e3
  have K3 : pos + 3 < t ∧ b (pos + 3) = 114 := ⟨c3, d3⟩
  have x4 : pu_fx (pu_wi Q3 71 20 (nI (pos + 3 + 1))) := x3
  have t4 : py_tr (pu_wi Q3 71 20 (nI (pos + 3 + 1))) b t := py_tr_w t3 (by omega) (by omega)
  have p4 : (pu_wi Q3 71 20 (nI (pos + 3 + 1))).1 71 20 = nI (pos + 4) := by simp [pu_wi_1]
  generalize hQ4 : pu_wi Q3 71 20 (nI (pos + 3 + 1)) = Q4 at *
  rcases r_must x4 t4 (pos := (pos + 4)) (by omega) p4 116 (by omega) with ⟨c4, d4, e4⟩ | ⟨c4, e4⟩
  rotate_left
  · rw [show nI 116 = (116 : Int32) from rfl] at e4
    have m0 : py_mo b t [99, 111, 117, 114, 116, 32] pos = false := by simp [py_mo, K0, K1, K2, K3, c4]
    have m1 : py_mf b t [99, 111, 117, 114, 116, 32] pos M = pu_wi Q4 72 15 (nI (pos + 4)) := by simp [py_mf, K0, K1, K2, K3, c4, hQ1, hQ2, hQ3, hQ4]
    rw [m0, m1, pu_q0 (by decide)]
    rw [qX12_court]
    simp [a_ent, bX12_court_0, bX12_court_58, bX12_court_59, bX12_court_54, a_ald, a_cv, a_ifeq, a_push, a_zret, sh_71, pu_rv, pu_as, Value.category, pu_bk, pu_kl, List.replicate, pu_wi_1, pu_wi_2, nl_add, nl_ladd, nl_aa, nl_mul, nl_rmul, nl_mm, pu_qe0, pu_qe1, e0, e1, e2, e3, e4]
    all_goals try simp (maxSteps := 400000) (disch := omega) [nl_tle, nl_fle, nl_tlt, nl_flt, nl_teq, nl_feq, nl_sub, nl_ss, nl_lt, nl_llt, nl_ltt, nl_le, nl_lle, nl_lee, nl_eq, nl_leq, nl_ee, nl_div, nl_rem, nl_cl, nl_n1, nl_n2, nl_n3, nl_n4, nl_add, nl_ladd, nl_aa, nl_mul, nl_rmul, nl_mm, pu_wi_1, pu_wi_2, bX12_court_0, bX12_court_58, bX12_court_59, bX12_court_54, a_ald, a_cv, a_ifeq, a_push, a_zret, sh_71, pu_rv, pu_as, Value.category, pu_bk, pu_kl, pu_qe0, pu_qe1, e0, e1, e2, e3, e4]
    all_goals try simp [bX12_court_0, bX12_court_58, bX12_court_59, bX12_court_54, a_ald, a_cv, a_ifeq, a_push, a_zret, sh_71, pu_rv, pu_as, Value.category, pu_bk, pu_kl, List.replicate, pu_wi_1, pu_wi_2, nl_add, nl_ladd, nl_aa, nl_mul, nl_rmul, nl_mm, pu_qe0, pu_qe1, e0, e1, e2, e3, e4]
    all_goals try simp (maxSteps := 400000) (disch := omega) [nl_tle, nl_fle, nl_tlt, nl_flt, nl_teq, nl_feq, nl_sub, nl_ss, nl_lt, nl_llt, nl_ltt, nl_le, nl_lle, nl_lee, nl_eq, nl_leq, nl_ee, nl_div, nl_rem, nl_cl, nl_n1, nl_n2, nl_n3, nl_n4, nl_add, nl_ladd, nl_aa, nl_mul, nl_rmul, nl_mm, pu_wi_1, pu_wi_2, bX12_court_0, bX12_court_58, bX12_court_59, bX12_court_54, a_ald, a_cv, a_ifeq, a_push, a_zret, sh_71, pu_rv, pu_as, Value.category, pu_bk, pu_kl, pu_qe0, pu_qe1, e0, e1, e2, e3, e4]
    all_goals try simp [bX12_court_0, bX12_court_58, bX12_court_59, bX12_court_54, a_ald, a_cv, a_ifeq, a_push, a_zret, sh_71, pu_rv, pu_as, Value.category, pu_bk, pu_kl, List.replicate, pu_wi_1, pu_wi_2, nl_add, nl_ladd, nl_aa, nl_mul, nl_rmul, nl_mm, pu_qe0, pu_qe1, e0, e1, e2, e3, e4]
    all_goals try simp (maxSteps := 400000) (disch := omega) [nl_tle, nl_fle, nl_tlt, nl_flt, nl_teq, nl_feq, nl_sub, nl_ss, nl_lt, nl_llt, nl_ltt, nl_le, nl_lle, nl_lee, nl_eq, nl_leq, nl_ee, nl_div, nl_rem, nl_cl, nl_n1, nl_n2, nl_n3, nl_n4, nl_add, nl_ladd, nl_aa, nl_mul, nl_rmul, nl_mm, pu_wi_1, pu_wi_2, bX12_court_0, bX12_court_58, bX12_court_59, bX12_court_54, a_ald, a_cv, a_ifeq, a_push, a_zret, sh_71, pu_rv, pu_as, Value.category, pu_bk, pu_kl, pu_qe0, pu_qe1, e0, e1, e2, e3, e4]
    all_goals try simp [bX12_court_0, bX12_court_58, bX12_court_59, bX12_court_54, a_ald, a_cv, a_ifeq, a_push, a_zret, sh_71, pu_rv, pu_as, Value.category, pu_bk, pu_kl, List.replicate, pu_wi_1, pu_wi_2, nl_add, nl_ladd, nl_aa, nl_mul, nl_rmul, nl_mm, pu_qe0, pu_qe1, e0, e1, e2, e3, e4]
  rw [show nI 116 = (116 : Int32) from rfl] at e4
  have K4 : pos + 4 < t ∧ b (pos + 4) = 116 := ⟨c4, d4⟩
  have x5 : pu_fx (pu_wi Q4 71 20 (nI (pos + 4 + 1))) := x4
  have t5 : py_tr (pu_wi Q4 71 20 (nI (pos + 4 + 1))) b t := py_tr_w t4 (by omega) (by omega)
  have p5 : (pu_wi Q4 71 20 (nI (pos + 4 + 1))).1 71 20 = nI (pos + 5) := by simp [pu_wi_1]
  generalize hQ5 : pu_wi Q4 71 20 (nI (pos + 4 + 1)) = Q5 at *
  rcases r_must x5 t5 (pos := (pos + 5)) (by omega) p5 32 (by omega) with ⟨c5, d5, e5⟩ | ⟨c5, e5⟩
  rotate_left
  · rw [show nI 32 = (32 : Int32) from rfl] at e5
    have m0 : py_mo b t [99, 111, 117, 114, 116, 32] pos = false := by simp [py_mo, K0, K1, K2, K3, K4, c5]
    have m1 : py_mf b t [99, 111, 117, 114, 116, 32] pos M = pu_wi Q5 72 15 (nI (pos + 5)) := by simp [py_mf, K0, K1, K2, K3, K4, c5, hQ1, hQ2, hQ3, hQ4, hQ5]
    rw [m0, m1, pu_q0 (by decide)]
    rw [qX12_court]
    simp [a_ent, bX12_court_0, bX12_court_58, bX12_court_59, bX12_court_54, a_ald, a_cv, a_ifeq, a_push, a_zret, sh_71, pu_rv, pu_as, Value.category, pu_bk, pu_kl, List.replicate, pu_wi_1, pu_wi_2, nl_add, nl_ladd, nl_aa, nl_mul, nl_rmul, nl_mm, pu_qe0, pu_qe1, e0, e1, e2, e3, e4, e5]
    all_goals try simp (maxSteps := 400000) (disch := omega) [nl_tle, nl_fle, nl_tlt, nl_flt, nl_teq, nl_feq, nl_sub, nl_ss, nl_lt, nl_llt, nl_ltt, nl_le, nl_lle, nl_lee, nl_eq, nl_leq, nl_ee, nl_div, nl_rem, nl_cl, nl_n1, nl_n2, nl_n3, nl_n4, nl_add, nl_ladd, nl_aa, nl_mul, nl_rmul, nl_mm, pu_wi_1, pu_wi_2, bX12_court_0, bX12_court_58, bX12_court_59, bX12_court_54, a_ald, a_cv, a_ifeq, a_push, a_zret, sh_71, pu_rv, pu_as, Value.category, pu_bk, pu_kl, pu_qe0, pu_qe1, e0, e1, e2, e3, e4, e5]
    all_goals try simp [bX12_court_0, bX12_court_58, bX12_court_59, bX12_court_54, a_ald, a_cv, a_ifeq, a_push, a_zret, sh_71, pu_rv, pu_as, Value.category, pu_bk, pu_kl, List.replicate, pu_wi_1, pu_wi_2, nl_add, nl_ladd, nl_aa, nl_mul, nl_rmul, nl_mm, pu_qe0, pu_qe1, e0, e1, e2, e3, e4, e5]
    all_goals try simp (maxSteps := 400000) (disch := omega) [nl_tle, nl_fle, nl_tlt, nl_flt, nl_teq, nl_feq, nl_sub, nl_ss, nl_lt, nl_llt, nl_ltt, nl_le, nl_lle, nl_lee, nl_eq, nl_leq, nl_ee, nl_div, nl_rem, nl_cl, nl_n1, nl_n2, nl_n3, nl_n4, nl_add, nl_ladd, nl_aa, nl_mul, nl_rmul, nl_mm, pu_wi_1, pu_wi_2, bX12_court_0, bX12_court_58, bX12_court_59, bX12_court_54, a_ald, a_cv, a_ifeq, a_push, a_zret, sh_71, pu_rv, pu_as, Value.category, pu_bk, pu_kl, pu_qe0, pu_qe1, e0, e1, e2, e3, e4, e5]
    all_goals try simp [bX12_court_0, bX12_court_58, bX12_court_59, bX12_court_54, a_ald, a_cv, a_ifeq, a_push, a_zret, sh_71, pu_rv, pu_as, Value.category, pu_bk, pu_kl, List.replicate, pu_wi_1, pu_wi_2, nl_add, nl_ladd, nl_aa, nl_mul, nl_rmul, nl_mm, pu_qe0, pu_qe1, e0, e1, e2, e3, e4, e5]
    all_goals try simp (maxSteps := 400000) (disch := omega) [nl_tle, nl_fle, nl_tlt, nl_flt, nl_teq, nl_feq, nl_sub, nl_ss, nl_lt, nl_llt, nl_ltt, nl_le, nl_lle, nl_lee, nl_eq, nl_leq, nl_ee, nl_div, nl_rem, nl_cl, nl_n1, nl_n2, nl_n3, nl_n4, nl_add, nl_ladd, nl_aa, nl_mul, nl_rmul, nl_mm, pu_wi_1, pu_wi_2, bX12_court_0, bX12_court_58, bX12_court_59, bX12_court_54, a_ald, a_cv, a_ifeq, a_push, a_zret, sh_71, pu_rv, pu_as, Value.category, pu_bk, pu_kl, pu_qe0, pu_qe1, e0, e1, e2, e3, e4, e5]
    all_goals try simp [bX12_court_0, bX12_court_58, bX12_court_59, bX12_court_54, a_ald, a_cv, a_ifeq, a_push, a_zret, sh_71, pu_rv, pu_as, Value.category, pu_bk, pu_kl, List.replicate, pu_wi_1, pu_wi_2, nl_add, nl_ladd, nl_aa, nl_mul, nl_rmul, nl_mm, pu_qe0, pu_qe1, e0, e1, e2, e3, e4, e5]
  rw [show nI 32 = (32 : Int32) from rfl] at e5
  have K5 : pos + 5 < t ∧ b (pos + 5) = 32 := ⟨c5, d5⟩
  have x6 : pu_fx (pu_wi Q5 71 20 (nI (pos + 5 + 1))) := x5
  have t6 : py_tr (pu_wi Q5 71 20 (nI (pos + 5 + 1))) b t := py_tr_w t5 (by omega) (by omega)
  have p6 : (pu_wi Q5 71 20 (nI (pos + 5 + 1))).1 71 20 = nI (pos + 6) := by simp [pu_wi_1]
  generalize hQ6 : pu_wi Q5 71 20 (nI (pos + 5 + 1)) = Q6 at *
  have m0 : py_mo b t [99, 111, 117, 114, 116, 32] pos = true := by simp [py_mo, K0, K1, K2, K3, K4, K5]
  have m1 : py_mf b t [99, 111, 117, 114, 116, 32] pos M = Q6 := by simp [py_mf, K0, K1, K2, K3, K4, K5, hQ1, hQ2, hQ3, hQ4, hQ5, hQ6]
  rw [m0, m1, pu_q1 rfl]
  rw [qX12_court]
  simp [a_ent, bX12_court_0, bX12_court_58, bX12_court_59, bX12_court_54, a_ald, a_cv, a_ifeq, a_push, a_zret, sh_71, pu_rv, pu_as, Value.category, pu_bk, pu_kl, List.replicate, pu_wi_1, pu_wi_2, nl_add, nl_ladd, nl_aa, nl_mul, nl_rmul, nl_mm, pu_qe0, pu_qe1, e0, e1, e2, e3, e4, e5]
  all_goals try simp (maxSteps := 400000) (disch := omega) [nl_tle, nl_fle, nl_tlt, nl_flt, nl_teq, nl_feq, nl_sub, nl_ss, nl_lt, nl_llt, nl_ltt, nl_le, nl_lle, nl_lee, nl_eq, nl_leq, nl_ee, nl_div, nl_rem, nl_cl, nl_n1, nl_n2, nl_n3, nl_n4, nl_add, nl_ladd, nl_aa, nl_mul, nl_rmul, nl_mm, pu_wi_1, pu_wi_2, bX12_court_0, bX12_court_58, bX12_court_59, bX12_court_54, a_ald, a_cv, a_ifeq, a_push, a_zret, sh_71, pu_rv, pu_as, Value.category, pu_bk, pu_kl, pu_qe0, pu_qe1, e0, e1, e2, e3, e4, e5]
  all_goals try simp [bX12_court_0, bX12_court_58, bX12_court_59, bX12_court_54, a_ald, a_cv, a_ifeq, a_push, a_zret, sh_71, pu_rv, pu_as, Value.category, pu_bk, pu_kl, List.replicate, pu_wi_1, pu_wi_2, nl_add, nl_ladd, nl_aa, nl_mul, nl_rmul, nl_mm, pu_qe0, pu_qe1, e0, e1, e2, e3, e4, e5]
  all_goals try simp (maxSteps := 400000) (disch := omega) [nl_tle, nl_fle, nl_tlt, nl_flt, nl_teq, nl_feq, nl_sub, nl_ss, nl_lt, nl_llt, nl_ltt, nl_le, nl_lle, nl_lee, nl_eq, nl_leq, nl_ee, nl_div, nl_rem, nl_cl, nl_n1, nl_n2, nl_n3, nl_n4, nl_add, nl_ladd, nl_aa, nl_mul, nl_rmul, nl_mm, pu_wi_1, pu_wi_2, bX12_court_0, bX12_court_58, bX12_court_59, bX12_court_54, a_ald, a_cv, a_ifeq, a_push, a_zret, sh_71, pu_rv, pu_as, Value.category, pu_bk, pu_kl, pu_qe0, pu_qe1, e0, e1, e2, e3, e4, e5]
  all_goals try simp [bX12_court_0, bX12_court_58, bX12_court_59, bX12_court_54, a_ald, a_cv, a_ifeq, a_push, a_zret, sh_71, pu_rv, pu_as, Value.category, pu_bk, pu_kl, List.replicate, pu_wi_1, pu_wi_2, nl_add, nl_ladd, nl_aa, nl_mul, nl_rmul, nl_mm, pu_qe0, pu_qe1, e0, e1, e2, e3, e4, e5]
  all_goals try simp (maxSteps := 400000) (disch := omega) [nl_tle, nl_fle, nl_tlt, nl_flt, nl_teq, nl_feq, nl_sub, nl_ss, nl_lt, nl_llt, nl_ltt, nl_le, nl_lle, nl_lee, nl_eq, nl_leq, nl_ee, nl_div, nl_rem, nl_cl, nl_n1, nl_n2, nl_n3, nl_n4, nl_add, nl_ladd, nl_aa, nl_mul, nl_rmul, nl_mm, pu_wi_1, pu_wi_2, bX12_court_0, bX12_court_58, bX12_court_59, bX12_court_54, a_ald, a_cv, a_ifeq, a_push, a_zret, sh_71, pu_rv, pu_as, Value.category, pu_bk, pu_kl, pu_qe0, pu_qe1, e0, e1, e2, e3, e4, e5]
  all_goals try simp [bX12_court_0, bX12_court_58, bX12_court_59, bX12_court_54, a_ald, a_cv, a_ifeq, a_push, a_zret, sh_71, pu_rv, pu_as, Value.category, pu_bk, pu_kl, List.replicate, pu_wi_1, pu_wi_2, nl_add, nl_ladd, nl_aa, nl_mul, nl_rmul, nl_mm, pu_qe0, pu_qe1, e0, e1, e2, e3, e4, e5]
theorem r_floor {M : pu_M} (hx : pu_fx M) (h : py_tr M b t) {pos : Nat} (hp : pos ≤ t) (h20 : M.1 71 20 = nI pos) : pu_r 311 [some (.ref 71)] [] M = some (some (.int (pu_q (py_mo b t [102, 108, 111, 111, 114, 32] pos = true))), py_mf b t [102, 108, 111, 111, 114, 32] pos M) := by
  rcases r_must hx h (pos := pos) (by omega) h20 102 (by omega) with ⟨c0, d0, e0⟩ | ⟨c0, e0⟩
  rotate_left
  · rw [show nI 102 = (102 : Int32) from rfl] at e0
    have m0 : py_mo b t [102, 108, 111, 111, 114, 32] pos = false := by simp [py_mo, c0]
    have m1 : py_mf b t [102, 108, 111, 111, 114, 32] pos M = pu_wi M 72 15 (nI pos) := by simp [py_mf, c0]
    rw [m0, m1, pu_q0 (by decide)]
    rw [qX12_floor]
    simp [a_ent, bX12_floor_0, bX12_floor_58, bX12_floor_59, bX12_floor_54, a_ald, a_cv, a_ifeq, a_push, a_zret, sh_71, pu_rv, pu_as, Value.category, pu_bk, pu_kl, List.replicate, pu_wi_1, pu_wi_2, nl_add, nl_ladd, nl_aa, nl_mul, nl_rmul, nl_mm, pu_qe0, pu_qe1, e0]
    all_goals try simp (maxSteps := 400000) (disch := omega) [nl_tle, nl_fle, nl_tlt, nl_flt, nl_teq, nl_feq, nl_sub, nl_ss, nl_lt, nl_llt, nl_ltt, nl_le, nl_lle, nl_lee, nl_eq, nl_leq, nl_ee, nl_div, nl_rem, nl_cl, nl_n1, nl_n2, nl_n3, nl_n4, nl_add, nl_ladd, nl_aa, nl_mul, nl_rmul, nl_mm, pu_wi_1, pu_wi_2, bX12_floor_0, bX12_floor_58, bX12_floor_59, bX12_floor_54, a_ald, a_cv, a_ifeq, a_push, a_zret, sh_71, pu_rv, pu_as, Value.category, pu_bk, pu_kl, pu_qe0, pu_qe1, e0]
    all_goals try simp [bX12_floor_0, bX12_floor_58, bX12_floor_59, bX12_floor_54, a_ald, a_cv, a_ifeq, a_push, a_zret, sh_71, pu_rv, pu_as, Value.category, pu_bk, pu_kl, List.replicate, pu_wi_1, pu_wi_2, nl_add, nl_ladd, nl_aa, nl_mul, nl_rmul, nl_mm, pu_qe0, pu_qe1, e0]
    all_goals try simp (maxSteps := 400000) (disch := omega) [nl_tle, nl_fle, nl_tlt, nl_flt, nl_teq, nl_feq, nl_sub, nl_ss, nl_lt, nl_llt, nl_ltt, nl_le, nl_lle, nl_lee, nl_eq, nl_leq, nl_ee, nl_div, nl_rem, nl_cl, nl_n1, nl_n2, nl_n3, nl_n4, nl_add, nl_ladd, nl_aa, nl_mul, nl_rmul, nl_mm, pu_wi_1, pu_wi_2, bX12_floor_0, bX12_floor_58, bX12_floor_59, bX12_floor_54, a_ald, a_cv, a_ifeq, a_push, a_zret, sh_71, pu_rv, pu_as, Value.category, pu_bk, pu_kl, pu_qe0, pu_qe1, e0]
    all_goals try simp [bX12_floor_0, bX12_floor_58, bX12_floor_59, bX12_floor_54, a_ald, a_cv, a_ifeq, a_push, a_zret, sh_71, pu_rv, pu_as, Value.category, pu_bk, pu_kl, List.replicate, pu_wi_1, pu_wi_2, nl_add, nl_ladd, nl_aa, nl_mul, nl_rmul, nl_mm, pu_qe0, pu_qe1, e0]
    all_goals try simp (maxSteps := 400000) (disch := omega) [nl_tle, nl_fle, nl_tlt, nl_flt, nl_teq, nl_feq, nl_sub, nl_ss, nl_lt, nl_llt, nl_ltt, nl_le, nl_lle, nl_lee, nl_eq, nl_leq, nl_ee, nl_div, nl_rem, nl_cl, nl_n1, nl_n2, nl_n3, nl_n4, nl_add, nl_ladd, nl_aa, nl_mul, nl_rmul, nl_mm, pu_wi_1, pu_wi_2, bX12_floor_0, bX12_floor_58, bX12_floor_59, bX12_floor_54, a_ald, a_cv, a_ifeq, a_push, a_zret, sh_71, pu_rv, pu_as, Value.category, pu_bk, pu_kl, pu_qe0, pu_qe1, e0]
    all_goals try simp [bX12_floor_0, bX12_floor_58, bX12_floor_59, bX12_floor_54, a_ald, a_cv, a_ifeq, a_push, a_zret, sh_71, pu_rv, pu_as, Value.category, pu_bk, pu_kl, List.replicate, pu_wi_1, pu_wi_2, nl_add, nl_ladd, nl_aa, nl_mul, nl_rmul, nl_mm, pu_qe0, pu_qe1, e0]
  rw [show nI 102 = (102 : Int32) from rfl] at e0
  have K0 : pos < t ∧ b pos = 102 := ⟨c0, d0⟩
  have x1 : pu_fx (pu_wi M 71 20 (nI (pos + 1))) := hx
  have t1 : py_tr (pu_wi M 71 20 (nI (pos + 1))) b t := py_tr_w h (by omega) (by omega)
  have p1 : (pu_wi M 71 20 (nI (pos + 1))).1 71 20 = nI (pos + 1) := by simp [pu_wi_1]
  generalize hQ1 : pu_wi M 71 20 (nI (pos + 1)) = Q1 at *
  rcases r_must x1 t1 (pos := (pos + 1)) (by omega) p1 108 (by omega) with ⟨c1, d1, e1⟩ | ⟨c1, e1⟩
  rotate_left
  · rw [show nI 108 = (108 : Int32) from rfl] at e1
    have m0 : py_mo b t [102, 108, 111, 111, 114, 32] pos = false := by simp [py_mo, K0, c1]
    have m1 : py_mf b t [102, 108, 111, 111, 114, 32] pos M = pu_wi Q1 72 15 (nI (pos + 1)) := by simp [py_mf, K0, c1, hQ1]
    rw [m0, m1, pu_q0 (by decide)]
    rw [qX12_floor]
    simp [a_ent, bX12_floor_0, bX12_floor_58, bX12_floor_59, bX12_floor_54, a_ald, a_cv, a_ifeq, a_push, a_zret, sh_71, pu_rv, pu_as, Value.category, pu_bk, pu_kl, List.replicate, pu_wi_1, pu_wi_2, nl_add, nl_ladd, nl_aa, nl_mul, nl_rmul, nl_mm, pu_qe0, pu_qe1, e0, e1]
    all_goals try simp (maxSteps := 400000) (disch := omega) [nl_tle, nl_fle, nl_tlt, nl_flt, nl_teq, nl_feq, nl_sub, nl_ss, nl_lt, nl_llt, nl_ltt, nl_le, nl_lle, nl_lee, nl_eq, nl_leq, nl_ee, nl_div, nl_rem, nl_cl, nl_n1, nl_n2, nl_n3, nl_n4, nl_add, nl_ladd, nl_aa, nl_mul, nl_rmul, nl_mm, pu_wi_1, pu_wi_2, bX12_floor_0, bX12_floor_58, bX12_floor_59, bX12_floor_54, a_ald, a_cv, a_ifeq, a_push, a_zret, sh_71, pu_rv, pu_as, Value.category, pu_bk, pu_kl, pu_qe0, pu_qe1, e0, e1]
    all_goals try simp [bX12_floor_0, bX12_floor_58, bX12_floor_59, bX12_floor_54, a_ald, a_cv, a_ifeq, a_push, a_zret, sh_71, pu_rv, pu_as, Value.category, pu_bk, pu_kl, List.replicate, pu_wi_1, pu_wi_2, nl_add, nl_ladd, nl_aa, nl_mul, nl_rmul, nl_mm, pu_qe0, pu_qe1, e0, e1]
    all_goals try simp (maxSteps := 400000) (disch := omega) [nl_tle, nl_fle, nl_tlt, nl_flt, nl_teq, nl_feq, nl_sub, nl_ss, nl_lt, nl_llt, nl_ltt, nl_le, nl_lle, nl_lee, nl_eq, nl_leq, nl_ee, nl_div, nl_rem, nl_cl, nl_n1, nl_n2, nl_n3, nl_n4, nl_add, nl_ladd, nl_aa, nl_mul, nl_rmul, nl_mm, pu_wi_1, pu_wi_2, bX12_floor_0, bX12_floor_58, bX12_floor_59, bX12_floor_54, a_ald, a_cv, a_ifeq, a_push, a_zret, sh_71, pu_rv, pu_as, Value.category, pu_bk, pu_kl, pu_qe0, pu_qe1, e0, e1]
    all_goals try simp [bX12_floor_0, bX12_floor_58, bX12_floor_59, bX12_floor_54, a_ald, a_cv, a_ifeq, a_push, a_zret, sh_71, pu_rv, pu_as, Value.category, pu_bk, pu_kl, List.replicate, pu_wi_1, pu_wi_2, nl_add, nl_ladd, nl_aa, nl_mul, nl_rmul, nl_mm, pu_qe0, pu_qe1, e0, e1]
    all_goals try simp (maxSteps := 400000) (disch := omega) [nl_tle, nl_fle, nl_tlt, nl_flt, nl_teq, nl_feq, nl_sub, nl_ss, nl_lt, nl_llt, nl_ltt, nl_le, nl_lle, nl_lee, nl_eq, nl_leq, nl_ee, nl_div, nl_rem, nl_cl, nl_n1, nl_n2, nl_n3, nl_n4, nl_add, nl_ladd, nl_aa, nl_mul, nl_rmul, nl_mm, pu_wi_1, pu_wi_2, bX12_floor_0, bX12_floor_58, bX12_floor_59, bX12_floor_54, a_ald, a_cv, a_ifeq, a_push, a_zret, sh_71, pu_rv, pu_as, Value.category, pu_bk, pu_kl, pu_qe0, pu_qe1, e0, e1]
    all_goals try simp [bX12_floor_0, bX12_floor_58, bX12_floor_59, bX12_floor_54, a_ald, a_cv, a_ifeq, a_push, a_zret, sh_71, pu_rv, pu_as, Value.category, pu_bk, pu_kl, List.replicate, pu_wi_1, pu_wi_2, nl_add, nl_ladd, nl_aa, nl_mul, nl_rmul, nl_mm, pu_qe0, pu_qe1, e0, e1]
  rw [show nI 108 = (108 : Int32) from rfl] at e1
  have K1 : pos + 1 < t ∧ b (pos + 1) = 108 := ⟨c1, d1⟩
  have x2 : pu_fx (pu_wi Q1 71 20 (nI (pos + 1 + 1))) := x1
  have t2 : py_tr (pu_wi Q1 71 20 (nI (pos + 1 + 1))) b t := py_tr_w t1 (by omega) (by omega)
  have p2 : (pu_wi Q1 71 20 (nI (pos + 1 + 1))).1 71 20 = nI (pos + 2) := by simp [pu_wi_1]
  generalize hQ2 : pu_wi Q1 71 20 (nI (pos + 1 + 1)) = Q2 at *
  rcases r_must x2 t2 (pos := (pos + 2)) (by omega) p2 111 (by omega) with ⟨c2, d2, e2⟩ | ⟨c2, e2⟩
  rotate_left
  · rw [show nI 111 = (111 : Int32) from rfl] at e2
    have m0 : py_mo b t [102, 108, 111, 111, 114, 32] pos = false := by simp [py_mo, K0, K1, c2]
    have m1 : py_mf b t [102, 108, 111, 111, 114, 32] pos M = pu_wi Q2 72 15 (nI (pos + 2)) := by simp [py_mf, K0, K1, c2, hQ1, hQ2]
    rw [m0, m1, pu_q0 (by decide)]
    rw [qX12_floor]
    simp [a_ent, bX12_floor_0, bX12_floor_58, bX12_floor_59, bX12_floor_54, a_ald, a_cv, a_ifeq, a_push, a_zret, sh_71, pu_rv, pu_as, Value.category, pu_bk, pu_kl, List.replicate, pu_wi_1, pu_wi_2, nl_add, nl_ladd, nl_aa, nl_mul, nl_rmul, nl_mm, pu_qe0, pu_qe1, e0, e1, e2]
    all_goals try simp (maxSteps := 400000) (disch := omega) [nl_tle, nl_fle, nl_tlt, nl_flt, nl_teq, nl_feq, nl_sub, nl_ss, nl_lt, nl_llt, nl_ltt, nl_le, nl_lle, nl_lee, nl_eq, nl_leq, nl_ee, nl_div, nl_rem, nl_cl, nl_n1, nl_n2, nl_n3, nl_n4, nl_add, nl_ladd, nl_aa, nl_mul, nl_rmul, nl_mm, pu_wi_1, pu_wi_2, bX12_floor_0, bX12_floor_58, bX12_floor_59, bX12_floor_54, a_ald, a_cv, a_ifeq, a_push, a_zret, sh_71, pu_rv, pu_as, Value.category, pu_bk, pu_kl, pu_qe0, pu_qe1, e0, e1, e2]
    all_goals try simp [bX12_floor_0, bX12_floor_58, bX12_floor_59, bX12_floor_54, a_ald, a_cv, a_ifeq, a_push, a_zret, sh_71, pu_rv, pu_as, Value.category, pu_bk, pu_kl, List.replicate, pu_wi_1, pu_wi_2, nl_add, nl_ladd, nl_aa, nl_mul, nl_rmul, nl_mm, pu_qe0, pu_qe1, e0, e1, e2]
    all_goals try simp (maxSteps := 400000) (disch := omega) [nl_tle, nl_fle, nl_tlt, nl_flt, nl_teq, nl_feq, nl_sub, nl_ss, nl_lt, nl_llt, nl_ltt, nl_le, nl_lle, nl_lee, nl_eq, nl_leq, nl_ee, nl_div, nl_rem, nl_cl, nl_n1, nl_n2, nl_n3, nl_n4, nl_add, nl_ladd, nl_aa, nl_mul, nl_rmul, nl_mm, pu_wi_1, pu_wi_2, bX12_floor_0, bX12_floor_58, bX12_floor_59, bX12_floor_54, a_ald, a_cv, a_ifeq, a_push, a_zret, sh_71, pu_rv, pu_as, Value.category, pu_bk, pu_kl, pu_qe0, pu_qe1, e0, e1, e2]
    all_goals try simp [bX12_floor_0, bX12_floor_58, bX12_floor_59, bX12_floor_54, a_ald, a_cv, a_ifeq, a_push, a_zret, sh_71, pu_rv, pu_as, Value.category, pu_bk, pu_kl, List.replicate, pu_wi_1, pu_wi_2, nl_add, nl_ladd, nl_aa, nl_mul, nl_rmul, nl_mm, pu_qe0, pu_qe1, e0, e1, e2]
    all_goals try simp (maxSteps := 400000) (disch := omega) [nl_tle, nl_fle, nl_tlt, nl_flt, nl_teq, nl_feq, nl_sub, nl_ss, nl_lt, nl_llt, nl_ltt, nl_le, nl_lle, nl_lee, nl_eq, nl_leq, nl_ee, nl_div, nl_rem, nl_cl, nl_n1, nl_n2, nl_n3, nl_n4, nl_add, nl_ladd, nl_aa, nl_mul, nl_rmul, nl_mm, pu_wi_1, pu_wi_2, bX12_floor_0, bX12_floor_58, bX12_floor_59, bX12_floor_54, a_ald, a_cv, a_ifeq, a_push, a_zret, sh_71, pu_rv, pu_as, Value.category, pu_bk, pu_kl, pu_qe0, pu_qe1, e0, e1, e2]
    all_goals try simp [bX12_floor_0, bX12_floor_58, bX12_floor_59, bX12_floor_54, a_ald, a_cv, a_ifeq, a_push, a_zret, sh_71, pu_rv, pu_as, Value.category, pu_bk, pu_kl, List.replicate, pu_wi_1, pu_wi_2, nl_add, nl_ladd, nl_aa, nl_mul, nl_rmul, nl_mm, pu_qe0, pu_qe1, e0, e1, e2]
  rw [show nI 111 = (111 : Int32) from rfl] at e2
  have K2 : pos + 2 < t ∧ b (pos + 2) = 111 := ⟨c2, d2⟩
  have x3 : pu_fx (pu_wi Q2 71 20 (nI (pos + 2 + 1))) := x2
  have t3 : py_tr (pu_wi Q2 71 20 (nI (pos + 2 + 1))) b t := py_tr_w t2 (by omega) (by omega)
  have p3 : (pu_wi Q2 71 20 (nI (pos + 2 + 1))).1 71 20 = nI (pos + 3) := by simp [pu_wi_1]
  generalize hQ3 : pu_wi Q2 71 20 (nI (pos + 2 + 1)) = Q3 at *
  rcases r_must x3 t3 (pos := (pos + 3)) (by omega) p3 111 (by omega) with ⟨c3, d3, e3⟩ | ⟨c3, e3⟩
  rotate_left
  · rw [show nI 111 = (111 : Int32) from rfl] at e3
    have m0 : py_mo b t [102, 108, 111, 111, 114, 32] pos = false := by simp [py_mo, K0, K1, K2, c3]
    have m1 : py_mf b t [102, 108, 111, 111, 114, 32] pos M = pu_wi Q3 72 15 (nI (pos + 3)) := by simp [py_mf, K0, K1, K2, c3, hQ1, hQ2, hQ3]
    rw [m0, m1, pu_q0 (by decide)]
    rw [qX12_floor]
    simp [a_ent, bX12_floor_0, bX12_floor_58, bX12_floor_59, bX12_floor_54, a_ald, a_cv, a_ifeq, a_push, a_zret, sh_71, pu_rv, pu_as, Value.category, pu_bk, pu_kl, List.replicate, pu_wi_1, pu_wi_2, nl_add, nl_ladd, nl_aa, nl_mul, nl_rmul, nl_mm, pu_qe0, pu_qe1, e0, e1, e2, e3]
    all_goals try simp (maxSteps := 400000) (disch := omega) [nl_tle, nl_fle, nl_tlt, nl_flt, nl_teq, nl_feq, nl_sub, nl_ss, nl_lt, nl_llt, nl_ltt, nl_le, nl_lle, nl_lee, nl_eq, nl_leq, nl_ee, nl_div, nl_rem, nl_cl, nl_n1, nl_n2, nl_n3, nl_n4, nl_add, nl_ladd, nl_aa, nl_mul, nl_rmul, nl_mm, pu_wi_1, pu_wi_2, bX12_floor_0, bX12_floor_58, bX12_floor_59, bX12_floor_54, a_ald, a_cv, a_ifeq, a_push, a_zret, sh_71, pu_rv, pu_as, Value.category, pu_bk, pu_kl, pu_qe0, pu_qe1, e0, e1, e2, e3]
    all_goals try simp [bX12_floor_0, bX12_floor_58, bX12_floor_59, bX12_floor_54, a_ald, a_cv, a_ifeq, a_push, a_zret, sh_71, pu_rv, pu_as, Value.category, pu_bk, pu_kl, List.replicate, pu_wi_1, pu_wi_2, nl_add, nl_ladd, nl_aa, nl_mul, nl_rmul, nl_mm, pu_qe0, pu_qe1, e0, e1, e2, e3]
    all_goals try simp (maxSteps := 400000) (disch := omega) [nl_tle, nl_fle, nl_tlt, nl_flt, nl_teq, nl_feq, nl_sub, nl_ss, nl_lt, nl_llt, nl_ltt, nl_le, nl_lle, nl_lee, nl_eq, nl_leq, nl_ee, nl_div, nl_rem, nl_cl, nl_n1, nl_n2, nl_n3, nl_n4, nl_add, nl_ladd, nl_aa, nl_mul, nl_rmul, nl_mm, pu_wi_1, pu_wi_2, bX12_floor_0, bX12_floor_58, bX12_floor_59, bX12_floor_54, a_ald, a_cv, a_ifeq, a_push, a_zret, sh_71, pu_rv, pu_as, Value.category, pu_bk, pu_kl, pu_qe0, pu_qe1, e0, e1, e2, e3]
    all_goals try simp [bX12_floor_0, bX12_floor_58, bX12_floor_59, bX12_floor_54, a_ald, a_cv, a_ifeq, a_push, a_zret, sh_71, pu_rv, pu_as, Value.category, pu_bk, pu_kl, List.replicate, pu_wi_1, pu_wi_2, nl_add, nl_ladd, nl_aa, nl_mul, nl_rmul, nl_mm, pu_qe0, pu_qe1, e0, e1, e2, e3]
    all_goals try simp (maxSteps := 400000) (disch := omega) [nl_tle, nl_fle, nl_tlt, nl_flt, nl_teq, nl_feq, nl_sub, nl_ss, nl_lt, nl_llt, nl_ltt, nl_le, nl_lle, nl_lee, nl_eq, nl_leq, nl_ee, nl_div, nl_rem, nl_cl, nl_n1, nl_n2, nl_n3, nl_n4, nl_add, nl_ladd, nl_aa, nl_mul, nl_rmul, nl_mm, pu_wi_1, pu_wi_2, bX12_floor_0, bX12_floor_58, bX12_floor_59, bX12_floor_54, a_ald, a_cv, a_ifeq, a_push, a_zret, sh_71, pu_rv, pu_as, Value.category, pu_bk, pu_kl, pu_qe0, pu_qe1, e0, e1, e2, e3]
    all_goals try simp [bX12_floor_0, bX12_floor_58, bX12_floor_59, bX12_floor_54, a_ald, a_cv, a_ifeq, a_push, a_zret, sh_71, pu_rv, pu_as, Value.category, pu_bk, pu_kl, List.replicate, pu_wi_1, pu_wi_2, nl_add, nl_ladd, nl_aa, nl_mul, nl_rmul, nl_mm, pu_qe0, pu_qe1, e0, e1, e2, e3]
  rw [show nI 111 = (111 : Int32) from rfl] at e3
  have K3 : pos + 3 < t ∧ b (pos + 3) = 111 := ⟨c3, d3⟩
  have x4 : pu_fx (pu_wi Q3 71 20 (nI (pos + 3 + 1))) := x3
  have t4 : py_tr (pu_wi Q3 71 20 (nI (pos + 3 + 1))) b t := py_tr_w t3 (by omega) (by omega)
  have p4 : (pu_wi Q3 71 20 (nI (pos + 3 + 1))).1 71 20 = nI (pos + 4) := by simp [pu_wi_1]
  generalize hQ4 : pu_wi Q3 71 20 (nI (pos + 3 + 1)) = Q4 at *
  rcases r_must x4 t4 (pos := (pos + 4)) (by omega) p4 114 (by omega) with ⟨c4, d4, e4⟩ | ⟨c4, e4⟩
  rotate_left
  · rw [show nI 114 = (114 : Int32) from rfl] at e4
    have m0 : py_mo b t [102, 108, 111, 111, 114, 32] pos = false := by simp [py_mo, K0, K1, K2, K3, c4]
    have m1 : py_mf b t [102, 108, 111, 111, 114, 32] pos M = pu_wi Q4 72 15 (nI (pos + 4)) := by simp [py_mf, K0, K1, K2, K3, c4, hQ1, hQ2, hQ3, hQ4]
    rw [m0, m1, pu_q0 (by decide)]
    rw [qX12_floor]
    simp [a_ent, bX12_floor_0, bX12_floor_58, bX12_floor_59, bX12_floor_54, a_ald, a_cv, a_ifeq, a_push, a_zret, sh_71, pu_rv, pu_as, Value.category, pu_bk, pu_kl, List.replicate, pu_wi_1, pu_wi_2, nl_add, nl_ladd, nl_aa, nl_mul, nl_rmul, nl_mm, pu_qe0, pu_qe1, e0, e1, e2, e3, e4]
    all_goals try simp (maxSteps := 400000) (disch := omega) [nl_tle, nl_fle, nl_tlt, nl_flt, nl_teq, nl_feq, nl_sub, nl_ss, nl_lt, nl_llt, nl_ltt, nl_le, nl_lle, nl_lee, nl_eq, nl_leq, nl_ee, nl_div, nl_rem, nl_cl, nl_n1, nl_n2, nl_n3, nl_n4, nl_add, nl_ladd, nl_aa, nl_mul, nl_rmul, nl_mm, pu_wi_1, pu_wi_2, bX12_floor_0, bX12_floor_58, bX12_floor_59, bX12_floor_54, a_ald, a_cv, a_ifeq, a_push, a_zret, sh_71, pu_rv, pu_as, Value.category, pu_bk, pu_kl, pu_qe0, pu_qe1, e0, e1, e2, e3, e4]
    all_goals try simp [bX12_floor_0, bX12_floor_58, bX12_floor_59, bX12_floor_54, a_ald, a_cv, a_ifeq, a_push, a_zret, sh_71, pu_rv, pu_as, Value.category, pu_bk, pu_kl, List.replicate, pu_wi_1, pu_wi_2, nl_add, nl_ladd, nl_aa, nl_mul, nl_rmul, nl_mm, pu_qe0, pu_qe1, e0, e1, e2, e3, e4]
    all_goals try simp (maxSteps := 400000) (disch := omega) [nl_tle, nl_fle, nl_tlt, nl_flt, nl_teq, nl_feq, nl_sub, nl_ss, nl_lt, nl_llt, nl_ltt, nl_le, nl_lle, nl_lee, nl_eq, nl_leq, nl_ee, nl_div, nl_rem, nl_cl, nl_n1, nl_n2, nl_n3, nl_n4, nl_add, nl_ladd, nl_aa, nl_mul, nl_rmul, nl_mm, pu_wi_1, pu_wi_2, bX12_floor_0, bX12_floor_58, bX12_floor_59, bX12_floor_54, a_ald, a_cv, a_ifeq, a_push, a_zret, sh_71, pu_rv, pu_as, Value.category, pu_bk, pu_kl, pu_qe0, pu_qe1, e0, e1, e2, e3, e4]
    all_goals try simp [bX12_floor_0, bX12_floor_58, bX12_floor_59, bX12_floor_54, a_ald, a_cv, a_ifeq, a_push, a_zret, sh_71, pu_rv, pu_as, Value.category, pu_bk, pu_kl, List.replicate, pu_wi_1, pu_wi_2, nl_add, nl_ladd, nl_aa, nl_mul, nl_rmul, nl_mm, pu_qe0, pu_qe1, e0, e1, e2, e3, e4]
    all_goals try simp (maxSteps := 400000) (disch := omega) [nl_tle, nl_fle, nl_tlt, nl_flt, nl_teq, nl_feq, nl_sub, nl_ss, nl_lt, nl_llt, nl_ltt, nl_le, nl_lle, nl_lee, nl_eq, nl_leq, nl_ee, nl_div, nl_rem, nl_cl, nl_n1, nl_n2, nl_n3, nl_n4, nl_add, nl_ladd, nl_aa, nl_mul, nl_rmul, nl_mm, pu_wi_1, pu_wi_2, bX12_floor_0, bX12_floor_58, bX12_floor_59, bX12_floor_54, a_ald, a_cv, a_ifeq, a_push, a_zret, sh_71, pu_rv, pu_as, Value.category, pu_bk, pu_kl, pu_qe0, pu_qe1, e0, e1, e2, e3, e4]
    all_goals try simp [bX12_floor_0, bX12_floor_58, bX12_floor_59, bX12_floor_54, a_ald, a_cv, a_ifeq, a_push, a_zret, sh_71, pu_rv, pu_as, Value.category, pu_bk, pu_kl, List.replicate, pu_wi_1, pu_wi_2, nl_add, nl_ladd, nl_aa, nl_mul, nl_rmul, nl_mm, pu_qe0, pu_qe1, e0, e1, e2, e3, e4]
  rw [show nI 114 = (114 : Int32) from rfl] at e4
  have K4 : pos + 4 < t ∧ b (pos + 4) = 114 := ⟨c4, d4⟩
  have x5 : pu_fx (pu_wi Q4 71 20 (nI (pos + 4 + 1))) := x4
  have t5 : py_tr (pu_wi Q4 71 20 (nI (pos + 4 + 1))) b t := py_tr_w t4 (by omega) (by omega)
  have p5 : (pu_wi Q4 71 20 (nI (pos + 4 + 1))).1 71 20 = nI (pos + 5) := by simp [pu_wi_1]
  generalize hQ5 : pu_wi Q4 71 20 (nI (pos + 4 + 1)) = Q5 at *
  rcases r_must x5 t5 (pos := (pos + 5)) (by omega) p5 32 (by omega) with ⟨c5, d5, e5⟩ | ⟨c5, e5⟩
  rotate_left
  · rw [show nI 32 = (32 : Int32) from rfl] at e5
    have m0 : py_mo b t [102, 108, 111, 111, 114, 32] pos = false := by simp [py_mo, K0, K1, K2, K3, K4, c5]
    have m1 : py_mf b t [102, 108, 111, 111, 114, 32] pos M = pu_wi Q5 72 15 (nI (pos + 5)) := by simp [py_mf, K0, K1, K2, K3, K4, c5, hQ1, hQ2, hQ3, hQ4, hQ5]
    rw [m0, m1, pu_q0 (by decide)]
    rw [qX12_floor]
    simp [a_ent, bX12_floor_0, bX12_floor_58, bX12_floor_59, bX12_floor_54, a_ald, a_cv, a_ifeq, a_push, a_zret, sh_71, pu_rv, pu_as, Value.category, pu_bk, pu_kl, List.replicate, pu_wi_1, pu_wi_2, nl_add, nl_ladd, nl_aa, nl_mul, nl_rmul, nl_mm, pu_qe0, pu_qe1, e0, e1, e2, e3, e4, e5]
    all_goals try simp (maxSteps := 400000) (disch := omega) [nl_tle, nl_fle, nl_tlt, nl_flt, nl_teq, nl_feq, nl_sub, nl_ss, nl_lt, nl_llt, nl_ltt, nl_le, nl_lle, nl_lee, nl_eq, nl_leq, nl_ee, nl_div, nl_rem, nl_cl, nl_n1, nl_n2, nl_n3, nl_n4, nl_add, nl_ladd, nl_aa, nl_mul, nl_rmul, nl_mm, pu_wi_1, pu_wi_2, bX12_floor_0, bX12_floor_58, bX12_floor_59, bX12_floor_54, a_ald, a_cv, a_ifeq, a_push, a_zret, sh_71, pu_rv, pu_as, Value.category, pu_bk, pu_kl, pu_qe0, pu_qe1, e0, e1, e2, e3, e4, e5]
    all_goals try simp [bX12_floor_0, bX12_floor_58, bX12_floor_59, bX12_floor_54, a_ald, a_cv, a_ifeq, a_push, a_zret, sh_71, pu_rv, pu_as, Value.category, pu_bk, pu_kl, List.replicate, pu_wi_1, pu_wi_2, nl_add, nl_ladd, nl_aa, nl_mul, nl_rmul, nl_mm, pu_qe0, pu_qe1, e0, e1, e2, e3, e4, e5]
    all_goals try simp (maxSteps := 400000) (disch := omega) [nl_tle, nl_fle, nl_tlt, nl_flt, nl_teq, nl_feq, nl_sub, nl_ss, nl_lt, nl_llt, nl_ltt, nl_le, nl_lle, nl_lee, nl_eq, nl_leq, nl_ee, nl_div, nl_rem, nl_cl, nl_n1, nl_n2, nl_n3, nl_n4, nl_add, nl_ladd, nl_aa, nl_mul, nl_rmul, nl_mm, pu_wi_1, pu_wi_2, bX12_floor_0, bX12_floor_58, bX12_floor_59, bX12_floor_54, a_ald, a_cv, a_ifeq, a_push, a_zret, sh_71, pu_rv, pu_as, Value.category, pu_bk, pu_kl, pu_qe0, pu_qe1, e0, e1, e2, e3, e4, e5]
    all_goals try simp [bX12_floor_0, bX12_floor_58, bX12_floor_59, bX12_floor_54, a_ald, a_cv, a_ifeq, a_push, a_zret, sh_71, pu_rv, pu_as, Value.category, pu_bk, pu_kl, List.replicate, pu_wi_1, pu_wi_2, nl_add, nl_ladd, nl_aa, nl_mul, nl_rmul, nl_mm, pu_qe0, pu_qe1, e0, e1, e2, e3, e4, e5]
    all_goals try simp (maxSteps := 400000) (disch := omega) [nl_tle, nl_fle, nl_tlt, nl_flt, nl_teq, nl_feq, nl_sub, nl_ss, nl_lt, nl_llt, nl_ltt, nl_le, nl_lle, nl_lee, nl_eq, nl_leq, nl_ee, nl_div, nl_rem, nl_cl, nl_n1, nl_n2, nl_n3, nl_n4, nl_add, nl_ladd, nl_aa, nl_mul, nl_rmul, nl_mm, pu_wi_1, pu_wi_2, bX12_floor_0, bX12_floor_58, bX12_floor_59, bX12_floor_54, a_ald, a_cv, a_ifeq, a_push, a_zret, sh_71, pu_rv, pu_as, Value.category, pu_bk, pu_kl, pu_qe0, pu_qe1, e0, e1, e2, e3, e4, e5]
    all_goals try simp [bX12_floor_0, bX12_floor_58, bX12_floor_59, bX12_floor_54, a_ald, a_cv, a_ifeq, a_push, a_zret, sh_71, pu_rv, pu_as, Value.category, pu_bk, pu_kl, List.replicate, pu_wi_1, pu_wi_2, nl_add, nl_ladd, nl_aa, nl_mul, nl_rmul, nl_mm, pu_qe0, pu_qe1, e0, e1, e2, e3, e4, e5]
  rw [show nI 32 = (32 : Int32) from rfl] at e5
  have K5 : pos + 5 < t ∧ b (pos + 5) = 32 := ⟨c5, d5⟩
  have x6 : pu_fx (pu_wi Q5 71 20 (nI (pos + 5 + 1))) := x5
  have t6 : py_tr (pu_wi Q5 71 20 (nI (pos + 5 + 1))) b t := py_tr_w t5 (by omega) (by omega)
  have p6 : (pu_wi Q5 71 20 (nI (pos + 5 + 1))).1 71 20 = nI (pos + 6) := by simp [pu_wi_1]
  generalize hQ6 : pu_wi Q5 71 20 (nI (pos + 5 + 1)) = Q6 at *
  have m0 : py_mo b t [102, 108, 111, 111, 114, 32] pos = true := by simp [py_mo, K0, K1, K2, K3, K4, K5]
  have m1 : py_mf b t [102, 108, 111, 111, 114, 32] pos M = Q6 := by simp [py_mf, K0, K1, K2, K3, K4, K5, hQ1, hQ2, hQ3, hQ4, hQ5, hQ6]
  rw [m0, m1, pu_q1 rfl]
  rw [qX12_floor]
  simp [a_ent, bX12_floor_0, bX12_floor_58, bX12_floor_59, bX12_floor_54, a_ald, a_cv, a_ifeq, a_push, a_zret, sh_71, pu_rv, pu_as, Value.category, pu_bk, pu_kl, List.replicate, pu_wi_1, pu_wi_2, nl_add, nl_ladd, nl_aa, nl_mul, nl_rmul, nl_mm, pu_qe0, pu_qe1, e0, e1, e2, e3, e4, e5]
  all_goals try simp (maxSteps := 400000) (disch := omega) [nl_tle, nl_fle, nl_tlt, nl_flt, nl_teq, nl_feq, nl_sub, nl_ss, nl_lt, nl_llt, nl_ltt, nl_le, nl_lle, nl_lee, nl_eq, nl_leq, nl_ee, nl_div, nl_rem, nl_cl, nl_n1, nl_n2, nl_n3, nl_n4, nl_add, nl_ladd, nl_aa, nl_mul, nl_rmul, nl_mm, pu_wi_1, pu_wi_2, bX12_floor_0, bX12_floor_58, bX12_floor_59, bX12_floor_54, a_ald, a_cv, a_ifeq, a_push, a_zret, sh_71, pu_rv, pu_as, Value.category, pu_bk, pu_kl, pu_qe0, pu_qe1, e0, e1, e2, e3, e4, e5]
  all_goals try simp [bX12_floor_0, bX12_floor_58, bX12_floor_59, bX12_floor_54, a_ald, a_cv, a_ifeq, a_push, a_zret, sh_71, pu_rv, pu_as, Value.category, pu_bk, pu_kl, List.replicate, pu_wi_1, pu_wi_2, nl_add, nl_ladd, nl_aa, nl_mul, nl_rmul, nl_mm, pu_qe0, pu_qe1, e0, e1, e2, e3, e4, e5]
  all_goals try simp (maxSteps := 400000) (disch := omega) [nl_tle, nl_fle, nl_tlt, nl_flt, nl_teq, nl_feq, nl_sub, nl_ss, nl_lt, nl_llt, nl_ltt, nl_le, nl_lle, nl_lee, nl_eq, nl_leq, nl_ee, nl_div, nl_rem, nl_cl, nl_n1, nl_n2, nl_n3, nl_n4, nl_add, nl_ladd, nl_aa, nl_mul, nl_rmul, nl_mm, pu_wi_1, pu_wi_2, bX12_floor_0, bX12_floor_58, bX12_floor_59, bX12_floor_54, a_ald, a_cv, a_ifeq, a_push, a_zret, sh_71, pu_rv, pu_as, Value.category, pu_bk, pu_kl, pu_qe0, pu_qe1, e0, e1, e2, e3, e4, e5]
  all_goals try simp [bX12_floor_0, bX12_floor_58, bX12_floor_59, bX12_floor_54, a_ald, a_cv, a_ifeq, a_push, a_zret, sh_71, pu_rv, pu_as, Value.category, pu_bk, pu_kl, List.replicate, pu_wi_1, pu_wi_2, nl_add, nl_ladd, nl_aa, nl_mul, nl_rmul, nl_mm, pu_qe0, pu_qe1, e0, e1, e2, e3, e4, e5]
  all_goals try simp (maxSteps := 400000) (disch := omega) [nl_tle, nl_fle, nl_tlt, nl_flt, nl_teq, nl_feq, nl_sub, nl_ss, nl_lt, nl_llt, nl_ltt, nl_le, nl_lle, nl_lee, nl_eq, nl_leq, nl_ee, nl_div, nl_rem, nl_cl, nl_n1, nl_n2, nl_n3, nl_n4, nl_add, nl_ladd, nl_aa, nl_mul, nl_rmul, nl_mm, pu_wi_1, pu_wi_2, bX12_floor_0, bX12_floor_58, bX12_floor_59, bX12_floor_54, a_ald, a_cv, a_ifeq, a_push, a_zret, sh_71, pu_rv, pu_as, Value.category, pu_bk, pu_kl, pu_qe0, pu_qe1, e0, e1, e2, e3, e4, e5]
  all_goals try simp [bX12_floor_0, bX12_floor_58, bX12_floor_59, bX12_floor_54, a_ald, a_cv, a_ifeq, a_push, a_zret, sh_71, pu_rv, pu_as, Value.category, pu_bk, pu_kl, List.replicate, pu_wi_1, pu_wi_2, nl_add, nl_ladd, nl_aa, nl_mul, nl_rmul, nl_mm, pu_qe0, pu_qe1, e0, e1, e2, e3, e4, e5]
end
