/-! call: the class seeks the last day -/
section
variable {I : Nat → Nat → Int32} {L : Nat → Nat → Int64}
theorem py_mxT (a b : Int32) : (if a < b then b else a).toInt = max a.toInt b.toInt := by
  by_cases c : a < b
  · rw [if_pos c]
    have := Int32.lt_iff_toInt_lt.mp c
    omega
  · rw [if_neg c]
    have := Int32.le_iff_toInt_le.mp (Int32.not_lt.mp c)
    omega
theorem py_mnT (a b : Int32) : (if b < a then b else a).toInt = min a.toInt b.toInt := by
  by_cases c : b < a
  · rw [if_pos c]
    have := Int32.lt_iff_toInt_lt.mp c
    omega
  · rw [if_neg c]
    have := Int32.le_iff_toInt_le.mp (Int32.not_lt.mp c)
    omega
theorem py_hd_e {o y : Nat} {c : Int32} (hy : y ≤ 109574) : pu_hd I o c (nI y) ↔ (pu_kn I o ∧ (I 7 o).toInt ≤ y ∧ (y : Int) < (pu_en I c).toInt) := by
  have ty := nl_n0 (a := y) (by omega)
  have t9 : (109575 : Int32).toInt = 109575 := by decide
  unfold pu_hd pu_en
  by_cases z : c ≠ -1 ∧ pu_kn I c.toNatClampNeg
  · rw [if_pos z]
    constructor
    · rintro ⟨⟨a, b⟩, e⟩
      rw [Int32.le_iff_toInt_le] at b
      refine ⟨a, by omega, ?_⟩
      have : ¬ I 7 c.toNatClampNeg ≤ nI y := fun q => e ⟨z.1, z.2, q⟩
      rw [Int32.le_iff_toInt_le] at this
      omega
    · rintro ⟨a, b, e⟩
      refine ⟨⟨a, Int32.le_iff_toInt_le.mpr (by omega)⟩, fun q => ?_⟩
      have := Int32.le_iff_toInt_le.mp q.2.2
      omega
  · rw [if_neg z]
    constructor
    · rintro ⟨⟨a, b⟩, _⟩
      rw [Int32.le_iff_toInt_le] at b
      exact ⟨a, by omega, by omega⟩
    · rintro ⟨a, b, _⟩
      exact ⟨⟨a, Int32.le_iff_toInt_le.mpr (by omega)⟩, fun q => z ⟨q.1, q.2.1⟩⟩
/-- name span i, number span j and door d tell the address on day y, ahead of day Y -/
def py_tT (I : Nat → Nat → Int32) (L : Nat → Nat → Int64) (nm tw : Nat → Int64) (w x k Y i j d y : Nat) : Prop := (i < cN I ∧ j < cU I ∧ d < cD I ∧ y < Y) ∧ py_am I L nm tw (nI y) i ∧ py_uN I (I 20 i) w (nI y) j ∧ py_tl I x k (pu_sl0 I j / 2) d ∧ pu_sd I d (nI y)
def py_tV (I : Nat → Nat → Int32) (L : Nat → Nat → Int64) (nm tw : Nat → Int64) (w x k Y : Nat) (S : Nat → Nat → Nat → Prop) (od oo : Int32) : Prop := (∀ i j d y, S i j d → py_tT I L nm tw w x k Y i j d y → (y : Int) ≤ od.toInt) ∧ ((od = -1 ∧ oo = -1) ∨ ∃ i j d y, py_tT I L nm tw w x k Y i j d y ∧ od = nI y ∧ oo = nI d ∧ ∀ e, e < d → ¬ py_tT I L nm tw w x k Y i j e y)
theorem py_tV_m {nm tw : Nat → Int64} {w x k Y : Nat} {S S' : Nat → Nat → Nat → Prop} {od oo : Int32} (h : py_tV I L nm tw w x k Y S od oo) (e : ∀ i j d y, S' i j d → py_tT I L nm tw w x k Y i j d y → S i j d) : py_tV I L nm tw w x k Y S' od oo := ⟨fun i j d y s t => h.1 i j d y (e i j d y s t) t, h.2⟩
def py_o (M N : pu_M) : Prop := N.2 = M.2 ∧ ∀ a j, ¬ (a = 0 ∧ (j = 8 ∨ j = 9)) → N.1 a j = M.1 a j
theorem py_o_t {M N P : pu_M} (a : py_o M N) (b : py_o N P) : py_o M P := ⟨b.1.trans a.1, fun c j h => by rw [b.2 c j h, a.2 c j h]⟩
/-- what the class has of an address -/
def py_G (M : pu_M) (I : Nat → Nat → Int32) (L : Nat → Nat → Int64) (nm tw : Nat → Int64) (w x k : Nat) : Prop := pu_fx M ∧ pu_ag M I ∧ pu_al M L ∧ (∀ j, j < 3 → M.2.1 60 j = nm j) ∧ (∀ j, j < 3 → M.2.1 61 j = tw j) ∧ M.1 59 2 = nI w ∧ M.1 59 3 = (if x = 0 then -1 else nI x) ∧ M.1 59 4 = nI k
theorem py_G_o {M N : pu_M} {nm tw : Nat → Int64} {w x k : Nat} (h : py_G M I L nm tw w x k) (o : py_o M N) : py_G N I L nm tw w x k := by
  obtain ⟨h1, h2, h3, h4, h5, h6, h7, h8⟩ := h
  exact ⟨pz_fx_of h1 o.1, fun a j q1 q2 => by rw [o.2 a j (by omega)]; exact h2 a j q1 q2, fun a j q1 q2 => by rw [o.1]; exact h3 a j q1 q2, fun j hj => by rw [o.1]; exact h4 j hj, fun j hj => by rw [o.1]; exact h5 j hj, by rw [o.2 59 2 (by omega)]; exact h6, by rw [o.2 59 3 (by omega)]; exact h7, by rw [o.2 59 4 (by omega)]; exact h8⟩
theorem py_enB (hw : pu_WF I L) (c : Int32) (hc : c = -1 ∨ ∃ l, l < cP I ∧ c = nI l) : 0 ≤ (pu_en I c).toInt ∧ (pu_en I c).toInt ≤ 109575 := by
  have bP := wx_bP hw
  unfold pu_en
  have t9 : (109575 : Int32).toInt = 109575 := by decide
  by_cases z : c ≠ -1 ∧ pu_kn I c.toNatClampNeg
  · rw [if_pos z]
    rcases hc with q | ⟨l, l1, l2⟩
    · exact absurd q z.1
    · rw [l2, nl_cl _ (by omega)]
      have := wx_pf hw l l1
      omega
  · rw [if_neg z]
    omega
theorem py_tT_r {nm tw : Nat → Int64} {w x k Y i j d : Nat} (hY : Y ≤ 109574) (hi : i < cN I) (hj : j < cU I) (hd : d < cD I) (hA : py_lk (L 26) tw (3 * (I 21 i).toNatClampNeg) 0 ∧ py_lk (L 24) nm (3 * i) 0) (hB : I 16 j = nI w ∧ I 39 (pu_sl0 I j) = I 20 i) (ki : pu_kn I (I 22 i).toNatClampNeg) (kj : pu_kn I (I 17 j).toNatClampNeg) (kd : pu_kn I (I 36 d).toNatClampNeg) (hT : py_tl I x k (pu_sl0 I j / 2) d) {st en fr la : Int} (hst : st = max (I 7 (I 22 i).toNatClampNeg).toInt (I 7 (I 17 j).toNatClampNeg).toInt) (hen : en = min (min (Y : Int) (pu_en I (I 23 i)).toInt) (pu_en I (I 18 j)).toInt) (hfr : fr = max st (I 7 (I 36 d).toNatClampNeg).toInt) (hla : la = min en (pu_en I (I 37 d)).toInt) (y : Nat) : py_tT I L nm tw w x k Y i j d y ↔ (fr ≤ y ∧ (y : Int) < la) := by
  constructor
  · rintro ⟨⟨_, _, _, y1⟩, t1, t2, _, t4⟩
    have q1 := (py_hd_e (y := y) (by omega)).mp t1.2
    have q2 := (py_hd_e (y := y) (by omega)).mp t2.2.2
    have q3 := (py_hd_e (y := y) (by omega)).mp t4
    omega
  · intro q
    have yY : y < Y := by omega
    exact ⟨⟨hi, hj, hd, yY⟩, ⟨hA, (py_hd_e (by omega)).mpr ⟨ki, by omega, by omega⟩⟩, ⟨hB.1, hB.2, (py_hd_e (by omega)).mpr ⟨kj, by omega, by omega⟩⟩, hT, (py_hd_e (by omega)).mpr ⟨kd, by omega, by omega⟩⟩
/-! the run of one door -/
theorem c_sk1 {M : pu_M} (hx : pu_fx M) (hI : pu_ag M I) (hw : pu_WF I L) {f d : Nat} (hd : d < cD I) {st en : Int32} (t5 t6 : Option Value) (e1 : pu_r 178 [some (.ref 0), some (.int (nI d)), some (.int (nI f))] [] M = some (some (.int 0), M)) : pu_r 408 [some (.ref 0), some (.int (nI f)), some (.int st), some (.int en), some (.int (nI d)), t5, t6] [] M = pu_r 408 [some (.ref 0), some (.int (nI f)), some (.int st), some (.int en), some (.int (nI (d + 1))), t5, t6] [] M := by
  have bD := wx_bD hw
  have hn := wx_cD hw
  have hc : ¬ nI (cD I) ≤ nI d := nI_ge (by omega) (by omega)
  generalize hR : pu_r 408 [some (.ref 0), some (.int (nI f)), some (.int st), some (.int en), some (.int (nI (d + 1))), t5, t6] [] M = R
  rw [qX11_seekOldAt_3]
  simp [bX11_seekOldAt_3, bX11_seekOldAt_148, bX11_seekOldAt_142, bX11_seekOldAt_56, bX11_seekOldAt_111, a_ai, a_ald, a_cv, a_gi, a_gr, a_icge, a_icle, a_iclt, a_ifeq, a_ild, a_inc, a_ist, a_isub, a_max, a_min, a_pi, a_push, a_vret, ag_31 hI, ag_36 hI, ag_37 hI, ag_6 hI, fx_0_2 hx, fx_31_5 hx, fx_31_6 hx, fx_5_0 hx, fx_5_4 hx, sh_0, sh_31, sh_36, sh_37, sh_5, sh_6, pu_rv, pu_as, Value.category, pu_bk, pu_kl, List.replicate, pu_wi_1, pu_wi_2, nl_add, nl_ladd, nl_aa, nl_mul, nl_rmul, nl_mm, pu_qe0, pu_qe1, hn, hc, e1, hR]
  all_goals try simp (maxSteps := 400000) (disch := omega) [nl_tle, nl_fle, nl_tlt, nl_flt, nl_teq, nl_feq, nl_sub, nl_ss, nl_lt, nl_llt, nl_ltt, nl_le, nl_lle, nl_lee, nl_eq, nl_leq, nl_ee, nl_div, nl_rem, nl_cl, nl_n1, nl_n2, nl_n3, nl_n4, nl_add, nl_ladd, nl_aa, nl_mul, nl_rmul, nl_mm, pu_wi_1, pu_wi_2, bX11_seekOldAt_3, bX11_seekOldAt_148, bX11_seekOldAt_142, bX11_seekOldAt_56, bX11_seekOldAt_111, a_ai, a_ald, a_cv, a_gi, a_gr, a_icge, a_icle, a_iclt, a_ifeq, a_ild, a_inc, a_ist, a_isub, a_max, a_min, a_pi, a_push, a_vret, ag_31 hI, ag_36 hI, ag_37 hI, ag_6 hI, fx_0_2 hx, fx_31_5 hx, fx_31_6 hx, fx_5_0 hx, fx_5_4 hx, sh_0, sh_31, sh_36, sh_37, sh_5, sh_6, pu_rv, pu_as, Value.category, pu_bk, pu_kl, pu_qe0, pu_qe1, hn, hc, e1, hR]
  all_goals try simp [bX11_seekOldAt_3, bX11_seekOldAt_148, bX11_seekOldAt_142, bX11_seekOldAt_56, bX11_seekOldAt_111, a_ai, a_ald, a_cv, a_gi, a_gr, a_icge, a_icle, a_iclt, a_ifeq, a_ild, a_inc, a_ist, a_isub, a_max, a_min, a_pi, a_push, a_vret, ag_31 hI, ag_36 hI, ag_37 hI, ag_6 hI, fx_0_2 hx, fx_31_5 hx, fx_31_6 hx, fx_5_0 hx, fx_5_4 hx, sh_0, sh_31, sh_36, sh_37, sh_5, sh_6, pu_rv, pu_as, Value.category, pu_bk, pu_kl, List.replicate, pu_wi_1, pu_wi_2, nl_add, nl_ladd, nl_aa, nl_mul, nl_rmul, nl_mm, pu_qe0, pu_qe1, hn, hc, e1, hR]
  all_goals try simp (maxSteps := 400000) (disch := omega) [nl_tle, nl_fle, nl_tlt, nl_flt, nl_teq, nl_feq, nl_sub, nl_ss, nl_lt, nl_llt, nl_ltt, nl_le, nl_lle, nl_lee, nl_eq, nl_leq, nl_ee, nl_div, nl_rem, nl_cl, nl_n1, nl_n2, nl_n3, nl_n4, nl_add, nl_ladd, nl_aa, nl_mul, nl_rmul, nl_mm, pu_wi_1, pu_wi_2, bX11_seekOldAt_3, bX11_seekOldAt_148, bX11_seekOldAt_142, bX11_seekOldAt_56, bX11_seekOldAt_111, a_ai, a_ald, a_cv, a_gi, a_gr, a_icge, a_icle, a_iclt, a_ifeq, a_ild, a_inc, a_ist, a_isub, a_max, a_min, a_pi, a_push, a_vret, ag_31 hI, ag_36 hI, ag_37 hI, ag_6 hI, fx_0_2 hx, fx_31_5 hx, fx_31_6 hx, fx_5_0 hx, fx_5_4 hx, sh_0, sh_31, sh_36, sh_37, sh_5, sh_6, pu_rv, pu_as, Value.category, pu_bk, pu_kl, pu_qe0, pu_qe1, hn, hc, e1, hR]
  all_goals try simp [bX11_seekOldAt_3, bX11_seekOldAt_148, bX11_seekOldAt_142, bX11_seekOldAt_56, bX11_seekOldAt_111, a_ai, a_ald, a_cv, a_gi, a_gr, a_icge, a_icle, a_iclt, a_ifeq, a_ild, a_inc, a_ist, a_isub, a_max, a_min, a_pi, a_push, a_vret, ag_31 hI, ag_36 hI, ag_37 hI, ag_6 hI, fx_0_2 hx, fx_31_5 hx, fx_31_6 hx, fx_5_0 hx, fx_5_4 hx, sh_0, sh_31, sh_36, sh_37, sh_5, sh_6, pu_rv, pu_as, Value.category, pu_bk, pu_kl, List.replicate, pu_wi_1, pu_wi_2, nl_add, nl_ladd, nl_aa, nl_mul, nl_rmul, nl_mm, pu_qe0, pu_qe1, hn, hc, e1, hR]
  all_goals try simp (maxSteps := 400000) (disch := omega) [nl_tle, nl_fle, nl_tlt, nl_flt, nl_teq, nl_feq, nl_sub, nl_ss, nl_lt, nl_llt, nl_ltt, nl_le, nl_lle, nl_lee, nl_eq, nl_leq, nl_ee, nl_div, nl_rem, nl_cl, nl_n1, nl_n2, nl_n3, nl_n4, nl_add, nl_ladd, nl_aa, nl_mul, nl_rmul, nl_mm, pu_wi_1, pu_wi_2, bX11_seekOldAt_3, bX11_seekOldAt_148, bX11_seekOldAt_142, bX11_seekOldAt_56, bX11_seekOldAt_111, a_ai, a_ald, a_cv, a_gi, a_gr, a_icge, a_icle, a_iclt, a_ifeq, a_ild, a_inc, a_ist, a_isub, a_max, a_min, a_pi, a_push, a_vret, ag_31 hI, ag_36 hI, ag_37 hI, ag_6 hI, fx_0_2 hx, fx_31_5 hx, fx_31_6 hx, fx_5_0 hx, fx_5_4 hx, sh_0, sh_31, sh_36, sh_37, sh_5, sh_6, pu_rv, pu_as, Value.category, pu_bk, pu_kl, pu_qe0, pu_qe1, hn, hc, e1, hR]
  all_goals try simp [bX11_seekOldAt_3, bX11_seekOldAt_148, bX11_seekOldAt_142, bX11_seekOldAt_56, bX11_seekOldAt_111, a_ai, a_ald, a_cv, a_gi, a_gr, a_icge, a_icle, a_iclt, a_ifeq, a_ild, a_inc, a_ist, a_isub, a_max, a_min, a_pi, a_push, a_vret, ag_31 hI, ag_36 hI, ag_37 hI, ag_6 hI, fx_0_2 hx, fx_31_5 hx, fx_31_6 hx, fx_5_0 hx, fx_5_4 hx, sh_0, sh_31, sh_36, sh_37, sh_5, sh_6, pu_rv, pu_as, Value.category, pu_bk, pu_kl, List.replicate, pu_wi_1, pu_wi_2, nl_add, nl_ladd, nl_aa, nl_mul, nl_rmul, nl_mm, pu_qe0, pu_qe1, hn, hc, e1, hR]
theorem c_sk2 {M : pu_M} (hx : pu_fx M) (hI : pu_ag M I) (hw : pu_WF I L) {f d : Nat} (hd : d < cD I) {st en o : Int32} (t5 t6 : Option Value) (ho : I 36 d = o) (e1 : pu_r 178 [some (.ref 0), some (.int (nI d)), some (.int (nI f))] [] M = some (some (.int 1), M)) (e2 : pu_r 67 [some (.ref 6), some (.int o)] [] M = some (some (.int 0), M)) : pu_r 408 [some (.ref 0), some (.int (nI f)), some (.int st), some (.int en), some (.int (nI d)), t5, t6] [] M = pu_r 408 [some (.ref 0), some (.int (nI f)), some (.int st), some (.int en), some (.int (nI (d + 1))), t5, t6] [] M := by
  have bD := wx_bD hw
  have hn := wx_cD hw
  have d1 : d < 100 := by omega
  have hc : ¬ nI (cD I) ≤ nI d := nI_ge (by omega) (by omega)
  generalize hR : pu_r 408 [some (.ref 0), some (.int (nI f)), some (.int st), some (.int en), some (.int (nI (d + 1))), t5, t6] [] M = R
  rw [qX11_seekOldAt_3]
  simp [bX11_seekOldAt_3, bX11_seekOldAt_148, bX11_seekOldAt_142, bX11_seekOldAt_56, bX11_seekOldAt_111, a_ai, a_ald, a_cv, a_gi, a_gr, a_icge, a_icle, a_iclt, a_ifeq, a_ild, a_inc, a_ist, a_isub, a_max, a_min, a_pi, a_push, a_vret, ag_31 hI, ag_36 hI, ag_37 hI, ag_6 hI, fx_0_2 hx, fx_31_5 hx, fx_31_6 hx, fx_5_0 hx, fx_5_4 hx, sh_0, sh_31, sh_36, sh_37, sh_5, sh_6, pu_rv, pu_as, Value.category, pu_bk, pu_kl, List.replicate, pu_wi_1, pu_wi_2, nl_add, nl_ladd, nl_aa, nl_mul, nl_rmul, nl_mm, pu_qe0, pu_qe1, hn, hc, d1, ho, e1, e2, hR]
  all_goals try simp (maxSteps := 400000) (disch := omega) [nl_tle, nl_fle, nl_tlt, nl_flt, nl_teq, nl_feq, nl_sub, nl_ss, nl_lt, nl_llt, nl_ltt, nl_le, nl_lle, nl_lee, nl_eq, nl_leq, nl_ee, nl_div, nl_rem, nl_cl, nl_n1, nl_n2, nl_n3, nl_n4, nl_add, nl_ladd, nl_aa, nl_mul, nl_rmul, nl_mm, pu_wi_1, pu_wi_2, bX11_seekOldAt_3, bX11_seekOldAt_148, bX11_seekOldAt_142, bX11_seekOldAt_56, bX11_seekOldAt_111, a_ai, a_ald, a_cv, a_gi, a_gr, a_icge, a_icle, a_iclt, a_ifeq, a_ild, a_inc, a_ist, a_isub, a_max, a_min, a_pi, a_push, a_vret, ag_31 hI, ag_36 hI, ag_37 hI, ag_6 hI, fx_0_2 hx, fx_31_5 hx, fx_31_6 hx, fx_5_0 hx, fx_5_4 hx, sh_0, sh_31, sh_36, sh_37, sh_5, sh_6, pu_rv, pu_as, Value.category, pu_bk, pu_kl, pu_qe0, pu_qe1, hn, hc, d1, ho, e1, e2, hR]
  all_goals try simp [bX11_seekOldAt_3, bX11_seekOldAt_148, bX11_seekOldAt_142, bX11_seekOldAt_56, bX11_seekOldAt_111, a_ai, a_ald, a_cv, a_gi, a_gr, a_icge, a_icle, a_iclt, a_ifeq, a_ild, a_inc, a_ist, a_isub, a_max, a_min, a_pi, a_push, a_vret, ag_31 hI, ag_36 hI, ag_37 hI, ag_6 hI, fx_0_2 hx, fx_31_5 hx, fx_31_6 hx, fx_5_0 hx, fx_5_4 hx, sh_0, sh_31, sh_36, sh_37, sh_5, sh_6, pu_rv, pu_as, Value.category, pu_bk, pu_kl, List.replicate, pu_wi_1, pu_wi_2, nl_add, nl_ladd, nl_aa, nl_mul, nl_rmul, nl_mm, pu_qe0, pu_qe1, hn, hc, d1, ho, e1, e2, hR]
  all_goals try simp (maxSteps := 400000) (disch := omega) [nl_tle, nl_fle, nl_tlt, nl_flt, nl_teq, nl_feq, nl_sub, nl_ss, nl_lt, nl_llt, nl_ltt, nl_le, nl_lle, nl_lee, nl_eq, nl_leq, nl_ee, nl_div, nl_rem, nl_cl, nl_n1, nl_n2, nl_n3, nl_n4, nl_add, nl_ladd, nl_aa, nl_mul, nl_rmul, nl_mm, pu_wi_1, pu_wi_2, bX11_seekOldAt_3, bX11_seekOldAt_148, bX11_seekOldAt_142, bX11_seekOldAt_56, bX11_seekOldAt_111, a_ai, a_ald, a_cv, a_gi, a_gr, a_icge, a_icle, a_iclt, a_ifeq, a_ild, a_inc, a_ist, a_isub, a_max, a_min, a_pi, a_push, a_vret, ag_31 hI, ag_36 hI, ag_37 hI, ag_6 hI, fx_0_2 hx, fx_31_5 hx, fx_31_6 hx, fx_5_0 hx, fx_5_4 hx, sh_0, sh_31, sh_36, sh_37, sh_5, sh_6, pu_rv, pu_as, Value.category, pu_bk, pu_kl, pu_qe0, pu_qe1, hn, hc, d1, ho, e1, e2, hR]
  all_goals try simp [bX11_seekOldAt_3, bX11_seekOldAt_148, bX11_seekOldAt_142, bX11_seekOldAt_56, bX11_seekOldAt_111, a_ai, a_ald, a_cv, a_gi, a_gr, a_icge, a_icle, a_iclt, a_ifeq, a_ild, a_inc, a_ist, a_isub, a_max, a_min, a_pi, a_push, a_vret, ag_31 hI, ag_36 hI, ag_37 hI, ag_6 hI, fx_0_2 hx, fx_31_5 hx, fx_31_6 hx, fx_5_0 hx, fx_5_4 hx, sh_0, sh_31, sh_36, sh_37, sh_5, sh_6, pu_rv, pu_as, Value.category, pu_bk, pu_kl, List.replicate, pu_wi_1, pu_wi_2, nl_add, nl_ladd, nl_aa, nl_mul, nl_rmul, nl_mm, pu_qe0, pu_qe1, hn, hc, d1, ho, e1, e2, hR]
  all_goals try simp (maxSteps := 400000) (disch := omega) [nl_tle, nl_fle, nl_tlt, nl_flt, nl_teq, nl_feq, nl_sub, nl_ss, nl_lt, nl_llt, nl_ltt, nl_le, nl_lle, nl_lee, nl_eq, nl_leq, nl_ee, nl_div, nl_rem, nl_cl, nl_n1, nl_n2, nl_n3, nl_n4, nl_add, nl_ladd, nl_aa, nl_mul, nl_rmul, nl_mm, pu_wi_1, pu_wi_2, bX11_seekOldAt_3, bX11_seekOldAt_148, bX11_seekOldAt_142, bX11_seekOldAt_56, bX11_seekOldAt_111, a_ai, a_ald, a_cv, a_gi, a_gr, a_icge, a_icle, a_iclt, a_ifeq, a_ild, a_inc, a_ist, a_isub, a_max, a_min, a_pi, a_push, a_vret, ag_31 hI, ag_36 hI, ag_37 hI, ag_6 hI, fx_0_2 hx, fx_31_5 hx, fx_31_6 hx, fx_5_0 hx, fx_5_4 hx, sh_0, sh_31, sh_36, sh_37, sh_5, sh_6, pu_rv, pu_as, Value.category, pu_bk, pu_kl, pu_qe0, pu_qe1, hn, hc, d1, ho, e1, e2, hR]
  all_goals try simp [bX11_seekOldAt_3, bX11_seekOldAt_148, bX11_seekOldAt_142, bX11_seekOldAt_56, bX11_seekOldAt_111, a_ai, a_ald, a_cv, a_gi, a_gr, a_icge, a_icle, a_iclt, a_ifeq, a_ild, a_inc, a_ist, a_isub, a_max, a_min, a_pi, a_push, a_vret, ag_31 hI, ag_36 hI, ag_37 hI, ag_6 hI, fx_0_2 hx, fx_31_5 hx, fx_31_6 hx, fx_5_0 hx, fx_5_4 hx, sh_0, sh_31, sh_36, sh_37, sh_5, sh_6, pu_rv, pu_as, Value.category, pu_bk, pu_kl, List.replicate, pu_wi_1, pu_wi_2, nl_add, nl_ladd, nl_aa, nl_mul, nl_rmul, nl_mm, pu_qe0, pu_qe1, hn, hc, d1, ho, e1, e2, hR]
theorem c_sk3 {M : pu_M} (hx : pu_fx M) (hI : pu_ag M I) (hw : pu_WF I L) {f d : Nat} (hd : d < cD I) {st en o c sO eC fr la lb : Int32} (t5 t6 : Option Value) (ho : I 36 d = o) (hcl : I 37 d = c) (e1 : pu_r 178 [some (.ref 0), some (.int (nI d)), some (.int (nI f))] [] M = some (some (.int 1), M)) (e2 : pu_r 67 [some (.ref 6), some (.int o)] [] M = some (some (.int 1), M)) (e3 : pu_r 47 [some (.ref 6), some (.int o)] [] M = some (some (.int sO), M)) (e4 : pu_r 148 [some (.ref 6), some (.int c)] [] M = some (some (.int eC), M)) (hfr : (if st < sO then sO else st) = fr) (hla : (if eC < en then eC else en) = la) (hlb : la - 1 = lb) : pu_r 408 [some (.ref 0), some (.int (nI f)), some (.int st), some (.int en), some (.int (nI d)), t5, t6] [] M = kX11_seekOldAt_111 pu_r [some (.ref 0), some (.int (nI f)), some (.int st), some (.int en), some (.int (nI d)), some (.int fr), t6] [.int 1, .int la] M := by
  have bD := wx_bD hw
  have hn := wx_cD hw
  have d1 : d < 100 := by omega
  have hc : ¬ nI (cD I) ≤ nI d := nI_ge (by omega) (by omega)
  rw [qX11_seekOldAt_3]
  simp [bX11_seekOldAt_3, bX11_seekOldAt_148, bX11_seekOldAt_142, bX11_seekOldAt_56, a_ai, a_ald, a_cv, a_gi, a_gr, a_icge, a_ifeq, a_ild, a_inc, a_ist, a_max, a_min, a_push, a_vret, ag_31 hI, ag_36 hI, ag_37 hI, ag_6 hI, fx_0_2 hx, fx_31_5 hx, fx_31_6 hx, fx_5_0 hx, fx_5_4 hx, sh_0, sh_31, sh_36, sh_37, sh_5, sh_6, pu_rv, pu_as, Value.category, pu_bk, pu_kl, List.replicate, pu_wi_1, pu_wi_2, nl_add, nl_ladd, nl_aa, nl_mul, nl_rmul, nl_mm, pu_qe0, pu_qe1, hn, hc, d1, ho, hcl, e1, e2, e3, e4, hfr, hla]
  all_goals try simp (maxSteps := 400000) (disch := omega) [nl_tle, nl_fle, nl_tlt, nl_flt, nl_teq, nl_feq, nl_sub, nl_ss, nl_lt, nl_llt, nl_ltt, nl_le, nl_lle, nl_lee, nl_eq, nl_leq, nl_ee, nl_div, nl_rem, nl_cl, nl_n1, nl_n2, nl_n3, nl_n4, nl_add, nl_ladd, nl_aa, nl_mul, nl_rmul, nl_mm, pu_wi_1, pu_wi_2, bX11_seekOldAt_3, bX11_seekOldAt_148, bX11_seekOldAt_142, bX11_seekOldAt_56, a_ai, a_ald, a_cv, a_gi, a_gr, a_icge, a_ifeq, a_ild, a_inc, a_ist, a_max, a_min, a_push, a_vret, ag_31 hI, ag_36 hI, ag_37 hI, ag_6 hI, fx_0_2 hx, fx_31_5 hx, fx_31_6 hx, fx_5_0 hx, fx_5_4 hx, sh_0, sh_31, sh_36, sh_37, sh_5, sh_6, pu_rv, pu_as, Value.category, pu_bk, pu_kl, pu_qe0, pu_qe1, hn, hc, d1, ho, hcl, e1, e2, e3, e4, hfr, hla]
  all_goals try simp [bX11_seekOldAt_3, bX11_seekOldAt_148, bX11_seekOldAt_142, bX11_seekOldAt_56, a_ai, a_ald, a_cv, a_gi, a_gr, a_icge, a_ifeq, a_ild, a_inc, a_ist, a_max, a_min, a_push, a_vret, ag_31 hI, ag_36 hI, ag_37 hI, ag_6 hI, fx_0_2 hx, fx_31_5 hx, fx_31_6 hx, fx_5_0 hx, fx_5_4 hx, sh_0, sh_31, sh_36, sh_37, sh_5, sh_6, pu_rv, pu_as, Value.category, pu_bk, pu_kl, List.replicate, pu_wi_1, pu_wi_2, nl_add, nl_ladd, nl_aa, nl_mul, nl_rmul, nl_mm, pu_qe0, pu_qe1, hn, hc, d1, ho, hcl, e1, e2, e3, e4, hfr, hla]
  all_goals try simp (maxSteps := 400000) (disch := omega) [nl_tle, nl_fle, nl_tlt, nl_flt, nl_teq, nl_feq, nl_sub, nl_ss, nl_lt, nl_llt, nl_ltt, nl_le, nl_lle, nl_lee, nl_eq, nl_leq, nl_ee, nl_div, nl_rem, nl_cl, nl_n1, nl_n2, nl_n3, nl_n4, nl_add, nl_ladd, nl_aa, nl_mul, nl_rmul, nl_mm, pu_wi_1, pu_wi_2, bX11_seekOldAt_3, bX11_seekOldAt_148, bX11_seekOldAt_142, bX11_seekOldAt_56, a_ai, a_ald, a_cv, a_gi, a_gr, a_icge, a_ifeq, a_ild, a_inc, a_ist, a_max, a_min, a_push, a_vret, ag_31 hI, ag_36 hI, ag_37 hI, ag_6 hI, fx_0_2 hx, fx_31_5 hx, fx_31_6 hx, fx_5_0 hx, fx_5_4 hx, sh_0, sh_31, sh_36, sh_37, sh_5, sh_6, pu_rv, pu_as, Value.category, pu_bk, pu_kl, pu_qe0, pu_qe1, hn, hc, d1, ho, hcl, e1, e2, e3, e4, hfr, hla]
  all_goals try simp [bX11_seekOldAt_3, bX11_seekOldAt_148, bX11_seekOldAt_142, bX11_seekOldAt_56, a_ai, a_ald, a_cv, a_gi, a_gr, a_icge, a_ifeq, a_ild, a_inc, a_ist, a_max, a_min, a_push, a_vret, ag_31 hI, ag_36 hI, ag_37 hI, ag_6 hI, fx_0_2 hx, fx_31_5 hx, fx_31_6 hx, fx_5_0 hx, fx_5_4 hx, sh_0, sh_31, sh_36, sh_37, sh_5, sh_6, pu_rv, pu_as, Value.category, pu_bk, pu_kl, List.replicate, pu_wi_1, pu_wi_2, nl_add, nl_ladd, nl_aa, nl_mul, nl_rmul, nl_mm, pu_qe0, pu_qe1, hn, hc, d1, ho, hcl, e1, e2, e3, e4, hfr, hla]
  all_goals try simp (maxSteps := 400000) (disch := omega) [nl_tle, nl_fle, nl_tlt, nl_flt, nl_teq, nl_feq, nl_sub, nl_ss, nl_lt, nl_llt, nl_ltt, nl_le, nl_lle, nl_lee, nl_eq, nl_leq, nl_ee, nl_div, nl_rem, nl_cl, nl_n1, nl_n2, nl_n3, nl_n4, nl_add, nl_ladd, nl_aa, nl_mul, nl_rmul, nl_mm, pu_wi_1, pu_wi_2, bX11_seekOldAt_3, bX11_seekOldAt_148, bX11_seekOldAt_142, bX11_seekOldAt_56, a_ai, a_ald, a_cv, a_gi, a_gr, a_icge, a_ifeq, a_ild, a_inc, a_ist, a_max, a_min, a_push, a_vret, ag_31 hI, ag_36 hI, ag_37 hI, ag_6 hI, fx_0_2 hx, fx_31_5 hx, fx_31_6 hx, fx_5_0 hx, fx_5_4 hx, sh_0, sh_31, sh_36, sh_37, sh_5, sh_6, pu_rv, pu_as, Value.category, pu_bk, pu_kl, pu_qe0, pu_qe1, hn, hc, d1, ho, hcl, e1, e2, e3, e4, hfr, hla]
  all_goals try simp [bX11_seekOldAt_3, bX11_seekOldAt_148, bX11_seekOldAt_142, bX11_seekOldAt_56, a_ai, a_ald, a_cv, a_gi, a_gr, a_icge, a_ifeq, a_ild, a_inc, a_ist, a_max, a_min, a_push, a_vret, ag_31 hI, ag_36 hI, ag_37 hI, ag_6 hI, fx_0_2 hx, fx_31_5 hx, fx_31_6 hx, fx_5_0 hx, fx_5_4 hx, sh_0, sh_31, sh_36, sh_37, sh_5, sh_6, pu_rv, pu_as, Value.category, pu_bk, pu_kl, List.replicate, pu_wi_1, pu_wi_2, nl_add, nl_ladd, nl_aa, nl_mul, nl_rmul, nl_mm, pu_qe0, pu_qe1, hn, hc, d1, ho, hcl, e1, e2, e3, e4, hfr, hla]
theorem c_sk4 {M : pu_M} {f d : Nat} {st en fr la lb : Int32} (t6 : Option Value) (hlb : la - 1 = lb) (c3 : ¬ (fr ≤ lb ∧ M.1 0 8 < lb)) : kX11_seekOldAt_111 pu_r [some (.ref 0), some (.int (nI f)), some (.int st), some (.int en), some (.int (nI d)), some (.int fr), t6] [.int 1, .int la] M = pu_r 408 [some (.ref 0), some (.int (nI f)), some (.int st), some (.int en), some (.int (nI (d + 1))), some (.int fr), some (.int lb)] [] M := by
  by_cases c : fr ≤ lb
  · have c4 : ¬ M.1 0 8 < lb := fun z => c3 ⟨c, z⟩
    have c' := Int32.not_lt.mpr c
    have c4' := Int32.not_lt.mp c4
    simp [bX11_seekOldAt_111, bX11_seekOldAt_142, a_ald, a_gi, a_icle, a_iclt, a_ild, a_inc, a_ist, a_isub, a_pi, sh_0, pu_rv, pu_as, Value.category, pu_bk, pu_kl, List.replicate, pu_wi_1, pu_wi_2, nl_add, nl_ladd, nl_aa, nl_mul, nl_rmul, nl_mm, pu_qe0, pu_qe1, hlb, c, c', c4, c4']
    all_goals try simp (maxSteps := 400000) (disch := omega) [nl_tle, nl_fle, nl_tlt, nl_flt, nl_teq, nl_feq, nl_sub, nl_ss, nl_lt, nl_llt, nl_ltt, nl_le, nl_lle, nl_lee, nl_eq, nl_leq, nl_ee, nl_div, nl_rem, nl_cl, nl_n1, nl_n2, nl_n3, nl_n4, nl_add, nl_ladd, nl_aa, nl_mul, nl_rmul, nl_mm, pu_wi_1, pu_wi_2, bX11_seekOldAt_111, bX11_seekOldAt_142, a_ald, a_gi, a_icle, a_iclt, a_ild, a_inc, a_ist, a_isub, a_pi, sh_0, pu_rv, pu_as, Value.category, pu_bk, pu_kl, pu_qe0, pu_qe1, hlb, c, c', c4, c4']
    all_goals try simp [bX11_seekOldAt_111, bX11_seekOldAt_142, a_ald, a_gi, a_icle, a_iclt, a_ild, a_inc, a_ist, a_isub, a_pi, sh_0, pu_rv, pu_as, Value.category, pu_bk, pu_kl, List.replicate, pu_wi_1, pu_wi_2, nl_add, nl_ladd, nl_aa, nl_mul, nl_rmul, nl_mm, pu_qe0, pu_qe1, hlb, c, c', c4, c4']
    all_goals try simp (maxSteps := 400000) (disch := omega) [nl_tle, nl_fle, nl_tlt, nl_flt, nl_teq, nl_feq, nl_sub, nl_ss, nl_lt, nl_llt, nl_ltt, nl_le, nl_lle, nl_lee, nl_eq, nl_leq, nl_ee, nl_div, nl_rem, nl_cl, nl_n1, nl_n2, nl_n3, nl_n4, nl_add, nl_ladd, nl_aa, nl_mul, nl_rmul, nl_mm, pu_wi_1, pu_wi_2, bX11_seekOldAt_111, bX11_seekOldAt_142, a_ald, a_gi, a_icle, a_iclt, a_ild, a_inc, a_ist, a_isub, a_pi, sh_0, pu_rv, pu_as, Value.category, pu_bk, pu_kl, pu_qe0, pu_qe1, hlb, c, c', c4, c4']
    all_goals try simp [bX11_seekOldAt_111, bX11_seekOldAt_142, a_ald, a_gi, a_icle, a_iclt, a_ild, a_inc, a_ist, a_isub, a_pi, sh_0, pu_rv, pu_as, Value.category, pu_bk, pu_kl, List.replicate, pu_wi_1, pu_wi_2, nl_add, nl_ladd, nl_aa, nl_mul, nl_rmul, nl_mm, pu_qe0, pu_qe1, hlb, c, c', c4, c4']
    all_goals try simp (maxSteps := 400000) (disch := omega) [nl_tle, nl_fle, nl_tlt, nl_flt, nl_teq, nl_feq, nl_sub, nl_ss, nl_lt, nl_llt, nl_ltt, nl_le, nl_lle, nl_lee, nl_eq, nl_leq, nl_ee, nl_div, nl_rem, nl_cl, nl_n1, nl_n2, nl_n3, nl_n4, nl_add, nl_ladd, nl_aa, nl_mul, nl_rmul, nl_mm, pu_wi_1, pu_wi_2, bX11_seekOldAt_111, bX11_seekOldAt_142, a_ald, a_gi, a_icle, a_iclt, a_ild, a_inc, a_ist, a_isub, a_pi, sh_0, pu_rv, pu_as, Value.category, pu_bk, pu_kl, pu_qe0, pu_qe1, hlb, c, c', c4, c4']
    all_goals try simp [bX11_seekOldAt_111, bX11_seekOldAt_142, a_ald, a_gi, a_icle, a_iclt, a_ild, a_inc, a_ist, a_isub, a_pi, sh_0, pu_rv, pu_as, Value.category, pu_bk, pu_kl, List.replicate, pu_wi_1, pu_wi_2, nl_add, nl_ladd, nl_aa, nl_mul, nl_rmul, nl_mm, pu_qe0, pu_qe1, hlb, c, c', c4, c4']
  · have c' := Int32.not_le.mp c
    simp [bX11_seekOldAt_111, bX11_seekOldAt_142, a_ald, a_gi, a_icle, a_iclt, a_ild, a_inc, a_ist, a_isub, a_pi, sh_0, pu_rv, pu_as, Value.category, pu_bk, pu_kl, List.replicate, pu_wi_1, pu_wi_2, nl_add, nl_ladd, nl_aa, nl_mul, nl_rmul, nl_mm, pu_qe0, pu_qe1, hlb, c, c']
    all_goals try simp (maxSteps := 400000) (disch := omega) [nl_tle, nl_fle, nl_tlt, nl_flt, nl_teq, nl_feq, nl_sub, nl_ss, nl_lt, nl_llt, nl_ltt, nl_le, nl_lle, nl_lee, nl_eq, nl_leq, nl_ee, nl_div, nl_rem, nl_cl, nl_n1, nl_n2, nl_n3, nl_n4, nl_add, nl_ladd, nl_aa, nl_mul, nl_rmul, nl_mm, pu_wi_1, pu_wi_2, bX11_seekOldAt_111, bX11_seekOldAt_142, a_ald, a_gi, a_icle, a_iclt, a_ild, a_inc, a_ist, a_isub, a_pi, sh_0, pu_rv, pu_as, Value.category, pu_bk, pu_kl, pu_qe0, pu_qe1, hlb, c, c']
    all_goals try simp [bX11_seekOldAt_111, bX11_seekOldAt_142, a_ald, a_gi, a_icle, a_iclt, a_ild, a_inc, a_ist, a_isub, a_pi, sh_0, pu_rv, pu_as, Value.category, pu_bk, pu_kl, List.replicate, pu_wi_1, pu_wi_2, nl_add, nl_ladd, nl_aa, nl_mul, nl_rmul, nl_mm, pu_qe0, pu_qe1, hlb, c, c']
    all_goals try simp (maxSteps := 400000) (disch := omega) [nl_tle, nl_fle, nl_tlt, nl_flt, nl_teq, nl_feq, nl_sub, nl_ss, nl_lt, nl_llt, nl_ltt, nl_le, nl_lle, nl_lee, nl_eq, nl_leq, nl_ee, nl_div, nl_rem, nl_cl, nl_n1, nl_n2, nl_n3, nl_n4, nl_add, nl_ladd, nl_aa, nl_mul, nl_rmul, nl_mm, pu_wi_1, pu_wi_2, bX11_seekOldAt_111, bX11_seekOldAt_142, a_ald, a_gi, a_icle, a_iclt, a_ild, a_inc, a_ist, a_isub, a_pi, sh_0, pu_rv, pu_as, Value.category, pu_bk, pu_kl, pu_qe0, pu_qe1, hlb, c, c']
    all_goals try simp [bX11_seekOldAt_111, bX11_seekOldAt_142, a_ald, a_gi, a_icle, a_iclt, a_ild, a_inc, a_ist, a_isub, a_pi, sh_0, pu_rv, pu_as, Value.category, pu_bk, pu_kl, List.replicate, pu_wi_1, pu_wi_2, nl_add, nl_ladd, nl_aa, nl_mul, nl_rmul, nl_mm, pu_qe0, pu_qe1, hlb, c, c']
    all_goals try simp (maxSteps := 400000) (disch := omega) [nl_tle, nl_fle, nl_tlt, nl_flt, nl_teq, nl_feq, nl_sub, nl_ss, nl_lt, nl_llt, nl_ltt, nl_le, nl_lle, nl_lee, nl_eq, nl_leq, nl_ee, nl_div, nl_rem, nl_cl, nl_n1, nl_n2, nl_n3, nl_n4, nl_add, nl_ladd, nl_aa, nl_mul, nl_rmul, nl_mm, pu_wi_1, pu_wi_2, bX11_seekOldAt_111, bX11_seekOldAt_142, a_ald, a_gi, a_icle, a_iclt, a_ild, a_inc, a_ist, a_isub, a_pi, sh_0, pu_rv, pu_as, Value.category, pu_bk, pu_kl, pu_qe0, pu_qe1, hlb, c, c']
    all_goals try simp [bX11_seekOldAt_111, bX11_seekOldAt_142, a_ald, a_gi, a_icle, a_iclt, a_ild, a_inc, a_ist, a_isub, a_pi, sh_0, pu_rv, pu_as, Value.category, pu_bk, pu_kl, List.replicate, pu_wi_1, pu_wi_2, nl_add, nl_ladd, nl_aa, nl_mul, nl_rmul, nl_mm, pu_qe0, pu_qe1, hlb, c, c']
theorem c_sk5 {M : pu_M} {f d : Nat} {st en fr la lb : Int32} (t6 : Option Value) (hlb : la - 1 = lb) (c : fr ≤ lb) (c4 : M.1 0 8 < lb) : kX11_seekOldAt_111 pu_r [some (.ref 0), some (.int (nI f)), some (.int st), some (.int en), some (.int (nI d)), some (.int fr), t6] [.int 1, .int la] M = pu_r 408 [some (.ref 0), some (.int (nI f)), some (.int st), some (.int en), some (.int (nI (d + 1))), some (.int fr), some (.int lb)] [] (pu_wi (pu_wi M 0 8 lb) 0 9 (nI d)) := by
  have c' := Int32.not_lt.mpr c
  have c4' := Int32.not_le.mpr c4
  simp [bX11_seekOldAt_111, bX11_seekOldAt_142, a_ald, a_gi, a_icle, a_iclt, a_ild, a_inc, a_ist, a_isub, a_pi, sh_0, pu_rv, pu_as, Value.category, pu_bk, pu_kl, List.replicate, pu_wi_1, pu_wi_2, nl_add, nl_ladd, nl_aa, nl_mul, nl_rmul, nl_mm, pu_qe0, pu_qe1, hlb, c, c', c4, c4']
  all_goals try simp (maxSteps := 400000) (disch := omega) [nl_tle, nl_fle, nl_tlt, nl_flt, nl_teq, nl_feq, nl_sub, nl_ss, nl_lt, nl_llt, nl_ltt, nl_le, nl_lle, nl_lee, nl_eq, nl_leq, nl_ee, nl_div, nl_rem, nl_cl, nl_n1, nl_n2, nl_n3, nl_n4, nl_add, nl_ladd, nl_aa, nl_mul, nl_rmul, nl_mm, pu_wi_1, pu_wi_2, bX11_seekOldAt_111, bX11_seekOldAt_142, a_ald, a_gi, a_icle, a_iclt, a_ild, a_inc, a_ist, a_isub, a_pi, sh_0, pu_rv, pu_as, Value.category, pu_bk, pu_kl, pu_qe0, pu_qe1, hlb, c, c', c4, c4']
  all_goals try simp [bX11_seekOldAt_111, bX11_seekOldAt_142, a_ald, a_gi, a_icle, a_iclt, a_ild, a_inc, a_ist, a_isub, a_pi, sh_0, pu_rv, pu_as, Value.category, pu_bk, pu_kl, List.replicate, pu_wi_1, pu_wi_2, nl_add, nl_ladd, nl_aa, nl_mul, nl_rmul, nl_mm, pu_qe0, pu_qe1, hlb, c, c', c4, c4']
  all_goals try simp (maxSteps := 400000) (disch := omega) [nl_tle, nl_fle, nl_tlt, nl_flt, nl_teq, nl_feq, nl_sub, nl_ss, nl_lt, nl_llt, nl_ltt, nl_le, nl_lle, nl_lee, nl_eq, nl_leq, nl_ee, nl_div, nl_rem, nl_cl, nl_n1, nl_n2, nl_n3, nl_n4, nl_add, nl_ladd, nl_aa, nl_mul, nl_rmul, nl_mm, pu_wi_1, pu_wi_2, bX11_seekOldAt_111, bX11_seekOldAt_142, a_ald, a_gi, a_icle, a_iclt, a_ild, a_inc, a_ist, a_isub, a_pi, sh_0, pu_rv, pu_as, Value.category, pu_bk, pu_kl, pu_qe0, pu_qe1, hlb, c, c', c4, c4']
  all_goals try simp [bX11_seekOldAt_111, bX11_seekOldAt_142, a_ald, a_gi, a_icle, a_iclt, a_ild, a_inc, a_ist, a_isub, a_pi, sh_0, pu_rv, pu_as, Value.category, pu_bk, pu_kl, List.replicate, pu_wi_1, pu_wi_2, nl_add, nl_ladd, nl_aa, nl_mul, nl_rmul, nl_mm, pu_qe0, pu_qe1, hlb, c, c', c4, c4']
  all_goals try simp (maxSteps := 400000) (disch := omega) [nl_tle, nl_fle, nl_tlt, nl_flt, nl_teq, nl_feq, nl_sub, nl_ss, nl_lt, nl_llt, nl_ltt, nl_le, nl_lle, nl_lee, nl_eq, nl_leq, nl_ee, nl_div, nl_rem, nl_cl, nl_n1, nl_n2, nl_n3, nl_n4, nl_add, nl_ladd, nl_aa, nl_mul, nl_rmul, nl_mm, pu_wi_1, pu_wi_2, bX11_seekOldAt_111, bX11_seekOldAt_142, a_ald, a_gi, a_icle, a_iclt, a_ild, a_inc, a_ist, a_isub, a_pi, sh_0, pu_rv, pu_as, Value.category, pu_bk, pu_kl, pu_qe0, pu_qe1, hlb, c, c', c4, c4']
  all_goals try simp [bX11_seekOldAt_111, bX11_seekOldAt_142, a_ald, a_gi, a_icle, a_iclt, a_ild, a_inc, a_ist, a_isub, a_pi, sh_0, pu_rv, pu_as, Value.category, pu_bk, pu_kl, List.replicate, pu_wi_1, pu_wi_2, nl_add, nl_ladd, nl_aa, nl_mul, nl_rmul, nl_mm, pu_qe0, pu_qe1, hlb, c, c', c4, c4']
theorem c_seekAt_l (hw : pu_WF I L) {nm tw : Nat → Int64} {w x k Y i j : Nat} (hxl : x < 5) (hk : k < 100) (hY : Y ≤ 109574) (hi : i < cN I) (hj : j < cU I) (hA : py_lk (L 26) tw (3 * (I 21 i).toNatClampNeg) 0 ∧ py_lk (L 24) nm (3 * i) 0) (hB : I 16 j = nI w ∧ I 39 (pu_sl0 I j) = I 20 i) (ki : pu_kn I (I 22 i).toNatClampNeg) (kj : pu_kn I (I 17 j).toNatClampNeg) (st en : Int32) (hst : st.toInt = max (I 7 (I 22 i).toNatClampNeg).toInt (I 7 (I 17 j).toNatClampNeg).toInt) (hen : en.toInt = min (min (Y : Int) (pu_en I (I 23 i)).toInt) (pu_en I (I 18 j)).toInt) (S : Nat → Nat → Nat → Prop) : ∀ (m d : Nat) (M : pu_M) (t5 t6 : Option Value), d + m = cD I → py_G M I L nm tw w x k → py_tV I L nm tw w x k Y (fun a b e => S a b e ∨ (a = i ∧ b = j ∧ e < d)) (M.1 0 8) (M.1 0 9) → ∃ N, py_o M N ∧ py_tV I L nm tw w x k Y (fun a b e => S a b e ∨ (a = i ∧ b = j ∧ e < cD I)) (N.1 0 8) (N.1 0 9) ∧ pu_r 408 [some (.ref 0), some (.int (nI (pu_sl0 I j / 2))), some (.int st), some (.int en), some (.int (nI d)), t5, t6] [] M = some (none, N)
  | 0, d, M, t5, t6, h, G, V => by
    obtain ⟨hx, hI, _⟩ := id G
    have bD := wx_bD hw
    have hn := wx_cD hw
    have e : d = cD I := by omega
    subst e
    have hc : nI (cD I) ≤ nI (cD I) := nI_le (by omega) (by omega)
    refine ⟨M, ⟨rfl, fun _ _ _ => rfl⟩, V, ?_⟩
    rw [qX11_seekOldAt_3]
    simp [bX11_seekOldAt_3, bX11_seekOldAt_148, bX11_seekOldAt_142, bX11_seekOldAt_56, bX11_seekOldAt_111, a_ai, a_ald, a_cv, a_gi, a_gr, a_icge, a_icle, a_iclt, a_ifeq, a_ild, a_inc, a_ist, a_isub, a_max, a_min, a_pi, a_push, a_vret, ag_31 hI, ag_36 hI, ag_37 hI, ag_6 hI, fx_0_2 hx, fx_31_5 hx, fx_31_6 hx, fx_5_0 hx, fx_5_4 hx, sh_0, sh_31, sh_36, sh_37, sh_5, sh_6, pu_rv, pu_as, Value.category, pu_bk, pu_kl, List.replicate, pu_wi_1, pu_wi_2, nl_add, nl_ladd, nl_aa, nl_mul, nl_rmul, nl_mm, pu_qe0, pu_qe1, hn, hc]
    all_goals try simp (maxSteps := 400000) (disch := omega) [nl_tle, nl_fle, nl_tlt, nl_flt, nl_teq, nl_feq, nl_sub, nl_ss, nl_lt, nl_llt, nl_ltt, nl_le, nl_lle, nl_lee, nl_eq, nl_leq, nl_ee, nl_div, nl_rem, nl_cl, nl_n1, nl_n2, nl_n3, nl_n4, nl_add, nl_ladd, nl_aa, nl_mul, nl_rmul, nl_mm, pu_wi_1, pu_wi_2, bX11_seekOldAt_3, bX11_seekOldAt_148, bX11_seekOldAt_142, bX11_seekOldAt_56, bX11_seekOldAt_111, a_ai, a_ald, a_cv, a_gi, a_gr, a_icge, a_icle, a_iclt, a_ifeq, a_ild, a_inc, a_ist, a_isub, a_max, a_min, a_pi, a_push, a_vret, ag_31 hI, ag_36 hI, ag_37 hI, ag_6 hI, fx_0_2 hx, fx_31_5 hx, fx_31_6 hx, fx_5_0 hx, fx_5_4 hx, sh_0, sh_31, sh_36, sh_37, sh_5, sh_6, pu_rv, pu_as, Value.category, pu_bk, pu_kl, pu_qe0, pu_qe1, hn, hc]
    all_goals try simp [bX11_seekOldAt_3, bX11_seekOldAt_148, bX11_seekOldAt_142, bX11_seekOldAt_56, bX11_seekOldAt_111, a_ai, a_ald, a_cv, a_gi, a_gr, a_icge, a_icle, a_iclt, a_ifeq, a_ild, a_inc, a_ist, a_isub, a_max, a_min, a_pi, a_push, a_vret, ag_31 hI, ag_36 hI, ag_37 hI, ag_6 hI, fx_0_2 hx, fx_31_5 hx, fx_31_6 hx, fx_5_0 hx, fx_5_4 hx, sh_0, sh_31, sh_36, sh_37, sh_5, sh_6, pu_rv, pu_as, Value.category, pu_bk, pu_kl, List.replicate, pu_wi_1, pu_wi_2, nl_add, nl_ladd, nl_aa, nl_mul, nl_rmul, nl_mm, pu_qe0, pu_qe1, hn, hc]
    all_goals try simp (maxSteps := 400000) (disch := omega) [nl_tle, nl_fle, nl_tlt, nl_flt, nl_teq, nl_feq, nl_sub, nl_ss, nl_lt, nl_llt, nl_ltt, nl_le, nl_lle, nl_lee, nl_eq, nl_leq, nl_ee, nl_div, nl_rem, nl_cl, nl_n1, nl_n2, nl_n3, nl_n4, nl_add, nl_ladd, nl_aa, nl_mul, nl_rmul, nl_mm, pu_wi_1, pu_wi_2, bX11_seekOldAt_3, bX11_seekOldAt_148, bX11_seekOldAt_142, bX11_seekOldAt_56, bX11_seekOldAt_111, a_ai, a_ald, a_cv, a_gi, a_gr, a_icge, a_icle, a_iclt, a_ifeq, a_ild, a_inc, a_ist, a_isub, a_max, a_min, a_pi, a_push, a_vret, ag_31 hI, ag_36 hI, ag_37 hI, ag_6 hI, fx_0_2 hx, fx_31_5 hx, fx_31_6 hx, fx_5_0 hx, fx_5_4 hx, sh_0, sh_31, sh_36, sh_37, sh_5, sh_6, pu_rv, pu_as, Value.category, pu_bk, pu_kl, pu_qe0, pu_qe1, hn, hc]
    all_goals try simp [bX11_seekOldAt_3, bX11_seekOldAt_148, bX11_seekOldAt_142, bX11_seekOldAt_56, bX11_seekOldAt_111, a_ai, a_ald, a_cv, a_gi, a_gr, a_icge, a_icle, a_iclt, a_ifeq, a_ild, a_inc, a_ist, a_isub, a_max, a_min, a_pi, a_push, a_vret, ag_31 hI, ag_36 hI, ag_37 hI, ag_6 hI, fx_0_2 hx, fx_31_5 hx, fx_31_6 hx, fx_5_0 hx, fx_5_4 hx, sh_0, sh_31, sh_36, sh_37, sh_5, sh_6, pu_rv, pu_as, Value.category, pu_bk, pu_kl, List.replicate, pu_wi_1, pu_wi_2, nl_add, nl_ladd, nl_aa, nl_mul, nl_rmul, nl_mm, pu_qe0, pu_qe1, hn, hc]
    all_goals try simp (maxSteps := 400000) (disch := omega) [nl_tle, nl_fle, nl_tlt, nl_flt, nl_teq, nl_feq, nl_sub, nl_ss, nl_lt, nl_llt, nl_ltt, nl_le, nl_lle, nl_lee, nl_eq, nl_leq, nl_ee, nl_div, nl_rem, nl_cl, nl_n1, nl_n2, nl_n3, nl_n4, nl_add, nl_ladd, nl_aa, nl_mul, nl_rmul, nl_mm, pu_wi_1, pu_wi_2, bX11_seekOldAt_3, bX11_seekOldAt_148, bX11_seekOldAt_142, bX11_seekOldAt_56, bX11_seekOldAt_111, a_ai, a_ald, a_cv, a_gi, a_gr, a_icge, a_icle, a_iclt, a_ifeq, a_ild, a_inc, a_ist, a_isub, a_max, a_min, a_pi, a_push, a_vret, ag_31 hI, ag_36 hI, ag_37 hI, ag_6 hI, fx_0_2 hx, fx_31_5 hx, fx_31_6 hx, fx_5_0 hx, fx_5_4 hx, sh_0, sh_31, sh_36, sh_37, sh_5, sh_6, pu_rv, pu_as, Value.category, pu_bk, pu_kl, pu_qe0, pu_qe1, hn, hc]
    all_goals try simp [bX11_seekOldAt_3, bX11_seekOldAt_148, bX11_seekOldAt_142, bX11_seekOldAt_56, bX11_seekOldAt_111, a_ai, a_ald, a_cv, a_gi, a_gr, a_icge, a_icle, a_iclt, a_ifeq, a_ild, a_inc, a_ist, a_isub, a_max, a_min, a_pi, a_push, a_vret, ag_31 hI, ag_36 hI, ag_37 hI, ag_6 hI, fx_0_2 hx, fx_31_5 hx, fx_31_6 hx, fx_5_0 hx, fx_5_4 hx, sh_0, sh_31, sh_36, sh_37, sh_5, sh_6, pu_rv, pu_as, Value.category, pu_bk, pu_kl, List.replicate, pu_wi_1, pu_wi_2, nl_add, nl_ladd, nl_aa, nl_mul, nl_rmul, nl_mm, pu_qe0, pu_qe1, hn, hc]
  | m + 1, d, M, t5, t6, h, G, V => by
    obtain ⟨hx, hI, hL, g4, g5, g6, g7, g8⟩ := id G
    have bD := wx_bD hw
    have bP := wx_bP hw
    have hd : d < cD I := by omega
    have sl := (pu_sl_lt hw hj).1
    have e1 := c_isTold hx hI hw hxl hk g7 g8 (pu_sl0 I j / 2) (by omega) d hd
    obtain ⟨o1, o2⟩ := pu_on (wx_do hw d hd)
    have e2 := c_isThere hx hI hw _ o2
    have e3 := c_startOf hx hI hw _ o2
    have e4 := c_endOf hx hI hw (I 37 d) (pu_cw ⟨(wx_dc hw d hd).1, (wx_dc hw d hd).2.1⟩)
    rw [← o1] at e2 e3
    have SKIP : (∀ y, ¬ py_tT I L nm tw w x k Y i j d y) → py_tV I L nm tw w x k Y (fun a b e => S a b e ∨ (a = i ∧ b = j ∧ e < d + 1)) (M.1 0 8) (M.1 0 9) := fun no => py_tV_m V (fun a b e y s t => by
      rcases s with s | ⟨s1, s2, s3⟩
      · exact Or.inl s
      · by_cases z : e = d
        · rw [s1, s2, z] at t
          exact absurd t (no y)
        · exact Or.inr ⟨s1, s2, by omega⟩)
    by_cases c1 : py_tl I x k (pu_sl0 I j / 2) d
    rotate_left
    · rw [pu_q0 c1] at e1
      rw [c_sk1 hx hI hw hd t5 t6 e1]
      exact c_seekAt_l hw hxl hk hY hi hj hA hB ki kj st en hst hen S m (d + 1) M t5 t6 (by omega) G (SKIP (fun y t => c1 t.2.2.2.1))
    rw [pu_q1 c1] at e1
    by_cases c2 : pu_kn I (I 36 d).toNatClampNeg
    rotate_left
    · rw [pu_q0 c2] at e2
      rw [c_sk2 hx hI hw hd t5 t6 rfl e1 e2]
      exact c_seekAt_l hw hxl hk hY hi hj hA hB ki kj st en hst hen S m (d + 1) M t5 t6 (by omega) G (SKIP (fun y t => c2 t.2.2.2.2.1.1))
    rw [pu_q1 c2] at e2
    obtain ⟨fr, hfr⟩ : ∃ fr, (if st < I 7 (I 36 d).toNatClampNeg then I 7 (I 36 d).toNatClampNeg else st) = fr := ⟨_, rfl⟩
    obtain ⟨la, hla⟩ : ∃ la, (if pu_en I (I 37 d) < en then pu_en I (I 37 d) else en) = la := ⟨_, rfl⟩
    have frT : fr.toInt = max st.toInt (I 7 (I 36 d).toNatClampNeg).toInt := by rw [← hfr]; exact py_mxT _ _
    have laT : la.toInt = min en.toInt (pu_en I (I 37 d)).toInt := by rw [← hla]; exact py_mnT _ _
    have b1 := py_enB hw (I 37 d) (pu_cw ⟨(wx_dc hw d hd).1, (wx_dc hw d hd).2.1⟩)
    have b2 := py_enB hw (I 23 i) (pu_cw ⟨(wx_nc hw i hi).1, (wx_nc hw i hi).2.1⟩)
    have b3 := py_enB hw (I 18 j) (pu_cw ⟨(wx_uc hw j hj).1, (wx_uc hw j hj).2.1⟩)
    have p1 := wx_pf hw _ o2
    have laB : 0 ≤ la.toInt ∧ la.toInt ≤ 109575 := by omega
    obtain ⟨ln, lnl, hln⟩ : ∃ ln, ln < 109576 ∧ la = nI ln := by
      have := pu_on (x := la) (n := 109576) ⟨laB.1, by omega⟩
      exact ⟨_, this.2, this.1⟩
    have tl : la.toInt = ln := by rw [hln]; exact nl_n0 (a := ln) (by omega)
    have l1T : (la - 1).toInt = (ln : Int) - 1 := by rw [hln]; exact py_m1_t (by omega)
    have TT := py_tT_r (L := L) (nm := nm) (tw := tw) (w := w) (x := x) (k := k) hY hi hj hd hA hB ki kj c2 c1 hst hen frT laT
    obtain ⟨lb, hlb⟩ : ∃ lb, la - 1 = lb := ⟨_, rfl⟩
    rw [hlb] at l1T
    rw [c_sk3 hx hI hw hd t5 t6 rfl rfl e1 e2 e3 e4 hfr hla hlb]
    have od := (M.1 0 8).toInt
    by_cases c3 : fr ≤ lb ∧ M.1 0 8 < lb
    rotate_left
    · rw [c_sk4 t6 hlb c3]
      have V2 : py_tV I L nm tw w x k Y (fun a b e => S a b e ∨ (a = i ∧ b = j ∧ e < d + 1)) (M.1 0 8) (M.1 0 9) := ⟨fun a b e y s t => by
        rcases s with s | ⟨s1, s2, s3⟩
        · exact V.1 a b e y (Or.inl s) t
        · by_cases z : e = d
          · rw [s1, s2, z] at t
            have q := (TT y).mp t
            rw [Int32.le_iff_toInt_le, Int32.lt_iff_toInt_lt, l1T] at c3
            omega
          · exact V.1 a b e y (Or.inr ⟨s1, s2, by omega⟩) t, V.2⟩
      exact c_seekAt_l hw hxl hk hY hi hj hA hB ki kj st en hst hen S m (d + 1) M (some (.int fr)) (some (.int lb)) (by omega) G V2
    rw [c_sk5 t6 hlb c3.1 c3.2]
    have q3 := c3.1
    have q4 := c3.2
    rw [Int32.le_iff_toInt_le, l1T] at q3
    rw [Int32.lt_iff_toInt_lt, l1T] at q4
    have frN : 0 ≤ fr.toInt := by omega
    have ln1 : 1 ≤ ln := by omega
    have e9 : lb = nI (ln - 1) := by rw [← hlb, hln]; exact pk_sub (b := 1) ln1
    have O : py_o M (pu_wi (pu_wi M 0 8 lb) 0 9 (nI d)) := ⟨rfl, fun a q hq => by rw [py_wi_o (by omega), py_wi_o (by omega)]⟩
    have w8 : (pu_wi (pu_wi M 0 8 lb) 0 9 (nI d)).1 0 8 = lb := by
      rw [py_wi_o (by omega)]
      simp [pu_wi_1]
    have w9 : (pu_wi (pu_wi M 0 8 lb) 0 9 (nI d)).1 0 9 = nI d := by simp [pu_wi_1]
    have Tl : py_tT I L nm tw w x k Y i j d (ln - 1) := (TT _).mpr ⟨by omega, by omega⟩
    have V3 : py_tV I L nm tw w x k Y (fun a b e => S a b e ∨ (a = i ∧ b = j ∧ e < d + 1)) lb (nI d) := by
      refine ⟨fun a b e y s t => ?_, Or.inr ⟨i, j, d, ln - 1, Tl, e9, rfl, fun e he t => ?_⟩⟩
      · rw [l1T]
        rcases s with s | ⟨s1, s2, s3⟩
        · have := V.1 a b e y (Or.inl s) t
          omega
        · by_cases z : e = d
          · rw [s1, s2, z] at t
            have q := (TT y).mp t
            omega
          · have := V.1 a b e y (Or.inr ⟨s1, s2, by omega⟩) t
            omega
      · have := V.1 i j e (ln - 1) (Or.inr ⟨rfl, rfl, he⟩) t
        omega
    obtain ⟨N, n1, n2, n3⟩ := c_seekAt_l hw hxl hk hY hi hj hA hB ki kj st en hst hen S m (d + 1) (pu_wi (pu_wi M 0 8 lb) 0 9 (nI d)) (some (.int fr)) (some (.int lb)) (by omega) (py_G_o G O) (by rw [w8, w9]; exact V3)
    exact ⟨N, py_o_t O n1, n2, n3⟩
end
