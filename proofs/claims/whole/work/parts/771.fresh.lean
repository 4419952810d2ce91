/-! fresh numbers -/
def py_sd (I : Nat → Nat → Int32) (V : Nat → Nat) (a : Nat) : Nat := (I 40 (pu_sl0 I (V a))).toNatClampNeg
def py_pc (I : Nat → Nat → Int32) (V : Nat → Nat) (a : Nat) : Nat := (I 41 (pu_sl0 I (V a))).toNatClampNeg
/-- how many of the first a places are on side s -/
def py_sct (I : Nat → Nat → Int32) (V : Nat → Nat) (s : Nat) : Nat → Nat
  | 0 => 0
  | a + 1 => (if py_sd I V a = s then 1 else 0) + py_sct I V s a
def py_dgt (I : Nat → Nat → Int32) (V : Nat → Nat) (a : Nat) : Nat := 2 * (py_pc I V a / 10) + 1 + py_sd I V a
def py_f2 (I : Nat → Nat → Int32) (V : Nat → Nat) : Nat → Nat
  | 0 => 16 * py_dgt I V 0
  | a + 1 => if py_f2 I V a / 16 = py_dgt I V (a + 1) then py_f2 I V a + 1 else 16 * py_dgt I V (a + 1)
def py_nth (I : Nat → Nat → Int32) (V : Nat → Nat) (a : Nat) : Nat := py_sct I V (py_sd I V a) a
def py_rowv (I : Nat → Nat → Int32) (st s i : Nat) : Int32 := if nI i < I 29 (2 * st + s) then I 30 ((2 * st + s) * 100 + i) else -1
def py_FR (I : Nat → Nat → Int32) (st ru : Nat) (V : Nat → Nat) (a : Nat) : Int32 := if ru = 0 then nI (16 * (2 * py_nth I V a + 1 + py_sd I V a)) else if ru = 1 then nI (16 * (a + 1)) else if ru = 2 then nI (py_f2 I V a) else py_rowv I st (py_sd I V a) (py_nth I V a)
def py_FW (I : Nat → Nat → Int32) (st ru : Nat) (V : Nat → Nat) (a : Nat) : Int32 := if py_FR I st ru V a = -1 then 0 else py_FR I st ru V a
/-- the places are places, by sides, and on a side by paces -/
def py_vs (I : Nat → Nat → Int32) (ru : Nat) (V : Nat → Nat) (n : Nat) : Prop := (∀ a, a < n → py_sd I V a < 2 ∧ py_pc I V a < 10000 ∧ I 40 (pu_sl0 I (V a)) = nI (py_sd I V a) ∧ I 41 (pu_sl0 I (V a)) = nI (py_pc I V a)) ∧ (∀ a b, a < b → b < n → py_sd I V a ≤ py_sd I V b ∧ (ru ≠ 1 → py_sd I V a = py_sd I V b → py_pc I V a < py_pc I V b))
section
variable {I : Nat → Nat → Int32} {L : Nat → Nat → Int64} {V : Nat → Nat} {n st ru : Nat}
theorem py_sct_le (s : Nat) : ∀ a, py_sct I V s a ≤ a
  | 0 => Nat.le_refl _
  | a + 1 => by
    have := py_sct_le s a
    show (if py_sd I V a = s then 1 else 0) + py_sct I V s a ≤ a + 1
    split <;> omega
theorem py_sct_0 (s : Nat) : ∀ a, (∀ b, b < a → py_sd I V b ≠ s) → py_sct I V s a = 0
  | 0, _ => rfl
  | a + 1, h => by
    show (if py_sd I V a = s then 1 else 0) + py_sct I V s a = 0
    rw [if_neg (h a (by omega)), py_sct_0 s a (fun b hb => h b (by omega))]
theorem py_nth_s (h : py_vs I ru V n) {a : Nat} (ha : a < n) : py_nth I V a = (if 0 < a ∧ py_sd I V (a - 1) = py_sd I V a then py_nth I V (a - 1) + 1 else 0) := by
  match a, ha with
  | 0, ha => rfl
  | a + 1, ha =>
    have e : py_nth I V (a + 1) = (if py_sd I V a = py_sd I V (a + 1) then 1 else 0) + py_sct I V (py_sd I V (a + 1)) a := rfl
    by_cases c : py_sd I V a = py_sd I V (a + 1)
    · rw [if_pos ⟨by omega, c⟩, e, if_pos c, ← c]
      show 1 + py_sct I V (py_sd I V a) a = py_sct I V (py_sd I V a) a + 1
      omega
    · rw [if_neg (fun z => c z.2), e, if_neg c, py_sct_0]
      intro b hb z
      have q1 := (h.2 a (a + 1) (by omega) ha).1
      by_cases k : b = a
      · rw [k] at z; exact c z
      · have q2 := (h.2 b a (by omega) (by omega)).1
        omega
theorem py_nth_lt {a : Nat} : py_nth I V a ≤ a := py_sct_le _ a
/-- letters by paces -/
theorem py_f2_b (h : py_vs I 2 V n) : ∀ a, a < n → ∃ l, l ≤ py_pc I V a % 10 ∧ py_f2 I V a = 16 * py_dgt I V a + l
  | 0, ha => ⟨0, Nat.zero_le _, rfl⟩
  | a + 1, ha => by
    obtain ⟨l, l1, l2⟩ := py_f2_b h a (by omega)
    show ∃ l, l ≤ _ ∧ (if py_f2 I V a / 16 = py_dgt I V (a + 1) then py_f2 I V a + 1 else 16 * py_dgt I V (a + 1)) = _
    have p1 := h.1 a (by omega)
    have p2 := h.1 (a + 1) ha
    have q := h.2 a (a + 1) (by omega) ha
    have m1 : py_pc I V a % 10 < 10 := Nat.mod_lt _ (by omega)
    by_cases c : py_f2 I V a / 16 = py_dgt I V (a + 1)
    · rw [if_pos c]
      have e : py_dgt I V a = py_dgt I V (a + 1) := by rw [l2] at c; omega
      have e2 := e
      unfold py_dgt at e2
      have s1 : py_sd I V a = py_sd I V (a + 1) := by omega
      have pc := q.2 (by omega) s1
      refine ⟨l + 1, by omega, by rw [l2, ← e]; omega⟩
    · rw [if_neg c]
      exact ⟨0, Nat.zero_le _, rfl⟩
theorem py_f2_s (h : py_vs I 2 V n) {a b : Nat} (hab : a < b) (hb : b < n) (sd : py_sd I V a = py_sd I V b) : py_f2 I V a < py_f2 I V b := by
  have st : ∀ c, c + 1 < n → py_sd I V c = py_sd I V (c + 1) → py_f2 I V c < py_f2 I V (c + 1) := fun c hc e => by
    obtain ⟨l, l1, l2⟩ := py_f2_b h c (by omega)
    have q := (h.2 c (c + 1) (by omega) hc).2 (by omega) e
    have m1 : py_pc I V c % 10 < 10 := Nat.mod_lt _ (by omega)
    show _ < (if py_f2 I V c / 16 = py_dgt I V (c + 1) then py_f2 I V c + 1 else 16 * py_dgt I V (c + 1))
    by_cases z : py_f2 I V c / 16 = py_dgt I V (c + 1)
    · rw [if_pos z]; omega
    · rw [if_neg z]
      have z2 : py_dgt I V c ≠ py_dgt I V (c + 1) := fun k => z (by rw [l2]; omega)
      rw [l2]
      unfold py_dgt at z2 ⊢
      omega
  have S : ∀ k, a + k < n → py_sd I V a = py_sd I V (a + k) → 0 < k → py_f2 I V a < py_f2 I V (a + k) := fun k => by
    induction k with
    | zero => intro _ _ z; omega
    | succ k ih =>
      intro h1 h2 _
      have q1 : py_sd I V a ≤ py_sd I V (a + k) := by
        by_cases z : k = 0
        · rw [z]; exact Nat.le_refl _
        · exact (h.2 a (a + k) (by omega) (by omega)).1
      have q2 := (h.2 (a + k) (a + (k + 1)) (by omega) h1).1
      have x := st (a + k) (by omega) (by rw [← Nat.add_assoc] at h2 q2; omega)
      rw [← Nat.add_assoc]
      by_cases z : k = 0
      · rw [z] at x ⊢; exact x
      · exact Nat.lt_trans (ih (by omega) (by omega) (by omega)) x
  have := S (b - a) (by omega) (by rw [show a + (b - a) = b by omega]; exact sd) (by omega)
  rw [show a + (b - a) = b by omega] at this
  exact this
theorem py_sct_m (s : Nat) : ∀ b a, a ≤ b → py_sct I V s a ≤ py_sct I V s b
  | 0, a, h => by rw [show a = 0 by omega]; exact Nat.le_refl _
  | b + 1, a, h => by
    by_cases z : a = b + 1
    · rw [z]; exact Nat.le_refl _
    · have := py_sct_m s b a (by omega)
      show _ ≤ (if py_sd I V b = s then 1 else 0) + py_sct I V s b
      omega
theorem py_nth_i {a b : Nat} (hab : a < b) (e : py_sd I V a = py_sd I V b) : py_nth I V a < py_nth I V b := by
  have := py_sct_m (I := I) (V := V) (py_sd I V b) b (a + 1) (by omega)
  have e2 : py_sct I V (py_sd I V b) (a + 1) = (if py_sd I V a = py_sd I V b then 1 else 0) + py_sct I V (py_sd I V b) a := rfl
  rw [if_pos e] at e2
  unfold py_nth
  rw [e]
  omega
/-- in line with a rule, a place's order -/
def py_an (ru s p : Nat) : Nat := if ru = 1 then (if s = 0 then p else 20000 - p) else 100000 * s + p
def py_aq (I : Nat → Nat → Int32) (ru k : Nat) : Nat := py_an ru (I 40 (pu_sl0 I k)).toNatClampNeg (I 41 (pu_sl0 I k)).toNatClampNeg
def py_osx (I : Nat → Nat → Int32) (st k : Nat) : Prop := k < cU I ∧ I 39 (pu_sl0 I k) = nI st ∧ I 18 k = -1
theorem py_osx_tn (k : Nat) : pu_tn I (-1) k = (I 18 k = -1) := by
  unfold pu_tn
  rw [if_pos rfl]
theorem py_osx_pl (hw : pu_WF I L) (hst : st < 2147483648) {k : Nat} (h : py_osx I st k) : (I 40 (pu_sl0 I k)).toNatClampNeg < 2 ∧ (I 41 (pu_sl0 I k)).toNatClampNeg < 10000 ∧ I 40 (pu_sl0 I k) = nI (I 40 (pu_sl0 I k)).toNatClampNeg ∧ I 41 (pu_sl0 I k) = nI (I 41 (pu_sl0 I k)).toNatClampNeg := by
  have p := py_pl0 (y := -1) hw hst h.1 h.2.1 (by rw [py_osx_tn]; exact h.2.2)
  have a1 := pu_on (x := I 40 (pu_sl0 I k)) (n := 2) ⟨p.1, by omega⟩
  have a2 := pu_on (x := I 41 (pu_sl0 I k)) (n := 10000) ⟨p.2.2.1, by omega⟩
  exact ⟨a1.2, a2.2, a1.1, a2.1⟩
theorem py_aq_i (hw : pu_WF I L) (hst : st < 2147483648) {k l : Nat} (h : py_osx I st k) (g : py_osx I st l) (e : py_aq I ru k = py_aq I ru l) : k = l := by
  have p := py_osx_pl hw hst h
  have q := py_osx_pl hw hst g
  have es : (I 40 (pu_sl0 I k)).toNatClampNeg = (I 40 (pu_sl0 I l)).toNatClampNeg ∧ (I 41 (pu_sl0 I k)).toNatClampNeg = (I 41 (pu_sl0 I l)).toNatClampNeg := by
    unfold py_aq py_an at e
    generalize (I 40 (pu_sl0 I k)).toNatClampNeg = a at *
    generalize (I 40 (pu_sl0 I l)).toNatClampNeg = b at *
    generalize (I 41 (pu_sl0 I k)).toNatClampNeg = c at *
    generalize (I 41 (pu_sl0 I l)).toNatClampNeg = d at *
    by_cases r : ru = 1
    · rw [if_pos r, if_pos r] at e
      split at e <;> split at e <;> omega
    · rw [if_neg r, if_neg r] at e
      omega
  refine py_injA (y := -1) hw hst h.1 h.2.1 (by rw [py_osx_tn]; exact h.2.2) g.1 g.2.1 (by rw [py_osx_tn]; exact g.2.2) ?_ ?_
  · rw [p.2.2.1, q.2.2.1, es.1]
  · rw [p.2.2.2, q.2.2.2, es.2]
theorem py_rk_aq (hw : pu_WF I L) (hst : st < 2147483648) {k : Nat} (h : py_osx I st k) : (pu_rk I (if ru = 1 then 0 else 3) k).toInt = (py_aq I ru k : Int) - (if ru = 1 then 0 else 80000 * ((I 40 (pu_sl0 I k)).toNatClampNeg : Int)) := by
  have hp := py_osx_pl hw hst h
  unfold pu_rk py_aq
  rw [hp.2.2.1, hp.2.2.2, nl_cl _ (by have := hp.1; omega), nl_cl _ (by have := hp.2.1; omega)]
  have b1 := hp.1
  have b2 := hp.2.1
  generalize (I 40 (pu_sl0 I k)).toNatClampNeg = s at *
  generalize (I 41 (pu_sl0 I k)).toNatClampNeg = p at *
  unfold py_an
  by_cases r : ru = 1
  · rw [if_pos r, if_pos r, if_pos r, py_rkx0]
    by_cases z : s = 0
    · have z2 : nI s = 0 := by rw [z]; rfl
      rw [if_pos z, if_pos z2, nl_n0 (a := p) (by omega)]
      omega
    · have z2 : ¬ nI s = 0 := fun q => by
        rw [show (0 : Int32) = nI 0 from rfl, nI_eq (by omega) (by omega)] at q
        exact z q
      rw [if_neg z2, if_neg z, show (20000 : Int32) - nI p = nI (20000 - p) from pk_sub (a := 20000) (by omega), nl_n0 (a := 20000 - p) (by omega)]
      omega
  · rw [if_neg r, if_neg r, if_neg r]
    have e : pu_rkx 3 (nI s) (nI p) = nI (s * 20000 + p) := by
      have : pu_rkx 3 (nI s) (nI p) = nI s * 20000 + nI p := by simp [pu_rkx]
      rw [this, show (20000 : Int32) = nI 20000 from rfl, pk_mul, nI_add]
    rw [e, nl_n0 (a := s * 20000 + p) (by omega)]
    omega
theorem py_view_os (hw : pu_WF I L) (hst : st < 2147483648) (h : pu_VI I (if ru = 1 then 0 else 3) (pu_cf I st (-1)) (cU I) V n) : py_SL (py_aq I ru) (py_osx I st) V n ∧ py_vs I ru V n := by
  have C : ∀ a, a < n → py_osx I st (V a) := fun a ha => by
    have := h.1 a ha
    have z := this.2.2
    rw [py_osx_tn] at z
    exact ⟨this.1, this.2.1, z⟩
  have SL : py_SL (py_aq I ru) (py_osx I st) V n := by
    refine ⟨C, fun k hk => h.2.1 k hk.1 ⟨hk.2.1, by rw [py_osx_tn]; exact hk.2.2⟩, fun a b hab hb => ?_⟩
    have q := h.2.2 a b hab hb
    have ca := C a (by omega)
    have cb := C b hb
    have ra := py_rk_aq (ru := ru) hw hst ca
    have rb := py_rk_aq (ru := ru) hw hst cb
    have le := Int32.le_iff_toInt_le.mp q.2
    rw [ra, rb] at le
    have ne : py_aq I ru (V a) ≠ py_aq I ru (V b) := fun e => q.1 (py_aq_i hw hst ca cb e)
    have pa := py_osx_pl hw hst ca
    have pb := py_osx_pl hw hst cb
    by_cases r : ru = 1
    · rw [if_pos r, if_pos r] at le
      omega
    · rw [if_neg r, if_neg r] at le
      unfold py_aq py_an at le ne ⊢
      rw [if_neg r, if_neg r] at le ne ⊢
      omega
  refine ⟨SL, fun a ha => py_osx_pl hw hst (C a ha), fun a b hab hb => ?_⟩
  have lt := SL.2.2 a b hab hb
  have pa := py_osx_pl hw hst (C a (by omega))
  have pb := py_osx_pl hw hst (C b hb)
  unfold py_aq py_an at lt
  show (I 40 (pu_sl0 I (V a))).toNatClampNeg ≤ (I 40 (pu_sl0 I (V b))).toNatClampNeg ∧ (ru ≠ 1 → (I 40 (pu_sl0 I (V a))).toNatClampNeg = (I 40 (pu_sl0 I (V b))).toNatClampNeg → (I 41 (pu_sl0 I (V a))).toNatClampNeg < (I 41 (pu_sl0 I (V b))).toNatClampNeg)
  generalize (I 40 (pu_sl0 I (V a))).toNatClampNeg = a1 at *
  generalize (I 40 (pu_sl0 I (V b))).toNatClampNeg = b1 at *
  generalize (I 41 (pu_sl0 I (V a))).toNatClampNeg = a2 at *
  generalize (I 41 (pu_sl0 I (V b))).toNatClampNeg = b2 at *
  by_cases r : ru = 1
  · rw [if_pos r, if_pos r] at lt
    refine ⟨?_, fun z => absurd r z⟩
    split at lt <;> split at lt <;> omega
  · rw [if_neg r, if_neg r] at lt
    exact ⟨by omega, fun _ e => by omega⟩
end
/-! the class -/
section
variable {M : pu_M} {I : Nat → Nat → Int32} {L : Nat → Nat → Int64} {V : Nat → Nat} {n st ru : Nat}
theorem c_rowWholeOf (hx : pu_fx M) (hI : pu_ag M I) (hw : pu_WF I L) (hst : st < cK I) {s i : Nat} (hs : s < 2) (hi : i < 100) : pu_r 106 [some (.ref 25), some (.int (nI st)), some (.int (nI s)), some (.int (nI i))] [] M = some (some (.int (py_rowv I st s i)), M) := by
  have bK := wx_bK hw
  unfold py_rowv
  have r1 : 2 * st + s < 48 := by omega
  have i2 : ¬ 100 ≤ nI i := nI_ge (b := 100) (by omega) (by omega)
  by_cases c : nI i < I 29 (2 * st + s)
  · rw [if_pos c]
    have c' := Int32.not_le.mpr c
    rw [qX10_rowWholeOf]
    simp [a_ent, bX10_rowWholeOf_0, bX10_rowWholeOf_39, bX10_rowWholeOf_40, a_ai, a_ald, a_gr, a_iadd, a_icge, a_ild, a_imul, a_iret, a_ist, a_push, ag_29 hI, ag_30 hI, fx_25_5 hx, fx_25_6 hx, sh_25, sh_29, sh_30, pu_rv, pu_as, Value.category, pu_bk, pu_kl, List.replicate, pu_wi_1, pu_wi_2, nl_add, nl_ladd, nl_aa, nl_mul, nl_rmul, nl_mm, pu_qe0, pu_qe1, r1, c, c', i2, hi]
    all_goals try simp (maxSteps := 400000) (disch := omega) [nl_tle, nl_fle, nl_tlt, nl_flt, nl_teq, nl_feq, nl_sub, nl_ss, nl_lt, nl_llt, nl_ltt, nl_le, nl_lle, nl_lee, nl_eq, nl_leq, nl_ee, nl_div, nl_rem, nl_cl, nl_n1, nl_n2, nl_n3, nl_n4, nl_add, nl_ladd, nl_aa, nl_mul, nl_rmul, nl_mm, pu_wi_1, pu_wi_2, bX10_rowWholeOf_0, bX10_rowWholeOf_39, bX10_rowWholeOf_40, a_ai, a_ald, a_gr, a_iadd, a_icge, a_ild, a_imul, a_iret, a_ist, a_push, ag_29 hI, ag_30 hI, fx_25_5 hx, fx_25_6 hx, sh_25, sh_29, sh_30, pu_rv, pu_as, Value.category, pu_bk, pu_kl, pu_qe0, pu_qe1, r1, c, c', i2, hi]
    all_goals try simp [bX10_rowWholeOf_0, bX10_rowWholeOf_39, bX10_rowWholeOf_40, a_ai, a_ald, a_gr, a_iadd, a_icge, a_ild, a_imul, a_iret, a_ist, a_push, ag_29 hI, ag_30 hI, fx_25_5 hx, fx_25_6 hx, sh_25, sh_29, sh_30, pu_rv, pu_as, Value.category, pu_bk, pu_kl, List.replicate, pu_wi_1, pu_wi_2, nl_add, nl_ladd, nl_aa, nl_mul, nl_rmul, nl_mm, pu_qe0, pu_qe1, r1, c, c', i2, hi]
    all_goals try simp (maxSteps := 400000) (disch := omega) [nl_tle, nl_fle, nl_tlt, nl_flt, nl_teq, nl_feq, nl_sub, nl_ss, nl_lt, nl_llt, nl_ltt, nl_le, nl_lle, nl_lee, nl_eq, nl_leq, nl_ee, nl_div, nl_rem, nl_cl, nl_n1, nl_n2, nl_n3, nl_n4, nl_add, nl_ladd, nl_aa, nl_mul, nl_rmul, nl_mm, pu_wi_1, pu_wi_2, bX10_rowWholeOf_0, bX10_rowWholeOf_39, bX10_rowWholeOf_40, a_ai, a_ald, a_gr, a_iadd, a_icge, a_ild, a_imul, a_iret, a_ist, a_push, ag_29 hI, ag_30 hI, fx_25_5 hx, fx_25_6 hx, sh_25, sh_29, sh_30, pu_rv, pu_as, Value.category, pu_bk, pu_kl, pu_qe0, pu_qe1, r1, c, c', i2, hi]
    all_goals try simp [bX10_rowWholeOf_0, bX10_rowWholeOf_39, bX10_rowWholeOf_40, a_ai, a_ald, a_gr, a_iadd, a_icge, a_ild, a_imul, a_iret, a_ist, a_push, ag_29 hI, ag_30 hI, fx_25_5 hx, fx_25_6 hx, sh_25, sh_29, sh_30, pu_rv, pu_as, Value.category, pu_bk, pu_kl, List.replicate, pu_wi_1, pu_wi_2, nl_add, nl_ladd, nl_aa, nl_mul, nl_rmul, nl_mm, pu_qe0, pu_qe1, r1, c, c', i2, hi]
    all_goals try simp (maxSteps := 400000) (disch := omega) [nl_tle, nl_fle, nl_tlt, nl_flt, nl_teq, nl_feq, nl_sub, nl_ss, nl_lt, nl_llt, nl_ltt, nl_le, nl_lle, nl_lee, nl_eq, nl_leq, nl_ee, nl_div, nl_rem, nl_cl, nl_n1, nl_n2, nl_n3, nl_n4, nl_add, nl_ladd, nl_aa, nl_mul, nl_rmul, nl_mm, pu_wi_1, pu_wi_2, bX10_rowWholeOf_0, bX10_rowWholeOf_39, bX10_rowWholeOf_40, a_ai, a_ald, a_gr, a_iadd, a_icge, a_ild, a_imul, a_iret, a_ist, a_push, ag_29 hI, ag_30 hI, fx_25_5 hx, fx_25_6 hx, sh_25, sh_29, sh_30, pu_rv, pu_as, Value.category, pu_bk, pu_kl, pu_qe0, pu_qe1, r1, c, c', i2, hi]
    all_goals try simp [bX10_rowWholeOf_0, bX10_rowWholeOf_39, bX10_rowWholeOf_40, a_ai, a_ald, a_gr, a_iadd, a_icge, a_ild, a_imul, a_iret, a_ist, a_push, ag_29 hI, ag_30 hI, fx_25_5 hx, fx_25_6 hx, sh_25, sh_29, sh_30, pu_rv, pu_as, Value.category, pu_bk, pu_kl, List.replicate, pu_wi_1, pu_wi_2, nl_add, nl_ladd, nl_aa, nl_mul, nl_rmul, nl_mm, pu_qe0, pu_qe1, r1, c, c', i2, hi]
  · rw [if_neg c]
    have c' := Int32.not_lt.mp c
    rw [qX10_rowWholeOf]
    simp [a_ent, bX10_rowWholeOf_0, bX10_rowWholeOf_39, bX10_rowWholeOf_40, a_ai, a_ald, a_gr, a_iadd, a_icge, a_ild, a_imul, a_iret, a_ist, a_push, ag_29 hI, ag_30 hI, fx_25_5 hx, fx_25_6 hx, sh_25, sh_29, sh_30, pu_rv, pu_as, Value.category, pu_bk, pu_kl, List.replicate, pu_wi_1, pu_wi_2, nl_add, nl_ladd, nl_aa, nl_mul, nl_rmul, nl_mm, pu_qe0, pu_qe1, r1, c, c']
    all_goals try simp (maxSteps := 400000) (disch := omega) [nl_tle, nl_fle, nl_tlt, nl_flt, nl_teq, nl_feq, nl_sub, nl_ss, nl_lt, nl_llt, nl_ltt, nl_le, nl_lle, nl_lee, nl_eq, nl_leq, nl_ee, nl_div, nl_rem, nl_cl, nl_n1, nl_n2, nl_n3, nl_n4, nl_add, nl_ladd, nl_aa, nl_mul, nl_rmul, nl_mm, pu_wi_1, pu_wi_2, bX10_rowWholeOf_0, bX10_rowWholeOf_39, bX10_rowWholeOf_40, a_ai, a_ald, a_gr, a_iadd, a_icge, a_ild, a_imul, a_iret, a_ist, a_push, ag_29 hI, ag_30 hI, fx_25_5 hx, fx_25_6 hx, sh_25, sh_29, sh_30, pu_rv, pu_as, Value.category, pu_bk, pu_kl, pu_qe0, pu_qe1, r1, c, c']
    all_goals try simp [bX10_rowWholeOf_0, bX10_rowWholeOf_39, bX10_rowWholeOf_40, a_ai, a_ald, a_gr, a_iadd, a_icge, a_ild, a_imul, a_iret, a_ist, a_push, ag_29 hI, ag_30 hI, fx_25_5 hx, fx_25_6 hx, sh_25, sh_29, sh_30, pu_rv, pu_as, Value.category, pu_bk, pu_kl, List.replicate, pu_wi_1, pu_wi_2, nl_add, nl_ladd, nl_aa, nl_mul, nl_rmul, nl_mm, pu_qe0, pu_qe1, r1, c, c']
    all_goals try simp (maxSteps := 400000) (disch := omega) [nl_tle, nl_fle, nl_tlt, nl_flt, nl_teq, nl_feq, nl_sub, nl_ss, nl_lt, nl_llt, nl_ltt, nl_le, nl_lle, nl_lee, nl_eq, nl_leq, nl_ee, nl_div, nl_rem, nl_cl, nl_n1, nl_n2, nl_n3, nl_n4, nl_add, nl_ladd, nl_aa, nl_mul, nl_rmul, nl_mm, pu_wi_1, pu_wi_2, bX10_rowWholeOf_0, bX10_rowWholeOf_39, bX10_rowWholeOf_40, a_ai, a_ald, a_gr, a_iadd, a_icge, a_ild, a_imul, a_iret, a_ist, a_push, ag_29 hI, ag_30 hI, fx_25_5 hx, fx_25_6 hx, sh_25, sh_29, sh_30, pu_rv, pu_as, Value.category, pu_bk, pu_kl, pu_qe0, pu_qe1, r1, c, c']
    all_goals try simp [bX10_rowWholeOf_0, bX10_rowWholeOf_39, bX10_rowWholeOf_40, a_ai, a_ald, a_gr, a_iadd, a_icge, a_ild, a_imul, a_iret, a_ist, a_push, ag_29 hI, ag_30 hI, fx_25_5 hx, fx_25_6 hx, sh_25, sh_29, sh_30, pu_rv, pu_as, Value.category, pu_bk, pu_kl, List.replicate, pu_wi_1, pu_wi_2, nl_add, nl_ladd, nl_aa, nl_mul, nl_rmul, nl_mm, pu_qe0, pu_qe1, r1, c, c']
    all_goals try simp (maxSteps := 400000) (disch := omega) [nl_tle, nl_fle, nl_tlt, nl_flt, nl_teq, nl_feq, nl_sub, nl_ss, nl_lt, nl_llt, nl_ltt, nl_le, nl_lle, nl_lee, nl_eq, nl_leq, nl_ee, nl_div, nl_rem, nl_cl, nl_n1, nl_n2, nl_n3, nl_n4, nl_add, nl_ladd, nl_aa, nl_mul, nl_rmul, nl_mm, pu_wi_1, pu_wi_2, bX10_rowWholeOf_0, bX10_rowWholeOf_39, bX10_rowWholeOf_40, a_ai, a_ald, a_gr, a_iadd, a_icge, a_ild, a_imul, a_iret, a_ist, a_push, ag_29 hI, ag_30 hI, fx_25_5 hx, fx_25_6 hx, sh_25, sh_29, sh_30, pu_rv, pu_as, Value.category, pu_bk, pu_kl, pu_qe0, pu_qe1, r1, c, c']
    all_goals try simp [bX10_rowWholeOf_0, bX10_rowWholeOf_39, bX10_rowWholeOf_40, a_ai, a_ald, a_gr, a_iadd, a_icge, a_ild, a_imul, a_iret, a_ist, a_push, ag_29 hI, ag_30 hI, fx_25_5 hx, fx_25_6 hx, sh_25, sh_29, sh_30, pu_rv, pu_as, Value.category, pu_bk, pu_kl, List.replicate, pu_wi_1, pu_wi_2, nl_add, nl_ladd, nl_aa, nl_mul, nl_rmul, nl_mm, pu_qe0, pu_qe1, r1, c, c']
theorem c_fbp (hx : pu_fx M) {i g f : Nat} (hi : i < 100) (hg : g < 20000) (hf : 0 < i → M.1 69 (i - 1) = nI f) (hfl : f < 400000) : pu_r 105 [some (.ref 0), some (.int (nI i)), some (.int (nI (16 * g)))] [] M = some (some (.int (nI (if 0 < i ∧ f / 16 = g then f + 1 else 16 * g))), M) := by
  have e16 : 16 * g / 16 = g := by omega
  match i, hi, hf with
  | 0, hi, hf =>
    rw [if_neg (fun z => absurd z.1 (by omega)), nI_0]
    rw [qX11_freshByPaces]
    simp [a_ent, bX11_freshByPaces_0, bX11_freshByPaces_26, bX11_freshByPaces_27, bX11_freshByPaces_45, bX11_freshByPaces_46, a_ai, a_ald, a_gr, a_iadd, a_icne, a_idiv, a_ifeq, a_ifle, a_ild, a_iret, a_ist, a_isub, a_push, fx_0_6 hx, sh_0, sh_69, pu_rv, pu_as, Value.category, pu_bk, pu_kl, List.replicate, pu_wi_1, pu_wi_2, nl_add, nl_ladd, nl_aa, nl_mul, nl_rmul, nl_mm, pu_qe0, pu_qe1]
    all_goals try simp (maxSteps := 400000) (disch := omega) [nl_tle, nl_fle, nl_tlt, nl_flt, nl_teq, nl_feq, nl_sub, nl_ss, nl_lt, nl_llt, nl_ltt, nl_le, nl_lle, nl_lee, nl_eq, nl_leq, nl_ee, nl_div, nl_rem, nl_cl, nl_n1, nl_n2, nl_n3, nl_n4, nl_add, nl_ladd, nl_aa, nl_mul, nl_rmul, nl_mm, pu_wi_1, pu_wi_2, bX11_freshByPaces_0, bX11_freshByPaces_26, bX11_freshByPaces_27, bX11_freshByPaces_45, bX11_freshByPaces_46, a_ai, a_ald, a_gr, a_iadd, a_icne, a_idiv, a_ifeq, a_ifle, a_ild, a_iret, a_ist, a_isub, a_push, fx_0_6 hx, sh_0, sh_69, pu_rv, pu_as, Value.category, pu_bk, pu_kl, pu_qe0, pu_qe1]
    all_goals try simp [bX11_freshByPaces_0, bX11_freshByPaces_26, bX11_freshByPaces_27, bX11_freshByPaces_45, bX11_freshByPaces_46, a_ai, a_ald, a_gr, a_iadd, a_icne, a_idiv, a_ifeq, a_ifle, a_ild, a_iret, a_ist, a_isub, a_push, fx_0_6 hx, sh_0, sh_69, pu_rv, pu_as, Value.category, pu_bk, pu_kl, List.replicate, pu_wi_1, pu_wi_2, nl_add, nl_ladd, nl_aa, nl_mul, nl_rmul, nl_mm, pu_qe0, pu_qe1]
    all_goals try simp (maxSteps := 400000) (disch := omega) [nl_tle, nl_fle, nl_tlt, nl_flt, nl_teq, nl_feq, nl_sub, nl_ss, nl_lt, nl_llt, nl_ltt, nl_le, nl_lle, nl_lee, nl_eq, nl_leq, nl_ee, nl_div, nl_rem, nl_cl, nl_n1, nl_n2, nl_n3, nl_n4, nl_add, nl_ladd, nl_aa, nl_mul, nl_rmul, nl_mm, pu_wi_1, pu_wi_2, bX11_freshByPaces_0, bX11_freshByPaces_26, bX11_freshByPaces_27, bX11_freshByPaces_45, bX11_freshByPaces_46, a_ai, a_ald, a_gr, a_iadd, a_icne, a_idiv, a_ifeq, a_ifle, a_ild, a_iret, a_ist, a_isub, a_push, fx_0_6 hx, sh_0, sh_69, pu_rv, pu_as, Value.category, pu_bk, pu_kl, pu_qe0, pu_qe1]
    all_goals try simp [bX11_freshByPaces_0, bX11_freshByPaces_26, bX11_freshByPaces_27, bX11_freshByPaces_45, bX11_freshByPaces_46, a_ai, a_ald, a_gr, a_iadd, a_icne, a_idiv, a_ifeq, a_ifle, a_ild, a_iret, a_ist, a_isub, a_push, fx_0_6 hx, sh_0, sh_69, pu_rv, pu_as, Value.category, pu_bk, pu_kl, List.replicate, pu_wi_1, pu_wi_2, nl_add, nl_ladd, nl_aa, nl_mul, nl_rmul, nl_mm, pu_qe0, pu_qe1]
    all_goals try simp (maxSteps := 400000) (disch := omega) [nl_tle, nl_fle, nl_tlt, nl_flt, nl_teq, nl_feq, nl_sub, nl_ss, nl_lt, nl_llt, nl_ltt, nl_le, nl_lle, nl_lee, nl_eq, nl_leq, nl_ee, nl_div, nl_rem, nl_cl, nl_n1, nl_n2, nl_n3, nl_n4, nl_add, nl_ladd, nl_aa, nl_mul, nl_rmul, nl_mm, pu_wi_1, pu_wi_2, bX11_freshByPaces_0, bX11_freshByPaces_26, bX11_freshByPaces_27, bX11_freshByPaces_45, bX11_freshByPaces_46, a_ai, a_ald, a_gr, a_iadd, a_icne, a_idiv, a_ifeq, a_ifle, a_ild, a_iret, a_ist, a_isub, a_push, fx_0_6 hx, sh_0, sh_69, pu_rv, pu_as, Value.category, pu_bk, pu_kl, pu_qe0, pu_qe1]
    all_goals try simp [bX11_freshByPaces_0, bX11_freshByPaces_26, bX11_freshByPaces_27, bX11_freshByPaces_45, bX11_freshByPaces_46, a_ai, a_ald, a_gr, a_iadd, a_icne, a_idiv, a_ifeq, a_ifle, a_ild, a_iret, a_ist, a_isub, a_push, fx_0_6 hx, sh_0, sh_69, pu_rv, pu_as, Value.category, pu_bk, pu_kl, List.replicate, pu_wi_1, pu_wi_2, nl_add, nl_ladd, nl_aa, nl_mul, nl_rmul, nl_mm, pu_qe0, pu_qe1]
  | i + 1, hi, hf =>
    have h := hf (by omega)
    have e : nI (i + 1) - 1 = nI i := nI_pred i
    have p0 : ¬ nI (i + 1) ≤ 0 := nI_nle (by omega) (by omega)
    have i1 : i < 100 := by omega
    rw [Nat.add_sub_cancel] at h
    by_cases c : f / 16 = g
    · rw [if_pos ⟨by omega, c⟩]
      have q : nI (f / 16) = nI g := by rw [c]
      rw [qX11_freshByPaces]
      simp [a_ent, bX11_freshByPaces_0, bX11_freshByPaces_26, bX11_freshByPaces_27, bX11_freshByPaces_45, bX11_freshByPaces_46, a_ai, a_ald, a_gr, a_iadd, a_icne, a_idiv, a_ifeq, a_ifle, a_ild, a_iret, a_ist, a_isub, a_push, fx_0_6 hx, sh_0, sh_69, pu_rv, pu_as, Value.category, pu_bk, pu_kl, List.replicate, pu_wi_1, pu_wi_2, nl_add, nl_ladd, nl_aa, nl_mul, nl_rmul, nl_mm, pu_qe0, pu_qe1, p0, e, i1, h, e16, c, hfl]
      all_goals try simp (maxSteps := 400000) (disch := omega) [nl_tle, nl_fle, nl_tlt, nl_flt, nl_teq, nl_feq, nl_sub, nl_ss, nl_lt, nl_llt, nl_ltt, nl_le, nl_lle, nl_lee, nl_eq, nl_leq, nl_ee, nl_div, nl_rem, nl_cl, nl_n1, nl_n2, nl_n3, nl_n4, nl_add, nl_ladd, nl_aa, nl_mul, nl_rmul, nl_mm, pu_wi_1, pu_wi_2, bX11_freshByPaces_0, bX11_freshByPaces_26, bX11_freshByPaces_27, bX11_freshByPaces_45, bX11_freshByPaces_46, a_ai, a_ald, a_gr, a_iadd, a_icne, a_idiv, a_ifeq, a_ifle, a_ild, a_iret, a_ist, a_isub, a_push, fx_0_6 hx, sh_0, sh_69, pu_rv, pu_as, Value.category, pu_bk, pu_kl, pu_qe0, pu_qe1, p0, e, i1, h, e16, c, hfl]
      all_goals try simp [bX11_freshByPaces_0, bX11_freshByPaces_26, bX11_freshByPaces_27, bX11_freshByPaces_45, bX11_freshByPaces_46, a_ai, a_ald, a_gr, a_iadd, a_icne, a_idiv, a_ifeq, a_ifle, a_ild, a_iret, a_ist, a_isub, a_push, fx_0_6 hx, sh_0, sh_69, pu_rv, pu_as, Value.category, pu_bk, pu_kl, List.replicate, pu_wi_1, pu_wi_2, nl_add, nl_ladd, nl_aa, nl_mul, nl_rmul, nl_mm, pu_qe0, pu_qe1, p0, e, i1, h, e16, c, hfl]
      all_goals try simp (maxSteps := 400000) (disch := omega) [nl_tle, nl_fle, nl_tlt, nl_flt, nl_teq, nl_feq, nl_sub, nl_ss, nl_lt, nl_llt, nl_ltt, nl_le, nl_lle, nl_lee, nl_eq, nl_leq, nl_ee, nl_div, nl_rem, nl_cl, nl_n1, nl_n2, nl_n3, nl_n4, nl_add, nl_ladd, nl_aa, nl_mul, nl_rmul, nl_mm, pu_wi_1, pu_wi_2, bX11_freshByPaces_0, bX11_freshByPaces_26, bX11_freshByPaces_27, bX11_freshByPaces_45, bX11_freshByPaces_46, a_ai, a_ald, a_gr, a_iadd, a_icne, a_idiv, a_ifeq, a_ifle, a_ild, a_iret, a_ist, a_isub, a_push, fx_0_6 hx, sh_0, sh_69, pu_rv, pu_as, Value.category, pu_bk, pu_kl, pu_qe0, pu_qe1, p0, e, i1, h, e16, c, hfl]
      all_goals try simp [bX11_freshByPaces_0, bX11_freshByPaces_26, bX11_freshByPaces_27, bX11_freshByPaces_45, bX11_freshByPaces_46, a_ai, a_ald, a_gr, a_iadd, a_icne, a_idiv, a_ifeq, a_ifle, a_ild, a_iret, a_ist, a_isub, a_push, fx_0_6 hx, sh_0, sh_69, pu_rv, pu_as, Value.category, pu_bk, pu_kl, List.replicate, pu_wi_1, pu_wi_2, nl_add, nl_ladd, nl_aa, nl_mul, nl_rmul, nl_mm, pu_qe0, pu_qe1, p0, e, i1, h, e16, c, hfl]
      all_goals try simp (maxSteps := 400000) (disch := omega) [nl_tle, nl_fle, nl_tlt, nl_flt, nl_teq, nl_feq, nl_sub, nl_ss, nl_lt, nl_llt, nl_ltt, nl_le, nl_lle, nl_lee, nl_eq, nl_leq, nl_ee, nl_div, nl_rem, nl_cl, nl_n1, nl_n2, nl_n3, nl_n4, nl_add, nl_ladd, nl_aa, nl_mul, nl_rmul, nl_mm, pu_wi_1, pu_wi_2, bX11_freshByPaces_0, bX11_freshByPaces_26, bX11_freshByPaces_27, bX11_freshByPaces_45, bX11_freshByPaces_46, a_ai, a_ald, a_gr, a_iadd, a_icne, a_idiv, a_ifeq, a_ifle, a_ild, a_iret, a_ist, a_isub, a_push, fx_0_6 hx, sh_0, sh_69, pu_rv, pu_as, Value.category, pu_bk, pu_kl, pu_qe0, pu_qe1, p0, e, i1, h, e16, c, hfl]
      all_goals try simp [bX11_freshByPaces_0, bX11_freshByPaces_26, bX11_freshByPaces_27, bX11_freshByPaces_45, bX11_freshByPaces_46, a_ai, a_ald, a_gr, a_iadd, a_icne, a_idiv, a_ifeq, a_ifle, a_ild, a_iret, a_ist, a_isub, a_push, fx_0_6 hx, sh_0, sh_69, pu_rv, pu_as, Value.category, pu_bk, pu_kl, List.replicate, pu_wi_1, pu_wi_2, nl_add, nl_ladd, nl_aa, nl_mul, nl_rmul, nl_mm, pu_qe0, pu_qe1, p0, e, i1, h, e16, c, hfl]
    · rw [if_neg (fun z => c z.2)]
      have q : ¬ nI (f / 16) = nI g := fun z => by rw [nI_eq (by omega) (by omega)] at z; exact c z
      rw [qX11_freshByPaces]
      simp [a_ent, bX11_freshByPaces_0, bX11_freshByPaces_26, bX11_freshByPaces_27, bX11_freshByPaces_45, bX11_freshByPaces_46, a_ai, a_ald, a_gr, a_iadd, a_icne, a_idiv, a_ifeq, a_ifle, a_ild, a_iret, a_ist, a_isub, a_push, fx_0_6 hx, sh_0, sh_69, pu_rv, pu_as, Value.category, pu_bk, pu_kl, List.replicate, pu_wi_1, pu_wi_2, nl_add, nl_ladd, nl_aa, nl_mul, nl_rmul, nl_mm, pu_qe0, pu_qe1, p0, e, i1, h, e16, c, q, hfl]
      all_goals try simp (maxSteps := 400000) (disch := omega) [nl_tle, nl_fle, nl_tlt, nl_flt, nl_teq, nl_feq, nl_sub, nl_ss, nl_lt, nl_llt, nl_ltt, nl_le, nl_lle, nl_lee, nl_eq, nl_leq, nl_ee, nl_div, nl_rem, nl_cl, nl_n1, nl_n2, nl_n3, nl_n4, nl_add, nl_ladd, nl_aa, nl_mul, nl_rmul, nl_mm, pu_wi_1, pu_wi_2, bX11_freshByPaces_0, bX11_freshByPaces_26, bX11_freshByPaces_27, bX11_freshByPaces_45, bX11_freshByPaces_46, a_ai, a_ald, a_gr, a_iadd, a_icne, a_idiv, a_ifeq, a_ifle, a_ild, a_iret, a_ist, a_isub, a_push, fx_0_6 hx, sh_0, sh_69, pu_rv, pu_as, Value.category, pu_bk, pu_kl, pu_qe0, pu_qe1, p0, e, i1, h, e16, c, q, hfl]
      all_goals try simp [bX11_freshByPaces_0, bX11_freshByPaces_26, bX11_freshByPaces_27, bX11_freshByPaces_45, bX11_freshByPaces_46, a_ai, a_ald, a_gr, a_iadd, a_icne, a_idiv, a_ifeq, a_ifle, a_ild, a_iret, a_ist, a_isub, a_push, fx_0_6 hx, sh_0, sh_69, pu_rv, pu_as, Value.category, pu_bk, pu_kl, List.replicate, pu_wi_1, pu_wi_2, nl_add, nl_ladd, nl_aa, nl_mul, nl_rmul, nl_mm, pu_qe0, pu_qe1, p0, e, i1, h, e16, c, q, hfl]
      all_goals try simp (maxSteps := 400000) (disch := omega) [nl_tle, nl_fle, nl_tlt, nl_flt, nl_teq, nl_feq, nl_sub, nl_ss, nl_lt, nl_llt, nl_ltt, nl_le, nl_lle, nl_lee, nl_eq, nl_leq, nl_ee, nl_div, nl_rem, nl_cl, nl_n1, nl_n2, nl_n3, nl_n4, nl_add, nl_ladd, nl_aa, nl_mul, nl_rmul, nl_mm, pu_wi_1, pu_wi_2, bX11_freshByPaces_0, bX11_freshByPaces_26, bX11_freshByPaces_27, bX11_freshByPaces_45, bX11_freshByPaces_46, a_ai, a_ald, a_gr, a_iadd, a_icne, a_idiv, a_ifeq, a_ifle, a_ild, a_iret, a_ist, a_isub, a_push, fx_0_6 hx, sh_0, sh_69, pu_rv, pu_as, Value.category, pu_bk, pu_kl, pu_qe0, pu_qe1, p0, e, i1, h, e16, c, q, hfl]
      all_goals try simp [bX11_freshByPaces_0, bX11_freshByPaces_26, bX11_freshByPaces_27, bX11_freshByPaces_45, bX11_freshByPaces_46, a_ai, a_ald, a_gr, a_iadd, a_icne, a_idiv, a_ifeq, a_ifle, a_ild, a_iret, a_ist, a_isub, a_push, fx_0_6 hx, sh_0, sh_69, pu_rv, pu_as, Value.category, pu_bk, pu_kl, List.replicate, pu_wi_1, pu_wi_2, nl_add, nl_ladd, nl_aa, nl_mul, nl_rmul, nl_mm, pu_qe0, pu_qe1, p0, e, i1, h, e16, c, q, hfl]
      all_goals try simp (maxSteps := 400000) (disch := omega) [nl_tle, nl_fle, nl_tlt, nl_flt, nl_teq, nl_feq, nl_sub, nl_ss, nl_lt, nl_llt, nl_ltt, nl_le, nl_lle, nl_lee, nl_eq, nl_leq, nl_ee, nl_div, nl_rem, nl_cl, nl_n1, nl_n2, nl_n3, nl_n4, nl_add, nl_ladd, nl_aa, nl_mul, nl_rmul, nl_mm, pu_wi_1, pu_wi_2, bX11_freshByPaces_0, bX11_freshByPaces_26, bX11_freshByPaces_27, bX11_freshByPaces_45, bX11_freshByPaces_46, a_ai, a_ald, a_gr, a_iadd, a_icne, a_idiv, a_ifeq, a_ifle, a_ild, a_iret, a_ist, a_isub, a_push, fx_0_6 hx, sh_0, sh_69, pu_rv, pu_as, Value.category, pu_bk, pu_kl, pu_qe0, pu_qe1, p0, e, i1, h, e16, c, q, hfl]
      all_goals try simp [bX11_freshByPaces_0, bX11_freshByPaces_26, bX11_freshByPaces_27, bX11_freshByPaces_45, bX11_freshByPaces_46, a_ai, a_ald, a_gr, a_iadd, a_icne, a_idiv, a_ifeq, a_ifle, a_ild, a_iret, a_ist, a_isub, a_push, fx_0_6 hx, sh_0, sh_69, pu_rv, pu_as, Value.category, pu_bk, pu_kl, List.replicate, pu_wi_1, pu_wi_2, nl_add, nl_ladd, nl_aa, nl_mul, nl_rmul, nl_mm, pu_qe0, pu_qe1, p0, e, i1, h, e16, c, q, hfl]
/-- only the fresh numbers have changed -/
def py_f9 (M N : pu_M) : Prop := N.2 = M.2 ∧ ∀ c j, c ≠ 69 → N.1 c j = M.1 c j
theorem c_sf_a {N : pu_M} (hx : pu_fx N) (vs : py_vs I ru V n) (hn : n ≤ 100) {i : Nat} (hi : i < n) (v0 : N.1 62 0 = nI n) (v66 : ∀ a, a < n → N.1 66 a = nI (py_sd I V a)) (x1 x2 x3 : Int32) (h3 : 0 < i → x3 = nI (py_nth I V (i - 1))) (t5 : Option Value) : pu_r 381 [some (.ref 0), some (.int x1), some (.int x2), some (.int x3), some (.int (nI i)), t5] [] N = kX11_setFreshNumbers_58 pu_r [some (.ref 0), some (.int x1), some (.int x2), some (.int x3), some (.int (nI i)), some (.int (nI (py_sd I V i)))] [.int (nI (py_nth I V i))] N := by
  have hc : ¬ nI n ≤ nI i := nI_ge (by omega) (by omega)
  have i1 : i < 100 := by omega
  have e66 := v66 i hi
  have s2 := (vs.1 i hi).1
  rw [qX11_setFreshNumbers_5]
  match i, hi, h3 with
  | 0, hi, h3 =>
    have z : py_nth I V 0 = 0 := rfl
    rw [z, nI_0]
    rw [nI_0] at hc
    generalize nI (py_sd I V 0) = sv at *
    simp [bX11_setFreshNumbers_5, bX11_setFreshNumbers_172, bX11_setFreshNumbers_57, bX11_setFreshNumbers_53, a_ai, a_ald, a_gi, a_gr, a_iadd, a_icge, a_icne, a_ifle, a_ild, a_ist, a_isub, a_push, a_vret, fx_0_5 hx, fx_62_6 hx, sh_0, sh_62, sh_66, pu_rv, pu_as, Value.category, pu_bk, pu_kl, List.replicate, pu_wi_1, pu_wi_2, nl_add, nl_ladd, nl_aa, nl_mul, nl_rmul, nl_mm, pu_qe0, pu_qe1, v0, hc, e66]
    all_goals try simp (maxSteps := 400000) (disch := omega) [nl_tle, nl_fle, nl_tlt, nl_flt, nl_teq, nl_feq, nl_sub, nl_ss, nl_lt, nl_llt, nl_ltt, nl_le, nl_lle, nl_lee, nl_eq, nl_leq, nl_ee, nl_div, nl_rem, nl_cl, nl_n1, nl_n2, nl_n3, nl_n4, nl_add, nl_ladd, nl_aa, nl_mul, nl_rmul, nl_mm, pu_wi_1, pu_wi_2, bX11_setFreshNumbers_5, bX11_setFreshNumbers_172, bX11_setFreshNumbers_57, bX11_setFreshNumbers_53, a_ai, a_ald, a_gi, a_gr, a_iadd, a_icge, a_icne, a_ifle, a_ild, a_ist, a_isub, a_push, a_vret, fx_0_5 hx, fx_62_6 hx, sh_0, sh_62, sh_66, pu_rv, pu_as, Value.category, pu_bk, pu_kl, pu_qe0, pu_qe1, v0, hc, e66]
    all_goals try simp [bX11_setFreshNumbers_5, bX11_setFreshNumbers_172, bX11_setFreshNumbers_57, bX11_setFreshNumbers_53, a_ai, a_ald, a_gi, a_gr, a_iadd, a_icge, a_icne, a_ifle, a_ild, a_ist, a_isub, a_push, a_vret, fx_0_5 hx, fx_62_6 hx, sh_0, sh_62, sh_66, pu_rv, pu_as, Value.category, pu_bk, pu_kl, List.replicate, pu_wi_1, pu_wi_2, nl_add, nl_ladd, nl_aa, nl_mul, nl_rmul, nl_mm, pu_qe0, pu_qe1, v0, hc, e66]
    all_goals try simp (maxSteps := 400000) (disch := omega) [nl_tle, nl_fle, nl_tlt, nl_flt, nl_teq, nl_feq, nl_sub, nl_ss, nl_lt, nl_llt, nl_ltt, nl_le, nl_lle, nl_lee, nl_eq, nl_leq, nl_ee, nl_div, nl_rem, nl_cl, nl_n1, nl_n2, nl_n3, nl_n4, nl_add, nl_ladd, nl_aa, nl_mul, nl_rmul, nl_mm, pu_wi_1, pu_wi_2, bX11_setFreshNumbers_5, bX11_setFreshNumbers_172, bX11_setFreshNumbers_57, bX11_setFreshNumbers_53, a_ai, a_ald, a_gi, a_gr, a_iadd, a_icge, a_icne, a_ifle, a_ild, a_ist, a_isub, a_push, a_vret, fx_0_5 hx, fx_62_6 hx, sh_0, sh_62, sh_66, pu_rv, pu_as, Value.category, pu_bk, pu_kl, pu_qe0, pu_qe1, v0, hc, e66]
    all_goals try simp [bX11_setFreshNumbers_5, bX11_setFreshNumbers_172, bX11_setFreshNumbers_57, bX11_setFreshNumbers_53, a_ai, a_ald, a_gi, a_gr, a_iadd, a_icge, a_icne, a_ifle, a_ild, a_ist, a_isub, a_push, a_vret, fx_0_5 hx, fx_62_6 hx, sh_0, sh_62, sh_66, pu_rv, pu_as, Value.category, pu_bk, pu_kl, List.replicate, pu_wi_1, pu_wi_2, nl_add, nl_ladd, nl_aa, nl_mul, nl_rmul, nl_mm, pu_qe0, pu_qe1, v0, hc, e66]
    all_goals try simp (maxSteps := 400000) (disch := omega) [nl_tle, nl_fle, nl_tlt, nl_flt, nl_teq, nl_feq, nl_sub, nl_ss, nl_lt, nl_llt, nl_ltt, nl_le, nl_lle, nl_lee, nl_eq, nl_leq, nl_ee, nl_div, nl_rem, nl_cl, nl_n1, nl_n2, nl_n3, nl_n4, nl_add, nl_ladd, nl_aa, nl_mul, nl_rmul, nl_mm, pu_wi_1, pu_wi_2, bX11_setFreshNumbers_5, bX11_setFreshNumbers_172, bX11_setFreshNumbers_57, bX11_setFreshNumbers_53, a_ai, a_ald, a_gi, a_gr, a_iadd, a_icge, a_icne, a_ifle, a_ild, a_ist, a_isub, a_push, a_vret, fx_0_5 hx, fx_62_6 hx, sh_0, sh_62, sh_66, pu_rv, pu_as, Value.category, pu_bk, pu_kl, pu_qe0, pu_qe1, v0, hc, e66]
    all_goals try simp [bX11_setFreshNumbers_5, bX11_setFreshNumbers_172, bX11_setFreshNumbers_57, bX11_setFreshNumbers_53, a_ai, a_ald, a_gi, a_gr, a_iadd, a_icge, a_icne, a_ifle, a_ild, a_ist, a_isub, a_push, a_vret, fx_0_5 hx, fx_62_6 hx, sh_0, sh_62, sh_66, pu_rv, pu_as, Value.category, pu_bk, pu_kl, List.replicate, pu_wi_1, pu_wi_2, nl_add, nl_ladd, nl_aa, nl_mul, nl_rmul, nl_mm, pu_qe0, pu_qe1, v0, hc, e66]
  | i + 1, hi, h3 =>
    have e : nI (i + 1) - 1 = nI i := nI_pred i
    have p0 : ¬ nI (i + 1) ≤ 0 := nI_nle (by omega) (by omega)
    have i2 : i < 100 := by omega
    have f66 := v66 i (by omega)
    have s3 := (vs.1 i (by omega)).1
    have q := py_nth_s vs hi
    have x3e := h3 (by omega)
    rw [Nat.add_sub_cancel] at x3e q
    rw [q]
    by_cases c : py_sd I V i = py_sd I V (i + 1)
    · rw [if_pos ⟨by omega, c⟩]
      rw [c] at f66
      have a1 : nI (py_nth I V i) + 1 = nI (py_nth I V i + 1) := by rw [show (1 : Int32) = nI 1 from rfl, nI_add]
      generalize nI (py_sd I V (i + 1)) = sv at *
      generalize nI (py_nth I V i + 1) = nv at *
      generalize nI (py_nth I V i) = nw at *
      simp [bX11_setFreshNumbers_5, bX11_setFreshNumbers_172, bX11_setFreshNumbers_57, bX11_setFreshNumbers_53, a_ai, a_ald, a_gi, a_gr, a_iadd, a_icge, a_icne, a_ifle, a_ild, a_ist, a_isub, a_push, a_vret, fx_0_5 hx, fx_62_6 hx, sh_0, sh_62, sh_66, pu_rv, pu_as, Value.category, pu_bk, pu_kl, List.replicate, pu_wi_1, pu_wi_2, nl_add, nl_ladd, nl_aa, nl_mul, nl_rmul, nl_mm, pu_qe0, pu_qe1, v0, hc, i1, e66, p0, e, i2, f66, x3e, a1]
      all_goals try simp (maxSteps := 400000) (disch := omega) [nl_tle, nl_fle, nl_tlt, nl_flt, nl_teq, nl_feq, nl_sub, nl_ss, nl_lt, nl_llt, nl_ltt, nl_le, nl_lle, nl_lee, nl_eq, nl_leq, nl_ee, nl_div, nl_rem, nl_cl, nl_n1, nl_n2, nl_n3, nl_n4, nl_add, nl_ladd, nl_aa, nl_mul, nl_rmul, nl_mm, pu_wi_1, pu_wi_2, bX11_setFreshNumbers_5, bX11_setFreshNumbers_172, bX11_setFreshNumbers_57, bX11_setFreshNumbers_53, a_ai, a_ald, a_gi, a_gr, a_iadd, a_icge, a_icne, a_ifle, a_ild, a_ist, a_isub, a_push, a_vret, fx_0_5 hx, fx_62_6 hx, sh_0, sh_62, sh_66, pu_rv, pu_as, Value.category, pu_bk, pu_kl, pu_qe0, pu_qe1, v0, hc, i1, e66, p0, e, i2, f66, x3e, a1]
      all_goals try simp [bX11_setFreshNumbers_5, bX11_setFreshNumbers_172, bX11_setFreshNumbers_57, bX11_setFreshNumbers_53, a_ai, a_ald, a_gi, a_gr, a_iadd, a_icge, a_icne, a_ifle, a_ild, a_ist, a_isub, a_push, a_vret, fx_0_5 hx, fx_62_6 hx, sh_0, sh_62, sh_66, pu_rv, pu_as, Value.category, pu_bk, pu_kl, List.replicate, pu_wi_1, pu_wi_2, nl_add, nl_ladd, nl_aa, nl_mul, nl_rmul, nl_mm, pu_qe0, pu_qe1, v0, hc, i1, e66, p0, e, i2, f66, x3e, a1]
      all_goals try simp (maxSteps := 400000) (disch := omega) [nl_tle, nl_fle, nl_tlt, nl_flt, nl_teq, nl_feq, nl_sub, nl_ss, nl_lt, nl_llt, nl_ltt, nl_le, nl_lle, nl_lee, nl_eq, nl_leq, nl_ee, nl_div, nl_rem, nl_cl, nl_n1, nl_n2, nl_n3, nl_n4, nl_add, nl_ladd, nl_aa, nl_mul, nl_rmul, nl_mm, pu_wi_1, pu_wi_2, bX11_setFreshNumbers_5, bX11_setFreshNumbers_172, bX11_setFreshNumbers_57, bX11_setFreshNumbers_53, a_ai, a_ald, a_gi, a_gr, a_iadd, a_icge, a_icne, a_ifle, a_ild, a_ist, a_isub, a_push, a_vret, fx_0_5 hx, fx_62_6 hx, sh_0, sh_62, sh_66, pu_rv, pu_as, Value.category, pu_bk, pu_kl, pu_qe0, pu_qe1, v0, hc, i1, e66, p0, e, i2, f66, x3e, a1]
      all_goals try simp [bX11_setFreshNumbers_5, bX11_setFreshNumbers_172, bX11_setFreshNumbers_57, bX11_setFreshNumbers_53, a_ai, a_ald, a_gi, a_gr, a_iadd, a_icge, a_icne, a_ifle, a_ild, a_ist, a_isub, a_push, a_vret, fx_0_5 hx, fx_62_6 hx, sh_0, sh_62, sh_66, pu_rv, pu_as, Value.category, pu_bk, pu_kl, List.replicate, pu_wi_1, pu_wi_2, nl_add, nl_ladd, nl_aa, nl_mul, nl_rmul, nl_mm, pu_qe0, pu_qe1, v0, hc, i1, e66, p0, e, i2, f66, x3e, a1]
      all_goals try simp (maxSteps := 400000) (disch := omega) [nl_tle, nl_fle, nl_tlt, nl_flt, nl_teq, nl_feq, nl_sub, nl_ss, nl_lt, nl_llt, nl_ltt, nl_le, nl_lle, nl_lee, nl_eq, nl_leq, nl_ee, nl_div, nl_rem, nl_cl, nl_n1, nl_n2, nl_n3, nl_n4, nl_add, nl_ladd, nl_aa, nl_mul, nl_rmul, nl_mm, pu_wi_1, pu_wi_2, bX11_setFreshNumbers_5, bX11_setFreshNumbers_172, bX11_setFreshNumbers_57, bX11_setFreshNumbers_53, a_ai, a_ald, a_gi, a_gr, a_iadd, a_icge, a_icne, a_ifle, a_ild, a_ist, a_isub, a_push, a_vret, fx_0_5 hx, fx_62_6 hx, sh_0, sh_62, sh_66, pu_rv, pu_as, Value.category, pu_bk, pu_kl, pu_qe0, pu_qe1, v0, hc, i1, e66, p0, e, i2, f66, x3e, a1]
      all_goals try simp [bX11_setFreshNumbers_5, bX11_setFreshNumbers_172, bX11_setFreshNumbers_57, bX11_setFreshNumbers_53, a_ai, a_ald, a_gi, a_gr, a_iadd, a_icge, a_icne, a_ifle, a_ild, a_ist, a_isub, a_push, a_vret, fx_0_5 hx, fx_62_6 hx, sh_0, sh_62, sh_66, pu_rv, pu_as, Value.category, pu_bk, pu_kl, List.replicate, pu_wi_1, pu_wi_2, nl_add, nl_ladd, nl_aa, nl_mul, nl_rmul, nl_mm, pu_qe0, pu_qe1, v0, hc, i1, e66, p0, e, i2, f66, x3e, a1]
    · rw [if_neg (fun z => c z.2), nI_0]
      have c' : ¬ nI (py_sd I V i) = nI (py_sd I V (i + 1)) := fun z => by rw [nI_eq (by omega) (by omega)] at z; exact c z
      generalize nI (py_sd I V (i + 1)) = sv at *
      generalize nI (py_sd I V i) = sw at *
      simp [bX11_setFreshNumbers_5, bX11_setFreshNumbers_172, bX11_setFreshNumbers_57, bX11_setFreshNumbers_53, a_ai, a_ald, a_gi, a_gr, a_iadd, a_icge, a_icne, a_ifle, a_ild, a_ist, a_isub, a_push, a_vret, fx_0_5 hx, fx_62_6 hx, sh_0, sh_62, sh_66, pu_rv, pu_as, Value.category, pu_bk, pu_kl, List.replicate, pu_wi_1, pu_wi_2, nl_add, nl_ladd, nl_aa, nl_mul, nl_rmul, nl_mm, pu_qe0, pu_qe1, v0, hc, i1, e66, p0, e, i2, f66, c']
      all_goals try simp (maxSteps := 400000) (disch := omega) [nl_tle, nl_fle, nl_tlt, nl_flt, nl_teq, nl_feq, nl_sub, nl_ss, nl_lt, nl_llt, nl_ltt, nl_le, nl_lle, nl_lee, nl_eq, nl_leq, nl_ee, nl_div, nl_rem, nl_cl, nl_n1, nl_n2, nl_n3, nl_n4, nl_add, nl_ladd, nl_aa, nl_mul, nl_rmul, nl_mm, pu_wi_1, pu_wi_2, bX11_setFreshNumbers_5, bX11_setFreshNumbers_172, bX11_setFreshNumbers_57, bX11_setFreshNumbers_53, a_ai, a_ald, a_gi, a_gr, a_iadd, a_icge, a_icne, a_ifle, a_ild, a_ist, a_isub, a_push, a_vret, fx_0_5 hx, fx_62_6 hx, sh_0, sh_62, sh_66, pu_rv, pu_as, Value.category, pu_bk, pu_kl, pu_qe0, pu_qe1, v0, hc, i1, e66, p0, e, i2, f66, c']
      all_goals try simp [bX11_setFreshNumbers_5, bX11_setFreshNumbers_172, bX11_setFreshNumbers_57, bX11_setFreshNumbers_53, a_ai, a_ald, a_gi, a_gr, a_iadd, a_icge, a_icne, a_ifle, a_ild, a_ist, a_isub, a_push, a_vret, fx_0_5 hx, fx_62_6 hx, sh_0, sh_62, sh_66, pu_rv, pu_as, Value.category, pu_bk, pu_kl, List.replicate, pu_wi_1, pu_wi_2, nl_add, nl_ladd, nl_aa, nl_mul, nl_rmul, nl_mm, pu_qe0, pu_qe1, v0, hc, i1, e66, p0, e, i2, f66, c']
      all_goals try simp (maxSteps := 400000) (disch := omega) [nl_tle, nl_fle, nl_tlt, nl_flt, nl_teq, nl_feq, nl_sub, nl_ss, nl_lt, nl_llt, nl_ltt, nl_le, nl_lle, nl_lee, nl_eq, nl_leq, nl_ee, nl_div, nl_rem, nl_cl, nl_n1, nl_n2, nl_n3, nl_n4, nl_add, nl_ladd, nl_aa, nl_mul, nl_rmul, nl_mm, pu_wi_1, pu_wi_2, bX11_setFreshNumbers_5, bX11_setFreshNumbers_172, bX11_setFreshNumbers_57, bX11_setFreshNumbers_53, a_ai, a_ald, a_gi, a_gr, a_iadd, a_icge, a_icne, a_ifle, a_ild, a_ist, a_isub, a_push, a_vret, fx_0_5 hx, fx_62_6 hx, sh_0, sh_62, sh_66, pu_rv, pu_as, Value.category, pu_bk, pu_kl, pu_qe0, pu_qe1, v0, hc, i1, e66, p0, e, i2, f66, c']
      all_goals try simp [bX11_setFreshNumbers_5, bX11_setFreshNumbers_172, bX11_setFreshNumbers_57, bX11_setFreshNumbers_53, a_ai, a_ald, a_gi, a_gr, a_iadd, a_icge, a_icne, a_ifle, a_ild, a_ist, a_isub, a_push, a_vret, fx_0_5 hx, fx_62_6 hx, sh_0, sh_62, sh_66, pu_rv, pu_as, Value.category, pu_bk, pu_kl, List.replicate, pu_wi_1, pu_wi_2, nl_add, nl_ladd, nl_aa, nl_mul, nl_rmul, nl_mm, pu_qe0, pu_qe1, v0, hc, i1, e66, p0, e, i2, f66, c']
      all_goals try simp (maxSteps := 400000) (disch := omega) [nl_tle, nl_fle, nl_tlt, nl_flt, nl_teq, nl_feq, nl_sub, nl_ss, nl_lt, nl_llt, nl_ltt, nl_le, nl_lle, nl_lee, nl_eq, nl_leq, nl_ee, nl_div, nl_rem, nl_cl, nl_n1, nl_n2, nl_n3, nl_n4, nl_add, nl_ladd, nl_aa, nl_mul, nl_rmul, nl_mm, pu_wi_1, pu_wi_2, bX11_setFreshNumbers_5, bX11_setFreshNumbers_172, bX11_setFreshNumbers_57, bX11_setFreshNumbers_53, a_ai, a_ald, a_gi, a_gr, a_iadd, a_icge, a_icne, a_ifle, a_ild, a_ist, a_isub, a_push, a_vret, fx_0_5 hx, fx_62_6 hx, sh_0, sh_62, sh_66, pu_rv, pu_as, Value.category, pu_bk, pu_kl, pu_qe0, pu_qe1, v0, hc, i1, e66, p0, e, i2, f66, c']
      all_goals try simp [bX11_setFreshNumbers_5, bX11_setFreshNumbers_172, bX11_setFreshNumbers_57, bX11_setFreshNumbers_53, a_ai, a_ald, a_gi, a_gr, a_iadd, a_icge, a_icne, a_ifle, a_ild, a_ist, a_isub, a_push, a_vret, fx_0_5 hx, fx_62_6 hx, sh_0, sh_62, sh_66, pu_rv, pu_as, Value.category, pu_bk, pu_kl, List.replicate, pu_wi_1, pu_wi_2, nl_add, nl_ladd, nl_aa, nl_mul, nl_rmul, nl_mm, pu_qe0, pu_qe1, v0, hc, i1, e66, p0, e, i2, f66, c']
theorem c_sf_b {N : pu_M} (hx : pu_fx N) (hI : pu_ag N I) (hw : pu_WF I L) (hst : st < cK I) (hru : ru < 4) (vs : py_vs I ru V n) (hn : n ≤ 100) {i : Nat} (hi : i < n) (v67 : N.1 67 i = nI (py_pc I V i)) (hf : ∀ a, a < i → N.1 69 a = py_FR I st ru V a) (x3 : Int32) : kX11_setFreshNumbers_58 pu_r [some (.ref 0), some (.int (nI st)), some (.int (nI ru)), some (.int x3), some (.int (nI i)), some (.int (nI (py_sd I V i)))] [.int (nI (py_nth I V i))] N = pu_r 381 [some (.ref 0), some (.int (nI st)), some (.int (nI ru)), some (.int (nI (py_nth I V i))), some (.int (nI (i + 1))), some (.int (nI (py_sd I V i)))] [] (pu_wi N 69 i (py_FR I st ru V i)) := by
  have bK := wx_bK hw
  have i1 : i < 100 := by omega
  obtain ⟨s2, p2, _, _⟩ := vs.1 i hi
  have nl : py_nth I V i ≤ i := py_nth_lt
  have n1 : py_nth I V i < 100 := by omega
  have r3 : ru = 0 ∨ ru = 1 ∨ ru = 2 ∨ ru = 3 := by omega
  unfold py_FR
  rcases r3 with r | r | r | r
  · rw [if_pos r, r, nI_0]
    generalize py_nth I V i = nt at *
    generalize py_sd I V i = sv at *
    simp [bX11_setFreshNumbers_58, bX11_setFreshNumbers_84, bX11_setFreshNumbers_106, bX11_setFreshNumbers_145, bX11_setFreshNumbers_166, a_ai, a_ald, a_cs, a_cv, a_gr, a_iadd, a_icne, a_ifne, a_ild, a_imul, a_inc, a_ist, a_push, a_wi, fx_0_2 hx, fx_0_5 hx, fx_0_6 hx, fx_5_3 hx, fx_62_7 hx, sh_0, sh_25, sh_5, sh_62, sh_67, sh_69, pu_rv, pu_as, Value.category, pu_bk, pu_kl, List.replicate, pu_wi_1, pu_wi_2, nl_add, nl_ladd, nl_aa, nl_mul, nl_rmul, nl_mm, pu_qe0, pu_qe1, i1, n1, s2]
    all_goals try simp (maxSteps := 400000) (disch := omega) [nl_tle, nl_fle, nl_tlt, nl_flt, nl_teq, nl_feq, nl_sub, nl_ss, nl_lt, nl_llt, nl_ltt, nl_le, nl_lle, nl_lee, nl_eq, nl_leq, nl_ee, nl_div, nl_rem, nl_cl, nl_n1, nl_n2, nl_n3, nl_n4, nl_add, nl_ladd, nl_aa, nl_mul, nl_rmul, nl_mm, pu_wi_1, pu_wi_2, bX11_setFreshNumbers_58, bX11_setFreshNumbers_84, bX11_setFreshNumbers_106, bX11_setFreshNumbers_145, bX11_setFreshNumbers_166, a_ai, a_ald, a_cs, a_cv, a_gr, a_iadd, a_icne, a_ifne, a_ild, a_imul, a_inc, a_ist, a_push, a_wi, fx_0_2 hx, fx_0_5 hx, fx_0_6 hx, fx_5_3 hx, fx_62_7 hx, sh_0, sh_25, sh_5, sh_62, sh_67, sh_69, pu_rv, pu_as, Value.category, pu_bk, pu_kl, pu_qe0, pu_qe1, i1, n1, s2]
    all_goals try simp [bX11_setFreshNumbers_58, bX11_setFreshNumbers_84, bX11_setFreshNumbers_106, bX11_setFreshNumbers_145, bX11_setFreshNumbers_166, a_ai, a_ald, a_cs, a_cv, a_gr, a_iadd, a_icne, a_ifne, a_ild, a_imul, a_inc, a_ist, a_push, a_wi, fx_0_2 hx, fx_0_5 hx, fx_0_6 hx, fx_5_3 hx, fx_62_7 hx, sh_0, sh_25, sh_5, sh_62, sh_67, sh_69, pu_rv, pu_as, Value.category, pu_bk, pu_kl, List.replicate, pu_wi_1, pu_wi_2, nl_add, nl_ladd, nl_aa, nl_mul, nl_rmul, nl_mm, pu_qe0, pu_qe1, i1, n1, s2]
    all_goals try simp (maxSteps := 400000) (disch := omega) [nl_tle, nl_fle, nl_tlt, nl_flt, nl_teq, nl_feq, nl_sub, nl_ss, nl_lt, nl_llt, nl_ltt, nl_le, nl_lle, nl_lee, nl_eq, nl_leq, nl_ee, nl_div, nl_rem, nl_cl, nl_n1, nl_n2, nl_n3, nl_n4, nl_add, nl_ladd, nl_aa, nl_mul, nl_rmul, nl_mm, pu_wi_1, pu_wi_2, bX11_setFreshNumbers_58, bX11_setFreshNumbers_84, bX11_setFreshNumbers_106, bX11_setFreshNumbers_145, bX11_setFreshNumbers_166, a_ai, a_ald, a_cs, a_cv, a_gr, a_iadd, a_icne, a_ifne, a_ild, a_imul, a_inc, a_ist, a_push, a_wi, fx_0_2 hx, fx_0_5 hx, fx_0_6 hx, fx_5_3 hx, fx_62_7 hx, sh_0, sh_25, sh_5, sh_62, sh_67, sh_69, pu_rv, pu_as, Value.category, pu_bk, pu_kl, pu_qe0, pu_qe1, i1, n1, s2]
    all_goals try simp [bX11_setFreshNumbers_58, bX11_setFreshNumbers_84, bX11_setFreshNumbers_106, bX11_setFreshNumbers_145, bX11_setFreshNumbers_166, a_ai, a_ald, a_cs, a_cv, a_gr, a_iadd, a_icne, a_ifne, a_ild, a_imul, a_inc, a_ist, a_push, a_wi, fx_0_2 hx, fx_0_5 hx, fx_0_6 hx, fx_5_3 hx, fx_62_7 hx, sh_0, sh_25, sh_5, sh_62, sh_67, sh_69, pu_rv, pu_as, Value.category, pu_bk, pu_kl, List.replicate, pu_wi_1, pu_wi_2, nl_add, nl_ladd, nl_aa, nl_mul, nl_rmul, nl_mm, pu_qe0, pu_qe1, i1, n1, s2]
    all_goals try simp (maxSteps := 400000) (disch := omega) [nl_tle, nl_fle, nl_tlt, nl_flt, nl_teq, nl_feq, nl_sub, nl_ss, nl_lt, nl_llt, nl_ltt, nl_le, nl_lle, nl_lee, nl_eq, nl_leq, nl_ee, nl_div, nl_rem, nl_cl, nl_n1, nl_n2, nl_n3, nl_n4, nl_add, nl_ladd, nl_aa, nl_mul, nl_rmul, nl_mm, pu_wi_1, pu_wi_2, bX11_setFreshNumbers_58, bX11_setFreshNumbers_84, bX11_setFreshNumbers_106, bX11_setFreshNumbers_145, bX11_setFreshNumbers_166, a_ai, a_ald, a_cs, a_cv, a_gr, a_iadd, a_icne, a_ifne, a_ild, a_imul, a_inc, a_ist, a_push, a_wi, fx_0_2 hx, fx_0_5 hx, fx_0_6 hx, fx_5_3 hx, fx_62_7 hx, sh_0, sh_25, sh_5, sh_62, sh_67, sh_69, pu_rv, pu_as, Value.category, pu_bk, pu_kl, pu_qe0, pu_qe1, i1, n1, s2]
    all_goals try simp [bX11_setFreshNumbers_58, bX11_setFreshNumbers_84, bX11_setFreshNumbers_106, bX11_setFreshNumbers_145, bX11_setFreshNumbers_166, a_ai, a_ald, a_cs, a_cv, a_gr, a_iadd, a_icne, a_ifne, a_ild, a_imul, a_inc, a_ist, a_push, a_wi, fx_0_2 hx, fx_0_5 hx, fx_0_6 hx, fx_5_3 hx, fx_62_7 hx, sh_0, sh_25, sh_5, sh_62, sh_67, sh_69, pu_rv, pu_as, Value.category, pu_bk, pu_kl, List.replicate, pu_wi_1, pu_wi_2, nl_add, nl_ladd, nl_aa, nl_mul, nl_rmul, nl_mm, pu_qe0, pu_qe1, i1, n1, s2]
  · rw [if_neg (by omega), if_pos r, r, show nI 1 = (1 : Int32) from rfl]
    generalize py_nth I V i = nt at *
    generalize py_sd I V i = sv at *
    simp [bX11_setFreshNumbers_58, bX11_setFreshNumbers_84, bX11_setFreshNumbers_106, bX11_setFreshNumbers_145, bX11_setFreshNumbers_166, a_ai, a_ald, a_cs, a_cv, a_gr, a_iadd, a_icne, a_ifne, a_ild, a_imul, a_inc, a_ist, a_push, a_wi, fx_0_2 hx, fx_0_5 hx, fx_0_6 hx, fx_5_3 hx, fx_62_7 hx, sh_0, sh_25, sh_5, sh_62, sh_67, sh_69, pu_rv, pu_as, Value.category, pu_bk, pu_kl, List.replicate, pu_wi_1, pu_wi_2, nl_add, nl_ladd, nl_aa, nl_mul, nl_rmul, nl_mm, pu_qe0, pu_qe1, i1]
    all_goals try simp (maxSteps := 400000) (disch := omega) [nl_tle, nl_fle, nl_tlt, nl_flt, nl_teq, nl_feq, nl_sub, nl_ss, nl_lt, nl_llt, nl_ltt, nl_le, nl_lle, nl_lee, nl_eq, nl_leq, nl_ee, nl_div, nl_rem, nl_cl, nl_n1, nl_n2, nl_n3, nl_n4, nl_add, nl_ladd, nl_aa, nl_mul, nl_rmul, nl_mm, pu_wi_1, pu_wi_2, bX11_setFreshNumbers_58, bX11_setFreshNumbers_84, bX11_setFreshNumbers_106, bX11_setFreshNumbers_145, bX11_setFreshNumbers_166, a_ai, a_ald, a_cs, a_cv, a_gr, a_iadd, a_icne, a_ifne, a_ild, a_imul, a_inc, a_ist, a_push, a_wi, fx_0_2 hx, fx_0_5 hx, fx_0_6 hx, fx_5_3 hx, fx_62_7 hx, sh_0, sh_25, sh_5, sh_62, sh_67, sh_69, pu_rv, pu_as, Value.category, pu_bk, pu_kl, pu_qe0, pu_qe1, i1]
    all_goals try simp [bX11_setFreshNumbers_58, bX11_setFreshNumbers_84, bX11_setFreshNumbers_106, bX11_setFreshNumbers_145, bX11_setFreshNumbers_166, a_ai, a_ald, a_cs, a_cv, a_gr, a_iadd, a_icne, a_ifne, a_ild, a_imul, a_inc, a_ist, a_push, a_wi, fx_0_2 hx, fx_0_5 hx, fx_0_6 hx, fx_5_3 hx, fx_62_7 hx, sh_0, sh_25, sh_5, sh_62, sh_67, sh_69, pu_rv, pu_as, Value.category, pu_bk, pu_kl, List.replicate, pu_wi_1, pu_wi_2, nl_add, nl_ladd, nl_aa, nl_mul, nl_rmul, nl_mm, pu_qe0, pu_qe1, i1]
    all_goals try simp (maxSteps := 400000) (disch := omega) [nl_tle, nl_fle, nl_tlt, nl_flt, nl_teq, nl_feq, nl_sub, nl_ss, nl_lt, nl_llt, nl_ltt, nl_le, nl_lle, nl_lee, nl_eq, nl_leq, nl_ee, nl_div, nl_rem, nl_cl, nl_n1, nl_n2, nl_n3, nl_n4, nl_add, nl_ladd, nl_aa, nl_mul, nl_rmul, nl_mm, pu_wi_1, pu_wi_2, bX11_setFreshNumbers_58, bX11_setFreshNumbers_84, bX11_setFreshNumbers_106, bX11_setFreshNumbers_145, bX11_setFreshNumbers_166, a_ai, a_ald, a_cs, a_cv, a_gr, a_iadd, a_icne, a_ifne, a_ild, a_imul, a_inc, a_ist, a_push, a_wi, fx_0_2 hx, fx_0_5 hx, fx_0_6 hx, fx_5_3 hx, fx_62_7 hx, sh_0, sh_25, sh_5, sh_62, sh_67, sh_69, pu_rv, pu_as, Value.category, pu_bk, pu_kl, pu_qe0, pu_qe1, i1]
    all_goals try simp [bX11_setFreshNumbers_58, bX11_setFreshNumbers_84, bX11_setFreshNumbers_106, bX11_setFreshNumbers_145, bX11_setFreshNumbers_166, a_ai, a_ald, a_cs, a_cv, a_gr, a_iadd, a_icne, a_ifne, a_ild, a_imul, a_inc, a_ist, a_push, a_wi, fx_0_2 hx, fx_0_5 hx, fx_0_6 hx, fx_5_3 hx, fx_62_7 hx, sh_0, sh_25, sh_5, sh_62, sh_67, sh_69, pu_rv, pu_as, Value.category, pu_bk, pu_kl, List.replicate, pu_wi_1, pu_wi_2, nl_add, nl_ladd, nl_aa, nl_mul, nl_rmul, nl_mm, pu_qe0, pu_qe1, i1]
    all_goals try simp (maxSteps := 400000) (disch := omega) [nl_tle, nl_fle, nl_tlt, nl_flt, nl_teq, nl_feq, nl_sub, nl_ss, nl_lt, nl_llt, nl_ltt, nl_le, nl_lle, nl_lee, nl_eq, nl_leq, nl_ee, nl_div, nl_rem, nl_cl, nl_n1, nl_n2, nl_n3, nl_n4, nl_add, nl_ladd, nl_aa, nl_mul, nl_rmul, nl_mm, pu_wi_1, pu_wi_2, bX11_setFreshNumbers_58, bX11_setFreshNumbers_84, bX11_setFreshNumbers_106, bX11_setFreshNumbers_145, bX11_setFreshNumbers_166, a_ai, a_ald, a_cs, a_cv, a_gr, a_iadd, a_icne, a_ifne, a_ild, a_imul, a_inc, a_ist, a_push, a_wi, fx_0_2 hx, fx_0_5 hx, fx_0_6 hx, fx_5_3 hx, fx_62_7 hx, sh_0, sh_25, sh_5, sh_62, sh_67, sh_69, pu_rv, pu_as, Value.category, pu_bk, pu_kl, pu_qe0, pu_qe1, i1]
    all_goals try simp [bX11_setFreshNumbers_58, bX11_setFreshNumbers_84, bX11_setFreshNumbers_106, bX11_setFreshNumbers_145, bX11_setFreshNumbers_166, a_ai, a_ald, a_cs, a_cv, a_gr, a_iadd, a_icne, a_ifne, a_ild, a_imul, a_inc, a_ist, a_push, a_wi, fx_0_2 hx, fx_0_5 hx, fx_0_6 hx, fx_5_3 hx, fx_62_7 hx, sh_0, sh_25, sh_5, sh_62, sh_67, sh_69, pu_rv, pu_as, Value.category, pu_bk, pu_kl, List.replicate, pu_wi_1, pu_wi_2, nl_add, nl_ladd, nl_aa, nl_mul, nl_rmul, nl_mm, pu_qe0, pu_qe1, i1]
  · rw [if_neg (by omega), if_neg (by omega), if_pos r, r, show nI 2 = (2 : Int32) from rfl]
    rw [r] at vs
    have dg := c_digitsBy (py_sd I V i) (py_pc I V i) s2 p2 N
    have fb : pu_r 105 [some (.ref 0), some (.int (nI i)), some (.int (nI (16 * py_dgt I V i)))] [] N = some (some (.int (nI (py_f2 I V i))), N) := by
      match i, hi, hf, i1 with
      | 0, hi, hf, i1 =>
        have q := c_fbp hx (i := 0) (g := py_dgt I V 0) (f := 0) (by omega) (by unfold py_dgt; omega) (fun z => by omega) (by omega)
        rw [if_neg (fun z => absurd z.1 (by omega))] at q
        exact q
      | j + 1, hi, hf, i1 =>
        have fj := hf j (by omega)
        unfold py_FR at fj
        rw [if_neg (by omega), if_neg (by omega), if_pos r] at fj
        obtain ⟨l, l1, l2⟩ := py_f2_b vs j (by omega)
        have pj := vs.1 j (by omega)
        have m1 : py_pc I V j % 10 < 10 := Nat.mod_lt _ (by omega)
        have q := c_fbp hx (i := j + 1) (g := py_dgt I V (j + 1)) (f := py_f2 I V j) (by omega) (by unfold py_dgt; omega) (fun _ => by rw [Nat.add_sub_cancel]; exact fj) (by rw [l2]; unfold py_dgt; omega)
        have e : (if 0 < j + 1 ∧ py_f2 I V j / 16 = py_dgt I V (j + 1) then py_f2 I V j + 1 else 16 * py_dgt I V (j + 1)) = py_f2 I V (j + 1) := by
          show _ = (if py_f2 I V j / 16 = py_dgt I V (j + 1) then py_f2 I V j + 1 else 16 * py_dgt I V (j + 1))
          by_cases z : py_f2 I V j / 16 = py_dgt I V (j + 1)
          · rw [if_pos z, if_pos ⟨by omega, z⟩]
          · rw [if_neg z, if_neg (fun k => z k.2)]
        rw [e] at q
        exact q
    have dv : 2 * (py_pc I V i / 10) + 1 + py_sd I V i = py_dgt I V i := rfl
    rw [dv] at dg
    have dl : py_dgt I V i < 20000 := by unfold py_dgt; omega
    generalize py_f2 I V i = fv at *
    generalize py_dgt I V i = dgv at *
    generalize py_nth I V i = nt at *
    generalize py_sd I V i = sv at *
    generalize py_pc I V i = pv at *
    simp [bX11_setFreshNumbers_58, bX11_setFreshNumbers_84, bX11_setFreshNumbers_106, bX11_setFreshNumbers_145, bX11_setFreshNumbers_166, a_ai, a_ald, a_cs, a_cv, a_gr, a_iadd, a_icne, a_ifne, a_ild, a_imul, a_inc, a_ist, a_push, a_wi, fx_0_2 hx, fx_0_5 hx, fx_0_6 hx, fx_5_3 hx, fx_62_7 hx, sh_0, sh_25, sh_5, sh_62, sh_67, sh_69, pu_rv, pu_as, Value.category, pu_bk, pu_kl, List.replicate, pu_wi_1, pu_wi_2, nl_add, nl_ladd, nl_aa, nl_mul, nl_rmul, nl_mm, pu_qe0, pu_qe1, i1, v67, dg, fb]
    all_goals try simp (maxSteps := 400000) (disch := omega) [nl_tle, nl_fle, nl_tlt, nl_flt, nl_teq, nl_feq, nl_sub, nl_ss, nl_lt, nl_llt, nl_ltt, nl_le, nl_lle, nl_lee, nl_eq, nl_leq, nl_ee, nl_div, nl_rem, nl_cl, nl_n1, nl_n2, nl_n3, nl_n4, nl_add, nl_ladd, nl_aa, nl_mul, nl_rmul, nl_mm, pu_wi_1, pu_wi_2, bX11_setFreshNumbers_58, bX11_setFreshNumbers_84, bX11_setFreshNumbers_106, bX11_setFreshNumbers_145, bX11_setFreshNumbers_166, a_ai, a_ald, a_cs, a_cv, a_gr, a_iadd, a_icne, a_ifne, a_ild, a_imul, a_inc, a_ist, a_push, a_wi, fx_0_2 hx, fx_0_5 hx, fx_0_6 hx, fx_5_3 hx, fx_62_7 hx, sh_0, sh_25, sh_5, sh_62, sh_67, sh_69, pu_rv, pu_as, Value.category, pu_bk, pu_kl, pu_qe0, pu_qe1, i1, v67, dg, fb]
    all_goals try simp [bX11_setFreshNumbers_58, bX11_setFreshNumbers_84, bX11_setFreshNumbers_106, bX11_setFreshNumbers_145, bX11_setFreshNumbers_166, a_ai, a_ald, a_cs, a_cv, a_gr, a_iadd, a_icne, a_ifne, a_ild, a_imul, a_inc, a_ist, a_push, a_wi, fx_0_2 hx, fx_0_5 hx, fx_0_6 hx, fx_5_3 hx, fx_62_7 hx, sh_0, sh_25, sh_5, sh_62, sh_67, sh_69, pu_rv, pu_as, Value.category, pu_bk, pu_kl, List.replicate, pu_wi_1, pu_wi_2, nl_add, nl_ladd, nl_aa, nl_mul, nl_rmul, nl_mm, pu_qe0, pu_qe1, i1, v67, dg, fb]
    all_goals try simp (maxSteps := 400000) (disch := omega) [nl_tle, nl_fle, nl_tlt, nl_flt, nl_teq, nl_feq, nl_sub, nl_ss, nl_lt, nl_llt, nl_ltt, nl_le, nl_lle, nl_lee, nl_eq, nl_leq, nl_ee, nl_div, nl_rem, nl_cl, nl_n1, nl_n2, nl_n3, nl_n4, nl_add, nl_ladd, nl_aa, nl_mul, nl_rmul, nl_mm, pu_wi_1, pu_wi_2, bX11_setFreshNumbers_58, bX11_setFreshNumbers_84, bX11_setFreshNumbers_106, bX11_setFreshNumbers_145, bX11_setFreshNumbers_166, a_ai, a_ald, a_cs, a_cv, a_gr, a_iadd, a_icne, a_ifne, a_ild, a_imul, a_inc, a_ist, a_push, a_wi, fx_0_2 hx, fx_0_5 hx, fx_0_6 hx, fx_5_3 hx, fx_62_7 hx, sh_0, sh_25, sh_5, sh_62, sh_67, sh_69, pu_rv, pu_as, Value.category, pu_bk, pu_kl, pu_qe0, pu_qe1, i1, v67, dg, fb]
    all_goals try simp [bX11_setFreshNumbers_58, bX11_setFreshNumbers_84, bX11_setFreshNumbers_106, bX11_setFreshNumbers_145, bX11_setFreshNumbers_166, a_ai, a_ald, a_cs, a_cv, a_gr, a_iadd, a_icne, a_ifne, a_ild, a_imul, a_inc, a_ist, a_push, a_wi, fx_0_2 hx, fx_0_5 hx, fx_0_6 hx, fx_5_3 hx, fx_62_7 hx, sh_0, sh_25, sh_5, sh_62, sh_67, sh_69, pu_rv, pu_as, Value.category, pu_bk, pu_kl, List.replicate, pu_wi_1, pu_wi_2, nl_add, nl_ladd, nl_aa, nl_mul, nl_rmul, nl_mm, pu_qe0, pu_qe1, i1, v67, dg, fb]
    all_goals try simp (maxSteps := 400000) (disch := omega) [nl_tle, nl_fle, nl_tlt, nl_flt, nl_teq, nl_feq, nl_sub, nl_ss, nl_lt, nl_llt, nl_ltt, nl_le, nl_lle, nl_lee, nl_eq, nl_leq, nl_ee, nl_div, nl_rem, nl_cl, nl_n1, nl_n2, nl_n3, nl_n4, nl_add, nl_ladd, nl_aa, nl_mul, nl_rmul, nl_mm, pu_wi_1, pu_wi_2, bX11_setFreshNumbers_58, bX11_setFreshNumbers_84, bX11_setFreshNumbers_106, bX11_setFreshNumbers_145, bX11_setFreshNumbers_166, a_ai, a_ald, a_cs, a_cv, a_gr, a_iadd, a_icne, a_ifne, a_ild, a_imul, a_inc, a_ist, a_push, a_wi, fx_0_2 hx, fx_0_5 hx, fx_0_6 hx, fx_5_3 hx, fx_62_7 hx, sh_0, sh_25, sh_5, sh_62, sh_67, sh_69, pu_rv, pu_as, Value.category, pu_bk, pu_kl, pu_qe0, pu_qe1, i1, v67, dg, fb]
    all_goals try simp [bX11_setFreshNumbers_58, bX11_setFreshNumbers_84, bX11_setFreshNumbers_106, bX11_setFreshNumbers_145, bX11_setFreshNumbers_166, a_ai, a_ald, a_cs, a_cv, a_gr, a_iadd, a_icne, a_ifne, a_ild, a_imul, a_inc, a_ist, a_push, a_wi, fx_0_2 hx, fx_0_5 hx, fx_0_6 hx, fx_5_3 hx, fx_62_7 hx, sh_0, sh_25, sh_5, sh_62, sh_67, sh_69, pu_rv, pu_as, Value.category, pu_bk, pu_kl, List.replicate, pu_wi_1, pu_wi_2, nl_add, nl_ladd, nl_aa, nl_mul, nl_rmul, nl_mm, pu_qe0, pu_qe1, i1, v67, dg, fb]
  · rw [if_neg (by omega), if_neg (by omega), if_neg (by omega), r, show nI 3 = (3 : Int32) from rfl]
    have rw' := c_rowWholeOf hx hI hw hst s2 n1
    generalize py_rowv I st (py_sd I V i) (py_nth I V i) = rv at *
    generalize py_nth I V i = nt at *
    generalize py_sd I V i = sv at *
    simp [bX11_setFreshNumbers_58, bX11_setFreshNumbers_84, bX11_setFreshNumbers_106, bX11_setFreshNumbers_145, bX11_setFreshNumbers_166, a_ai, a_ald, a_cs, a_cv, a_gr, a_iadd, a_icne, a_ifne, a_ild, a_imul, a_inc, a_ist, a_push, a_wi, ag_25 hI, fx_0_2 hx, fx_0_5 hx, fx_0_6 hx, fx_5_3 hx, fx_62_7 hx, sh_0, sh_25, sh_5, sh_62, sh_67, sh_69, pu_rv, pu_as, Value.category, pu_bk, pu_kl, List.replicate, pu_wi_1, pu_wi_2, nl_add, nl_ladd, nl_aa, nl_mul, nl_rmul, nl_mm, pu_qe0, pu_qe1, i1, rw', sh_25]
    all_goals try simp (maxSteps := 400000) (disch := omega) [nl_tle, nl_fle, nl_tlt, nl_flt, nl_teq, nl_feq, nl_sub, nl_ss, nl_lt, nl_llt, nl_ltt, nl_le, nl_lle, nl_lee, nl_eq, nl_leq, nl_ee, nl_div, nl_rem, nl_cl, nl_n1, nl_n2, nl_n3, nl_n4, nl_add, nl_ladd, nl_aa, nl_mul, nl_rmul, nl_mm, pu_wi_1, pu_wi_2, bX11_setFreshNumbers_58, bX11_setFreshNumbers_84, bX11_setFreshNumbers_106, bX11_setFreshNumbers_145, bX11_setFreshNumbers_166, a_ai, a_ald, a_cs, a_cv, a_gr, a_iadd, a_icne, a_ifne, a_ild, a_imul, a_inc, a_ist, a_push, a_wi, ag_25 hI, fx_0_2 hx, fx_0_5 hx, fx_0_6 hx, fx_5_3 hx, fx_62_7 hx, sh_0, sh_25, sh_5, sh_62, sh_67, sh_69, pu_rv, pu_as, Value.category, pu_bk, pu_kl, pu_qe0, pu_qe1, i1, rw', sh_25]
    all_goals try simp [bX11_setFreshNumbers_58, bX11_setFreshNumbers_84, bX11_setFreshNumbers_106, bX11_setFreshNumbers_145, bX11_setFreshNumbers_166, a_ai, a_ald, a_cs, a_cv, a_gr, a_iadd, a_icne, a_ifne, a_ild, a_imul, a_inc, a_ist, a_push, a_wi, ag_25 hI, fx_0_2 hx, fx_0_5 hx, fx_0_6 hx, fx_5_3 hx, fx_62_7 hx, sh_0, sh_25, sh_5, sh_62, sh_67, sh_69, pu_rv, pu_as, Value.category, pu_bk, pu_kl, List.replicate, pu_wi_1, pu_wi_2, nl_add, nl_ladd, nl_aa, nl_mul, nl_rmul, nl_mm, pu_qe0, pu_qe1, i1, rw', sh_25]
    all_goals try simp (maxSteps := 400000) (disch := omega) [nl_tle, nl_fle, nl_tlt, nl_flt, nl_teq, nl_feq, nl_sub, nl_ss, nl_lt, nl_llt, nl_ltt, nl_le, nl_lle, nl_lee, nl_eq, nl_leq, nl_ee, nl_div, nl_rem, nl_cl, nl_n1, nl_n2, nl_n3, nl_n4, nl_add, nl_ladd, nl_aa, nl_mul, nl_rmul, nl_mm, pu_wi_1, pu_wi_2, bX11_setFreshNumbers_58, bX11_setFreshNumbers_84, bX11_setFreshNumbers_106, bX11_setFreshNumbers_145, bX11_setFreshNumbers_166, a_ai, a_ald, a_cs, a_cv, a_gr, a_iadd, a_icne, a_ifne, a_ild, a_imul, a_inc, a_ist, a_push, a_wi, ag_25 hI, fx_0_2 hx, fx_0_5 hx, fx_0_6 hx, fx_5_3 hx, fx_62_7 hx, sh_0, sh_25, sh_5, sh_62, sh_67, sh_69, pu_rv, pu_as, Value.category, pu_bk, pu_kl, pu_qe0, pu_qe1, i1, rw', sh_25]
    all_goals try simp [bX11_setFreshNumbers_58, bX11_setFreshNumbers_84, bX11_setFreshNumbers_106, bX11_setFreshNumbers_145, bX11_setFreshNumbers_166, a_ai, a_ald, a_cs, a_cv, a_gr, a_iadd, a_icne, a_ifne, a_ild, a_imul, a_inc, a_ist, a_push, a_wi, ag_25 hI, fx_0_2 hx, fx_0_5 hx, fx_0_6 hx, fx_5_3 hx, fx_62_7 hx, sh_0, sh_25, sh_5, sh_62, sh_67, sh_69, pu_rv, pu_as, Value.category, pu_bk, pu_kl, List.replicate, pu_wi_1, pu_wi_2, nl_add, nl_ladd, nl_aa, nl_mul, nl_rmul, nl_mm, pu_qe0, pu_qe1, i1, rw', sh_25]
    all_goals try simp (maxSteps := 400000) (disch := omega) [nl_tle, nl_fle, nl_tlt, nl_flt, nl_teq, nl_feq, nl_sub, nl_ss, nl_lt, nl_llt, nl_ltt, nl_le, nl_lle, nl_lee, nl_eq, nl_leq, nl_ee, nl_div, nl_rem, nl_cl, nl_n1, nl_n2, nl_n3, nl_n4, nl_add, nl_ladd, nl_aa, nl_mul, nl_rmul, nl_mm, pu_wi_1, pu_wi_2, bX11_setFreshNumbers_58, bX11_setFreshNumbers_84, bX11_setFreshNumbers_106, bX11_setFreshNumbers_145, bX11_setFreshNumbers_166, a_ai, a_ald, a_cs, a_cv, a_gr, a_iadd, a_icne, a_ifne, a_ild, a_imul, a_inc, a_ist, a_push, a_wi, ag_25 hI, fx_0_2 hx, fx_0_5 hx, fx_0_6 hx, fx_5_3 hx, fx_62_7 hx, sh_0, sh_25, sh_5, sh_62, sh_67, sh_69, pu_rv, pu_as, Value.category, pu_bk, pu_kl, pu_qe0, pu_qe1, i1, rw', sh_25]
    all_goals try simp [bX11_setFreshNumbers_58, bX11_setFreshNumbers_84, bX11_setFreshNumbers_106, bX11_setFreshNumbers_145, bX11_setFreshNumbers_166, a_ai, a_ald, a_cs, a_cv, a_gr, a_iadd, a_icne, a_ifne, a_ild, a_imul, a_inc, a_ist, a_push, a_wi, ag_25 hI, fx_0_2 hx, fx_0_5 hx, fx_0_6 hx, fx_5_3 hx, fx_62_7 hx, sh_0, sh_25, sh_5, sh_62, sh_67, sh_69, pu_rv, pu_as, Value.category, pu_bk, pu_kl, List.replicate, pu_wi_1, pu_wi_2, nl_add, nl_ladd, nl_aa, nl_mul, nl_rmul, nl_mm, pu_qe0, pu_qe1, i1, rw', sh_25]
theorem c_sf_l2 (hw : pu_WF I L) (hst : st < cK I) (hru : ru < 4) (vs : py_vs I ru V n) (hn : n ≤ 100) {N0 : pu_M} (hx0 : pu_fx N0) (hI0 : pu_ag N0 I) (v0 : N0.1 62 0 = nI n) (v66 : ∀ a, a < n → N0.1 66 a = nI (py_sd I V a)) (v67 : ∀ a, a < n → N0.1 67 a = nI (py_pc I V a)) : ∀ (m i : Nat) (N : pu_M) (x3 : Int32) (t5 : Option Value), i + m = n → py_f9 N0 N → (∀ a, a < i → N.1 69 a = py_FR I st ru V a) → (0 < i → x3 = nI (py_nth I V (i - 1))) → ∃ N1, py_f9 N0 N1 ∧ (∀ a, a < n → N1.1 69 a = py_FR I st ru V a) ∧ pu_r 381 [some (.ref 0), some (.int (nI st)), some (.int (nI ru)), some (.int x3), some (.int (nI i)), t5] [] N = some (none, N1)
  | 0, i, N, x3, t5, hi, ff, hf, h3 => by
    have hx : pu_fx N := pz_fx_of hx0 ff.1
    have e : i = n := by omega
    have n0 : N.1 62 0 = nI n := by rw [ff.2 62 0 (by omega)]; exact v0
    have hc : nI n ≤ nI n := nI_le (by omega) (by omega)
    refine ⟨N, ff, by rw [← e]; exact hf, ?_⟩
    rw [e]
    rw [qX11_setFreshNumbers_5]
    simp [bX11_setFreshNumbers_5, bX11_setFreshNumbers_172, bX11_setFreshNumbers_57, bX11_setFreshNumbers_58, bX11_setFreshNumbers_84, bX11_setFreshNumbers_106, bX11_setFreshNumbers_145, bX11_setFreshNumbers_166, bX11_setFreshNumbers_53, a_ai, a_ald, a_cs, a_cv, a_gi, a_gr, a_iadd, a_icge, a_icne, a_ifle, a_ifne, a_ild, a_imul, a_inc, a_ist, a_isub, a_push, a_vret, a_wi, fx_0_2 hx, fx_0_5 hx, fx_0_6 hx, fx_5_3 hx, fx_62_6 hx, fx_62_7 hx, sh_0, sh_25, sh_5, sh_62, sh_66, sh_67, sh_69, pu_rv, pu_as, Value.category, pu_bk, pu_kl, List.replicate, pu_wi_1, pu_wi_2, nl_add, nl_ladd, nl_aa, nl_mul, nl_rmul, nl_mm, pu_qe0, pu_qe1, n0, hc]
    all_goals try simp (maxSteps := 400000) (disch := omega) [nl_tle, nl_fle, nl_tlt, nl_flt, nl_teq, nl_feq, nl_sub, nl_ss, nl_lt, nl_llt, nl_ltt, nl_le, nl_lle, nl_lee, nl_eq, nl_leq, nl_ee, nl_div, nl_rem, nl_cl, nl_n1, nl_n2, nl_n3, nl_n4, nl_add, nl_ladd, nl_aa, nl_mul, nl_rmul, nl_mm, pu_wi_1, pu_wi_2, bX11_setFreshNumbers_5, bX11_setFreshNumbers_172, bX11_setFreshNumbers_57, bX11_setFreshNumbers_58, bX11_setFreshNumbers_84, bX11_setFreshNumbers_106, bX11_setFreshNumbers_145, bX11_setFreshNumbers_166, bX11_setFreshNumbers_53, a_ai, a_ald, a_cs, a_cv, a_gi, a_gr, a_iadd, a_icge, a_icne, a_ifle, a_ifne, a_ild, a_imul, a_inc, a_ist, a_isub, a_push, a_vret, a_wi, fx_0_2 hx, fx_0_5 hx, fx_0_6 hx, fx_5_3 hx, fx_62_6 hx, fx_62_7 hx, sh_0, sh_25, sh_5, sh_62, sh_66, sh_67, sh_69, pu_rv, pu_as, Value.category, pu_bk, pu_kl, pu_qe0, pu_qe1, n0, hc]
    all_goals try simp [bX11_setFreshNumbers_5, bX11_setFreshNumbers_172, bX11_setFreshNumbers_57, bX11_setFreshNumbers_58, bX11_setFreshNumbers_84, bX11_setFreshNumbers_106, bX11_setFreshNumbers_145, bX11_setFreshNumbers_166, bX11_setFreshNumbers_53, a_ai, a_ald, a_cs, a_cv, a_gi, a_gr, a_iadd, a_icge, a_icne, a_ifle, a_ifne, a_ild, a_imul, a_inc, a_ist, a_isub, a_push, a_vret, a_wi, fx_0_2 hx, fx_0_5 hx, fx_0_6 hx, fx_5_3 hx, fx_62_6 hx, fx_62_7 hx, sh_0, sh_25, sh_5, sh_62, sh_66, sh_67, sh_69, pu_rv, pu_as, Value.category, pu_bk, pu_kl, List.replicate, pu_wi_1, pu_wi_2, nl_add, nl_ladd, nl_aa, nl_mul, nl_rmul, nl_mm, pu_qe0, pu_qe1, n0, hc]
    all_goals try simp (maxSteps := 400000) (disch := omega) [nl_tle, nl_fle, nl_tlt, nl_flt, nl_teq, nl_feq, nl_sub, nl_ss, nl_lt, nl_llt, nl_ltt, nl_le, nl_lle, nl_lee, nl_eq, nl_leq, nl_ee, nl_div, nl_rem, nl_cl, nl_n1, nl_n2, nl_n3, nl_n4, nl_add, nl_ladd, nl_aa, nl_mul, nl_rmul, nl_mm, pu_wi_1, pu_wi_2, bX11_setFreshNumbers_5, bX11_setFreshNumbers_172, bX11_setFreshNumbers_57, bX11_setFreshNumbers_58, bX11_setFreshNumbers_84, bX11_setFreshNumbers_106, bX11_setFreshNumbers_145, bX11_setFreshNumbers_166, bX11_setFreshNumbers_53, a_ai, a_ald, a_cs, a_cv, a_gi, a_gr, a_iadd, a_icge, a_icne, a_ifle, a_ifne, a_ild, a_imul, a_inc, a_ist, a_isub, a_push, a_vret, a_wi, fx_0_2 hx, fx_0_5 hx, fx_0_6 hx, fx_5_3 hx, fx_62_6 hx, fx_62_7 hx, sh_0, sh_25, sh_5, sh_62, sh_66, sh_67, sh_69, pu_rv, pu_as, Value.category, pu_bk, pu_kl, pu_qe0, pu_qe1, n0, hc]
    all_goals try simp [bX11_setFreshNumbers_5, bX11_setFreshNumbers_172, bX11_setFreshNumbers_57, bX11_setFreshNumbers_58, bX11_setFreshNumbers_84, bX11_setFreshNumbers_106, bX11_setFreshNumbers_145, bX11_setFreshNumbers_166, bX11_setFreshNumbers_53, a_ai, a_ald, a_cs, a_cv, a_gi, a_gr, a_iadd, a_icge, a_icne, a_ifle, a_ifne, a_ild, a_imul, a_inc, a_ist, a_isub, a_push, a_vret, a_wi, fx_0_2 hx, fx_0_5 hx, fx_0_6 hx, fx_5_3 hx, fx_62_6 hx, fx_62_7 hx, sh_0, sh_25, sh_5, sh_62, sh_66, sh_67, sh_69, pu_rv, pu_as, Value.category, pu_bk, pu_kl, List.replicate, pu_wi_1, pu_wi_2, nl_add, nl_ladd, nl_aa, nl_mul, nl_rmul, nl_mm, pu_qe0, pu_qe1, n0, hc]
    all_goals try simp (maxSteps := 400000) (disch := omega) [nl_tle, nl_fle, nl_tlt, nl_flt, nl_teq, nl_feq, nl_sub, nl_ss, nl_lt, nl_llt, nl_ltt, nl_le, nl_lle, nl_lee, nl_eq, nl_leq, nl_ee, nl_div, nl_rem, nl_cl, nl_n1, nl_n2, nl_n3, nl_n4, nl_add, nl_ladd, nl_aa, nl_mul, nl_rmul, nl_mm, pu_wi_1, pu_wi_2, bX11_setFreshNumbers_5, bX11_setFreshNumbers_172, bX11_setFreshNumbers_57, bX11_setFreshNumbers_58, bX11_setFreshNumbers_84, bX11_setFreshNumbers_106, bX11_setFreshNumbers_145, bX11_setFreshNumbers_166, bX11_setFreshNumbers_53, a_ai, a_ald, a_cs, a_cv, a_gi, a_gr, a_iadd, a_icge, a_icne, a_ifle, a_ifne, a_ild, a_imul, a_inc, a_ist, a_isub, a_push, a_vret, a_wi, fx_0_2 hx, fx_0_5 hx, fx_0_6 hx, fx_5_3 hx, fx_62_6 hx, fx_62_7 hx, sh_0, sh_25, sh_5, sh_62, sh_66, sh_67, sh_69, pu_rv, pu_as, Value.category, pu_bk, pu_kl, pu_qe0, pu_qe1, n0, hc]
    all_goals try simp [bX11_setFreshNumbers_5, bX11_setFreshNumbers_172, bX11_setFreshNumbers_57, bX11_setFreshNumbers_58, bX11_setFreshNumbers_84, bX11_setFreshNumbers_106, bX11_setFreshNumbers_145, bX11_setFreshNumbers_166, bX11_setFreshNumbers_53, a_ai, a_ald, a_cs, a_cv, a_gi, a_gr, a_iadd, a_icge, a_icne, a_ifle, a_ifne, a_ild, a_imul, a_inc, a_ist, a_isub, a_push, a_vret, a_wi, fx_0_2 hx, fx_0_5 hx, fx_0_6 hx, fx_5_3 hx, fx_62_6 hx, fx_62_7 hx, sh_0, sh_25, sh_5, sh_62, sh_66, sh_67, sh_69, pu_rv, pu_as, Value.category, pu_bk, pu_kl, List.replicate, pu_wi_1, pu_wi_2, nl_add, nl_ladd, nl_aa, nl_mul, nl_rmul, nl_mm, pu_qe0, pu_qe1, n0, hc]
  | m + 1, i, N, x3, t5, hi, ff, hf, h3 => by
    have hx : pu_fx N := pz_fx_of hx0 ff.1
    have hI : pu_ag N I := fun a j q1 q2 => by rw [ff.2 a j (by omega)]; exact hI0 a j q1 q2
    have inn : i < n := by omega
    have A := c_sf_a hx vs hn inn (by rw [ff.2 62 0 (by omega)]; exact v0) (fun a ha => by rw [ff.2 66 a (by omega)]; exact v66 a ha) (nI st) (nI ru) x3 h3 t5
    have B := c_sf_b hx hI hw hst hru vs hn inn (by rw [ff.2 67 i (by omega)]; exact v67 i inn) hf x3
    rw [A, B]
    refine c_sf_l2 hw hst hru vs hn hx0 hI0 v0 v66 v67 m (i + 1) (pu_wi N 69 i (py_FR I st ru V i)) (nI (py_nth I V i)) _ (by omega) ⟨ff.1, fun c j z => by rw [py_wi_o (by omega)]; exact ff.2 c j z⟩ (fun a ha => ?_) (fun _ => by rw [Nat.add_sub_cancel])
    by_cases z : a = i
    · rw [z]
      simp [pu_wi_1]
    · rw [py_wi_o (by omega)]
      exact hf a (by omega)
end
