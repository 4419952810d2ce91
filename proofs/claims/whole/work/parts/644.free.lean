/-! free -/
def pz_ls (I : Nat → Nat → Int32) (st s p lo hi v : Nat) (r : Int32) : Prop := (v = 0 ∧ pz_fr (pz_cn I st s p lo hi) r) ∨ (v ≠ 0 ∧ ((pz_cd I st s p lo hi v ∧ r = nI v) ∨ (¬ pz_cd I st s p lo hi v ∧ r = -1)))
theorem pz_ls_un {I : Nat → Nat → Int32} {st s p lo hi v : Nat} {r r2 : Int32} (h1 : pz_ls I st s p lo hi v r) (h2 : pz_ls I st s p lo hi v r2) : r = r2 := by
  rcases h1 with ⟨a, b⟩ | ⟨a, b⟩
  · rcases h2 with ⟨c, d⟩ | ⟨c, d⟩
    · exact pz_fr_un b d
    · exact absurd a c
  · rcases h2 with ⟨c, d⟩ | ⟨c, d⟩
    · exact absurd c a
    · rcases b with ⟨b1, b2⟩ | ⟨b1, b2⟩
      · rcases d with ⟨d1, d2⟩ | ⟨d1, d2⟩
        · rw [b2, d2]
        · exact absurd b1 d1
      · rcases d with ⟨d1, d2⟩ | ⟨d1, d2⟩
        · exact absurd d1 b1
        · rw [b2, d2]
section
variable {M : pu_M} {I : Nat → Nat → Int32} {L : Nat → Nat → Int64} {st o n : Nat} {V : Nat → Nat}
theorem pz_lo_n (hw : pu_WF I L) {sd h b : Int} {l : Int32} {J : Nat} (g : pz_lo I st sd h J b l) : ∃ x : Nat, l = nI x ∧ x < 160000 := by
  rcases g with ⟨_, a, _⟩ | ⟨k, k1, _, _, _, k5, _⟩
  · exact ⟨0, a, by omega⟩
  · have := wx_uw hw k k1.1
    have q := pu_on (x := I 16 k) (n := 160000) ⟨this.1, by omega⟩
    exact ⟨(I 16 k).toNatClampNeg, by rw [← k5]; exact q.1, q.2⟩
theorem pz_hi_n (hw : pu_WF I L) {sd h b : Int} {l : Int32} {J : Nat} (g : pz_hi I st sd h J b l) : ∃ x : Nat, l = nI x ∧ x ≤ 160000 := by
  rcases g with ⟨_, a, _⟩ | ⟨k, k1, _, _, _, k5, _⟩
  · exact ⟨160000, a, by omega⟩
  · have := wx_uw hw k k1.1
    have q := pu_on (x := I 16 k) (n := 160000) ⟨this.1, by omega⟩
    exact ⟨(I 16 k).toNatClampNeg, by rw [← k5]; exact q.1, by omega⟩
theorem pz_ti {s : Nat} (h : s < 2147483648) : (nI s).toInt = s := nI_toInt h
theorem c_fitN (hx : pu_fx M) (hw : pu_WF I L) (hst : st < cK I) (h : pz_vw M I st o V n) (s p v : Nat) (hs : s < 2) (hp : p < 10000) (hv : v < 200000) : ∃ be ah lo hi r, pz_lo I st s (pz_al (I 27 st).toInt s p) (2 * cD I) be (nI lo) ∧ pz_hi I st s (pz_al (I 27 st).toInt s p) (2 * cD I) ah (nI hi) ∧ lo < 160000 ∧ hi ≤ 160000 ∧ pz_ls I st s p lo hi v r ∧ pu_r 81 [some (.ref 62), some (.int (nI s)), some (.int (nI p)), some (.int (nI v))] [] M = some (some (.int r), M) := by
  have ho : o < 4 := by rw [h.2.2.2.2.2]; split <;> omega
  have e1 := c_rankOf (M := M) o ho h.2.2.1 (nI s) (nI p)
  have ts := pz_ti (s := s) (by omega)
  have tp := pz_ti (s := p) (by omega)
  have e2 := pz_rk_e (r := I 27 st) (s := nI s) (p := nI p) (by omega) (by omega) (by omega) (by omega)
  rw [← h.2.2.2.2.2] at e2
  obtain ⟨be, lo, l1, l2⟩ := c_lowAt hx hw h (nI s) (pu_rkx o (nI s) (nI p)) _ e2
  obtain ⟨ah, hi, i1, i2⟩ := c_highAt hx hw h (nI s) (pu_rkx o (nI s) (nI p)) _ e2
  obtain ⟨x, rfl, x2⟩ := pz_lo_n hw l1
  obtain ⟨y, rfl, y2⟩ := pz_hi_n hw i1
  rw [ts, tp] at l1 i1
  have e3 := c_isFree hx hw hst h v s p hv hs hp
  by_cases c : v = 0
  · subst c
    have rr := pz_rule hw hst
    have r1 := h.2.1
    rw [rr.1] at r1
    have z2 : (nI (I 27 st).toNatClampNeg = 2) = ((I 27 st).toNatClampNeg = 2) := propext (nI_eq (b := 2) (by omega) (by omega))
    have d1 : nI x / 16 = nI (x / 16) := pk_div (d := 16) (by omega) (by omega) (by omega)
    have d2 : nI y / 16 = nI (y / 16) := pk_div (d := 16) (by omega) (by omega) (by omega)
    by_cases k : (I 27 st).toNatClampNeg = 2
    · have e4 := c_digitsBy s p hs hp M
      obtain ⟨r, r2, r3⟩ := c_fit_o hx hw hst h s p x y (2 * (p / 10) + 1 + s) (2 * (p / 10) + 1 + s) (pu_rkx o (nI s) (nI p)) hs hp (by omega) (by omega) (by omega) (by omega) (fun c n q => by
        have := q.2.2.2.2.2.1.2 k
        have := q.1
        omega) 10 0 none none (by omega) (fun c2 n2 q => by omega)
      refine ⟨be, ah, x, y, r, l1, i1, x2, y2, Or.inl ⟨rfl, r2⟩, ?_⟩
      rw [nI_0] at r3 ⊢
      rw [k] at r1
      rw [qX9_fittingNumber]
      simp [a_ent, bX9_fittingNumber_0, bX9_fittingNumber_70, bX9_fittingNumber_109, bX9_fittingNumber_56, bX9_fittingNumber_57, bX9_fittingNumber_68, bX9_fittingNumber_69, bX9_fittingNumber_43, a_ald, a_cs, a_cv, a_gi, a_icge, a_icle, a_icne, a_idiv, a_ifeq, a_ild, a_iret, a_ist, a_min, a_push, sh_62, pu_rv, pu_as, Value.category, pu_bk, pu_kl, List.replicate, pu_wi_1, pu_wi_2, nl_add, nl_ladd, nl_aa, nl_mul, nl_rmul, nl_mm, pu_qe0, pu_qe1, e1, l2, i2, d1, d2, r1, e4, r3]
      all_goals try simp (maxSteps := 400000) (disch := omega) [nl_tle, nl_fle, nl_tlt, nl_flt, nl_teq, nl_feq, nl_sub, nl_ss, nl_lt, nl_llt, nl_ltt, nl_le, nl_lle, nl_lee, nl_eq, nl_leq, nl_ee, nl_div, nl_rem, nl_cl, nl_n1, nl_n2, nl_n3, nl_n4, nl_add, nl_ladd, nl_aa, nl_mul, nl_rmul, nl_mm, pu_wi_1, pu_wi_2, bX9_fittingNumber_0, bX9_fittingNumber_70, bX9_fittingNumber_109, bX9_fittingNumber_56, bX9_fittingNumber_57, bX9_fittingNumber_68, bX9_fittingNumber_69, bX9_fittingNumber_43, a_ald, a_cs, a_cv, a_gi, a_icge, a_icle, a_icne, a_idiv, a_ifeq, a_ild, a_iret, a_ist, a_min, a_push, sh_62, pu_rv, pu_as, Value.category, pu_bk, pu_kl, pu_qe0, pu_qe1, e1, l2, i2, d1, d2, r1, e4, r3]
      all_goals try simp [bX9_fittingNumber_0, bX9_fittingNumber_70, bX9_fittingNumber_109, bX9_fittingNumber_56, bX9_fittingNumber_57, bX9_fittingNumber_68, bX9_fittingNumber_69, bX9_fittingNumber_43, a_ald, a_cs, a_cv, a_gi, a_icge, a_icle, a_icne, a_idiv, a_ifeq, a_ild, a_iret, a_ist, a_min, a_push, sh_62, pu_rv, pu_as, Value.category, pu_bk, pu_kl, List.replicate, pu_wi_1, pu_wi_2, nl_add, nl_ladd, nl_aa, nl_mul, nl_rmul, nl_mm, pu_qe0, pu_qe1, e1, l2, i2, d1, d2, r1, e4, r3]
      all_goals try simp (maxSteps := 400000) (disch := omega) [nl_tle, nl_fle, nl_tlt, nl_flt, nl_teq, nl_feq, nl_sub, nl_ss, nl_lt, nl_llt, nl_ltt, nl_le, nl_lle, nl_lee, nl_eq, nl_leq, nl_ee, nl_div, nl_rem, nl_cl, nl_n1, nl_n2, nl_n3, nl_n4, nl_add, nl_ladd, nl_aa, nl_mul, nl_rmul, nl_mm, pu_wi_1, pu_wi_2, bX9_fittingNumber_0, bX9_fittingNumber_70, bX9_fittingNumber_109, bX9_fittingNumber_56, bX9_fittingNumber_57, bX9_fittingNumber_68, bX9_fittingNumber_69, bX9_fittingNumber_43, a_ald, a_cs, a_cv, a_gi, a_icge, a_icle, a_icne, a_idiv, a_ifeq, a_ild, a_iret, a_ist, a_min, a_push, sh_62, pu_rv, pu_as, Value.category, pu_bk, pu_kl, pu_qe0, pu_qe1, e1, l2, i2, d1, d2, r1, e4, r3]
    · have mn : (if nI (y / 16) < (9999 : Int32) then nI (y / 16) else 9999) = nI (min 9999 (y / 16)) := by
        by_cases a : y / 16 < 9999
        · have a2 : nI (y / 16) < (9999 : Int32) := nI_lt (b := 9999) a (by omega)
          rw [if_pos a2, show min 9999 (y / 16) = y / 16 by omega]
        · have a2 : ¬ nI (y / 16) < (9999 : Int32) := nI_nlt (b := 9999) (by omega) (by omega)
          rw [if_neg a2, show min 9999 (y / 16) = 9999 by omega]
          rfl
      obtain ⟨r, r2, r3⟩ := c_fit_o hx hw hst h s p x y (x / 16) (min 9999 (y / 16)) (pu_rkx o (nI s) (nI p)) hs hp (by omega) (by omega) (by omega) (by omega) (fun c n q => by
        have a1 := q.2.2.2.1
        have a2 := q.2.2.2.2.1
        have a3 := q.1
        have a4 := q.2.2.1
        omega) 10 0 none none (by omega) (fun c2 n2 q => by omega)
      refine ⟨be, ah, x, y, r, l1, i1, x2, y2, Or.inl ⟨rfl, r2⟩, ?_⟩
      rw [← mn] at r3
      rw [nI_0] at r3 ⊢
      rw [qX9_fittingNumber]
      simp [a_ent, bX9_fittingNumber_0, bX9_fittingNumber_70, bX9_fittingNumber_109, bX9_fittingNumber_56, bX9_fittingNumber_57, bX9_fittingNumber_68, bX9_fittingNumber_69, bX9_fittingNumber_43, a_ald, a_cs, a_cv, a_gi, a_icge, a_icle, a_icne, a_idiv, a_ifeq, a_ild, a_iret, a_ist, a_min, a_push, sh_62, pu_rv, pu_as, Value.category, pu_bk, pu_kl, List.replicate, pu_wi_1, pu_wi_2, nl_add, nl_ladd, nl_aa, nl_mul, nl_rmul, nl_mm, pu_qe0, pu_qe1, e1, l2, i2, d1, d2, r1, z2, k, r3]
      all_goals try simp (maxSteps := 400000) (disch := omega) [nl_tle, nl_fle, nl_tlt, nl_flt, nl_teq, nl_feq, nl_sub, nl_ss, nl_lt, nl_llt, nl_ltt, nl_le, nl_lle, nl_lee, nl_eq, nl_leq, nl_ee, nl_div, nl_rem, nl_cl, nl_n1, nl_n2, nl_n3, nl_n4, nl_add, nl_ladd, nl_aa, nl_mul, nl_rmul, nl_mm, pu_wi_1, pu_wi_2, bX9_fittingNumber_0, bX9_fittingNumber_70, bX9_fittingNumber_109, bX9_fittingNumber_56, bX9_fittingNumber_57, bX9_fittingNumber_68, bX9_fittingNumber_69, bX9_fittingNumber_43, a_ald, a_cs, a_cv, a_gi, a_icge, a_icle, a_icne, a_idiv, a_ifeq, a_ild, a_iret, a_ist, a_min, a_push, sh_62, pu_rv, pu_as, Value.category, pu_bk, pu_kl, pu_qe0, pu_qe1, e1, l2, i2, d1, d2, r1, z2, k, r3]
      all_goals try simp [bX9_fittingNumber_0, bX9_fittingNumber_70, bX9_fittingNumber_109, bX9_fittingNumber_56, bX9_fittingNumber_57, bX9_fittingNumber_68, bX9_fittingNumber_69, bX9_fittingNumber_43, a_ald, a_cs, a_cv, a_gi, a_icge, a_icle, a_icne, a_idiv, a_ifeq, a_ild, a_iret, a_ist, a_min, a_push, sh_62, pu_rv, pu_as, Value.category, pu_bk, pu_kl, List.replicate, pu_wi_1, pu_wi_2, nl_add, nl_ladd, nl_aa, nl_mul, nl_rmul, nl_mm, pu_qe0, pu_qe1, e1, l2, i2, d1, d2, r1, z2, k, r3]
      all_goals try simp (maxSteps := 400000) (disch := omega) [nl_tle, nl_fle, nl_tlt, nl_flt, nl_teq, nl_feq, nl_sub, nl_ss, nl_lt, nl_llt, nl_ltt, nl_le, nl_lle, nl_lee, nl_eq, nl_leq, nl_ee, nl_div, nl_rem, nl_cl, nl_n1, nl_n2, nl_n3, nl_n4, nl_add, nl_ladd, nl_aa, nl_mul, nl_rmul, nl_mm, pu_wi_1, pu_wi_2, bX9_fittingNumber_0, bX9_fittingNumber_70, bX9_fittingNumber_109, bX9_fittingNumber_56, bX9_fittingNumber_57, bX9_fittingNumber_68, bX9_fittingNumber_69, bX9_fittingNumber_43, a_ald, a_cs, a_cv, a_gi, a_icge, a_icle, a_icne, a_idiv, a_ifeq, a_ild, a_iret, a_ist, a_min, a_push, sh_62, pu_rv, pu_as, Value.category, pu_bk, pu_kl, pu_qe0, pu_qe1, e1, l2, i2, d1, d2, r1, z2, k, r3]
  · have c0 : ¬ nI v = 0 := fun q => c (by rw [show (0 : Int32) = nI 0 from rfl, nI_eq (by omega) (by omega)] at q; exact q)
    by_cases d : pz_cd I st s p x y v
    · have a1 : ¬ nI v ≤ nI x := nI_ge d.1 (by omega)
      have b1 : ¬ nI y ≤ nI v := nI_ge d.2.1 (by omega)
      rw [pu_q1 ⟨d.2.2.1, d.2.2.2⟩] at e3
      refine ⟨be, ah, x, y, nI v, l1, i1, x2, y2, Or.inr ⟨c, Or.inl ⟨d, rfl⟩⟩, ?_⟩
      rw [qX9_fittingNumber]
      simp [a_ent, bX9_fittingNumber_0, bX9_fittingNumber_70, bX9_fittingNumber_109, bX9_fittingNumber_56, bX9_fittingNumber_57, bX9_fittingNumber_68, bX9_fittingNumber_69, bX9_fittingNumber_43, a_ald, a_cs, a_cv, a_gi, a_icge, a_icle, a_icne, a_idiv, a_ifeq, a_ild, a_iret, a_ist, a_min, a_push, sh_62, pu_rv, pu_as, Value.category, pu_bk, pu_kl, List.replicate, pu_wi_1, pu_wi_2, nl_add, nl_ladd, nl_aa, nl_mul, nl_rmul, nl_mm, pu_qe0, pu_qe1, e1, l2, i2, c0, a1, b1, e3]
      all_goals try simp (maxSteps := 400000) (disch := omega) [nl_tle, nl_fle, nl_tlt, nl_flt, nl_teq, nl_feq, nl_sub, nl_ss, nl_lt, nl_llt, nl_ltt, nl_le, nl_lle, nl_lee, nl_eq, nl_leq, nl_ee, nl_div, nl_rem, nl_cl, nl_n1, nl_n2, nl_n3, nl_n4, nl_add, nl_ladd, nl_aa, nl_mul, nl_rmul, nl_mm, pu_wi_1, pu_wi_2, bX9_fittingNumber_0, bX9_fittingNumber_70, bX9_fittingNumber_109, bX9_fittingNumber_56, bX9_fittingNumber_57, bX9_fittingNumber_68, bX9_fittingNumber_69, bX9_fittingNumber_43, a_ald, a_cs, a_cv, a_gi, a_icge, a_icle, a_icne, a_idiv, a_ifeq, a_ild, a_iret, a_ist, a_min, a_push, sh_62, pu_rv, pu_as, Value.category, pu_bk, pu_kl, pu_qe0, pu_qe1, e1, l2, i2, c0, a1, b1, e3]
      all_goals try simp [bX9_fittingNumber_0, bX9_fittingNumber_70, bX9_fittingNumber_109, bX9_fittingNumber_56, bX9_fittingNumber_57, bX9_fittingNumber_68, bX9_fittingNumber_69, bX9_fittingNumber_43, a_ald, a_cs, a_cv, a_gi, a_icge, a_icle, a_icne, a_idiv, a_ifeq, a_ild, a_iret, a_ist, a_min, a_push, sh_62, pu_rv, pu_as, Value.category, pu_bk, pu_kl, List.replicate, pu_wi_1, pu_wi_2, nl_add, nl_ladd, nl_aa, nl_mul, nl_rmul, nl_mm, pu_qe0, pu_qe1, e1, l2, i2, c0, a1, b1, e3]
      all_goals try simp (maxSteps := 400000) (disch := omega) [nl_tle, nl_fle, nl_tlt, nl_flt, nl_teq, nl_feq, nl_sub, nl_ss, nl_lt, nl_llt, nl_ltt, nl_le, nl_lle, nl_lee, nl_eq, nl_leq, nl_ee, nl_div, nl_rem, nl_cl, nl_n1, nl_n2, nl_n3, nl_n4, nl_add, nl_ladd, nl_aa, nl_mul, nl_rmul, nl_mm, pu_wi_1, pu_wi_2, bX9_fittingNumber_0, bX9_fittingNumber_70, bX9_fittingNumber_109, bX9_fittingNumber_56, bX9_fittingNumber_57, bX9_fittingNumber_68, bX9_fittingNumber_69, bX9_fittingNumber_43, a_ald, a_cs, a_cv, a_gi, a_icge, a_icle, a_icne, a_idiv, a_ifeq, a_ild, a_iret, a_ist, a_min, a_push, sh_62, pu_rv, pu_as, Value.category, pu_bk, pu_kl, pu_qe0, pu_qe1, e1, l2, i2, c0, a1, b1, e3]
    · refine ⟨be, ah, x, y, -1, l1, i1, x2, y2, Or.inr ⟨c, Or.inr ⟨d, rfl⟩⟩, ?_⟩
      by_cases a : x < v
      · have a1 : ¬ nI v ≤ nI x := nI_ge a (by omega)
        by_cases b : v < y
        · have b1 : ¬ nI y ≤ nI v := nI_ge b (by omega)
          rw [pu_q0 (fun q => d ⟨a, b, q.1, q.2⟩)] at e3
          rw [qX9_fittingNumber]
          simp [a_ent, bX9_fittingNumber_0, bX9_fittingNumber_70, bX9_fittingNumber_109, bX9_fittingNumber_56, bX9_fittingNumber_57, bX9_fittingNumber_68, bX9_fittingNumber_69, bX9_fittingNumber_43, a_ald, a_cs, a_cv, a_gi, a_icge, a_icle, a_icne, a_idiv, a_ifeq, a_ild, a_iret, a_ist, a_min, a_push, sh_62, pu_rv, pu_as, Value.category, pu_bk, pu_kl, List.replicate, pu_wi_1, pu_wi_2, nl_add, nl_ladd, nl_aa, nl_mul, nl_rmul, nl_mm, pu_qe0, pu_qe1, e1, l2, i2, c0, a1, b1, e3]
          all_goals try simp (maxSteps := 400000) (disch := omega) [nl_tle, nl_fle, nl_tlt, nl_flt, nl_teq, nl_feq, nl_sub, nl_ss, nl_lt, nl_llt, nl_ltt, nl_le, nl_lle, nl_lee, nl_eq, nl_leq, nl_ee, nl_div, nl_rem, nl_cl, nl_n1, nl_n2, nl_n3, nl_n4, nl_add, nl_ladd, nl_aa, nl_mul, nl_rmul, nl_mm, pu_wi_1, pu_wi_2, bX9_fittingNumber_0, bX9_fittingNumber_70, bX9_fittingNumber_109, bX9_fittingNumber_56, bX9_fittingNumber_57, bX9_fittingNumber_68, bX9_fittingNumber_69, bX9_fittingNumber_43, a_ald, a_cs, a_cv, a_gi, a_icge, a_icle, a_icne, a_idiv, a_ifeq, a_ild, a_iret, a_ist, a_min, a_push, sh_62, pu_rv, pu_as, Value.category, pu_bk, pu_kl, pu_qe0, pu_qe1, e1, l2, i2, c0, a1, b1, e3]
          all_goals try simp [bX9_fittingNumber_0, bX9_fittingNumber_70, bX9_fittingNumber_109, bX9_fittingNumber_56, bX9_fittingNumber_57, bX9_fittingNumber_68, bX9_fittingNumber_69, bX9_fittingNumber_43, a_ald, a_cs, a_cv, a_gi, a_icge, a_icle, a_icne, a_idiv, a_ifeq, a_ild, a_iret, a_ist, a_min, a_push, sh_62, pu_rv, pu_as, Value.category, pu_bk, pu_kl, List.replicate, pu_wi_1, pu_wi_2, nl_add, nl_ladd, nl_aa, nl_mul, nl_rmul, nl_mm, pu_qe0, pu_qe1, e1, l2, i2, c0, a1, b1, e3]
          all_goals try simp (maxSteps := 400000) (disch := omega) [nl_tle, nl_fle, nl_tlt, nl_flt, nl_teq, nl_feq, nl_sub, nl_ss, nl_lt, nl_llt, nl_ltt, nl_le, nl_lle, nl_lee, nl_eq, nl_leq, nl_ee, nl_div, nl_rem, nl_cl, nl_n1, nl_n2, nl_n3, nl_n4, nl_add, nl_ladd, nl_aa, nl_mul, nl_rmul, nl_mm, pu_wi_1, pu_wi_2, bX9_fittingNumber_0, bX9_fittingNumber_70, bX9_fittingNumber_109, bX9_fittingNumber_56, bX9_fittingNumber_57, bX9_fittingNumber_68, bX9_fittingNumber_69, bX9_fittingNumber_43, a_ald, a_cs, a_cv, a_gi, a_icge, a_icle, a_icne, a_idiv, a_ifeq, a_ild, a_iret, a_ist, a_min, a_push, sh_62, pu_rv, pu_as, Value.category, pu_bk, pu_kl, pu_qe0, pu_qe1, e1, l2, i2, c0, a1, b1, e3]
        · have b1 : nI y ≤ nI v := nI_le (by omega) (by omega)
          rw [qX9_fittingNumber]
          simp [a_ent, bX9_fittingNumber_0, bX9_fittingNumber_70, bX9_fittingNumber_109, bX9_fittingNumber_56, bX9_fittingNumber_57, bX9_fittingNumber_68, bX9_fittingNumber_69, bX9_fittingNumber_43, a_ald, a_cs, a_cv, a_gi, a_icge, a_icle, a_icne, a_idiv, a_ifeq, a_ild, a_iret, a_ist, a_min, a_push, sh_62, pu_rv, pu_as, Value.category, pu_bk, pu_kl, List.replicate, pu_wi_1, pu_wi_2, nl_add, nl_ladd, nl_aa, nl_mul, nl_rmul, nl_mm, pu_qe0, pu_qe1, e1, l2, i2, c0, a1, b1]
          all_goals try simp (maxSteps := 400000) (disch := omega) [nl_tle, nl_fle, nl_tlt, nl_flt, nl_teq, nl_feq, nl_sub, nl_ss, nl_lt, nl_llt, nl_ltt, nl_le, nl_lle, nl_lee, nl_eq, nl_leq, nl_ee, nl_div, nl_rem, nl_cl, nl_n1, nl_n2, nl_n3, nl_n4, nl_add, nl_ladd, nl_aa, nl_mul, nl_rmul, nl_mm, pu_wi_1, pu_wi_2, bX9_fittingNumber_0, bX9_fittingNumber_70, bX9_fittingNumber_109, bX9_fittingNumber_56, bX9_fittingNumber_57, bX9_fittingNumber_68, bX9_fittingNumber_69, bX9_fittingNumber_43, a_ald, a_cs, a_cv, a_gi, a_icge, a_icle, a_icne, a_idiv, a_ifeq, a_ild, a_iret, a_ist, a_min, a_push, sh_62, pu_rv, pu_as, Value.category, pu_bk, pu_kl, pu_qe0, pu_qe1, e1, l2, i2, c0, a1, b1]
          all_goals try simp [bX9_fittingNumber_0, bX9_fittingNumber_70, bX9_fittingNumber_109, bX9_fittingNumber_56, bX9_fittingNumber_57, bX9_fittingNumber_68, bX9_fittingNumber_69, bX9_fittingNumber_43, a_ald, a_cs, a_cv, a_gi, a_icge, a_icle, a_icne, a_idiv, a_ifeq, a_ild, a_iret, a_ist, a_min, a_push, sh_62, pu_rv, pu_as, Value.category, pu_bk, pu_kl, List.replicate, pu_wi_1, pu_wi_2, nl_add, nl_ladd, nl_aa, nl_mul, nl_rmul, nl_mm, pu_qe0, pu_qe1, e1, l2, i2, c0, a1, b1]
          all_goals try simp (maxSteps := 400000) (disch := omega) [nl_tle, nl_fle, nl_tlt, nl_flt, nl_teq, nl_feq, nl_sub, nl_ss, nl_lt, nl_llt, nl_ltt, nl_le, nl_lle, nl_lee, nl_eq, nl_leq, nl_ee, nl_div, nl_rem, nl_cl, nl_n1, nl_n2, nl_n3, nl_n4, nl_add, nl_ladd, nl_aa, nl_mul, nl_rmul, nl_mm, pu_wi_1, pu_wi_2, bX9_fittingNumber_0, bX9_fittingNumber_70, bX9_fittingNumber_109, bX9_fittingNumber_56, bX9_fittingNumber_57, bX9_fittingNumber_68, bX9_fittingNumber_69, bX9_fittingNumber_43, a_ald, a_cs, a_cv, a_gi, a_icge, a_icle, a_icne, a_idiv, a_ifeq, a_ild, a_iret, a_ist, a_min, a_push, sh_62, pu_rv, pu_as, Value.category, pu_bk, pu_kl, pu_qe0, pu_qe1, e1, l2, i2, c0, a1, b1]
      · have a1 : nI v ≤ nI x := nI_le (by omega) (by omega)
        rw [qX9_fittingNumber]
        simp [a_ent, bX9_fittingNumber_0, bX9_fittingNumber_70, bX9_fittingNumber_109, bX9_fittingNumber_56, bX9_fittingNumber_57, bX9_fittingNumber_68, bX9_fittingNumber_69, bX9_fittingNumber_43, a_ald, a_cs, a_cv, a_gi, a_icge, a_icle, a_icne, a_idiv, a_ifeq, a_ild, a_iret, a_ist, a_min, a_push, sh_62, pu_rv, pu_as, Value.category, pu_bk, pu_kl, List.replicate, pu_wi_1, pu_wi_2, nl_add, nl_ladd, nl_aa, nl_mul, nl_rmul, nl_mm, pu_qe0, pu_qe1, e1, l2, i2, c0, a1]
        all_goals try simp (maxSteps := 400000) (disch := omega) [nl_tle, nl_fle, nl_tlt, nl_flt, nl_teq, nl_feq, nl_sub, nl_ss, nl_lt, nl_llt, nl_ltt, nl_le, nl_lle, nl_lee, nl_eq, nl_leq, nl_ee, nl_div, nl_rem, nl_cl, nl_n1, nl_n2, nl_n3, nl_n4, nl_add, nl_ladd, nl_aa, nl_mul, nl_rmul, nl_mm, pu_wi_1, pu_wi_2, bX9_fittingNumber_0, bX9_fittingNumber_70, bX9_fittingNumber_109, bX9_fittingNumber_56, bX9_fittingNumber_57, bX9_fittingNumber_68, bX9_fittingNumber_69, bX9_fittingNumber_43, a_ald, a_cs, a_cv, a_gi, a_icge, a_icle, a_icne, a_idiv, a_ifeq, a_ild, a_iret, a_ist, a_min, a_push, sh_62, pu_rv, pu_as, Value.category, pu_bk, pu_kl, pu_qe0, pu_qe1, e1, l2, i2, c0, a1]
        all_goals try simp [bX9_fittingNumber_0, bX9_fittingNumber_70, bX9_fittingNumber_109, bX9_fittingNumber_56, bX9_fittingNumber_57, bX9_fittingNumber_68, bX9_fittingNumber_69, bX9_fittingNumber_43, a_ald, a_cs, a_cv, a_gi, a_icge, a_icle, a_icne, a_idiv, a_ifeq, a_ild, a_iret, a_ist, a_min, a_push, sh_62, pu_rv, pu_as, Value.category, pu_bk, pu_kl, List.replicate, pu_wi_1, pu_wi_2, nl_add, nl_ladd, nl_aa, nl_mul, nl_rmul, nl_mm, pu_qe0, pu_qe1, e1, l2, i2, c0, a1]
        all_goals try simp (maxSteps := 400000) (disch := omega) [nl_tle, nl_fle, nl_tlt, nl_flt, nl_teq, nl_feq, nl_sub, nl_ss, nl_lt, nl_llt, nl_ltt, nl_le, nl_lle, nl_lee, nl_eq, nl_leq, nl_ee, nl_div, nl_rem, nl_cl, nl_n1, nl_n2, nl_n3, nl_n4, nl_add, nl_ladd, nl_aa, nl_mul, nl_rmul, nl_mm, pu_wi_1, pu_wi_2, bX9_fittingNumber_0, bX9_fittingNumber_70, bX9_fittingNumber_109, bX9_fittingNumber_56, bX9_fittingNumber_57, bX9_fittingNumber_68, bX9_fittingNumber_69, bX9_fittingNumber_43, a_ald, a_cs, a_cv, a_gi, a_icge, a_icle, a_icne, a_idiv, a_ifeq, a_ild, a_iret, a_ist, a_min, a_push, sh_62, pu_rv, pu_as, Value.category, pu_bk, pu_kl, pu_qe0, pu_qe1, e1, l2, i2, c0, a1]
theorem r_leastN (hx : pu_fx M) (hr : pu_Rel I L (M.1 72)) (hw : pu_WF I L) (hst : st < cK I) (s p v : Nat) (hs : s < 2) (hp : p < 10000) (hv : v < 200000) : ∃ be ah lo hi r, pz_lo I st s (pz_al (I 27 st).toInt s p) (2 * cD I) be (nI lo) ∧ pz_hi I st s (pz_al (I 27 st).toInt s p) (2 * cD I) ah (nI hi) ∧ lo < 160000 ∧ hi ≤ 160000 ∧ pz_ls I st s p lo hi v r ∧ pu_r 281 [some (.ref 71), some (.int (nI st)), some (.int (nI s)), some (.int (nI p)), some (.int (nI v))] [] M = some (some (.int r), pz_lh M (nI lo) (nI hi)) := by
  have ts := pz_ti (s := s) (by omega)
  have tp := pz_ti (s := p) (by omega)
  obtain ⟨be, ah, lo, hi, l1, i1, e⟩ := r_bounds hx hr hw st hst (nI s) (nI p) (by omega) (by omega) (by omega) (by omega)
  obtain ⟨x, rfl, x2⟩ := pz_lo_n hw l1
  obtain ⟨y, rfl, y2⟩ := pz_hi_n hw i1
  rw [ts, tp] at l1 i1
  have hx2 : pu_fx (pz_lh M (nI x) (nI y)) := hx
  have hr2 : pu_Rel I L ((pz_lh M (nI x) (nI y)).1 72) := by rw [pz_lh_s]; exact hr
  have m1 : (pz_lh M (nI x) (nI y)).1 71 10 = nI x := by simp [pz_lh, pu_wi_1]
  have m2 : (pz_lh M (nI x) (nI y)).1 71 11 = nI y := by simp [pz_lh, pu_wi_1]
  have e3 := r_isCandidate hx2 hr2 hw st s p x y v hst hs hp m1 m2 (by omega) (by omega) hv
  by_cases c : v = 0
  · subst c
    obtain ⟨r, r1, r2⟩ := r_least_o hx2 hr2 hw st s p x y 0 hst hs hp m1 m2 x2 (by omega) 10 0 none (by omega) (fun c2 n2 q => by omega)
    refine ⟨be, ah, x, y, r, l1, i1, x2, y2, Or.inl ⟨rfl, r1⟩, ?_⟩
    rw [nI_0] at r2 ⊢
    rw [qX12_least]
    simp [a_ent, bX12_least_0, bX12_least_31, bX12_least_29, bX12_least_30, a_ald, a_cv, a_ifeq, a_ifle, a_ild, a_iret, a_ist, a_push, sh_71, pu_rv, pu_as, Value.category, pu_bk, pu_kl, List.replicate, pu_wi_1, pu_wi_2, nl_add, nl_ladd, nl_aa, nl_mul, nl_rmul, nl_mm, pu_qe0, pu_qe1, e, r2]
    all_goals try simp (maxSteps := 400000) (disch := omega) [nl_tle, nl_fle, nl_tlt, nl_flt, nl_teq, nl_feq, nl_sub, nl_ss, nl_lt, nl_llt, nl_ltt, nl_le, nl_lle, nl_lee, nl_eq, nl_leq, nl_ee, nl_div, nl_rem, nl_cl, nl_n1, nl_n2, nl_n3, nl_n4, nl_add, nl_ladd, nl_aa, nl_mul, nl_rmul, nl_mm, pu_wi_1, pu_wi_2, bX12_least_0, bX12_least_31, bX12_least_29, bX12_least_30, a_ald, a_cv, a_ifeq, a_ifle, a_ild, a_iret, a_ist, a_push, sh_71, pu_rv, pu_as, Value.category, pu_bk, pu_kl, pu_qe0, pu_qe1, e, r2]
    all_goals try simp [bX12_least_0, bX12_least_31, bX12_least_29, bX12_least_30, a_ald, a_cv, a_ifeq, a_ifle, a_ild, a_iret, a_ist, a_push, sh_71, pu_rv, pu_as, Value.category, pu_bk, pu_kl, List.replicate, pu_wi_1, pu_wi_2, nl_add, nl_ladd, nl_aa, nl_mul, nl_rmul, nl_mm, pu_qe0, pu_qe1, e, r2]
    all_goals try simp (maxSteps := 400000) (disch := omega) [nl_tle, nl_fle, nl_tlt, nl_flt, nl_teq, nl_feq, nl_sub, nl_ss, nl_lt, nl_llt, nl_ltt, nl_le, nl_lle, nl_lee, nl_eq, nl_leq, nl_ee, nl_div, nl_rem, nl_cl, nl_n1, nl_n2, nl_n3, nl_n4, nl_add, nl_ladd, nl_aa, nl_mul, nl_rmul, nl_mm, pu_wi_1, pu_wi_2, bX12_least_0, bX12_least_31, bX12_least_29, bX12_least_30, a_ald, a_cv, a_ifeq, a_ifle, a_ild, a_iret, a_ist, a_push, sh_71, pu_rv, pu_as, Value.category, pu_bk, pu_kl, pu_qe0, pu_qe1, e, r2]
  · have c0 : ¬ nI v ≤ 0 := nI_nle (by omega) (by omega)
    by_cases d : pz_cd I st s p x y v
    · rw [pu_q1 d] at e3
      refine ⟨be, ah, x, y, nI v, l1, i1, x2, y2, Or.inr ⟨c, Or.inl ⟨d, rfl⟩⟩, ?_⟩
      rw [qX12_least]
      simp [a_ent, bX12_least_0, bX12_least_31, bX12_least_29, bX12_least_30, a_ald, a_cv, a_ifeq, a_ifle, a_ild, a_iret, a_ist, a_push, sh_71, pu_rv, pu_as, Value.category, pu_bk, pu_kl, List.replicate, pu_wi_1, pu_wi_2, nl_add, nl_ladd, nl_aa, nl_mul, nl_rmul, nl_mm, pu_qe0, pu_qe1, e, c0, e3]
      all_goals try simp (maxSteps := 400000) (disch := omega) [nl_tle, nl_fle, nl_tlt, nl_flt, nl_teq, nl_feq, nl_sub, nl_ss, nl_lt, nl_llt, nl_ltt, nl_le, nl_lle, nl_lee, nl_eq, nl_leq, nl_ee, nl_div, nl_rem, nl_cl, nl_n1, nl_n2, nl_n3, nl_n4, nl_add, nl_ladd, nl_aa, nl_mul, nl_rmul, nl_mm, pu_wi_1, pu_wi_2, bX12_least_0, bX12_least_31, bX12_least_29, bX12_least_30, a_ald, a_cv, a_ifeq, a_ifle, a_ild, a_iret, a_ist, a_push, sh_71, pu_rv, pu_as, Value.category, pu_bk, pu_kl, pu_qe0, pu_qe1, e, c0, e3]
      all_goals try simp [bX12_least_0, bX12_least_31, bX12_least_29, bX12_least_30, a_ald, a_cv, a_ifeq, a_ifle, a_ild, a_iret, a_ist, a_push, sh_71, pu_rv, pu_as, Value.category, pu_bk, pu_kl, List.replicate, pu_wi_1, pu_wi_2, nl_add, nl_ladd, nl_aa, nl_mul, nl_rmul, nl_mm, pu_qe0, pu_qe1, e, c0, e3]
      all_goals try simp (maxSteps := 400000) (disch := omega) [nl_tle, nl_fle, nl_tlt, nl_flt, nl_teq, nl_feq, nl_sub, nl_ss, nl_lt, nl_llt, nl_ltt, nl_le, nl_lle, nl_lee, nl_eq, nl_leq, nl_ee, nl_div, nl_rem, nl_cl, nl_n1, nl_n2, nl_n3, nl_n4, nl_add, nl_ladd, nl_aa, nl_mul, nl_rmul, nl_mm, pu_wi_1, pu_wi_2, bX12_least_0, bX12_least_31, bX12_least_29, bX12_least_30, a_ald, a_cv, a_ifeq, a_ifle, a_ild, a_iret, a_ist, a_push, sh_71, pu_rv, pu_as, Value.category, pu_bk, pu_kl, pu_qe0, pu_qe1, e, c0, e3]
    · rw [pu_q0 d] at e3
      refine ⟨be, ah, x, y, -1, l1, i1, x2, y2, Or.inr ⟨c, Or.inr ⟨d, rfl⟩⟩, ?_⟩
      rw [qX12_least]
      simp [a_ent, bX12_least_0, bX12_least_31, bX12_least_29, bX12_least_30, a_ald, a_cv, a_ifeq, a_ifle, a_ild, a_iret, a_ist, a_push, sh_71, pu_rv, pu_as, Value.category, pu_bk, pu_kl, List.replicate, pu_wi_1, pu_wi_2, nl_add, nl_ladd, nl_aa, nl_mul, nl_rmul, nl_mm, pu_qe0, pu_qe1, e, c0, e3]
      all_goals try simp (maxSteps := 400000) (disch := omega) [nl_tle, nl_fle, nl_tlt, nl_flt, nl_teq, nl_feq, nl_sub, nl_ss, nl_lt, nl_llt, nl_ltt, nl_le, nl_lle, nl_lee, nl_eq, nl_leq, nl_ee, nl_div, nl_rem, nl_cl, nl_n1, nl_n2, nl_n3, nl_n4, nl_add, nl_ladd, nl_aa, nl_mul, nl_rmul, nl_mm, pu_wi_1, pu_wi_2, bX12_least_0, bX12_least_31, bX12_least_29, bX12_least_30, a_ald, a_cv, a_ifeq, a_ifle, a_ild, a_iret, a_ist, a_push, sh_71, pu_rv, pu_as, Value.category, pu_bk, pu_kl, pu_qe0, pu_qe1, e, c0, e3]
      all_goals try simp [bX12_least_0, bX12_least_31, bX12_least_29, bX12_least_30, a_ald, a_cv, a_ifeq, a_ifle, a_ild, a_iret, a_ist, a_push, sh_71, pu_rv, pu_as, Value.category, pu_bk, pu_kl, List.replicate, pu_wi_1, pu_wi_2, nl_add, nl_ladd, nl_aa, nl_mul, nl_rmul, nl_mm, pu_qe0, pu_qe1, e, c0, e3]
      all_goals try simp (maxSteps := 400000) (disch := omega) [nl_tle, nl_fle, nl_tlt, nl_flt, nl_teq, nl_feq, nl_sub, nl_ss, nl_lt, nl_llt, nl_ltt, nl_le, nl_lle, nl_lee, nl_eq, nl_leq, nl_ee, nl_div, nl_rem, nl_cl, nl_n1, nl_n2, nl_n3, nl_n4, nl_add, nl_ladd, nl_aa, nl_mul, nl_rmul, nl_mm, pu_wi_1, pu_wi_2, bX12_least_0, bX12_least_31, bX12_least_29, bX12_least_30, a_ald, a_cv, a_ifeq, a_ifle, a_ild, a_iret, a_ist, a_push, sh_71, pu_rv, pu_as, Value.category, pu_bk, pu_kl, pu_qe0, pu_qe1, e, c0, e3]
/-- what a call that seeks a number answers: none left, a second one, the number -/
noncomputable def pz_an (I : Nat → Nat → Int32) (st s p : Nat) (r : Int32) : Int32 := @ite Int32 (r = -1) (Classical.propDecidable _) (-4) (@ite Int32 (pz_oc I st (nI s) (nI p) 0) (Classical.propDecidable _) (-5) r)
theorem c_fitting (hx : pu_fx M) (hI : pu_ag M I) (hw : pu_WF I L) (hst : st < cK I) (s p v : Nat) (hs : s < 2) (hp : p < 10000) (hv : v < 200000) : ∃ N be ah lo hi r, pu_vg M N ∧ pz_lo I st s (pz_al (I 27 st).toInt s p) (2 * cD I) be (nI lo) ∧ pz_hi I st s (pz_al (I 27 st).toInt s p) (2 * cD I) ah (nI hi) ∧ lo < 160000 ∧ hi ≤ 160000 ∧ pz_ls I st s p lo hi v r ∧ pu_r 83 [some (.ref 0), some (.int (nI st)), some (.int (nI s)), some (.int (nI p)), some (.int (nI v))] [] M = some (some (.int (pz_an I st s p r)), N) := by
  have hK := wx_bK hw
  have e1 := c_ruleOf hx hI hw st hst
  have e2 : pu_r 65 [some (.int (I 27 st))] [] M = some (some (.int (nI (if I 27 st = 1 then 0 else 3))), M) := by
    by_cases c : I 27 st = 1
    · rw [if_pos c]
      rw [qX11_orderOf]
      simp [a_ent, bX11_orderOf_0, bX11_orderOf_9, bX11_orderOf_10, a_icne, a_ild, a_iret, a_push, pu_rv, pu_as, Value.category, pu_bk, pu_kl, List.replicate, pu_wi_1, pu_wi_2, nl_add, nl_ladd, nl_aa, nl_mul, nl_rmul, nl_mm, pu_qe0, pu_qe1, c]
      all_goals try simp (maxSteps := 400000) (disch := omega) [nl_tle, nl_fle, nl_tlt, nl_flt, nl_teq, nl_feq, nl_sub, nl_ss, nl_lt, nl_llt, nl_ltt, nl_le, nl_lle, nl_lee, nl_eq, nl_leq, nl_ee, nl_div, nl_rem, nl_cl, nl_n1, nl_n2, nl_n3, nl_n4, nl_add, nl_ladd, nl_aa, nl_mul, nl_rmul, nl_mm, pu_wi_1, pu_wi_2, bX11_orderOf_0, bX11_orderOf_9, bX11_orderOf_10, a_icne, a_ild, a_iret, a_push, pu_rv, pu_as, Value.category, pu_bk, pu_kl, pu_qe0, pu_qe1, c]
      all_goals try simp [bX11_orderOf_0, bX11_orderOf_9, bX11_orderOf_10, a_icne, a_ild, a_iret, a_push, pu_rv, pu_as, Value.category, pu_bk, pu_kl, List.replicate, pu_wi_1, pu_wi_2, nl_add, nl_ladd, nl_aa, nl_mul, nl_rmul, nl_mm, pu_qe0, pu_qe1, c]
      all_goals try simp (maxSteps := 400000) (disch := omega) [nl_tle, nl_fle, nl_tlt, nl_flt, nl_teq, nl_feq, nl_sub, nl_ss, nl_lt, nl_llt, nl_ltt, nl_le, nl_lle, nl_lee, nl_eq, nl_leq, nl_ee, nl_div, nl_rem, nl_cl, nl_n1, nl_n2, nl_n3, nl_n4, nl_add, nl_ladd, nl_aa, nl_mul, nl_rmul, nl_mm, pu_wi_1, pu_wi_2, bX11_orderOf_0, bX11_orderOf_9, bX11_orderOf_10, a_icne, a_ild, a_iret, a_push, pu_rv, pu_as, Value.category, pu_bk, pu_kl, pu_qe0, pu_qe1, c]
    · rw [if_neg c]
      rw [qX11_orderOf]
      simp [a_ent, bX11_orderOf_0, bX11_orderOf_9, bX11_orderOf_10, a_icne, a_ild, a_iret, a_push, pu_rv, pu_as, Value.category, pu_bk, pu_kl, List.replicate, pu_wi_1, pu_wi_2, nl_add, nl_ladd, nl_aa, nl_mul, nl_rmul, nl_mm, pu_qe0, pu_qe1, c]
      all_goals try simp (maxSteps := 400000) (disch := omega) [nl_tle, nl_fle, nl_tlt, nl_flt, nl_teq, nl_feq, nl_sub, nl_ss, nl_lt, nl_llt, nl_ltt, nl_le, nl_lle, nl_lee, nl_eq, nl_leq, nl_ee, nl_div, nl_rem, nl_cl, nl_n1, nl_n2, nl_n3, nl_n4, nl_add, nl_ladd, nl_aa, nl_mul, nl_rmul, nl_mm, pu_wi_1, pu_wi_2, bX11_orderOf_0, bX11_orderOf_9, bX11_orderOf_10, a_icne, a_ild, a_iret, a_push, pu_rv, pu_as, Value.category, pu_bk, pu_kl, pu_qe0, pu_qe1, c]
      all_goals try simp [bX11_orderOf_0, bX11_orderOf_9, bX11_orderOf_10, a_icne, a_ild, a_iret, a_push, pu_rv, pu_as, Value.category, pu_bk, pu_kl, List.replicate, pu_wi_1, pu_wi_2, nl_add, nl_ladd, nl_aa, nl_mul, nl_rmul, nl_mm, pu_qe0, pu_qe1, c]
      all_goals try simp (maxSteps := 400000) (disch := omega) [nl_tle, nl_fle, nl_tlt, nl_flt, nl_teq, nl_feq, nl_sub, nl_ss, nl_lt, nl_llt, nl_ltt, nl_le, nl_lle, nl_lee, nl_eq, nl_leq, nl_ee, nl_div, nl_rem, nl_cl, nl_n1, nl_n2, nl_n3, nl_n4, nl_add, nl_ladd, nl_aa, nl_mul, nl_rmul, nl_mm, pu_wi_1, pu_wi_2, bX11_orderOf_0, bX11_orderOf_9, bX11_orderOf_10, a_icne, a_ild, a_iret, a_push, pu_rv, pu_as, Value.category, pu_bk, pu_kl, pu_qe0, pu_qe1, c]
  obtain ⟨V, n, N, n1, n2, n3, n4, n5, n6, n7⟩ := c_fill hx hI hw (if I 27 st = 1 then 0 else 3) st (-1) (by split <;> omega) hst (pu_inj hw st (by omega) (-1))
  have hx2 : pu_fx N := fun a k r q => by
    rw [n2.1]
    exact hx a k r q
  have hv2 : pz_vw N I st (if I 27 st = 1 then 0 else 3) V n := ⟨n1, n3, n4, n5, n6, rfl⟩
  obtain ⟨be, ah, lo, hi, r, l1, i1, x2, y2, r1, r2⟩ := c_fitN hx2 hw hst hv2 s p v hs hp hv
  refine ⟨N, be, ah, lo, hi, r, n2, l1, i1, x2, y2, r1, ?_⟩
  have e3 := c_hasDoorAt hx2 hv2 (nI s) (nI p)
  have f0 := fx_0_5 hx2
  unfold pz_an
  by_cases c : r = -1
  · rw [if_pos c]
    rw [qX11_fittingNumber]
    simp [a_ent, bX11_fittingNumber_0, bX11_fittingNumber_49, bX11_fittingNumber_66, bX11_fittingNumber_68, bX11_fittingNumber_48, a_ald, a_cs, a_cv, a_gr, a_icne, a_ifeq, a_ild, a_iret, a_ist, a_push, ag_25 hI, fx_0_2 hx, fx_0_5 hx, fx_5_3 hx, sh_0, sh_25, sh_5, sh_62, pu_rv, pu_as, Value.category, pu_bk, pu_kl, List.replicate, pu_wi_1, pu_wi_2, nl_add, nl_ladd, nl_aa, nl_mul, nl_rmul, nl_mm, pu_qe0, pu_qe1, e1, e2, n7, r2, c, f0]
    all_goals try simp (maxSteps := 400000) (disch := omega) [nl_tle, nl_fle, nl_tlt, nl_flt, nl_teq, nl_feq, nl_sub, nl_ss, nl_lt, nl_llt, nl_ltt, nl_le, nl_lle, nl_lee, nl_eq, nl_leq, nl_ee, nl_div, nl_rem, nl_cl, nl_n1, nl_n2, nl_n3, nl_n4, nl_add, nl_ladd, nl_aa, nl_mul, nl_rmul, nl_mm, pu_wi_1, pu_wi_2, bX11_fittingNumber_0, bX11_fittingNumber_49, bX11_fittingNumber_66, bX11_fittingNumber_68, bX11_fittingNumber_48, a_ald, a_cs, a_cv, a_gr, a_icne, a_ifeq, a_ild, a_iret, a_ist, a_push, ag_25 hI, fx_0_2 hx, fx_0_5 hx, fx_5_3 hx, sh_0, sh_25, sh_5, sh_62, pu_rv, pu_as, Value.category, pu_bk, pu_kl, pu_qe0, pu_qe1, e1, e2, n7, r2, c, f0]
    all_goals try simp [bX11_fittingNumber_0, bX11_fittingNumber_49, bX11_fittingNumber_66, bX11_fittingNumber_68, bX11_fittingNumber_48, a_ald, a_cs, a_cv, a_gr, a_icne, a_ifeq, a_ild, a_iret, a_ist, a_push, ag_25 hI, fx_0_2 hx, fx_0_5 hx, fx_5_3 hx, sh_0, sh_25, sh_5, sh_62, pu_rv, pu_as, Value.category, pu_bk, pu_kl, List.replicate, pu_wi_1, pu_wi_2, nl_add, nl_ladd, nl_aa, nl_mul, nl_rmul, nl_mm, pu_qe0, pu_qe1, e1, e2, n7, r2, c, f0]
    all_goals try simp (maxSteps := 400000) (disch := omega) [nl_tle, nl_fle, nl_tlt, nl_flt, nl_teq, nl_feq, nl_sub, nl_ss, nl_lt, nl_llt, nl_ltt, nl_le, nl_lle, nl_lee, nl_eq, nl_leq, nl_ee, nl_div, nl_rem, nl_cl, nl_n1, nl_n2, nl_n3, nl_n4, nl_add, nl_ladd, nl_aa, nl_mul, nl_rmul, nl_mm, pu_wi_1, pu_wi_2, bX11_fittingNumber_0, bX11_fittingNumber_49, bX11_fittingNumber_66, bX11_fittingNumber_68, bX11_fittingNumber_48, a_ald, a_cs, a_cv, a_gr, a_icne, a_ifeq, a_ild, a_iret, a_ist, a_push, ag_25 hI, fx_0_2 hx, fx_0_5 hx, fx_5_3 hx, sh_0, sh_25, sh_5, sh_62, pu_rv, pu_as, Value.category, pu_bk, pu_kl, pu_qe0, pu_qe1, e1, e2, n7, r2, c, f0]
  · rw [if_neg c]
    by_cases d : pz_oc I st (nI s) (nI p) 0
    · rw [if_pos d]
      rw [pu_q1 d] at e3
      rw [qX11_fittingNumber]
      simp [a_ent, bX11_fittingNumber_0, bX11_fittingNumber_49, bX11_fittingNumber_66, bX11_fittingNumber_68, bX11_fittingNumber_48, a_ald, a_cs, a_cv, a_gr, a_icne, a_ifeq, a_ild, a_iret, a_ist, a_push, ag_25 hI, fx_0_2 hx, fx_0_5 hx, fx_5_3 hx, sh_0, sh_25, sh_5, sh_62, pu_rv, pu_as, Value.category, pu_bk, pu_kl, List.replicate, pu_wi_1, pu_wi_2, nl_add, nl_ladd, nl_aa, nl_mul, nl_rmul, nl_mm, pu_qe0, pu_qe1, e1, e2, n7, r2, c, f0, e3]
      all_goals try simp (maxSteps := 400000) (disch := omega) [nl_tle, nl_fle, nl_tlt, nl_flt, nl_teq, nl_feq, nl_sub, nl_ss, nl_lt, nl_llt, nl_ltt, nl_le, nl_lle, nl_lee, nl_eq, nl_leq, nl_ee, nl_div, nl_rem, nl_cl, nl_n1, nl_n2, nl_n3, nl_n4, nl_add, nl_ladd, nl_aa, nl_mul, nl_rmul, nl_mm, pu_wi_1, pu_wi_2, bX11_fittingNumber_0, bX11_fittingNumber_49, bX11_fittingNumber_66, bX11_fittingNumber_68, bX11_fittingNumber_48, a_ald, a_cs, a_cv, a_gr, a_icne, a_ifeq, a_ild, a_iret, a_ist, a_push, ag_25 hI, fx_0_2 hx, fx_0_5 hx, fx_5_3 hx, sh_0, sh_25, sh_5, sh_62, pu_rv, pu_as, Value.category, pu_bk, pu_kl, pu_qe0, pu_qe1, e1, e2, n7, r2, c, f0, e3]
      all_goals try simp [bX11_fittingNumber_0, bX11_fittingNumber_49, bX11_fittingNumber_66, bX11_fittingNumber_68, bX11_fittingNumber_48, a_ald, a_cs, a_cv, a_gr, a_icne, a_ifeq, a_ild, a_iret, a_ist, a_push, ag_25 hI, fx_0_2 hx, fx_0_5 hx, fx_5_3 hx, sh_0, sh_25, sh_5, sh_62, pu_rv, pu_as, Value.category, pu_bk, pu_kl, List.replicate, pu_wi_1, pu_wi_2, nl_add, nl_ladd, nl_aa, nl_mul, nl_rmul, nl_mm, pu_qe0, pu_qe1, e1, e2, n7, r2, c, f0, e3]
      all_goals try simp (maxSteps := 400000) (disch := omega) [nl_tle, nl_fle, nl_tlt, nl_flt, nl_teq, nl_feq, nl_sub, nl_ss, nl_lt, nl_llt, nl_ltt, nl_le, nl_lle, nl_lee, nl_eq, nl_leq, nl_ee, nl_div, nl_rem, nl_cl, nl_n1, nl_n2, nl_n3, nl_n4, nl_add, nl_ladd, nl_aa, nl_mul, nl_rmul, nl_mm, pu_wi_1, pu_wi_2, bX11_fittingNumber_0, bX11_fittingNumber_49, bX11_fittingNumber_66, bX11_fittingNumber_68, bX11_fittingNumber_48, a_ald, a_cs, a_cv, a_gr, a_icne, a_ifeq, a_ild, a_iret, a_ist, a_push, ag_25 hI, fx_0_2 hx, fx_0_5 hx, fx_5_3 hx, sh_0, sh_25, sh_5, sh_62, pu_rv, pu_as, Value.category, pu_bk, pu_kl, pu_qe0, pu_qe1, e1, e2, n7, r2, c, f0, e3]
    · rw [if_neg d]
      rw [pu_q0 d] at e3
      rw [qX11_fittingNumber]
      simp [a_ent, bX11_fittingNumber_0, bX11_fittingNumber_49, bX11_fittingNumber_66, bX11_fittingNumber_68, bX11_fittingNumber_48, a_ald, a_cs, a_cv, a_gr, a_icne, a_ifeq, a_ild, a_iret, a_ist, a_push, ag_25 hI, fx_0_2 hx, fx_0_5 hx, fx_5_3 hx, sh_0, sh_25, sh_5, sh_62, pu_rv, pu_as, Value.category, pu_bk, pu_kl, List.replicate, pu_wi_1, pu_wi_2, nl_add, nl_ladd, nl_aa, nl_mul, nl_rmul, nl_mm, pu_qe0, pu_qe1, e1, e2, n7, r2, c, f0, e3]
      all_goals try simp (maxSteps := 400000) (disch := omega) [nl_tle, nl_fle, nl_tlt, nl_flt, nl_teq, nl_feq, nl_sub, nl_ss, nl_lt, nl_llt, nl_ltt, nl_le, nl_lle, nl_lee, nl_eq, nl_leq, nl_ee, nl_div, nl_rem, nl_cl, nl_n1, nl_n2, nl_n3, nl_n4, nl_add, nl_ladd, nl_aa, nl_mul, nl_rmul, nl_mm, pu_wi_1, pu_wi_2, bX11_fittingNumber_0, bX11_fittingNumber_49, bX11_fittingNumber_66, bX11_fittingNumber_68, bX11_fittingNumber_48, a_ald, a_cs, a_cv, a_gr, a_icne, a_ifeq, a_ild, a_iret, a_ist, a_push, ag_25 hI, fx_0_2 hx, fx_0_5 hx, fx_5_3 hx, sh_0, sh_25, sh_5, sh_62, pu_rv, pu_as, Value.category, pu_bk, pu_kl, pu_qe0, pu_qe1, e1, e2, n7, r2, c, f0, e3]
      all_goals try simp [bX11_fittingNumber_0, bX11_fittingNumber_49, bX11_fittingNumber_66, bX11_fittingNumber_68, bX11_fittingNumber_48, a_ald, a_cs, a_cv, a_gr, a_icne, a_ifeq, a_ild, a_iret, a_ist, a_push, ag_25 hI, fx_0_2 hx, fx_0_5 hx, fx_5_3 hx, sh_0, sh_25, sh_5, sh_62, pu_rv, pu_as, Value.category, pu_bk, pu_kl, List.replicate, pu_wi_1, pu_wi_2, nl_add, nl_ladd, nl_aa, nl_mul, nl_rmul, nl_mm, pu_qe0, pu_qe1, e1, e2, n7, r2, c, f0, e3]
      all_goals try simp (maxSteps := 400000) (disch := omega) [nl_tle, nl_fle, nl_tlt, nl_flt, nl_teq, nl_feq, nl_sub, nl_ss, nl_lt, nl_llt, nl_ltt, nl_le, nl_lle, nl_lee, nl_eq, nl_leq, nl_ee, nl_div, nl_rem, nl_cl, nl_n1, nl_n2, nl_n3, nl_n4, nl_add, nl_ladd, nl_aa, nl_mul, nl_rmul, nl_mm, pu_wi_1, pu_wi_2, bX11_fittingNumber_0, bX11_fittingNumber_49, bX11_fittingNumber_66, bX11_fittingNumber_68, bX11_fittingNumber_48, a_ald, a_cs, a_cv, a_gr, a_icne, a_ifeq, a_ild, a_iret, a_ist, a_push, ag_25 hI, fx_0_2 hx, fx_0_5 hx, fx_5_3 hx, sh_0, sh_25, sh_5, sh_62, pu_rv, pu_as, Value.category, pu_bk, pu_kl, pu_qe0, pu_qe1, e1, e2, n7, r2, c, f0, e3]
end
/-- the reference's scratch alone has changed -/
theorem pu_Inv_rs {M N : pu_M} (h : pu_Inv M) (e2 : N.2 = M.2) (h1 : ∀ a j, ¬ (a = 71 ∧ j ≠ 4 ∧ j ≠ 8) → ¬ a = 76 → ¬ (78 ≤ a ∧ a < 86) → N.1 a j = M.1 a j) : pu_Inv N := by
  refine pu_Inv_sc h ?_ (by rw [e2]) (fun a j _ => by rw [e2]) (fun a j q => h1 a j (by omega) (by omega) (by omega)) (fun a j _ => by rw [e2]) (pu_tp_fr h.2.1 (h1 _ _ (by omega) (by omega) (by omega)) (h1 _ _ (by omega) (by omega) (by omega)) (fun j => h1 _ _ (by omega) (by omega) (by omega)) (fun j => h1 _ _ (by omega) (by omega) (by omega))) (pu_ou_fr h.2.2.1 (h1 _ _ (by omega) (by omega) (by omega)) (h1 _ _ (by omega) (by omega) (by omega)) (fun j => h1 _ _ (by omega) (by omega) (by omega)) (fun j => h1 _ _ (by omega) (by omega) (by omega)))
  intro a k r q
  rw [e2]
  exact h.1 a k r q
theorem pz_sn {x : Int32} (h : x = 0 ∨ x = 1) : ∃ s, s < 2 ∧ x = nI s := by
  rcases h with h | h
  · exact ⟨0, by omega, h⟩
  · exact ⟨1, by omega, h⟩
theorem pz_pn {x : Int32} (h1 : ¬ x < 0) (h2 : ¬ 9999 < x) : ∃ p, p < 10000 ∧ x = nI p := by
  obtain ⟨j, j1, j2⟩ := nI_of2 (x := x) (M := 9999) (n := 9999) (by decide) h1 (Int32.not_lt.mp h2)
  exact ⟨j, by omega, j2⟩
theorem op_free (x sd pc : Int32) : pu_op pu_Inv 198 286 [.int x, .int sd, .int pc] := by
  intro M h
  have hx := h.1
  have hI := pu_ag5 M
  have hr := pu_hR h
  have hw := pu_hS h
  have hK := wx_bK hw
  have e1 := c_isStreet hx hI hw x
  have e2 := r_isStreet hx hr x
  have e3 := c_isPlace sd pc M
  have e4 := r_isPlace sd pc M
  by_cases hd : ¬ x < 0 ∧ x < nI (cK (pu_si M 5))
  · rw [pu_q1 hd] at e1 e2
    by_cases hp : (sd = 0 ∨ sd = 1) ∧ ¬ pc < 0 ∧ ¬ 9999 < pc
    · rw [pu_q1 hp] at e3 e4
      obtain ⟨st, hst, rfl⟩ := pu_st_of (by omega) hd
      obtain ⟨s, hs, rfl⟩ := pz_sn hp.1
      obtain ⟨p, hp2, rfl⟩ := pz_pn hp.2.1 hp.2.2
      obtain ⟨N, be, ah, lo, hi, r, n1, l1, i1, x2, y2, r1, r2⟩ := c_fitting hx hI hw hst s p 0 hs hp2 (by omega)
      have hN := pu_Inv_vg h n1
      have hr2 : pu_Rel (pu_si M 5) (pu_sj M 5) (N.1 72) := by
        rw [show N.1 72 = M.1 72 from funext (fun j => n1.2 72 j (by omega))]
        exact hr
      obtain ⟨be2, ah2, lo2, hi2, q, l12, i12, x22, y22, q1, q2⟩ := r_leastN hN.1 hr2 hw hst s p 0 hs hp2 (by omega)
      have el : lo = lo2 := by
        have := pz_lo_un hw l1 l12
        rw [nI_eq (by omega) (by omega)] at this
        exact this
      have eh : hi = hi2 := by
        have := pz_hi_un hw i1 i12
        rw [nI_eq (by omega) (by omega)] at this
        exact this
      subst el eh
      have er := pz_ls_un r1 q1
      subst er
      refine ⟨pz_an (pu_si M 5) st s p r, N, pz_lh N (nI lo) (nI hi), ?_, ?_, pu_Inv_rs hN rfl (fun a j a1 a2 a3 => ?_)⟩
      · rw [nI_0] at r2
        rw [qX11_free]
        simp [a_ent, bX11_free_0, bX11_free_16, bX11_free_27, a_ald, a_cs, a_cv, a_gr, a_ifne, a_ild, a_iret, a_push, ag_25 hI, fx_0_2 hx, fx_5_3 hx, sh_0, sh_25, sh_5, pu_rv, pu_as, Value.category, pu_bk, pu_kl, List.replicate, pu_wi_1, pu_wi_2, nl_add, nl_ladd, nl_aa, nl_mul, nl_rmul, nl_mm, pu_qe0, pu_qe1, e1, e3, r2]
        all_goals try simp (maxSteps := 400000) (disch := omega) [nl_tle, nl_fle, nl_tlt, nl_flt, nl_teq, nl_feq, nl_sub, nl_ss, nl_lt, nl_llt, nl_ltt, nl_le, nl_lle, nl_lee, nl_eq, nl_leq, nl_ee, nl_div, nl_rem, nl_cl, nl_n1, nl_n2, nl_n3, nl_n4, nl_add, nl_ladd, nl_aa, nl_mul, nl_rmul, nl_mm, pu_wi_1, pu_wi_2, bX11_free_0, bX11_free_16, bX11_free_27, a_ald, a_cs, a_cv, a_gr, a_ifne, a_ild, a_iret, a_push, ag_25 hI, fx_0_2 hx, fx_5_3 hx, sh_0, sh_25, sh_5, pu_rv, pu_as, Value.category, pu_bk, pu_kl, pu_qe0, pu_qe1, e1, e3, r2]
        all_goals try simp [bX11_free_0, bX11_free_16, bX11_free_27, a_ald, a_cs, a_cv, a_gr, a_ifne, a_ild, a_iret, a_push, ag_25 hI, fx_0_2 hx, fx_5_3 hx, sh_0, sh_25, sh_5, pu_rv, pu_as, Value.category, pu_bk, pu_kl, List.replicate, pu_wi_1, pu_wi_2, nl_add, nl_ladd, nl_aa, nl_mul, nl_rmul, nl_mm, pu_qe0, pu_qe1, e1, e3, r2]
        all_goals try simp (maxSteps := 400000) (disch := omega) [nl_tle, nl_fle, nl_tlt, nl_flt, nl_teq, nl_feq, nl_sub, nl_ss, nl_lt, nl_llt, nl_ltt, nl_le, nl_lle, nl_lee, nl_eq, nl_leq, nl_ee, nl_div, nl_rem, nl_cl, nl_n1, nl_n2, nl_n3, nl_n4, nl_add, nl_ladd, nl_aa, nl_mul, nl_rmul, nl_mm, pu_wi_1, pu_wi_2, bX11_free_0, bX11_free_16, bX11_free_27, a_ald, a_cs, a_cv, a_gr, a_ifne, a_ild, a_iret, a_push, ag_25 hI, fx_0_2 hx, fx_5_3 hx, sh_0, sh_25, sh_5, pu_rv, pu_as, Value.category, pu_bk, pu_kl, pu_qe0, pu_qe1, e1, e3, r2]
      · have f2 := r_isStreet hN.1 hr2 (nI st)
        rw [pu_q1 hd] at f2
        have f4 := r_isPlace (nI s) (nI p) N
        rw [pu_q1 hp] at f4
        have hr3 : pu_Rel (pu_si M 5) (pu_sj M 5) ((pz_lh N (nI lo) (nI hi)).1 72) := by
          rw [pz_lh_s]
          exact hr2
        have hx3 : pu_fx (pz_lh N (nI lo) (nI hi)) := hN.1
        have f5 := r_isOccupied hx3 hr3 hw st (nI s) (nI p)
        rw [nI_0] at q2
        unfold pz_an
        by_cases c : r = -1
        · rw [if_pos c]
          rw [qX12_free]
          simp [a_ent, bX12_free_0, bX12_free_10, bX12_free_21, bX12_free_40, bX12_free_55, bX12_free_57, a_ald, a_cs, a_cv, a_icne, a_ifeq, a_ifne, a_ild, a_iret, a_ist, a_push, sh_71, pu_rv, pu_as, Value.category, pu_bk, pu_kl, List.replicate, pu_wi_1, pu_wi_2, nl_add, nl_ladd, nl_aa, nl_mul, nl_rmul, nl_mm, pu_qe0, pu_qe1, f2, f4, q2, c]
          all_goals try simp (maxSteps := 400000) (disch := omega) [nl_tle, nl_fle, nl_tlt, nl_flt, nl_teq, nl_feq, nl_sub, nl_ss, nl_lt, nl_llt, nl_ltt, nl_le, nl_lle, nl_lee, nl_eq, nl_leq, nl_ee, nl_div, nl_rem, nl_cl, nl_n1, nl_n2, nl_n3, nl_n4, nl_add, nl_ladd, nl_aa, nl_mul, nl_rmul, nl_mm, pu_wi_1, pu_wi_2, bX12_free_0, bX12_free_10, bX12_free_21, bX12_free_40, bX12_free_55, bX12_free_57, a_ald, a_cs, a_cv, a_icne, a_ifeq, a_ifne, a_ild, a_iret, a_ist, a_push, sh_71, pu_rv, pu_as, Value.category, pu_bk, pu_kl, pu_qe0, pu_qe1, f2, f4, q2, c]
          all_goals try simp [bX12_free_0, bX12_free_10, bX12_free_21, bX12_free_40, bX12_free_55, bX12_free_57, a_ald, a_cs, a_cv, a_icne, a_ifeq, a_ifne, a_ild, a_iret, a_ist, a_push, sh_71, pu_rv, pu_as, Value.category, pu_bk, pu_kl, List.replicate, pu_wi_1, pu_wi_2, nl_add, nl_ladd, nl_aa, nl_mul, nl_rmul, nl_mm, pu_qe0, pu_qe1, f2, f4, q2, c]
          all_goals try simp (maxSteps := 400000) (disch := omega) [nl_tle, nl_fle, nl_tlt, nl_flt, nl_teq, nl_feq, nl_sub, nl_ss, nl_lt, nl_llt, nl_ltt, nl_le, nl_lle, nl_lee, nl_eq, nl_leq, nl_ee, nl_div, nl_rem, nl_cl, nl_n1, nl_n2, nl_n3, nl_n4, nl_add, nl_ladd, nl_aa, nl_mul, nl_rmul, nl_mm, pu_wi_1, pu_wi_2, bX12_free_0, bX12_free_10, bX12_free_21, bX12_free_40, bX12_free_55, bX12_free_57, a_ald, a_cs, a_cv, a_icne, a_ifeq, a_ifne, a_ild, a_iret, a_ist, a_push, sh_71, pu_rv, pu_as, Value.category, pu_bk, pu_kl, pu_qe0, pu_qe1, f2, f4, q2, c]
        · rw [if_neg c]
          by_cases d : pz_oc (pu_si M 5) st (nI s) (nI p) 0
          · rw [if_pos d]
            rw [pu_q1 d] at f5
            rw [qX12_free]
            simp [a_ent, bX12_free_0, bX12_free_10, bX12_free_21, bX12_free_40, bX12_free_55, bX12_free_57, a_ald, a_cs, a_cv, a_icne, a_ifeq, a_ifne, a_ild, a_iret, a_ist, a_push, sh_71, pu_rv, pu_as, Value.category, pu_bk, pu_kl, List.replicate, pu_wi_1, pu_wi_2, nl_add, nl_ladd, nl_aa, nl_mul, nl_rmul, nl_mm, pu_qe0, pu_qe1, f2, f4, q2, c, f5]
            all_goals try simp (maxSteps := 400000) (disch := omega) [nl_tle, nl_fle, nl_tlt, nl_flt, nl_teq, nl_feq, nl_sub, nl_ss, nl_lt, nl_llt, nl_ltt, nl_le, nl_lle, nl_lee, nl_eq, nl_leq, nl_ee, nl_div, nl_rem, nl_cl, nl_n1, nl_n2, nl_n3, nl_n4, nl_add, nl_ladd, nl_aa, nl_mul, nl_rmul, nl_mm, pu_wi_1, pu_wi_2, bX12_free_0, bX12_free_10, bX12_free_21, bX12_free_40, bX12_free_55, bX12_free_57, a_ald, a_cs, a_cv, a_icne, a_ifeq, a_ifne, a_ild, a_iret, a_ist, a_push, sh_71, pu_rv, pu_as, Value.category, pu_bk, pu_kl, pu_qe0, pu_qe1, f2, f4, q2, c, f5]
            all_goals try simp [bX12_free_0, bX12_free_10, bX12_free_21, bX12_free_40, bX12_free_55, bX12_free_57, a_ald, a_cs, a_cv, a_icne, a_ifeq, a_ifne, a_ild, a_iret, a_ist, a_push, sh_71, pu_rv, pu_as, Value.category, pu_bk, pu_kl, List.replicate, pu_wi_1, pu_wi_2, nl_add, nl_ladd, nl_aa, nl_mul, nl_rmul, nl_mm, pu_qe0, pu_qe1, f2, f4, q2, c, f5]
            all_goals try simp (maxSteps := 400000) (disch := omega) [nl_tle, nl_fle, nl_tlt, nl_flt, nl_teq, nl_feq, nl_sub, nl_ss, nl_lt, nl_llt, nl_ltt, nl_le, nl_lle, nl_lee, nl_eq, nl_leq, nl_ee, nl_div, nl_rem, nl_cl, nl_n1, nl_n2, nl_n3, nl_n4, nl_add, nl_ladd, nl_aa, nl_mul, nl_rmul, nl_mm, pu_wi_1, pu_wi_2, bX12_free_0, bX12_free_10, bX12_free_21, bX12_free_40, bX12_free_55, bX12_free_57, a_ald, a_cs, a_cv, a_icne, a_ifeq, a_ifne, a_ild, a_iret, a_ist, a_push, sh_71, pu_rv, pu_as, Value.category, pu_bk, pu_kl, pu_qe0, pu_qe1, f2, f4, q2, c, f5]
          · rw [if_neg d]
            rw [pu_q0 d] at f5
            rw [qX12_free]
            simp [a_ent, bX12_free_0, bX12_free_10, bX12_free_21, bX12_free_40, bX12_free_55, bX12_free_57, a_ald, a_cs, a_cv, a_icne, a_ifeq, a_ifne, a_ild, a_iret, a_ist, a_push, sh_71, pu_rv, pu_as, Value.category, pu_bk, pu_kl, List.replicate, pu_wi_1, pu_wi_2, nl_add, nl_ladd, nl_aa, nl_mul, nl_rmul, nl_mm, pu_qe0, pu_qe1, f2, f4, q2, c, f5]
            all_goals try simp (maxSteps := 400000) (disch := omega) [nl_tle, nl_fle, nl_tlt, nl_flt, nl_teq, nl_feq, nl_sub, nl_ss, nl_lt, nl_llt, nl_ltt, nl_le, nl_lle, nl_lee, nl_eq, nl_leq, nl_ee, nl_div, nl_rem, nl_cl, nl_n1, nl_n2, nl_n3, nl_n4, nl_add, nl_ladd, nl_aa, nl_mul, nl_rmul, nl_mm, pu_wi_1, pu_wi_2, bX12_free_0, bX12_free_10, bX12_free_21, bX12_free_40, bX12_free_55, bX12_free_57, a_ald, a_cs, a_cv, a_icne, a_ifeq, a_ifne, a_ild, a_iret, a_ist, a_push, sh_71, pu_rv, pu_as, Value.category, pu_bk, pu_kl, pu_qe0, pu_qe1, f2, f4, q2, c, f5]
            all_goals try simp [bX12_free_0, bX12_free_10, bX12_free_21, bX12_free_40, bX12_free_55, bX12_free_57, a_ald, a_cs, a_cv, a_icne, a_ifeq, a_ifne, a_ild, a_iret, a_ist, a_push, sh_71, pu_rv, pu_as, Value.category, pu_bk, pu_kl, List.replicate, pu_wi_1, pu_wi_2, nl_add, nl_ladd, nl_aa, nl_mul, nl_rmul, nl_mm, pu_qe0, pu_qe1, f2, f4, q2, c, f5]
            all_goals try simp (maxSteps := 400000) (disch := omega) [nl_tle, nl_fle, nl_tlt, nl_flt, nl_teq, nl_feq, nl_sub, nl_ss, nl_lt, nl_llt, nl_ltt, nl_le, nl_lle, nl_lee, nl_eq, nl_leq, nl_ee, nl_div, nl_rem, nl_cl, nl_n1, nl_n2, nl_n3, nl_n4, nl_add, nl_ladd, nl_aa, nl_mul, nl_rmul, nl_mm, pu_wi_1, pu_wi_2, bX12_free_0, bX12_free_10, bX12_free_21, bX12_free_40, bX12_free_55, bX12_free_57, a_ald, a_cs, a_cv, a_icne, a_ifeq, a_ifne, a_ild, a_iret, a_ist, a_push, sh_71, pu_rv, pu_as, Value.category, pu_bk, pu_kl, pu_qe0, pu_qe1, f2, f4, q2, c, f5]
      · simp only [pz_lh, pu_wi_1]
        grind
    · rw [pu_q0 hp] at e3 e4
      refine ⟨-2, M, M, ?_, ?_, h⟩
      · rw [qX11_free]
        simp [a_ent, bX11_free_0, bX11_free_16, bX11_free_27, a_ald, a_cs, a_cv, a_gr, a_ifne, a_ild, a_iret, a_push, ag_25 hI, fx_0_2 hx, fx_5_3 hx, sh_0, sh_25, sh_5, pu_rv, pu_as, Value.category, pu_bk, pu_kl, List.replicate, pu_wi_1, pu_wi_2, nl_add, nl_ladd, nl_aa, nl_mul, nl_rmul, nl_mm, pu_qe0, pu_qe1, e1, e3]
        all_goals try simp (maxSteps := 400000) (disch := omega) [nl_tle, nl_fle, nl_tlt, nl_flt, nl_teq, nl_feq, nl_sub, nl_ss, nl_lt, nl_llt, nl_ltt, nl_le, nl_lle, nl_lee, nl_eq, nl_leq, nl_ee, nl_div, nl_rem, nl_cl, nl_n1, nl_n2, nl_n3, nl_n4, nl_add, nl_ladd, nl_aa, nl_mul, nl_rmul, nl_mm, pu_wi_1, pu_wi_2, bX11_free_0, bX11_free_16, bX11_free_27, a_ald, a_cs, a_cv, a_gr, a_ifne, a_ild, a_iret, a_push, ag_25 hI, fx_0_2 hx, fx_5_3 hx, sh_0, sh_25, sh_5, pu_rv, pu_as, Value.category, pu_bk, pu_kl, pu_qe0, pu_qe1, e1, e3]
        all_goals try simp [bX11_free_0, bX11_free_16, bX11_free_27, a_ald, a_cs, a_cv, a_gr, a_ifne, a_ild, a_iret, a_push, ag_25 hI, fx_0_2 hx, fx_5_3 hx, sh_0, sh_25, sh_5, pu_rv, pu_as, Value.category, pu_bk, pu_kl, List.replicate, pu_wi_1, pu_wi_2, nl_add, nl_ladd, nl_aa, nl_mul, nl_rmul, nl_mm, pu_qe0, pu_qe1, e1, e3]
        all_goals try simp (maxSteps := 400000) (disch := omega) [nl_tle, nl_fle, nl_tlt, nl_flt, nl_teq, nl_feq, nl_sub, nl_ss, nl_lt, nl_llt, nl_ltt, nl_le, nl_lle, nl_lee, nl_eq, nl_leq, nl_ee, nl_div, nl_rem, nl_cl, nl_n1, nl_n2, nl_n3, nl_n4, nl_add, nl_ladd, nl_aa, nl_mul, nl_rmul, nl_mm, pu_wi_1, pu_wi_2, bX11_free_0, bX11_free_16, bX11_free_27, a_ald, a_cs, a_cv, a_gr, a_ifne, a_ild, a_iret, a_push, ag_25 hI, fx_0_2 hx, fx_5_3 hx, sh_0, sh_25, sh_5, pu_rv, pu_as, Value.category, pu_bk, pu_kl, pu_qe0, pu_qe1, e1, e3]
      · rw [qX12_free]
        simp [a_ent, bX12_free_0, bX12_free_10, bX12_free_21, bX12_free_40, bX12_free_55, bX12_free_57, a_ald, a_cs, a_cv, a_icne, a_ifeq, a_ifne, a_ild, a_iret, a_ist, a_push, sh_71, pu_rv, pu_as, Value.category, pu_bk, pu_kl, List.replicate, pu_wi_1, pu_wi_2, nl_add, nl_ladd, nl_aa, nl_mul, nl_rmul, nl_mm, pu_qe0, pu_qe1, e2, e4]
        all_goals try simp (maxSteps := 400000) (disch := omega) [nl_tle, nl_fle, nl_tlt, nl_flt, nl_teq, nl_feq, nl_sub, nl_ss, nl_lt, nl_llt, nl_ltt, nl_le, nl_lle, nl_lee, nl_eq, nl_leq, nl_ee, nl_div, nl_rem, nl_cl, nl_n1, nl_n2, nl_n3, nl_n4, nl_add, nl_ladd, nl_aa, nl_mul, nl_rmul, nl_mm, pu_wi_1, pu_wi_2, bX12_free_0, bX12_free_10, bX12_free_21, bX12_free_40, bX12_free_55, bX12_free_57, a_ald, a_cs, a_cv, a_icne, a_ifeq, a_ifne, a_ild, a_iret, a_ist, a_push, sh_71, pu_rv, pu_as, Value.category, pu_bk, pu_kl, pu_qe0, pu_qe1, e2, e4]
        all_goals try simp [bX12_free_0, bX12_free_10, bX12_free_21, bX12_free_40, bX12_free_55, bX12_free_57, a_ald, a_cs, a_cv, a_icne, a_ifeq, a_ifne, a_ild, a_iret, a_ist, a_push, sh_71, pu_rv, pu_as, Value.category, pu_bk, pu_kl, List.replicate, pu_wi_1, pu_wi_2, nl_add, nl_ladd, nl_aa, nl_mul, nl_rmul, nl_mm, pu_qe0, pu_qe1, e2, e4]
        all_goals try simp (maxSteps := 400000) (disch := omega) [nl_tle, nl_fle, nl_tlt, nl_flt, nl_teq, nl_feq, nl_sub, nl_ss, nl_lt, nl_llt, nl_ltt, nl_le, nl_lle, nl_lee, nl_eq, nl_leq, nl_ee, nl_div, nl_rem, nl_cl, nl_n1, nl_n2, nl_n3, nl_n4, nl_add, nl_ladd, nl_aa, nl_mul, nl_rmul, nl_mm, pu_wi_1, pu_wi_2, bX12_free_0, bX12_free_10, bX12_free_21, bX12_free_40, bX12_free_55, bX12_free_57, a_ald, a_cs, a_cv, a_icne, a_ifeq, a_ifne, a_ild, a_iret, a_ist, a_push, sh_71, pu_rv, pu_as, Value.category, pu_bk, pu_kl, pu_qe0, pu_qe1, e2, e4]
  · rw [pu_q0 hd] at e1 e2
    refine ⟨-1, M, M, ?_, ?_, h⟩
    · rw [qX11_free]
      simp [a_ent, bX11_free_0, bX11_free_16, bX11_free_27, a_ald, a_cs, a_cv, a_gr, a_ifne, a_ild, a_iret, a_push, ag_25 hI, fx_0_2 hx, fx_5_3 hx, sh_0, sh_25, sh_5, pu_rv, pu_as, Value.category, pu_bk, pu_kl, List.replicate, pu_wi_1, pu_wi_2, nl_add, nl_ladd, nl_aa, nl_mul, nl_rmul, nl_mm, pu_qe0, pu_qe1, e1]
      all_goals try simp (maxSteps := 400000) (disch := omega) [nl_tle, nl_fle, nl_tlt, nl_flt, nl_teq, nl_feq, nl_sub, nl_ss, nl_lt, nl_llt, nl_ltt, nl_le, nl_lle, nl_lee, nl_eq, nl_leq, nl_ee, nl_div, nl_rem, nl_cl, nl_n1, nl_n2, nl_n3, nl_n4, nl_add, nl_ladd, nl_aa, nl_mul, nl_rmul, nl_mm, pu_wi_1, pu_wi_2, bX11_free_0, bX11_free_16, bX11_free_27, a_ald, a_cs, a_cv, a_gr, a_ifne, a_ild, a_iret, a_push, ag_25 hI, fx_0_2 hx, fx_5_3 hx, sh_0, sh_25, sh_5, pu_rv, pu_as, Value.category, pu_bk, pu_kl, pu_qe0, pu_qe1, e1]
      all_goals try simp [bX11_free_0, bX11_free_16, bX11_free_27, a_ald, a_cs, a_cv, a_gr, a_ifne, a_ild, a_iret, a_push, ag_25 hI, fx_0_2 hx, fx_5_3 hx, sh_0, sh_25, sh_5, pu_rv, pu_as, Value.category, pu_bk, pu_kl, List.replicate, pu_wi_1, pu_wi_2, nl_add, nl_ladd, nl_aa, nl_mul, nl_rmul, nl_mm, pu_qe0, pu_qe1, e1]
      all_goals try simp (maxSteps := 400000) (disch := omega) [nl_tle, nl_fle, nl_tlt, nl_flt, nl_teq, nl_feq, nl_sub, nl_ss, nl_lt, nl_llt, nl_ltt, nl_le, nl_lle, nl_lee, nl_eq, nl_leq, nl_ee, nl_div, nl_rem, nl_cl, nl_n1, nl_n2, nl_n3, nl_n4, nl_add, nl_ladd, nl_aa, nl_mul, nl_rmul, nl_mm, pu_wi_1, pu_wi_2, bX11_free_0, bX11_free_16, bX11_free_27, a_ald, a_cs, a_cv, a_gr, a_ifne, a_ild, a_iret, a_push, ag_25 hI, fx_0_2 hx, fx_5_3 hx, sh_0, sh_25, sh_5, pu_rv, pu_as, Value.category, pu_bk, pu_kl, pu_qe0, pu_qe1, e1]
    · rw [qX12_free]
      simp [a_ent, bX12_free_0, bX12_free_10, bX12_free_21, bX12_free_40, bX12_free_55, bX12_free_57, a_ald, a_cs, a_cv, a_icne, a_ifeq, a_ifne, a_ild, a_iret, a_ist, a_push, sh_71, pu_rv, pu_as, Value.category, pu_bk, pu_kl, List.replicate, pu_wi_1, pu_wi_2, nl_add, nl_ladd, nl_aa, nl_mul, nl_rmul, nl_mm, pu_qe0, pu_qe1, e2]
      all_goals try simp (maxSteps := 400000) (disch := omega) [nl_tle, nl_fle, nl_tlt, nl_flt, nl_teq, nl_feq, nl_sub, nl_ss, nl_lt, nl_llt, nl_ltt, nl_le, nl_lle, nl_lee, nl_eq, nl_leq, nl_ee, nl_div, nl_rem, nl_cl, nl_n1, nl_n2, nl_n3, nl_n4, nl_add, nl_ladd, nl_aa, nl_mul, nl_rmul, nl_mm, pu_wi_1, pu_wi_2, bX12_free_0, bX12_free_10, bX12_free_21, bX12_free_40, bX12_free_55, bX12_free_57, a_ald, a_cs, a_cv, a_icne, a_ifeq, a_ifne, a_ild, a_iret, a_ist, a_push, sh_71, pu_rv, pu_as, Value.category, pu_bk, pu_kl, pu_qe0, pu_qe1, e2]
      all_goals try simp [bX12_free_0, bX12_free_10, bX12_free_21, bX12_free_40, bX12_free_55, bX12_free_57, a_ald, a_cs, a_cv, a_icne, a_ifeq, a_ifne, a_ild, a_iret, a_ist, a_push, sh_71, pu_rv, pu_as, Value.category, pu_bk, pu_kl, List.replicate, pu_wi_1, pu_wi_2, nl_add, nl_ladd, nl_aa, nl_mul, nl_rmul, nl_mm, pu_qe0, pu_qe1, e2]
      all_goals try simp (maxSteps := 400000) (disch := omega) [nl_tle, nl_fle, nl_tlt, nl_flt, nl_teq, nl_feq, nl_sub, nl_ss, nl_lt, nl_llt, nl_ltt, nl_le, nl_lle, nl_lee, nl_eq, nl_leq, nl_ee, nl_div, nl_rem, nl_cl, nl_n1, nl_n2, nl_n3, nl_n4, nl_add, nl_ladd, nl_aa, nl_mul, nl_rmul, nl_mm, pu_wi_1, pu_wi_2, bX12_free_0, bX12_free_10, bX12_free_21, bX12_free_40, bX12_free_55, bX12_free_57, a_ald, a_cs, a_cv, a_icne, a_ifeq, a_ifne, a_ild, a_iret, a_ist, a_push, sh_71, pu_rv, pu_as, Value.category, pu_bk, pu_kl, pu_qe0, pu_qe1, e2]
