/-! near, the class's side -/
section
variable {M : pu_M} {I : Nat → Nat → Int32} {L : Nat → Nat → Int64}
/-- paces and side of a span's place, in range -/
theorem pz_pl (hw : pu_WF I L) {k : Nat} (hk : k < cU I) {q : Nat} (hq : q ≤ cP I) (ho : pu_oq (I 17 k) (I 18 k) q) : 0 ≤ (I 40 (pu_sl0 I k)).toInt ∧ (I 40 (pu_sl0 I k)).toInt ≤ 1 ∧ 0 ≤ (I 41 (pu_sl0 I k)).toInt ∧ (I 41 (pu_sl0 I k)).toInt ≤ 9999 := by
  have u4 := wx_u4 hw q k hq hk ho
  have s1 := pu_sl_lt hw hk
  have hd : pu_sl0 I k / 2 < cD I := by omega
  by_cases e : pu_sl0 I k % 2 = 1
  · have d1 := wx_d1 hw _ hd (u4.2.2 e).1
    rw [show 2 * (pu_sl0 I k / 2) + 1 = pu_sl0 I k by omega] at d1
    exact ⟨d1.2.2.2.2.1, d1.2.2.2.2.2.1, d1.2.2.2.2.2.2.1, d1.2.2.2.2.2.2.2.1⟩
  · have d0 := wx_d0 hw _ hd u4.2.1
    rw [show 2 * (pu_sl0 I k / 2) = pu_sl0 I k by omega] at d0
    exact ⟨d0.2.2.2.2.2.1, d0.2.2.2.2.2.2.1, d0.2.2.2.2.2.2.2.1, d0.2.2.2.2.2.2.2.2.1⟩
theorem pz_sub {a b : Int32} (ha : 0 ≤ a.toInt) (ha2 : a.toInt ≤ 100000) (hb : 0 ≤ b.toInt) (hb2 : b.toInt ≤ 100000) : (a - b).toInt = a.toInt - b.toInt := by
  rw [pu_nn0 ha, pu_nn0 hb, pk_sub_toInt (by have := pu_nnT ha; omega) (by have := pu_nnT hb; omega), nI_toInt (by have := pu_nnT ha; omega), nI_toInt (by have := pu_nnT hb; omega)]
/-- the key in whole numbers -/
def pz_kz (s p sd pc : Int) : Int := 4 * (if p < pc then pc - p else p - pc) + (if s = sd then 0 else 2) + (if p < pc then 0 else 1)
theorem pz_ky (sd pc : Int32) (j : Nat) (h1 : 0 ≤ (I 41 j).toInt) (h2 : (I 41 j).toInt ≤ 9999) (h3 : 0 ≤ pc.toInt) (h4 : pc.toInt ≤ 9999) : (pu_ky I sd pc j).toInt = pz_kz (I 40 j).toInt (I 41 j).toInt sd.toInt pc.toInt := by
  have e1 := pz_sub (a := I 41 j) (b := pc) (by omega) (by omega) (by omega) (by omega)
  have e0 : (0 : Int32).toInt = 0 := by decide
  unfold pu_ky pz_kz
  have es : (I 40 j = sd) = ((I 40 j).toInt = sd.toInt) := propext ⟨fun e => by rw [e], fun e => Int32.toInt_inj.mp e⟩
  by_cases f : I 41 j - pc < 0
  · have f1 := Int32.lt_iff_toInt_lt.mp f
    rw [e1, e0] at f1
    obtain ⟨a, ha⟩ : ∃ a : Nat, (a : Int) = pc.toInt - (I 41 j).toInt := ⟨(pc.toInt - (I 41 j).toInt).toNat, by omega⟩
    have e2 : -(I 41 j - pc) = nI a := by
      apply Int32.toInt_inj.mp
      rw [nI_toInt (by omega)]
      have := pz_sub (a := pc) (b := I 41 j) (by omega) (by omega) (by omega) (by omega)
      rw [show -(I 41 j - pc) = pc - I 41 j by grind, this]
      omega
    have fz : (I 41 j).toInt < pc.toInt := by omega
    by_cases g : I 40 j = sd
    · have gz : (I 40 j).toInt = sd.toInt := by rw [g]
      simp only [f, if_true, e2, fz, g]
      rw [show (4 * nI a + 0 + 0 : Int32) = nI (4 * a) from by
        rw [show (4 : Int32) = nI 4 from rfl, pk_mul]
        simp, nI_toInt (by omega)]
      omega
    · have gz : ¬ (I 40 j).toInt = sd.toInt := by rw [← es]; exact g
      simp only [f, if_true, if_false, e2, fz, g, gz]
      rw [show (4 * nI a + 2 + 0 : Int32) = nI (4 * a + 2) from by
        rw [show (4 : Int32) = nI 4 from rfl, pk_mul, show (2 : Int32) = nI 2 from rfl, nI_add]
        simp, nI_toInt (by omega)]
      omega
  · have f1 := Int32.le_iff_toInt_le.mp (Int32.not_lt.mp f)
    rw [e1, e0] at f1
    obtain ⟨a, ha⟩ : ∃ a : Nat, (a : Int) = (I 41 j).toInt - pc.toInt := ⟨((I 41 j).toInt - pc.toInt).toNat, by omega⟩
    have e2 : I 41 j - pc = nI a := by
      apply Int32.toInt_inj.mp
      rw [nI_toInt (by omega), e1]
      omega
    have fz : ¬ (I 41 j).toInt < pc.toInt := by omega
    rw [e2] at f
    by_cases g : I 40 j = sd
    · have gz : (I 40 j).toInt = sd.toInt := by rw [g]
      simp only [e2, f, if_true, if_false, fz, g]
      rw [show (4 * nI a + 0 + 1 : Int32) = nI (4 * a + 1) from by
        rw [show (4 : Int32) = nI 4 from rfl, pk_mul, show (1 : Int32) = nI 1 from rfl]
        simp
        rw [nI_add], nI_toInt (by omega)]
      omega
    · have gz : ¬ (I 40 j).toInt = sd.toInt := by rw [← es]; exact g
      simp only [e2, f, if_false, fz, g, gz]
      rw [show (4 * nI a + 2 + 1 : Int32) = nI (4 * a + 2 + 1) from by
        rw [show (4 : Int32) = nI 4 from rfl, pk_mul, show (2 : Int32) = nI 2 from rfl, nI_add, show (1 : Int32) = nI 1 from rfl, nI_add], nI_toInt (by omega)]
      omega
/-- how far, as Math.abs has it -/
theorem pz_abs {a b : Int32} (ha : 0 ≤ a.toInt) (ha2 : a.toInt ≤ 9999) (hb : 0 ≤ b.toInt) (hb2 : b.toInt ≤ 9999) : ∃ c : Nat, (if 0 ≤ a - b then a - b else b - a) = nI c ∧ (c : Int) = (if a.toInt < b.toInt then b.toInt - a.toInt else a.toInt - b.toInt) ∧ c < 10000 := by
  have e1 := pz_sub (a := a) (b := b) (by omega) (by omega) (by omega) (by omega)
  have e2 := pz_sub (a := b) (b := a) (by omega) (by omega) (by omega) (by omega)
  have e0 : (0 : Int32).toInt = 0 := by decide
  by_cases f : 0 ≤ a - b
  · have f1 := Int32.le_iff_toInt_le.mp f
    rw [e1, e0] at f1
    refine ⟨(a.toInt - b.toInt).toNat, ?_, ?_, by omega⟩
    · rw [if_pos f]
      apply Int32.toInt_inj.mp
      rw [nI_toInt (by omega), e1]
      omega
    · rw [if_neg (by omega)]
      omega
  · have f1 := Int32.lt_iff_toInt_lt.mp (Int32.not_le.mp f)
    rw [e1, e0] at f1
    refine ⟨(b.toInt - a.toInt).toNat, ?_, ?_, by omega⟩
    · rw [if_neg f]
      apply Int32.toInt_inj.mp
      rw [nI_toInt (by omega), e2]
      omega
    · rw [if_pos (by omega)]
      omega
/-- nearer, of two spans of the view -/
theorem c_isNearer (hx : pu_fx M) (sd pc : Int32) (i b : Nat) (hi : i < 100) (hb : b < 100) (hp : 0 ≤ pc.toInt) (hp2 : pc.toInt ≤ 9999) (h1 : 0 ≤ (M.1 67 i).toInt) (h2 : (M.1 67 i).toInt ≤ 9999) (h3 : 0 ≤ (M.1 67 b).toInt) (h4 : (M.1 67 b).toInt ≤ 9999) :
    pu_r 199 [some (.ref 0), some (.int (nI i)), some (.int (nI b)), some (.int sd), some (.int pc)] [] M = some (some (.int (pu_q ((if (M.1 67 i).toInt < pc.toInt then pc.toInt - (M.1 67 i).toInt else (M.1 67 i).toInt - pc.toInt) < (if (M.1 67 b).toInt < pc.toInt then pc.toInt - (M.1 67 b).toInt else (M.1 67 b).toInt - pc.toInt) ∨ ((if (M.1 67 i).toInt < pc.toInt then pc.toInt - (M.1 67 i).toInt else (M.1 67 i).toInt - pc.toInt) = (if (M.1 67 b).toInt < pc.toInt then pc.toInt - (M.1 67 b).toInt else (M.1 67 b).toInt - pc.toInt) ∧ M.1 66 i = sd ∧ M.1 66 b ≠ sd)))), M) := by
  obtain ⟨x, x1, x2, x3⟩ := pz_abs h1 h2 hp hp2
  obtain ⟨z, z1, z2, z3⟩ := pz_abs h3 h4 hp hp2
  rw [← x2, ← z2]
  by_cases c : x = z
  · subst c
    by_cases c1 : M.1 66 i = sd
    · by_cases c2 : M.1 66 b = sd
      · rw [pu_q0 (by rintro (q | q); omega; exact q.2.2 c2)]
        rw [qX11_isNearer]
        simp [a_ent, bX11_isNearer_0, bX11_isNearer_54, bX11_isNearer_84, bX11_isNearer_85, bX11_isNearer_52, bX11_isNearer_53, bX11_isNearer_48, a_abs, a_ai, a_ald, a_gr, a_iceq, a_icge, a_icne, a_ild, a_ist, a_isub, a_push, a_zret, fx_0_5 hx, fx_62_6 hx, fx_62_7 hx, sh_0, sh_62, sh_66, sh_67, pu_rv, pu_as, Value.category, pu_bk, pu_kl, List.replicate, pu_wi_1, pu_wi_2, nl_add, nl_ladd, nl_aa, nl_mul, nl_rmul, nl_mm, pu_qe0, pu_qe1, x1, z1, c1, c2]
        all_goals try simp (maxSteps := 400000) (disch := omega) [nl_tle, nl_fle, nl_tlt, nl_flt, nl_teq, nl_feq, nl_sub, nl_ss, nl_lt, nl_llt, nl_ltt, nl_le, nl_lle, nl_lee, nl_eq, nl_leq, nl_ee, nl_div, nl_rem, nl_cl, nl_n1, nl_n2, nl_n3, nl_n4, nl_add, nl_ladd, nl_aa, nl_mul, nl_rmul, nl_mm, pu_wi_1, pu_wi_2, bX11_isNearer_0, bX11_isNearer_54, bX11_isNearer_84, bX11_isNearer_85, bX11_isNearer_52, bX11_isNearer_53, bX11_isNearer_48, a_abs, a_ai, a_ald, a_gr, a_iceq, a_icge, a_icne, a_ild, a_ist, a_isub, a_push, a_zret, fx_0_5 hx, fx_62_6 hx, fx_62_7 hx, sh_0, sh_62, sh_66, sh_67, pu_rv, pu_as, Value.category, pu_bk, pu_kl, pu_qe0, pu_qe1, x1, z1, c1, c2]
        all_goals try simp [bX11_isNearer_0, bX11_isNearer_54, bX11_isNearer_84, bX11_isNearer_85, bX11_isNearer_52, bX11_isNearer_53, bX11_isNearer_48, a_abs, a_ai, a_ald, a_gr, a_iceq, a_icge, a_icne, a_ild, a_ist, a_isub, a_push, a_zret, fx_0_5 hx, fx_62_6 hx, fx_62_7 hx, sh_0, sh_62, sh_66, sh_67, pu_rv, pu_as, Value.category, pu_bk, pu_kl, List.replicate, pu_wi_1, pu_wi_2, nl_add, nl_ladd, nl_aa, nl_mul, nl_rmul, nl_mm, pu_qe0, pu_qe1, x1, z1, c1, c2]
        all_goals try simp (maxSteps := 400000) (disch := omega) [nl_tle, nl_fle, nl_tlt, nl_flt, nl_teq, nl_feq, nl_sub, nl_ss, nl_lt, nl_llt, nl_ltt, nl_le, nl_lle, nl_lee, nl_eq, nl_leq, nl_ee, nl_div, nl_rem, nl_cl, nl_n1, nl_n2, nl_n3, nl_n4, nl_add, nl_ladd, nl_aa, nl_mul, nl_rmul, nl_mm, pu_wi_1, pu_wi_2, bX11_isNearer_0, bX11_isNearer_54, bX11_isNearer_84, bX11_isNearer_85, bX11_isNearer_52, bX11_isNearer_53, bX11_isNearer_48, a_abs, a_ai, a_ald, a_gr, a_iceq, a_icge, a_icne, a_ild, a_ist, a_isub, a_push, a_zret, fx_0_5 hx, fx_62_6 hx, fx_62_7 hx, sh_0, sh_62, sh_66, sh_67, pu_rv, pu_as, Value.category, pu_bk, pu_kl, pu_qe0, pu_qe1, x1, z1, c1, c2]
      · rw [pu_q1 (Or.inr ⟨rfl, c1, c2⟩)]
        rw [qX11_isNearer]
        simp [a_ent, bX11_isNearer_0, bX11_isNearer_54, bX11_isNearer_84, bX11_isNearer_85, bX11_isNearer_52, bX11_isNearer_53, bX11_isNearer_48, a_abs, a_ai, a_ald, a_gr, a_iceq, a_icge, a_icne, a_ild, a_ist, a_isub, a_push, a_zret, fx_0_5 hx, fx_62_6 hx, fx_62_7 hx, sh_0, sh_62, sh_66, sh_67, pu_rv, pu_as, Value.category, pu_bk, pu_kl, List.replicate, pu_wi_1, pu_wi_2, nl_add, nl_ladd, nl_aa, nl_mul, nl_rmul, nl_mm, pu_qe0, pu_qe1, x1, z1, c1, c2]
        all_goals try simp (maxSteps := 400000) (disch := omega) [nl_tle, nl_fle, nl_tlt, nl_flt, nl_teq, nl_feq, nl_sub, nl_ss, nl_lt, nl_llt, nl_ltt, nl_le, nl_lle, nl_lee, nl_eq, nl_leq, nl_ee, nl_div, nl_rem, nl_cl, nl_n1, nl_n2, nl_n3, nl_n4, nl_add, nl_ladd, nl_aa, nl_mul, nl_rmul, nl_mm, pu_wi_1, pu_wi_2, bX11_isNearer_0, bX11_isNearer_54, bX11_isNearer_84, bX11_isNearer_85, bX11_isNearer_52, bX11_isNearer_53, bX11_isNearer_48, a_abs, a_ai, a_ald, a_gr, a_iceq, a_icge, a_icne, a_ild, a_ist, a_isub, a_push, a_zret, fx_0_5 hx, fx_62_6 hx, fx_62_7 hx, sh_0, sh_62, sh_66, sh_67, pu_rv, pu_as, Value.category, pu_bk, pu_kl, pu_qe0, pu_qe1, x1, z1, c1, c2]
        all_goals try simp [bX11_isNearer_0, bX11_isNearer_54, bX11_isNearer_84, bX11_isNearer_85, bX11_isNearer_52, bX11_isNearer_53, bX11_isNearer_48, a_abs, a_ai, a_ald, a_gr, a_iceq, a_icge, a_icne, a_ild, a_ist, a_isub, a_push, a_zret, fx_0_5 hx, fx_62_6 hx, fx_62_7 hx, sh_0, sh_62, sh_66, sh_67, pu_rv, pu_as, Value.category, pu_bk, pu_kl, List.replicate, pu_wi_1, pu_wi_2, nl_add, nl_ladd, nl_aa, nl_mul, nl_rmul, nl_mm, pu_qe0, pu_qe1, x1, z1, c1, c2]
        all_goals try simp (maxSteps := 400000) (disch := omega) [nl_tle, nl_fle, nl_tlt, nl_flt, nl_teq, nl_feq, nl_sub, nl_ss, nl_lt, nl_llt, nl_ltt, nl_le, nl_lle, nl_lee, nl_eq, nl_leq, nl_ee, nl_div, nl_rem, nl_cl, nl_n1, nl_n2, nl_n3, nl_n4, nl_add, nl_ladd, nl_aa, nl_mul, nl_rmul, nl_mm, pu_wi_1, pu_wi_2, bX11_isNearer_0, bX11_isNearer_54, bX11_isNearer_84, bX11_isNearer_85, bX11_isNearer_52, bX11_isNearer_53, bX11_isNearer_48, a_abs, a_ai, a_ald, a_gr, a_iceq, a_icge, a_icne, a_ild, a_ist, a_isub, a_push, a_zret, fx_0_5 hx, fx_62_6 hx, fx_62_7 hx, sh_0, sh_62, sh_66, sh_67, pu_rv, pu_as, Value.category, pu_bk, pu_kl, pu_qe0, pu_qe1, x1, z1, c1, c2]
    · rw [pu_q0 (by rintro (q | q); omega; exact c1 q.2.1)]
      rw [qX11_isNearer]
      simp [a_ent, bX11_isNearer_0, bX11_isNearer_54, bX11_isNearer_84, bX11_isNearer_85, bX11_isNearer_52, bX11_isNearer_53, bX11_isNearer_48, a_abs, a_ai, a_ald, a_gr, a_iceq, a_icge, a_icne, a_ild, a_ist, a_isub, a_push, a_zret, fx_0_5 hx, fx_62_6 hx, fx_62_7 hx, sh_0, sh_62, sh_66, sh_67, pu_rv, pu_as, Value.category, pu_bk, pu_kl, List.replicate, pu_wi_1, pu_wi_2, nl_add, nl_ladd, nl_aa, nl_mul, nl_rmul, nl_mm, pu_qe0, pu_qe1, x1, z1, c1]
      all_goals try simp (maxSteps := 400000) (disch := omega) [nl_tle, nl_fle, nl_tlt, nl_flt, nl_teq, nl_feq, nl_sub, nl_ss, nl_lt, nl_llt, nl_ltt, nl_le, nl_lle, nl_lee, nl_eq, nl_leq, nl_ee, nl_div, nl_rem, nl_cl, nl_n1, nl_n2, nl_n3, nl_n4, nl_add, nl_ladd, nl_aa, nl_mul, nl_rmul, nl_mm, pu_wi_1, pu_wi_2, bX11_isNearer_0, bX11_isNearer_54, bX11_isNearer_84, bX11_isNearer_85, bX11_isNearer_52, bX11_isNearer_53, bX11_isNearer_48, a_abs, a_ai, a_ald, a_gr, a_iceq, a_icge, a_icne, a_ild, a_ist, a_isub, a_push, a_zret, fx_0_5 hx, fx_62_6 hx, fx_62_7 hx, sh_0, sh_62, sh_66, sh_67, pu_rv, pu_as, Value.category, pu_bk, pu_kl, pu_qe0, pu_qe1, x1, z1, c1]
      all_goals try simp [bX11_isNearer_0, bX11_isNearer_54, bX11_isNearer_84, bX11_isNearer_85, bX11_isNearer_52, bX11_isNearer_53, bX11_isNearer_48, a_abs, a_ai, a_ald, a_gr, a_iceq, a_icge, a_icne, a_ild, a_ist, a_isub, a_push, a_zret, fx_0_5 hx, fx_62_6 hx, fx_62_7 hx, sh_0, sh_62, sh_66, sh_67, pu_rv, pu_as, Value.category, pu_bk, pu_kl, List.replicate, pu_wi_1, pu_wi_2, nl_add, nl_ladd, nl_aa, nl_mul, nl_rmul, nl_mm, pu_qe0, pu_qe1, x1, z1, c1]
      all_goals try simp (maxSteps := 400000) (disch := omega) [nl_tle, nl_fle, nl_tlt, nl_flt, nl_teq, nl_feq, nl_sub, nl_ss, nl_lt, nl_llt, nl_ltt, nl_le, nl_lle, nl_lee, nl_eq, nl_leq, nl_ee, nl_div, nl_rem, nl_cl, nl_n1, nl_n2, nl_n3, nl_n4, nl_add, nl_ladd, nl_aa, nl_mul, nl_rmul, nl_mm, pu_wi_1, pu_wi_2, bX11_isNearer_0, bX11_isNearer_54, bX11_isNearer_84, bX11_isNearer_85, bX11_isNearer_52, bX11_isNearer_53, bX11_isNearer_48, a_abs, a_ai, a_ald, a_gr, a_iceq, a_icge, a_icne, a_ild, a_ist, a_isub, a_push, a_zret, fx_0_5 hx, fx_62_6 hx, fx_62_7 hx, sh_0, sh_62, sh_66, sh_67, pu_rv, pu_as, Value.category, pu_bk, pu_kl, pu_qe0, pu_qe1, x1, z1, c1]
  · have c0 : ¬ nI x = nI z := fun q => c (by rw [nI_eq (by omega) (by omega)] at q; exact q)
    by_cases c1 : x < z
    · have c2 : ¬ nI z ≤ nI x := nI_ge c1 (by omega)
      rw [pu_q1 (Or.inl (by omega))]
      rw [qX11_isNearer]
      simp [a_ent, bX11_isNearer_0, bX11_isNearer_54, bX11_isNearer_84, bX11_isNearer_85, bX11_isNearer_52, bX11_isNearer_53, bX11_isNearer_48, a_abs, a_ai, a_ald, a_gr, a_iceq, a_icge, a_icne, a_ild, a_ist, a_isub, a_push, a_zret, fx_0_5 hx, fx_62_6 hx, fx_62_7 hx, sh_0, sh_62, sh_66, sh_67, pu_rv, pu_as, Value.category, pu_bk, pu_kl, List.replicate, pu_wi_1, pu_wi_2, nl_add, nl_ladd, nl_aa, nl_mul, nl_rmul, nl_mm, pu_qe0, pu_qe1, x1, z1, c0, c2]
      all_goals try simp (maxSteps := 400000) (disch := omega) [nl_tle, nl_fle, nl_tlt, nl_flt, nl_teq, nl_feq, nl_sub, nl_ss, nl_lt, nl_llt, nl_ltt, nl_le, nl_lle, nl_lee, nl_eq, nl_leq, nl_ee, nl_div, nl_rem, nl_cl, nl_n1, nl_n2, nl_n3, nl_n4, nl_add, nl_ladd, nl_aa, nl_mul, nl_rmul, nl_mm, pu_wi_1, pu_wi_2, bX11_isNearer_0, bX11_isNearer_54, bX11_isNearer_84, bX11_isNearer_85, bX11_isNearer_52, bX11_isNearer_53, bX11_isNearer_48, a_abs, a_ai, a_ald, a_gr, a_iceq, a_icge, a_icne, a_ild, a_ist, a_isub, a_push, a_zret, fx_0_5 hx, fx_62_6 hx, fx_62_7 hx, sh_0, sh_62, sh_66, sh_67, pu_rv, pu_as, Value.category, pu_bk, pu_kl, pu_qe0, pu_qe1, x1, z1, c0, c2]
      all_goals try simp [bX11_isNearer_0, bX11_isNearer_54, bX11_isNearer_84, bX11_isNearer_85, bX11_isNearer_52, bX11_isNearer_53, bX11_isNearer_48, a_abs, a_ai, a_ald, a_gr, a_iceq, a_icge, a_icne, a_ild, a_ist, a_isub, a_push, a_zret, fx_0_5 hx, fx_62_6 hx, fx_62_7 hx, sh_0, sh_62, sh_66, sh_67, pu_rv, pu_as, Value.category, pu_bk, pu_kl, List.replicate, pu_wi_1, pu_wi_2, nl_add, nl_ladd, nl_aa, nl_mul, nl_rmul, nl_mm, pu_qe0, pu_qe1, x1, z1, c0, c2]
      all_goals try simp (maxSteps := 400000) (disch := omega) [nl_tle, nl_fle, nl_tlt, nl_flt, nl_teq, nl_feq, nl_sub, nl_ss, nl_lt, nl_llt, nl_ltt, nl_le, nl_lle, nl_lee, nl_eq, nl_leq, nl_ee, nl_div, nl_rem, nl_cl, nl_n1, nl_n2, nl_n3, nl_n4, nl_add, nl_ladd, nl_aa, nl_mul, nl_rmul, nl_mm, pu_wi_1, pu_wi_2, bX11_isNearer_0, bX11_isNearer_54, bX11_isNearer_84, bX11_isNearer_85, bX11_isNearer_52, bX11_isNearer_53, bX11_isNearer_48, a_abs, a_ai, a_ald, a_gr, a_iceq, a_icge, a_icne, a_ild, a_ist, a_isub, a_push, a_zret, fx_0_5 hx, fx_62_6 hx, fx_62_7 hx, sh_0, sh_62, sh_66, sh_67, pu_rv, pu_as, Value.category, pu_bk, pu_kl, pu_qe0, pu_qe1, x1, z1, c0, c2]
    · have c2 : nI z ≤ nI x := nI_le (by omega) (by omega)
      rw [pu_q0 (by rintro (q | q) <;> omega)]
      rw [qX11_isNearer]
      simp [a_ent, bX11_isNearer_0, bX11_isNearer_54, bX11_isNearer_84, bX11_isNearer_85, bX11_isNearer_52, bX11_isNearer_53, bX11_isNearer_48, a_abs, a_ai, a_ald, a_gr, a_iceq, a_icge, a_icne, a_ild, a_ist, a_isub, a_push, a_zret, fx_0_5 hx, fx_62_6 hx, fx_62_7 hx, sh_0, sh_62, sh_66, sh_67, pu_rv, pu_as, Value.category, pu_bk, pu_kl, List.replicate, pu_wi_1, pu_wi_2, nl_add, nl_ladd, nl_aa, nl_mul, nl_rmul, nl_mm, pu_qe0, pu_qe1, x1, z1, c0, c2]
      all_goals try simp (maxSteps := 400000) (disch := omega) [nl_tle, nl_fle, nl_tlt, nl_flt, nl_teq, nl_feq, nl_sub, nl_ss, nl_lt, nl_llt, nl_ltt, nl_le, nl_lle, nl_lee, nl_eq, nl_leq, nl_ee, nl_div, nl_rem, nl_cl, nl_n1, nl_n2, nl_n3, nl_n4, nl_add, nl_ladd, nl_aa, nl_mul, nl_rmul, nl_mm, pu_wi_1, pu_wi_2, bX11_isNearer_0, bX11_isNearer_54, bX11_isNearer_84, bX11_isNearer_85, bX11_isNearer_52, bX11_isNearer_53, bX11_isNearer_48, a_abs, a_ai, a_ald, a_gr, a_iceq, a_icge, a_icne, a_ild, a_ist, a_isub, a_push, a_zret, fx_0_5 hx, fx_62_6 hx, fx_62_7 hx, sh_0, sh_62, sh_66, sh_67, pu_rv, pu_as, Value.category, pu_bk, pu_kl, pu_qe0, pu_qe1, x1, z1, c0, c2]
      all_goals try simp [bX11_isNearer_0, bX11_isNearer_54, bX11_isNearer_84, bX11_isNearer_85, bX11_isNearer_52, bX11_isNearer_53, bX11_isNearer_48, a_abs, a_ai, a_ald, a_gr, a_iceq, a_icge, a_icne, a_ild, a_ist, a_isub, a_push, a_zret, fx_0_5 hx, fx_62_6 hx, fx_62_7 hx, sh_0, sh_62, sh_66, sh_67, pu_rv, pu_as, Value.category, pu_bk, pu_kl, List.replicate, pu_wi_1, pu_wi_2, nl_add, nl_ladd, nl_aa, nl_mul, nl_rmul, nl_mm, pu_qe0, pu_qe1, x1, z1, c0, c2]
      all_goals try simp (maxSteps := 400000) (disch := omega) [nl_tle, nl_fle, nl_tlt, nl_flt, nl_teq, nl_feq, nl_sub, nl_ss, nl_lt, nl_llt, nl_ltt, nl_le, nl_lle, nl_lee, nl_eq, nl_leq, nl_ee, nl_div, nl_rem, nl_cl, nl_n1, nl_n2, nl_n3, nl_n4, nl_add, nl_ladd, nl_aa, nl_mul, nl_rmul, nl_mm, pu_wi_1, pu_wi_2, bX11_isNearer_0, bX11_isNearer_54, bX11_isNearer_84, bX11_isNearer_85, bX11_isNearer_52, bX11_isNearer_53, bX11_isNearer_48, a_abs, a_ai, a_ald, a_gr, a_iceq, a_icge, a_icne, a_ild, a_ist, a_isub, a_push, a_zret, fx_0_5 hx, fx_62_6 hx, fx_62_7 hx, sh_0, sh_62, sh_66, sh_67, pu_rv, pu_as, Value.category, pu_bk, pu_kl, pu_qe0, pu_qe1, x1, z1, c0, c2]
end
