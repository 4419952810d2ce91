/-! fresh numbers: what they are, and how they are given -/
section
variable {I : Nat → Nat → Int32} {L : Nat → Nat → Int64} {V : Nat → Nat} {n st ru : Nat}
theorem py_FW_ok (hw : pu_WF I L) (hst : st < cK I) (hru : ru < 4) (vs : py_vs I ru V n) (hn : n ≤ 100) (rt : ru = 3 → py_rt I st ru V n) : (∀ a, a < n → 0 ≤ (py_FW I st ru V a).toInt ∧ (py_FW I st ru V a).toInt < 160000 ∧ ((py_FW I st ru V a).toInt = 0 ∨ 16 ≤ (py_FW I st ru V a).toInt)) ∧ ∀ a b, a < n → b < n → py_FW I st ru V a = py_FW I st ru V b → py_FW I st ru V a ≠ 0 → a = b := by
  have R : ∀ a, a < n → (∃ v, v < 160000 ∧ 16 ≤ v ∧ py_FW I st ru V a = nI v) ∨ py_FW I st ru V a = 0 := fun a ha => by
    have FW := py_FW_v hw hst vs hn ha
    obtain ⟨s2, p2, _, _⟩ := vs.1 a ha
    have nl : py_nth I V a ≤ a := py_nth_lt
    have r4 : ru = 0 ∨ ru = 1 ∨ ru = 2 ∨ ru = 3 := by omega
    rcases r4 with r | r | r | r
    · exact Or.inl ⟨_, by omega, by omega, FW.1 r⟩
    · exact Or.inl ⟨_, by omega, by omega, FW.2.1 r⟩
    · have vs2 := vs
      rw [r] at vs2
      obtain ⟨l, l1, l2⟩ := py_f2_b vs2 a ha
      have m1 : py_pc I V a % 10 < 10 := Nat.mod_lt _ (by omega)
      refine Or.inl ⟨_, ?_, ?_, FW.2.2.1 r⟩
      · rw [l2]; unfold py_dgt; omega
      · rw [l2]; unfold py_dgt; omega
    · by_cases z : py_FR I st ru V a = -1
      · exact Or.inr (by unfold py_FW; rw [if_pos z])
      · rcases rt r a ha with q | q
        · exact absurd q z
        · obtain ⟨v, v1, v2, v3, _⟩ := q.1
          exact Or.inl ⟨v, by omega, v2, by unfold py_FW; rw [if_neg z]; exact v1⟩
  have LT : ∀ a b, a < b → b < n → py_FW I st ru V a = py_FW I st ru V b → py_FW I st ru V a ≠ 0 → False := fun a b hab hb e ne => by
    have ha : a < n := by omega
    have FA := py_FW_v hw hst vs hn ha
    have FB := py_FW_v hw hst vs hn hb
    obtain ⟨s2, p2, _, _⟩ := vs.1 a ha
    obtain ⟨s2', p2', _, _⟩ := vs.1 b hb
    have nl : py_nth I V a ≤ a := py_nth_lt
    have nl' : py_nth I V b ≤ b := py_nth_lt
    have r4 : ru = 0 ∨ ru = 1 ∨ ru = 2 ∨ ru = 3 := by omega
    rcases r4 with r | r | r | r
    · rw [FA.1 r, FB.1 r, nI_eq (by omega) (by omega)] at e
      have := py_nth_i (I := I) (V := V) hab (by omega)
      omega
    · rw [FA.2.1 r, FB.2.1 r, nI_eq (by omega) (by omega)] at e
      omega
    · have vs2 := vs
      rw [r] at vs2
      obtain ⟨l, l1, l2⟩ := py_f2_b vs2 a ha
      obtain ⟨k, k1, k2⟩ := py_f2_b vs2 b hb
      have m1 : py_pc I V a % 10 < 10 := Nat.mod_lt _ (by omega)
      have m2 : py_pc I V b % 10 < 10 := Nat.mod_lt _ (by omega)
      have d1 : py_dgt I V a < 20000 := by unfold py_dgt; omega
      have d2 : py_dgt I V b < 20000 := by unfold py_dgt; omega
      rw [FA.2.2.1 r, FB.2.2.1 r, nI_eq (by omega) (by omega)] at e
      have ed : py_dgt I V a = py_dgt I V b := by omega
      unfold py_dgt at ed
      have := py_f2_s vs2 hab hb (by omega)
      omega
    · have zb : py_FR I st ru V b ≠ -1 := fun z => ne (by rw [e]; unfold py_FW; rw [if_pos z])
      have za : py_FR I st ru V a ≠ -1 := fun z => ne (by unfold py_FW; rw [if_pos z])
      have ea : py_FW I st ru V a = py_FR I st ru V a := by unfold py_FW; rw [if_neg za]
      have eb : py_FW I st ru V b = py_FR I st ru V b := by unfold py_FW; rw [if_neg zb]
      rw [ea, eb] at e
      rcases rt r b hb with q | q
      · exact zb q
      · exact (q.2 a hab).1 e
  refine ⟨fun a ha => ?_, fun a b ha hb e ne => ?_⟩
  · rcases R a ha with ⟨v, v1, v2, v3⟩ | z
    · have := nl_n0 (a := v) (by omega)
      rw [v3, this]
      omega
    · rw [z, show (0 : Int32).toInt = 0 from by decide]
      omega
  · rcases Nat.lt_trichotomy a b with z | z | z
    · exact (LT a b z hb e ne).elim
    · exact z
    · exact (LT b a z ha e.symm (by rw [← e]; exact ne)).elim
/-- the class, c numbers given -/
def py_cG (I : Nat → Nat → Int32) (V : Nat → Nat) (W : Nat → Int32) (P : Nat) (B N : pu_M) (X : Nat → Nat) (c : Nat) : Prop := N.2 = B.2 ∧ (∀ x j, ¬ (x = 14 ∧ j = 0) → ¬ (15 ≤ x ∧ x ≤ 18 ∧ cU I ≤ j) → ¬ (x = 18 ∧ ∃ t, t < c ∧ V (X t) = j) → N.1 x j = B.1 x j) ∧ N.1 14 0 = nI (cU I + c) ∧ (∀ t, t < c → N.1 15 (cU I + t) = nI (pu_sl0 I (V (X t))) ∧ N.1 16 (cU I + t) = W (X t) ∧ N.1 17 (cU I + t) = nI P ∧ N.1 18 (cU I + t) = -1) ∧ (∀ t, t < c → N.1 18 (V (X t)) = nI P)
theorem c_gv_l (hw : pu_WF I L) (vs : py_vs I ru V n) (hn : n ≤ 100) (SLV : py_SL (py_aq I ru) (py_osx I st) V n) {B : pu_M} {P tot : Nat} (hxB : pu_fx B) (v0 : B.1 62 0 = nI n) (v63 : ∀ a, a < n → B.1 63 a = nI (V a)) (v64 : ∀ a, a < n → B.1 64 a = nI (pu_sl0 I (V a))) (v65 : ∀ a, a < n → B.1 65 a = I 16 (V a)) (f69 : ∀ a, a < n → B.1 69 a = py_FR I st ru V a) (hT : cU I + tot ≤ 3000) : ∀ (m i : Nat) (N : pu_M) (X : Nat → Nat) (c : Nat), i + m = n → c + py_cnt (fun a => py_FW I st ru V a ≠ I 16 (V a)) m i = tot → py_cG I V (py_FW I st ru V) P B N X c → py_SL (fun a => a) (fun a => a < i ∧ py_FW I st ru V a ≠ I 16 (V a)) X c → ∃ N1 X1, py_cG I V (py_FW I st ru V) P B N1 X1 tot ∧ py_SL (fun a => a) (fun a => a < n ∧ py_FW I st ru V a ≠ I 16 (V a)) X1 tot ∧ pu_r 385 [some (.ref 0), some (.int (nI P)), some (.int (nI i))] [] N = some (none, N1)
  | 0, i, N, X, c, h, ht, g, sl => by
    have hx : pu_fx N := pz_fx_of hxB g.1
    have e : i = n := by omega
    have n0 : N.1 62 0 = nI n := by rw [g.2.1 62 0 (by omega) (by omega) (by omega)]; exact v0
    have hc : nI n ≤ nI n := nI_le (by omega) (by omega)
    have ct : c = tot := ht
    refine ⟨N, X, by rw [← ct]; exact g, by rw [← ct, ← e]; exact sl, ?_⟩
    rw [e]
    rw [qX11_giveFreshNumbers_2]
    simp [bX11_giveFreshNumbers_2, bX11_giveFreshNumbers_82, bX11_giveFreshNumbers_76, bX11_giveFreshNumbers_50, a_ai, a_ald, a_cv, a_gi, a_gr, a_iceq, a_icge, a_ild, a_inc, a_vret, a_wi, fx_0_2 hx, fx_0_5 hx, fx_14_4 hx, fx_5_1 hx, fx_62_3 hx, fx_62_4 hx, fx_62_5 hx, sh_0, sh_14, sh_18, sh_5, sh_62, sh_63, sh_64, sh_65, pu_rv, pu_as, Value.category, pu_bk, pu_kl, List.replicate, pu_wi_1, pu_wi_2, nl_add, nl_ladd, nl_aa, nl_mul, nl_rmul, nl_mm, pu_qe0, pu_qe1, n0, hc]
    all_goals try simp (maxSteps := 400000) (disch := omega) [nl_tle, nl_fle, nl_tlt, nl_flt, nl_teq, nl_feq, nl_sub, nl_ss, nl_lt, nl_llt, nl_ltt, nl_le, nl_lle, nl_lee, nl_eq, nl_leq, nl_ee, nl_div, nl_rem, nl_cl, nl_n1, nl_n2, nl_n3, nl_n4, nl_add, nl_ladd, nl_aa, nl_mul, nl_rmul, nl_mm, pu_wi_1, pu_wi_2, bX11_giveFreshNumbers_2, bX11_giveFreshNumbers_82, bX11_giveFreshNumbers_76, bX11_giveFreshNumbers_50, a_ai, a_ald, a_cv, a_gi, a_gr, a_iceq, a_icge, a_ild, a_inc, a_vret, a_wi, fx_0_2 hx, fx_0_5 hx, fx_14_4 hx, fx_5_1 hx, fx_62_3 hx, fx_62_4 hx, fx_62_5 hx, sh_0, sh_14, sh_18, sh_5, sh_62, sh_63, sh_64, sh_65, pu_rv, pu_as, Value.category, pu_bk, pu_kl, pu_qe0, pu_qe1, n0, hc]
    all_goals try simp [bX11_giveFreshNumbers_2, bX11_giveFreshNumbers_82, bX11_giveFreshNumbers_76, bX11_giveFreshNumbers_50, a_ai, a_ald, a_cv, a_gi, a_gr, a_iceq, a_icge, a_ild, a_inc, a_vret, a_wi, fx_0_2 hx, fx_0_5 hx, fx_14_4 hx, fx_5_1 hx, fx_62_3 hx, fx_62_4 hx, fx_62_5 hx, sh_0, sh_14, sh_18, sh_5, sh_62, sh_63, sh_64, sh_65, pu_rv, pu_as, Value.category, pu_bk, pu_kl, List.replicate, pu_wi_1, pu_wi_2, nl_add, nl_ladd, nl_aa, nl_mul, nl_rmul, nl_mm, pu_qe0, pu_qe1, n0, hc]
    all_goals try simp (maxSteps := 400000) (disch := omega) [nl_tle, nl_fle, nl_tlt, nl_flt, nl_teq, nl_feq, nl_sub, nl_ss, nl_lt, nl_llt, nl_ltt, nl_le, nl_lle, nl_lee, nl_eq, nl_leq, nl_ee, nl_div, nl_rem, nl_cl, nl_n1, nl_n2, nl_n3, nl_n4, nl_add, nl_ladd, nl_aa, nl_mul, nl_rmul, nl_mm, pu_wi_1, pu_wi_2, bX11_giveFreshNumbers_2, bX11_giveFreshNumbers_82, bX11_giveFreshNumbers_76, bX11_giveFreshNumbers_50, a_ai, a_ald, a_cv, a_gi, a_gr, a_iceq, a_icge, a_ild, a_inc, a_vret, a_wi, fx_0_2 hx, fx_0_5 hx, fx_14_4 hx, fx_5_1 hx, fx_62_3 hx, fx_62_4 hx, fx_62_5 hx, sh_0, sh_14, sh_18, sh_5, sh_62, sh_63, sh_64, sh_65, pu_rv, pu_as, Value.category, pu_bk, pu_kl, pu_qe0, pu_qe1, n0, hc]
    all_goals try simp [bX11_giveFreshNumbers_2, bX11_giveFreshNumbers_82, bX11_giveFreshNumbers_76, bX11_giveFreshNumbers_50, a_ai, a_ald, a_cv, a_gi, a_gr, a_iceq, a_icge, a_ild, a_inc, a_vret, a_wi, fx_0_2 hx, fx_0_5 hx, fx_14_4 hx, fx_5_1 hx, fx_62_3 hx, fx_62_4 hx, fx_62_5 hx, sh_0, sh_14, sh_18, sh_5, sh_62, sh_63, sh_64, sh_65, pu_rv, pu_as, Value.category, pu_bk, pu_kl, List.replicate, pu_wi_1, pu_wi_2, nl_add, nl_ladd, nl_aa, nl_mul, nl_rmul, nl_mm, pu_qe0, pu_qe1, n0, hc]
    all_goals try simp (maxSteps := 400000) (disch := omega) [nl_tle, nl_fle, nl_tlt, nl_flt, nl_teq, nl_feq, nl_sub, nl_ss, nl_lt, nl_llt, nl_ltt, nl_le, nl_lle, nl_lee, nl_eq, nl_leq, nl_ee, nl_div, nl_rem, nl_cl, nl_n1, nl_n2, nl_n3, nl_n4, nl_add, nl_ladd, nl_aa, nl_mul, nl_rmul, nl_mm, pu_wi_1, pu_wi_2, bX11_giveFreshNumbers_2, bX11_giveFreshNumbers_82, bX11_giveFreshNumbers_76, bX11_giveFreshNumbers_50, a_ai, a_ald, a_cv, a_gi, a_gr, a_iceq, a_icge, a_ild, a_inc, a_vret, a_wi, fx_0_2 hx, fx_0_5 hx, fx_14_4 hx, fx_5_1 hx, fx_62_3 hx, fx_62_4 hx, fx_62_5 hx, sh_0, sh_14, sh_18, sh_5, sh_62, sh_63, sh_64, sh_65, pu_rv, pu_as, Value.category, pu_bk, pu_kl, pu_qe0, pu_qe1, n0, hc]
    all_goals try simp [bX11_giveFreshNumbers_2, bX11_giveFreshNumbers_82, bX11_giveFreshNumbers_76, bX11_giveFreshNumbers_50, a_ai, a_ald, a_cv, a_gi, a_gr, a_iceq, a_icge, a_ild, a_inc, a_vret, a_wi, fx_0_2 hx, fx_0_5 hx, fx_14_4 hx, fx_5_1 hx, fx_62_3 hx, fx_62_4 hx, fx_62_5 hx, sh_0, sh_14, sh_18, sh_5, sh_62, sh_63, sh_64, sh_65, pu_rv, pu_as, Value.category, pu_bk, pu_kl, List.replicate, pu_wi_1, pu_wi_2, nl_add, nl_ladd, nl_aa, nl_mul, nl_rmul, nl_mm, pu_qe0, pu_qe1, n0, hc]
  | m + 1, i, N, X, c, h, ht, g, sl => by
    have bU := wx_bU hw
    have bD := wx_bD hw
    obtain ⟨g1, g2, g3, g4, g5⟩ := id g
    have hx : pu_fx N := pz_fx_of hxB g1
    have inn : i < n := by omega
    have i1 : i < 100 := by omega
    have hc : ¬ nI n ≤ nI i := nI_ge (by omega) (by omega)
    have n0 : N.1 62 0 = nI n := by rw [g2 62 0 (by omega) (by omega) (by omega)]; exact v0
    have n63 : N.1 63 i = nI (V i) := by rw [g2 63 i (by omega) (by omega) (by omega)]; exact v63 i inn
    have n64 : N.1 64 i = nI (pu_sl0 I (V i)) := by rw [g2 64 i (by omega) (by omega) (by omega)]; exact v64 i inn
    have n65 : N.1 65 i = I 16 (V i) := by rw [g2 65 i (by omega) (by omega) (by omega)]; exact v65 i inn
    have n69 : N.1 69 i = py_FR I st ru V i := by rw [g2 69 i (by omega) (by omega) (by omega)]; exact f69 i inn
    have e1 := c_freshWhole hx i1 n69
    have os := SLV.1 i inn
    have vU := os.1
    by_cases ch : py_FW I st ru V i ≠ I 16 (V i)
    rotate_left
    · rw [py_cnt_f (c := fun a => py_FW I st ru V a ≠ I 16 (V a)) ch] at ht
      obtain ⟨N1, X1, x1, x2, x3⟩ := c_gv_l hw vs hn SLV hxB v0 v63 v64 v65 f69 hT m (i + 1) N X c (by omega) ht g (py_SL_c sl (fun a => ⟨fun z => ⟨by omega, z.2⟩, fun z => ⟨by
        have : a ≠ i := fun q => ch (by rw [← q]; exact z.2)
        have := z.1
        omega, z.2⟩⟩))
      refine ⟨N1, X1, x1, x2, ?_⟩
      rw [← x3]
      have ch' : py_FW I st ru V i = I 16 (V i) := Classical.byContradiction ch
      rw [ch'] at e1
      generalize I 16 (V i) = wv at *
      rw [qX11_giveFreshNumbers_2]
      simp [bX11_giveFreshNumbers_2, bX11_giveFreshNumbers_82, bX11_giveFreshNumbers_76, bX11_giveFreshNumbers_50, a_ai, a_ald, a_cv, a_gi, a_gr, a_iceq, a_icge, a_ild, a_inc, a_vret, a_wi, fx_0_2 hx, fx_0_5 hx, fx_14_4 hx, fx_5_1 hx, fx_62_3 hx, fx_62_4 hx, fx_62_5 hx, sh_0, sh_14, sh_18, sh_5, sh_62, sh_63, sh_64, sh_65, pu_rv, pu_as, Value.category, pu_bk, pu_kl, List.replicate, pu_wi_1, pu_wi_2, nl_add, nl_ladd, nl_aa, nl_mul, nl_rmul, nl_mm, pu_qe0, pu_qe1, n0, hc, i1, e1, n65]
      all_goals try simp (maxSteps := 400000) (disch := omega) [nl_tle, nl_fle, nl_tlt, nl_flt, nl_teq, nl_feq, nl_sub, nl_ss, nl_lt, nl_llt, nl_ltt, nl_le, nl_lle, nl_lee, nl_eq, nl_leq, nl_ee, nl_div, nl_rem, nl_cl, nl_n1, nl_n2, nl_n3, nl_n4, nl_add, nl_ladd, nl_aa, nl_mul, nl_rmul, nl_mm, pu_wi_1, pu_wi_2, bX11_giveFreshNumbers_2, bX11_giveFreshNumbers_82, bX11_giveFreshNumbers_76, bX11_giveFreshNumbers_50, a_ai, a_ald, a_cv, a_gi, a_gr, a_iceq, a_icge, a_ild, a_inc, a_vret, a_wi, fx_0_2 hx, fx_0_5 hx, fx_14_4 hx, fx_5_1 hx, fx_62_3 hx, fx_62_4 hx, fx_62_5 hx, sh_0, sh_14, sh_18, sh_5, sh_62, sh_63, sh_64, sh_65, pu_rv, pu_as, Value.category, pu_bk, pu_kl, pu_qe0, pu_qe1, n0, hc, i1, e1, n65]
      all_goals try simp [bX11_giveFreshNumbers_2, bX11_giveFreshNumbers_82, bX11_giveFreshNumbers_76, bX11_giveFreshNumbers_50, a_ai, a_ald, a_cv, a_gi, a_gr, a_iceq, a_icge, a_ild, a_inc, a_vret, a_wi, fx_0_2 hx, fx_0_5 hx, fx_14_4 hx, fx_5_1 hx, fx_62_3 hx, fx_62_4 hx, fx_62_5 hx, sh_0, sh_14, sh_18, sh_5, sh_62, sh_63, sh_64, sh_65, pu_rv, pu_as, Value.category, pu_bk, pu_kl, List.replicate, pu_wi_1, pu_wi_2, nl_add, nl_ladd, nl_aa, nl_mul, nl_rmul, nl_mm, pu_qe0, pu_qe1, n0, hc, i1, e1, n65]
      all_goals try simp (maxSteps := 400000) (disch := omega) [nl_tle, nl_fle, nl_tlt, nl_flt, nl_teq, nl_feq, nl_sub, nl_ss, nl_lt, nl_llt, nl_ltt, nl_le, nl_lle, nl_lee, nl_eq, nl_leq, nl_ee, nl_div, nl_rem, nl_cl, nl_n1, nl_n2, nl_n3, nl_n4, nl_add, nl_ladd, nl_aa, nl_mul, nl_rmul, nl_mm, pu_wi_1, pu_wi_2, bX11_giveFreshNumbers_2, bX11_giveFreshNumbers_82, bX11_giveFreshNumbers_76, bX11_giveFreshNumbers_50, a_ai, a_ald, a_cv, a_gi, a_gr, a_iceq, a_icge, a_ild, a_inc, a_vret, a_wi, fx_0_2 hx, fx_0_5 hx, fx_14_4 hx, fx_5_1 hx, fx_62_3 hx, fx_62_4 hx, fx_62_5 hx, sh_0, sh_14, sh_18, sh_5, sh_62, sh_63, sh_64, sh_65, pu_rv, pu_as, Value.category, pu_bk, pu_kl, pu_qe0, pu_qe1, n0, hc, i1, e1, n65]
      all_goals try simp [bX11_giveFreshNumbers_2, bX11_giveFreshNumbers_82, bX11_giveFreshNumbers_76, bX11_giveFreshNumbers_50, a_ai, a_ald, a_cv, a_gi, a_gr, a_iceq, a_icge, a_ild, a_inc, a_vret, a_wi, fx_0_2 hx, fx_0_5 hx, fx_14_4 hx, fx_5_1 hx, fx_62_3 hx, fx_62_4 hx, fx_62_5 hx, sh_0, sh_14, sh_18, sh_5, sh_62, sh_63, sh_64, sh_65, pu_rv, pu_as, Value.category, pu_bk, pu_kl, List.replicate, pu_wi_1, pu_wi_2, nl_add, nl_ladd, nl_aa, nl_mul, nl_rmul, nl_mm, pu_qe0, pu_qe1, n0, hc, i1, e1, n65]
      all_goals try simp (maxSteps := 400000) (disch := omega) [nl_tle, nl_fle, nl_tlt, nl_flt, nl_teq, nl_feq, nl_sub, nl_ss, nl_lt, nl_llt, nl_ltt, nl_le, nl_lle, nl_lee, nl_eq, nl_leq, nl_ee, nl_div, nl_rem, nl_cl, nl_n1, nl_n2, nl_n3, nl_n4, nl_add, nl_ladd, nl_aa, nl_mul, nl_rmul, nl_mm, pu_wi_1, pu_wi_2, bX11_giveFreshNumbers_2, bX11_giveFreshNumbers_82, bX11_giveFreshNumbers_76, bX11_giveFreshNumbers_50, a_ai, a_ald, a_cv, a_gi, a_gr, a_iceq, a_icge, a_ild, a_inc, a_vret, a_wi, fx_0_2 hx, fx_0_5 hx, fx_14_4 hx, fx_5_1 hx, fx_62_3 hx, fx_62_4 hx, fx_62_5 hx, sh_0, sh_14, sh_18, sh_5, sh_62, sh_63, sh_64, sh_65, pu_rv, pu_as, Value.category, pu_bk, pu_kl, pu_qe0, pu_qe1, n0, hc, i1, e1, n65]
      all_goals try simp [bX11_giveFreshNumbers_2, bX11_giveFreshNumbers_82, bX11_giveFreshNumbers_76, bX11_giveFreshNumbers_50, a_ai, a_ald, a_cv, a_gi, a_gr, a_iceq, a_icge, a_ild, a_inc, a_vret, a_wi, fx_0_2 hx, fx_0_5 hx, fx_14_4 hx, fx_5_1 hx, fx_62_3 hx, fx_62_4 hx, fx_62_5 hx, sh_0, sh_14, sh_18, sh_5, sh_62, sh_63, sh_64, sh_65, pu_rv, pu_as, Value.category, pu_bk, pu_kl, List.replicate, pu_wi_1, pu_wi_2, nl_add, nl_ladd, nl_aa, nl_mul, nl_rmul, nl_mm, pu_qe0, pu_qe1, n0, hc, i1, e1, n65]
    · rw [py_cnt_t (c := fun a => py_FW I st ru V a ≠ I 16 (V a)) ch] at ht
      have u3 : V i < 3000 := by omega
      obtain ⟨A, hA⟩ : ∃ A, pu_wi N 18 (V i) (nI P) = A := ⟨_, rfl⟩
      have Ao : ∀ x j, ¬ (x = 18 ∧ j = V i) → A.1 x j = N.1 x j := fun x j z => by rw [← hA, py_wi_o z]
      have A18 : A.1 18 (V i) = nI P := by rw [← hA]; simp [pu_wi_1]
      have hxA : pu_fx A := by rw [← hA]; exact hx
      have a14 : A.1 14 0 = nI (cU I + c) := by rw [Ao 14 0 (by omega)]; exact g3
      have eA := c_freshWhole (I := I) (V := V) (st := st) (ru := ru) hxA i1 (by rw [Ao 69 i (by omega)]; exact n69)
      have op := c_open hxA (cU I + c) a14 (by omega) (nI (pu_sl0 I (V i))) (py_FW I st ru V i) (nI P)
      obtain ⟨T, hT2⟩ : ∃ T, pz_on A (cU I + c) (nI (pu_sl0 I (V i))) (py_FW I st ru V i) (nI P) = T := ⟨_, rfl⟩
      have To : ∀ x j, ¬ (x = 14 ∧ j = 0) → ¬ (15 ≤ x ∧ x ≤ 18 ∧ j = cU I + c) → T.1 x j = A.1 x j := fun x j z1 z2 => by rw [← hT2]; exact pz_on_o z1 z2
      have Tv := pz_on_v (M := A) (n := cU I + c) (sl := nI (pu_sl0 I (V i))) (w := py_FW I st ru V i) (p := nI P)
      rw [hT2] at op Tv
      have nX : ∀ t, t < c → X t < i := fun t ht => (sl.1 t ht).1
      have nV : ∀ t, t < c → V (X t) ≠ V i := fun t ht e => by
        have := py_SL_i SLV (by have := nX t ht; omega) inn e
        have := nX t ht
        omega
      have cU' : ∀ t, t < c → V (X t) < cU I := fun t ht => (SLV.1 (X t) (by have := nX t ht; omega)).1
      have VX : ∀ t, t < c → pu_vi X c i t = X t := fun t ht => by unfold pu_vi; rw [if_pos ht]
      have VC : pu_vi X c i c = i := by unfold pu_vi; rw [if_neg (by omega), if_pos rfl]
      have gT : py_cG I V (py_FW I st ru V) P B T (pu_vi X c i) (c + 1) := by
        refine ⟨by rw [← hT2, ← g1, ← hA]; rfl, fun x j z1 z2 z3 => ?_, by rw [← Nat.add_assoc]; exact Tv.1, fun t ht2 => ?_, fun t ht2 => ?_⟩
        · rw [To x j z1 (by omega)]
          have nz : ¬ (x = 18 ∧ j = V i) := fun q => z3 ⟨q.1, c, by omega, by rw [VC]; exact q.2.symm⟩
          rw [Ao x j nz]
          exact g2 x j z1 z2 (fun q => z3 ⟨q.1, by
            obtain ⟨t, t1, t2⟩ := q.2
            exact ⟨t, by omega, by rw [VX t t1]; exact t2⟩⟩)
        · by_cases q : t = c
          · rw [q, VC]
            exact Tv.2
          · have tc : t < c := by omega
            rw [VX t tc, To 15 _ (by omega) (by omega), To 16 _ (by omega) (by omega), To 17 _ (by omega) (by omega), To 18 _ (by omega) (by omega), Ao 15 _ (by omega), Ao 16 _ (by omega), Ao 17 _ (by omega), Ao 18 _ (by omega)]
            exact g4 t tc
        · by_cases q : t = c
          · rw [q, VC, To 18 _ (by omega) (by omega)]
            exact A18
          · have tc : t < c := by omega
            have := cU' t tc
            rw [VX t tc, To 18 _ (by omega) (by omega), Ao 18 _ (fun z => nV t tc z.2)]
            exact g5 t tc
      obtain ⟨N1, X1, x1, x2, x3⟩ := c_gv_l hw vs hn SLV hxB v0 v63 v64 v65 f69 hT m (i + 1) T (pu_vi X c i) (c + 1) (by omega) (by omega) gT (py_SL_c (py_SL_add (k := i) sl (Nat.le_refl c) (fun j q1 q2 => by omega) (by
        by_cases z : c = 0
        · exact Or.inl z
        · exact Or.inr (nX (c - 1) (by omega)))) (fun a => ⟨fun z => by
        rcases z with z | z
        · exact ⟨by omega, z.2⟩
        · rw [z]; exact ⟨by omega, ch⟩, fun z => by
        by_cases q : a = i
        · exact Or.inr q
        · exact Or.inl ⟨by omega, z.2⟩⟩))
      refine ⟨N1, X1, x1, x2, ?_⟩
      rw [← x3]
      have g18 := fx_14_4 hx
      have a0 := fx_0_2 hxA
      have a5 := fx_5_1 hxA
      have a05 := fx_0_5 hxA
      have a64 := fx_62_4 hxA
      have A64 : A.1 64 i = nI (pu_sl0 I (V i)) := by rw [Ao 64 i (by omega)]; exact n64
      generalize py_FW I st ru V i = fv at *
      generalize I 16 (V i) = wv at *
      generalize pu_sl0 I (V i) = sv at *
      generalize V i = vi at *
      rw [qX11_giveFreshNumbers_2]
      simp [bX11_giveFreshNumbers_2, bX11_giveFreshNumbers_82, bX11_giveFreshNumbers_76, a_ai, a_ald, a_cv, a_gi, a_gr, a_iceq, a_icge, a_ild, a_inc, a_vret, fx_0_2 hx, fx_0_5 hx, fx_14_4 hx, fx_5_1 hx, fx_62_3 hx, fx_62_5 hx, sh_0, sh_14, sh_18, sh_5, sh_62, sh_63, sh_65, pu_rv, pu_as, Value.category, pu_bk, pu_kl, List.replicate, pu_wi_1, pu_wi_2, nl_add, nl_ladd, nl_aa, nl_mul, nl_rmul, nl_mm, pu_qe0, pu_qe1, n0, hc, i1, e1, n65, ch, n63]
      all_goals try simp (maxSteps := 400000) (disch := omega) [nl_tle, nl_fle, nl_tlt, nl_flt, nl_teq, nl_feq, nl_sub, nl_ss, nl_lt, nl_llt, nl_ltt, nl_le, nl_lle, nl_lee, nl_eq, nl_leq, nl_ee, nl_div, nl_rem, nl_cl, nl_n1, nl_n2, nl_n3, nl_n4, nl_add, nl_ladd, nl_aa, nl_mul, nl_rmul, nl_mm, pu_wi_1, pu_wi_2, bX11_giveFreshNumbers_2, bX11_giveFreshNumbers_82, bX11_giveFreshNumbers_76, a_ai, a_ald, a_cv, a_gi, a_gr, a_iceq, a_icge, a_ild, a_inc, a_vret, fx_0_2 hx, fx_0_5 hx, fx_14_4 hx, fx_5_1 hx, fx_62_3 hx, fx_62_5 hx, sh_0, sh_14, sh_18, sh_5, sh_62, sh_63, sh_65, pu_rv, pu_as, Value.category, pu_bk, pu_kl, pu_qe0, pu_qe1, n0, hc, i1, e1, n65, ch, n63]
      all_goals try simp [bX11_giveFreshNumbers_2, bX11_giveFreshNumbers_82, bX11_giveFreshNumbers_76, a_ai, a_ald, a_cv, a_gi, a_gr, a_iceq, a_icge, a_ild, a_inc, a_vret, fx_0_2 hx, fx_0_5 hx, fx_14_4 hx, fx_5_1 hx, fx_62_3 hx, fx_62_5 hx, sh_0, sh_14, sh_18, sh_5, sh_62, sh_63, sh_65, pu_rv, pu_as, Value.category, pu_bk, pu_kl, List.replicate, pu_wi_1, pu_wi_2, nl_add, nl_ladd, nl_aa, nl_mul, nl_rmul, nl_mm, pu_qe0, pu_qe1, n0, hc, i1, e1, n65, ch, n63]
      all_goals try simp (maxSteps := 400000) (disch := omega) [nl_tle, nl_fle, nl_tlt, nl_flt, nl_teq, nl_feq, nl_sub, nl_ss, nl_lt, nl_llt, nl_ltt, nl_le, nl_lle, nl_lee, nl_eq, nl_leq, nl_ee, nl_div, nl_rem, nl_cl, nl_n1, nl_n2, nl_n3, nl_n4, nl_add, nl_ladd, nl_aa, nl_mul, nl_rmul, nl_mm, pu_wi_1, pu_wi_2, bX11_giveFreshNumbers_2, bX11_giveFreshNumbers_82, bX11_giveFreshNumbers_76, a_ai, a_ald, a_cv, a_gi, a_gr, a_iceq, a_icge, a_ild, a_inc, a_vret, fx_0_2 hx, fx_0_5 hx, fx_14_4 hx, fx_5_1 hx, fx_62_3 hx, fx_62_5 hx, sh_0, sh_14, sh_18, sh_5, sh_62, sh_63, sh_65, pu_rv, pu_as, Value.category, pu_bk, pu_kl, pu_qe0, pu_qe1, n0, hc, i1, e1, n65, ch, n63]
      all_goals try simp [bX11_giveFreshNumbers_2, bX11_giveFreshNumbers_82, bX11_giveFreshNumbers_76, a_ai, a_ald, a_cv, a_gi, a_gr, a_iceq, a_icge, a_ild, a_inc, a_vret, fx_0_2 hx, fx_0_5 hx, fx_14_4 hx, fx_5_1 hx, fx_62_3 hx, fx_62_5 hx, sh_0, sh_14, sh_18, sh_5, sh_62, sh_63, sh_65, pu_rv, pu_as, Value.category, pu_bk, pu_kl, List.replicate, pu_wi_1, pu_wi_2, nl_add, nl_ladd, nl_aa, nl_mul, nl_rmul, nl_mm, pu_qe0, pu_qe1, n0, hc, i1, e1, n65, ch, n63]
      all_goals try simp (maxSteps := 400000) (disch := omega) [nl_tle, nl_fle, nl_tlt, nl_flt, nl_teq, nl_feq, nl_sub, nl_ss, nl_lt, nl_llt, nl_ltt, nl_le, nl_lle, nl_lee, nl_eq, nl_leq, nl_ee, nl_div, nl_rem, nl_cl, nl_n1, nl_n2, nl_n3, nl_n4, nl_add, nl_ladd, nl_aa, nl_mul, nl_rmul, nl_mm, pu_wi_1, pu_wi_2, bX11_giveFreshNumbers_2, bX11_giveFreshNumbers_82, bX11_giveFreshNumbers_76, a_ai, a_ald, a_cv, a_gi, a_gr, a_iceq, a_icge, a_ild, a_inc, a_vret, fx_0_2 hx, fx_0_5 hx, fx_14_4 hx, fx_5_1 hx, fx_62_3 hx, fx_62_5 hx, sh_0, sh_14, sh_18, sh_5, sh_62, sh_63, sh_65, pu_rv, pu_as, Value.category, pu_bk, pu_kl, pu_qe0, pu_qe1, n0, hc, i1, e1, n65, ch, n63]
      all_goals try simp [bX11_giveFreshNumbers_2, bX11_giveFreshNumbers_82, bX11_giveFreshNumbers_76, a_ai, a_ald, a_cv, a_gi, a_gr, a_iceq, a_icge, a_ild, a_inc, a_vret, fx_0_2 hx, fx_0_5 hx, fx_14_4 hx, fx_5_1 hx, fx_62_3 hx, fx_62_5 hx, sh_0, sh_14, sh_18, sh_5, sh_62, sh_63, sh_65, pu_rv, pu_as, Value.category, pu_bk, pu_kl, List.replicate, pu_wi_1, pu_wi_2, nl_add, nl_ladd, nl_aa, nl_mul, nl_rmul, nl_mm, pu_qe0, pu_qe1, n0, hc, i1, e1, n65, ch, n63]
      simp [bX11_giveFreshNumbers_50, bX11_giveFreshNumbers_76, a_ai, a_ald, a_cv, a_gr, a_ild, a_inc, a_wi, sh_0, sh_14, sh_5, sh_62, sh_64, pu_rv, pu_as, Value.category, pu_bk, pu_kl, List.replicate, pu_wi_1, pu_wi_2, nl_add, nl_ladd, nl_aa, nl_mul, nl_rmul, nl_mm, pu_qe0, pu_qe1, fx_0_2 hx, fx_5_1 hx, fx_0_5 hx, fx_62_4 hx, n64, sh_18, sh_0, sh_5, sh_14, sh_62, sh_64, u3, hA, a0, a5, a05, a64, i1, A64, eA, op]
      all_goals try simp (maxSteps := 400000) (disch := omega) [nl_tle, nl_fle, nl_tlt, nl_flt, nl_teq, nl_feq, nl_sub, nl_ss, nl_lt, nl_llt, nl_ltt, nl_le, nl_lle, nl_lee, nl_eq, nl_leq, nl_ee, nl_div, nl_rem, nl_cl, nl_n1, nl_n2, nl_n3, nl_n4, nl_add, nl_ladd, nl_aa, nl_mul, nl_rmul, nl_mm, pu_wi_1, pu_wi_2, bX11_giveFreshNumbers_50, bX11_giveFreshNumbers_76, a_ai, a_ald, a_cv, a_gr, a_ild, a_inc, a_wi, sh_0, sh_14, sh_5, sh_62, sh_64, pu_rv, pu_as, Value.category, pu_bk, pu_kl, pu_qe0, pu_qe1, fx_0_2 hx, fx_5_1 hx, fx_0_5 hx, fx_62_4 hx, n64, sh_18, sh_0, sh_5, sh_14, sh_62, sh_64, u3, hA, a0, a5, a05, a64, i1, A64, eA, op]
      all_goals try simp [bX11_giveFreshNumbers_50, bX11_giveFreshNumbers_76, a_ai, a_ald, a_cv, a_gr, a_ild, a_inc, a_wi, sh_0, sh_14, sh_5, sh_62, sh_64, pu_rv, pu_as, Value.category, pu_bk, pu_kl, List.replicate, pu_wi_1, pu_wi_2, nl_add, nl_ladd, nl_aa, nl_mul, nl_rmul, nl_mm, pu_qe0, pu_qe1, fx_0_2 hx, fx_5_1 hx, fx_0_5 hx, fx_62_4 hx, n64, sh_18, sh_0, sh_5, sh_14, sh_62, sh_64, u3, hA, a0, a5, a05, a64, i1, A64, eA, op]
      all_goals try simp (maxSteps := 400000) (disch := omega) [nl_tle, nl_fle, nl_tlt, nl_flt, nl_teq, nl_feq, nl_sub, nl_ss, nl_lt, nl_llt, nl_ltt, nl_le, nl_lle, nl_lee, nl_eq, nl_leq, nl_ee, nl_div, nl_rem, nl_cl, nl_n1, nl_n2, nl_n3, nl_n4, nl_add, nl_ladd, nl_aa, nl_mul, nl_rmul, nl_mm, pu_wi_1, pu_wi_2, bX11_giveFreshNumbers_50, bX11_giveFreshNumbers_76, a_ai, a_ald, a_cv, a_gr, a_ild, a_inc, a_wi, sh_0, sh_14, sh_5, sh_62, sh_64, pu_rv, pu_as, Value.category, pu_bk, pu_kl, pu_qe0, pu_qe1, fx_0_2 hx, fx_5_1 hx, fx_0_5 hx, fx_62_4 hx, n64, sh_18, sh_0, sh_5, sh_14, sh_62, sh_64, u3, hA, a0, a5, a05, a64, i1, A64, eA, op]
      all_goals try simp [bX11_giveFreshNumbers_50, bX11_giveFreshNumbers_76, a_ai, a_ald, a_cv, a_gr, a_ild, a_inc, a_wi, sh_0, sh_14, sh_5, sh_62, sh_64, pu_rv, pu_as, Value.category, pu_bk, pu_kl, List.replicate, pu_wi_1, pu_wi_2, nl_add, nl_ladd, nl_aa, nl_mul, nl_rmul, nl_mm, pu_qe0, pu_qe1, fx_0_2 hx, fx_5_1 hx, fx_0_5 hx, fx_62_4 hx, n64, sh_18, sh_0, sh_5, sh_14, sh_62, sh_64, u3, hA, a0, a5, a05, a64, i1, A64, eA, op]
      all_goals try simp (maxSteps := 400000) (disch := omega) [nl_tle, nl_fle, nl_tlt, nl_flt, nl_teq, nl_feq, nl_sub, nl_ss, nl_lt, nl_llt, nl_ltt, nl_le, nl_lle, nl_lee, nl_eq, nl_leq, nl_ee, nl_div, nl_rem, nl_cl, nl_n1, nl_n2, nl_n3, nl_n4, nl_add, nl_ladd, nl_aa, nl_mul, nl_rmul, nl_mm, pu_wi_1, pu_wi_2, bX11_giveFreshNumbers_50, bX11_giveFreshNumbers_76, a_ai, a_ald, a_cv, a_gr, a_ild, a_inc, a_wi, sh_0, sh_14, sh_5, sh_62, sh_64, pu_rv, pu_as, Value.category, pu_bk, pu_kl, pu_qe0, pu_qe1, fx_0_2 hx, fx_5_1 hx, fx_0_5 hx, fx_62_4 hx, n64, sh_18, sh_0, sh_5, sh_14, sh_62, sh_64, u3, hA, a0, a5, a05, a64, i1, A64, eA, op]
      all_goals try simp [bX11_giveFreshNumbers_50, bX11_giveFreshNumbers_76, a_ai, a_ald, a_cv, a_gr, a_ild, a_inc, a_wi, sh_0, sh_14, sh_5, sh_62, sh_64, pu_rv, pu_as, Value.category, pu_bk, pu_kl, List.replicate, pu_wi_1, pu_wi_2, nl_add, nl_ladd, nl_aa, nl_mul, nl_rmul, nl_mm, pu_qe0, pu_qe1, fx_0_2 hx, fx_5_1 hx, fx_0_5 hx, fx_62_4 hx, n64, sh_18, sh_0, sh_5, sh_14, sh_62, sh_64, u3, hA, a0, a5, a05, a64, i1, A64, eA, op]
end
