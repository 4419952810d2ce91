/-! means: the class's run, the reference's run -/
section
variable {I K : Nat → Nat → Int32} {L : Nat → Nat → Int64}
theorem py_dk_ss {nm tw : Nat → Int64} {y : Int32} : py_ss (pu_dk I K) L nm tw y = py_ss I L nm tw y := rfl
theorem py_dk_u1 {s : Int32} {w : Nat} {y : Int32} : py_u1 (pu_dk I K) s w y = py_u1 I s w y := rfl
theorem py_dk_sv {nm tw : Nat → Int64} {w x k : Nat} {y : Int32} : py_sv (pu_dk I K) L nm tw w x k y = py_sv I L nm tw w x k y := rfl
theorem py_dk_gp {st k : Nat} {y : Int32} : py_gp (pu_dk I K) st y k = py_gp I st y k := rfl
theorem py_dk_ky {st : Nat} {y : Int32} : py_ky (pu_dk I K) st y = py_ky I st y := rfl
theorem py_dk_ls {st w i k : Nat} {y : Int32} : py_ls (pu_dk I K) st w y i k = py_ls I st w y i k := rfl
end
/-- what the found doors are: c of them, by doors E and signs G -/
def py_CS (I : Nat → Nat → Int32) (L : Nat → Nat → Int64) (nm tw : Nat → Int64) (w x k : Nat) (y : Int32) (c : Nat) (E G : Nat → Int32) : Prop := (py_ss I L nm tw y = -1 ∧ c = 0) ∨ (py_ss I L nm tw y ≠ -1 ∧ py_u1 I (py_ss I L nm tw y) w y ≠ -1 ∧ ((py_sv I L nm tw w x k y = -1 ∧ c = 0) ∨ (py_sv I L nm tw w x k y ≠ -1 ∧ c = 1 ∧ E 0 = py_sv I L nm tw w x k y ∧ G 0 = 1))) ∨ (∃ st, st < cK I ∧ py_ss I L nm tw y = nI st ∧ py_u1 I (nI st) w y = -1 ∧ ∃ W : Nat → Nat, (∀ j, j < c → E j = py_td I x k (pu_sl0 I (W j) / 2) y ∧ G j = 0) ∧ py_SL (py_ky I st y) (fun l => py_ls I st w y (cU I) l ∧ py_td I x k (pu_sl0 I l / 2) y ≠ -1) W c)
theorem py_CS_un {I : Nat → Nat → Int32} {L : Nat → Nat → Int64} (hw : pu_WF I L) {nm tw : Nat → Int64} {w x k : Nat} {y : Int32} {c d : Nat} {E G E' G' : Nat → Int32} (h : py_CS I L nm tw w x k y c E G) (g : py_CS I L nm tw w x k y d E' G') : c = d ∧ ∀ j, j < c → E j = E' j ∧ G j = G' j := by
  have bK := wx_bK hw
  rcases h with ⟨a, b⟩ | ⟨a, b, h⟩ | ⟨st, s1, s2, s3, W, w1, w2⟩
  · rcases g with ⟨a', b'⟩ | ⟨a', _⟩ | ⟨st', s1', s2', _⟩
    · exact ⟨by omega, fun j hj => by omega⟩
    · exact absurd a a'
    · rw [a] at s2'
      have := nl_n1 st' (by omega)
      rw [← s2'] at this
      exact (this.mp rfl).elim
  · rcases g with ⟨a', _⟩ | ⟨a', b', g⟩ | ⟨st', s1', s2', s3', _⟩
    · exact absurd a' a
    · rcases h with ⟨h1, h2⟩ | ⟨h1, h2, h3, h4⟩
      · rcases g with ⟨g1, g2⟩ | ⟨g1, _⟩
        · exact ⟨by omega, fun j hj => by omega⟩
        · exact absurd h1 g1
      · rcases g with ⟨g1, _⟩ | ⟨g1, g2, g3, g4⟩
        · exact absurd g1 h1
        · refine ⟨by omega, fun j hj => ?_⟩
          have j0 : j = 0 := by omega
          rw [j0, h3, g3, h4, g4]
          exact ⟨rfl, rfl⟩
    · rw [s2'] at b
      exact absurd s3' b
  · rcases g with ⟨a', _⟩ | ⟨a', b', _⟩ | ⟨st', s1', s2', s3', W', w1', w2'⟩
    · rw [a'] at s2
      have := nl_n1 st (by omega)
      rw [← s2] at this
      exact (this.mp rfl).elim
    · rw [s2] at b'
      exact absurd s3 b'
    · have e : st = st' := by
        rw [s2] at s2'
        exact (nI_eq (by omega) (by omega)).mp s2'
      rw [← e] at w2'
      obtain ⟨u1, u2⟩ := py_SL_un w2 w2'
      refine ⟨u1, fun j hj => ?_⟩
      rw [(w1 j hj).1, (w1 j hj).2, (w1' j (by omega)).1, (w1' j (by omega)).2, u2 j hj]
      exact ⟨rfl, rfl⟩
section
variable {N : pu_M} {I : Nat → Nat → Int32} {L : Nat → Nat → Int64}
set_option maxRecDepth 8000 in
theorem c_means (hx : pu_fx N) (hI : pu_ag N I) (hL : pu_al N L) (hw : pu_WF I L) {nm tw : Nat → Int64} (hnm : ∀ k, k < 3 → N.2.1 60 k = nm k) (htw : ∀ k, k < 3 → N.2.1 61 k = tw k) {w x k : Nat} (hw0 : 0 < w) (hwl : w < 160000) (hxl : x < 5) (hk : k < 100) (h2 : N.1 59 2 = nI w) (h3 : N.1 59 3 = (if x = 0 then -1 else nI x)) (h4 : N.1 59 4 = nI k) (y : Int32) (hy : ¬ y < 0 ∧ ¬ 109574 < y) (t2 : Option Value) : ∃ Q c, c ≤ 100 ∧ Q.2 = N.2 ∧ (∀ a j, ¬ (46 ≤ a ∧ a ≤ 48) → ¬ (a = 45 ∧ j = 2) → ¬ (62 ≤ a ∧ a ≤ 68) → Q.1 a j = N.1 a j) ∧ Q.1 45 2 = nI c ∧ py_CS I L nm tw w x k y c (Q.1 46) (Q.1 47) ∧ kX11_means_17 pu_r [some (.ref 0), some (.int y), t2] [] N = some (some (.int (nI c)), Q) := by
  have bK := wx_bK hw
  have bU := wx_bU hw
  have bD := wx_bD hw
  obtain ⟨A, hA⟩ : ∃ A, pu_wi N 45 2 0 = A := ⟨_, rfl⟩
  have A2 : A.2 = N.2 := by rw [← hA]; rfl
  have Ao : ∀ a j, ¬ (a = 45 ∧ j = 2) → A.1 a j = N.1 a j := fun a j z => by rw [← hA, py_wi_o z]
  have A45 : A.1 45 2 = nI 0 := by rw [← hA]; simp [pu_wi_1]; rfl
  have fA : py_fq N A := ⟨A2, fun c j _ z => Ao c j z⟩
  have hxA : pu_fx A := pz_fx_of hx A2
  obtain ⟨wd, agJ⟩ := py_wdk hw hI fA (show 0 ≤ 100 by omega) A45
  have WJ := WF_desk hw wd
  have hLA : pu_al A L := fun a j q1 q2 => by rw [A2]; exact hL a j q1 q2
  have f02 := fx_0_2 hx
  have f56 := fx_5_6 hx
  rcases c_view hxA agJ hLA WJ nm tw (fun k hk => by rw [A2]; exact hnm k hk) (fun k hk => by rw [A2]; exact htw k hk) y hy with ⟨q, e⟩ | ⟨st, V, n, P, s1, s2, n1, g1, g2, g3, g4, g5, e⟩
  · refine ⟨A, 0, by omega, A2, fun a j _ z _ => Ao a j z, A45, Or.inl ⟨(q :), rfl⟩, ?_⟩
    rw [nI_0]
    simp [bX11_means_17, bX11_means_38, bX11_means_66, bX11_means_84, a_ai, a_ald, a_cv, a_gi, a_gr, a_icne, a_idiv, a_ifne, a_ild, a_iret, a_ist, a_pi, a_push, sh_0, sh_45, sh_5, sh_59, sh_62, sh_64, pu_rv, pu_as, Value.category, pu_bk, pu_kl, List.replicate, pu_wi_1, pu_wi_2, nl_add, nl_ladd, nl_aa, nl_mul, nl_rmul, nl_mm, pu_qe0, pu_qe1, f02, f56, hA, e]
    all_goals try simp (maxSteps := 400000) (disch := omega) [nl_tle, nl_fle, nl_tlt, nl_flt, nl_teq, nl_feq, nl_sub, nl_ss, nl_lt, nl_llt, nl_ltt, nl_le, nl_lle, nl_lee, nl_eq, nl_leq, nl_ee, nl_div, nl_rem, nl_cl, nl_n1, nl_n2, nl_n3, nl_n4, nl_add, nl_ladd, nl_aa, nl_mul, nl_rmul, nl_mm, pu_wi_1, pu_wi_2, bX11_means_17, bX11_means_38, bX11_means_66, bX11_means_84, a_ai, a_ald, a_cv, a_gi, a_gr, a_icne, a_idiv, a_ifne, a_ild, a_iret, a_ist, a_pi, a_push, sh_0, sh_45, sh_5, sh_59, sh_62, sh_64, pu_rv, pu_as, Value.category, pu_bk, pu_kl, pu_qe0, pu_qe1, f02, f56, hA, e]
    all_goals try simp [bX11_means_17, bX11_means_38, bX11_means_66, bX11_means_84, a_ai, a_ald, a_cv, a_gi, a_gr, a_icne, a_idiv, a_ifne, a_ild, a_iret, a_ist, a_pi, a_push, sh_0, sh_45, sh_5, sh_59, sh_62, sh_64, pu_rv, pu_as, Value.category, pu_bk, pu_kl, List.replicate, pu_wi_1, pu_wi_2, nl_add, nl_ladd, nl_aa, nl_mul, nl_rmul, nl_mm, pu_qe0, pu_qe1, f02, f56, hA, e]
    all_goals try simp (maxSteps := 400000) (disch := omega) [nl_tle, nl_fle, nl_tlt, nl_flt, nl_teq, nl_feq, nl_sub, nl_ss, nl_lt, nl_llt, nl_ltt, nl_le, nl_lle, nl_lee, nl_eq, nl_leq, nl_ee, nl_div, nl_rem, nl_cl, nl_n1, nl_n2, nl_n3, nl_n4, nl_add, nl_ladd, nl_aa, nl_mul, nl_rmul, nl_mm, pu_wi_1, pu_wi_2, bX11_means_17, bX11_means_38, bX11_means_66, bX11_means_84, a_ai, a_ald, a_cv, a_gi, a_gr, a_icne, a_idiv, a_ifne, a_ild, a_iret, a_ist, a_pi, a_push, sh_0, sh_45, sh_5, sh_59, sh_62, sh_64, pu_rv, pu_as, Value.category, pu_bk, pu_kl, pu_qe0, pu_qe1, f02, f56, hA, e]
    all_goals try simp [bX11_means_17, bX11_means_38, bX11_means_66, bX11_means_84, a_ai, a_ald, a_cv, a_gi, a_gr, a_icne, a_idiv, a_ifne, a_ild, a_iret, a_ist, a_pi, a_push, sh_0, sh_45, sh_5, sh_59, sh_62, sh_64, pu_rv, pu_as, Value.category, pu_bk, pu_kl, List.replicate, pu_wi_1, pu_wi_2, nl_add, nl_ladd, nl_aa, nl_mul, nl_rmul, nl_mm, pu_qe0, pu_qe1, f02, f56, hA, e]
    all_goals try simp (maxSteps := 400000) (disch := omega) [nl_tle, nl_fle, nl_tlt, nl_flt, nl_teq, nl_feq, nl_sub, nl_ss, nl_lt, nl_llt, nl_ltt, nl_le, nl_lle, nl_lee, nl_eq, nl_leq, nl_ee, nl_div, nl_rem, nl_cl, nl_n1, nl_n2, nl_n3, nl_n4, nl_add, nl_ladd, nl_aa, nl_mul, nl_rmul, nl_mm, pu_wi_1, pu_wi_2, bX11_means_17, bX11_means_38, bX11_means_66, bX11_means_84, a_ai, a_ald, a_cv, a_gi, a_gr, a_icne, a_idiv, a_ifne, a_ild, a_iret, a_ist, a_pi, a_push, sh_0, sh_45, sh_5, sh_59, sh_62, sh_64, pu_rv, pu_as, Value.category, pu_bk, pu_kl, pu_qe0, pu_qe1, f02, f56, hA, e]
    all_goals try simp [bX11_means_17, bX11_means_38, bX11_means_66, bX11_means_84, a_ai, a_ald, a_cv, a_gi, a_gr, a_icne, a_idiv, a_ifne, a_ild, a_iret, a_ist, a_pi, a_push, sh_0, sh_45, sh_5, sh_59, sh_62, sh_64, pu_rv, pu_as, Value.category, pu_bk, pu_kl, List.replicate, pu_wi_1, pu_wi_2, nl_add, nl_ladd, nl_aa, nl_mul, nl_rmul, nl_mm, pu_qe0, pu_qe1, f02, f56, hA, e]
  -- the view
  have s1' : st < cK I := s1
  have hxP : pu_fx P := pz_fx_of hxA g1.1
  have agP : pu_ag P (pu_dk I A.1) := fun a j q1 q2 => by rw [g1.2 a j (by omega)]; exact agJ a j q1 q2
  have vd : py_vd P (pu_dk I A.1) st y (if I 27 st = 1 then 0 else 3) V n := ⟨n1, g2, g3, g4, g5, rfl, by omega⟩
  have P2 : P.1 59 2 = nI w := by rw [g1.2 59 2 (by omega), Ao 59 2 (by omega)]; exact h2
  have P3 : P.1 59 3 = (if x = 0 then -1 else nI x) := by rw [g1.2 59 3 (by omega), Ao 59 3 (by omega)]; exact h3
  have P4 : P.1 59 4 = nI k := by rw [g1.2 59 4 (by omega), Ao 59 4 (by omega)]; exact h4
  have P45 : P.1 45 2 = nI 0 := by rw [g1.2 45 2 (by omega)]; exact A45
  have PN : ∀ a j, ¬ (a = 45 ∧ j = 2) → ¬ (62 ≤ a ∧ a ≤ 68) → P.1 a j = N.1 a j := fun a j z1 z2 => by rw [g1.2 a j z2, Ao a j z1]
  have PN2 : P.2 = N.2 := by rw [g1.1, A2]
  have ei := c_indexOf hxP g4.1 n1 (nI w)
  have ss : py_ss I L nm tw y = nI st := s2
  have ssn : ¬ nI st = -1 := fun z => by rw [nl_n1 _ (by omega)] at z; exact z
  have v65 : ∀ a, a < n → P.1 65 a = I 16 (V a) := fun a ha => g4.2 65 a (by omega) (by omega) ha
  have v64 : ∀ a, a < n → P.1 64 a = I 15 (V a) := fun a ha => g4.2 64 a (by omega) (by omega) ha
  have f05 := fx_0_5 hxA
  have p05 := fx_0_5 hxP
  have p04 := fx_0_4 hxP
  have p64 := fx_62_4 hxP
  have p02 := fx_0_2 hxP
  have p56 := fx_5_6 hxP
  have cfI : ∀ l, l < cU I → (pu_cf I st y l ↔ (I 39 (pu_sl0 I l) = nI st ∧ pu_sh1 I y l)) := fun l _ => py_cf_sh hy.1 l
  rcases pu_f1_spec (fun a => P.1 65 a = nI w) n 0 with ⟨q, q2⟩ | ⟨a, _, ha, q, q2, _⟩
  · -- likely doors
    rw [q] at ei
    have no : py_u1 I (nI st) w y = -1 := by
      unfold py_u1
      rcases pu_f1_spec (py_uN I (nI st) w y) (cU I) 0 with ⟨r, _⟩ | ⟨l, _, hl, r, r2, _⟩
      · exact r
      · obtain ⟨a, a1, a2⟩ := g5.2.1 l (show l < cU I by omega) ((cfI l (by omega)).mpr ⟨r2.2.1, r2.2.2⟩)
        exact absurd (by rw [v65 a a1, a2]; exact r2.1) (q2 a (by omega) (by omega))
    obtain ⟨Q, W, c, c1, c2, c3, c4, c5, c6⟩ := c_fl_l WJ agP hxP hy.1 vd (w := w) (x := x) (kk := k) hwl hxl hk P2 P3 P4 n 0 P (fun _ => 0) 0 (by omega) (by omega) (py_fq_r P) P45 (fun j hj => by omega) ⟨fun a ha => by omega, fun l hl => by obtain ⟨a, a1, _⟩ := hl; omega, fun a b _ hb => by omega⟩
    rw [nI_0] at c6
    have hxQ : pu_fx Q := pz_fx_of hxP c2.1
    have q02 := fx_0_2 hxQ
    have q56 := fx_5_6 hxQ
    refine ⟨Q, c, by omega, by rw [c2.1, PN2], fun a j z1 z2 z3 => by rw [c2.2 a j z1 z2, PN a j z2 z3], c3, Or.inr (Or.inr ⟨st, s1', ss, no, W, fun j hj => ⟨(c4 j hj).1, (c4 j hj).2.1⟩, ?_⟩), ?_⟩
    · refine py_SL_c (show py_SL (py_ky I st y) (py_fs I st w y V (fun l => py_td I x k (pu_sl0 I l / 2) y) n) W c from c5) (fun l => ?_)
      constructor
      · rintro ⟨a, a1, a2, a3, a4, a5⟩
        have va := g5.1 a a1
        rw [← a2] at a3 a4 a5 ⊢
        exact ⟨⟨va.1, a3, (cfI _ va.1).mp va.2, a4⟩, a5⟩
      · rintro ⟨⟨l1, l2, l3, l4⟩, l5⟩
        obtain ⟨a, a1, a2⟩ := g5.2.1 l l1 ((cfI l l1).mpr l3)
        exact ⟨a, a1, a2, l2, l4, l5⟩
    · have fl : pu_r 182 [some (.ref 0), some (.int y)] [] P = some (none, Q) := by
        rw [qX11_findLikely]
        simp [a_ent, bX11_findLikely_0, a_ist, a_push, pu_rv, pu_as, Value.category, pu_bk, pu_kl, List.replicate, pu_wi_1, pu_wi_2, nl_add, nl_ladd, nl_aa, nl_mul, nl_rmul, nl_mm, pu_qe0, pu_qe1, c6]
        all_goals try simp (maxSteps := 400000) (disch := omega) [nl_tle, nl_fle, nl_tlt, nl_flt, nl_teq, nl_feq, nl_sub, nl_ss, nl_lt, nl_llt, nl_ltt, nl_le, nl_lle, nl_lee, nl_eq, nl_leq, nl_ee, nl_div, nl_rem, nl_cl, nl_n1, nl_n2, nl_n3, nl_n4, nl_add, nl_ladd, nl_aa, nl_mul, nl_rmul, nl_mm, pu_wi_1, pu_wi_2, bX11_findLikely_0, a_ist, a_push, pu_rv, pu_as, Value.category, pu_bk, pu_kl, pu_qe0, pu_qe1, c6]
        all_goals try simp [bX11_findLikely_0, a_ist, a_push, pu_rv, pu_as, Value.category, pu_bk, pu_kl, List.replicate, pu_wi_1, pu_wi_2, nl_add, nl_ladd, nl_aa, nl_mul, nl_rmul, nl_mm, pu_qe0, pu_qe1, c6]
        all_goals try simp (maxSteps := 400000) (disch := omega) [nl_tle, nl_fle, nl_tlt, nl_flt, nl_teq, nl_feq, nl_sub, nl_ss, nl_lt, nl_llt, nl_ltt, nl_le, nl_lle, nl_lee, nl_eq, nl_leq, nl_ee, nl_div, nl_rem, nl_cl, nl_n1, nl_n2, nl_n3, nl_n4, nl_add, nl_ladd, nl_aa, nl_mul, nl_rmul, nl_mm, pu_wi_1, pu_wi_2, bX11_findLikely_0, a_ist, a_push, pu_rv, pu_as, Value.category, pu_bk, pu_kl, pu_qe0, pu_qe1, c6]
        all_goals try simp [bX11_findLikely_0, a_ist, a_push, pu_rv, pu_as, Value.category, pu_bk, pu_kl, List.replicate, pu_wi_1, pu_wi_2, nl_add, nl_ladd, nl_aa, nl_mul, nl_rmul, nl_mm, pu_qe0, pu_qe1, c6]
        all_goals try simp (maxSteps := 400000) (disch := omega) [nl_tle, nl_fle, nl_tlt, nl_flt, nl_teq, nl_feq, nl_sub, nl_ss, nl_lt, nl_llt, nl_ltt, nl_le, nl_lle, nl_lee, nl_eq, nl_leq, nl_ee, nl_div, nl_rem, nl_cl, nl_n1, nl_n2, nl_n3, nl_n4, nl_add, nl_ladd, nl_aa, nl_mul, nl_rmul, nl_mm, pu_wi_1, pu_wi_2, bX11_findLikely_0, a_ist, a_push, pu_rv, pu_as, Value.category, pu_bk, pu_kl, pu_qe0, pu_qe1, c6]
        all_goals try simp [bX11_findLikely_0, a_ist, a_push, pu_rv, pu_as, Value.category, pu_bk, pu_kl, List.replicate, pu_wi_1, pu_wi_2, nl_add, nl_ladd, nl_aa, nl_mul, nl_rmul, nl_mm, pu_qe0, pu_qe1, c6]
      simp [bX11_means_17, bX11_means_38, bX11_means_66, bX11_means_84, a_ai, a_ald, a_cv, a_gi, a_gr, a_icne, a_idiv, a_ifne, a_ild, a_iret, a_ist, a_pi, a_push, sh_0, sh_45, sh_5, sh_59, sh_62, sh_64, pu_rv, pu_as, Value.category, pu_bk, pu_kl, List.replicate, pu_wi_1, pu_wi_2, nl_add, nl_ladd, nl_aa, nl_mul, nl_rmul, nl_mm, pu_qe0, pu_qe1, f02, f56, hA, e, p05, p04, P2, ei, fl, q02, q56, c3]
      all_goals try simp (maxSteps := 400000) (disch := omega) [nl_tle, nl_fle, nl_tlt, nl_flt, nl_teq, nl_feq, nl_sub, nl_ss, nl_lt, nl_llt, nl_ltt, nl_le, nl_lle, nl_lee, nl_eq, nl_leq, nl_ee, nl_div, nl_rem, nl_cl, nl_n1, nl_n2, nl_n3, nl_n4, nl_add, nl_ladd, nl_aa, nl_mul, nl_rmul, nl_mm, pu_wi_1, pu_wi_2, bX11_means_17, bX11_means_38, bX11_means_66, bX11_means_84, a_ai, a_ald, a_cv, a_gi, a_gr, a_icne, a_idiv, a_ifne, a_ild, a_iret, a_ist, a_pi, a_push, sh_0, sh_45, sh_5, sh_59, sh_62, sh_64, pu_rv, pu_as, Value.category, pu_bk, pu_kl, pu_qe0, pu_qe1, f02, f56, hA, e, p05, p04, P2, ei, fl, q02, q56, c3]
      all_goals try simp [bX11_means_17, bX11_means_38, bX11_means_66, bX11_means_84, a_ai, a_ald, a_cv, a_gi, a_gr, a_icne, a_idiv, a_ifne, a_ild, a_iret, a_ist, a_pi, a_push, sh_0, sh_45, sh_5, sh_59, sh_62, sh_64, pu_rv, pu_as, Value.category, pu_bk, pu_kl, List.replicate, pu_wi_1, pu_wi_2, nl_add, nl_ladd, nl_aa, nl_mul, nl_rmul, nl_mm, pu_qe0, pu_qe1, f02, f56, hA, e, p05, p04, P2, ei, fl, q02, q56, c3]
      all_goals try simp (maxSteps := 400000) (disch := omega) [nl_tle, nl_fle, nl_tlt, nl_flt, nl_teq, nl_feq, nl_sub, nl_ss, nl_lt, nl_llt, nl_ltt, nl_le, nl_lle, nl_lee, nl_eq, nl_leq, nl_ee, nl_div, nl_rem, nl_cl, nl_n1, nl_n2, nl_n3, nl_n4, nl_add, nl_ladd, nl_aa, nl_mul, nl_rmul, nl_mm, pu_wi_1, pu_wi_2, bX11_means_17, bX11_means_38, bX11_means_66, bX11_means_84, a_ai, a_ald, a_cv, a_gi, a_gr, a_icne, a_idiv, a_ifne, a_ild, a_iret, a_ist, a_pi, a_push, sh_0, sh_45, sh_5, sh_59, sh_62, sh_64, pu_rv, pu_as, Value.category, pu_bk, pu_kl, pu_qe0, pu_qe1, f02, f56, hA, e, p05, p04, P2, ei, fl, q02, q56, c3]
      all_goals try simp [bX11_means_17, bX11_means_38, bX11_means_66, bX11_means_84, a_ai, a_ald, a_cv, a_gi, a_gr, a_icne, a_idiv, a_ifne, a_ild, a_iret, a_ist, a_pi, a_push, sh_0, sh_45, sh_5, sh_59, sh_62, sh_64, pu_rv, pu_as, Value.category, pu_bk, pu_kl, List.replicate, pu_wi_1, pu_wi_2, nl_add, nl_ladd, nl_aa, nl_mul, nl_rmul, nl_mm, pu_qe0, pu_qe1, f02, f56, hA, e, p05, p04, P2, ei, fl, q02, q56, c3]
      all_goals try simp (maxSteps := 400000) (disch := omega) [nl_tle, nl_fle, nl_tlt, nl_flt, nl_teq, nl_feq, nl_sub, nl_ss, nl_lt, nl_llt, nl_ltt, nl_le, nl_lle, nl_lee, nl_eq, nl_leq, nl_ee, nl_div, nl_rem, nl_cl, nl_n1, nl_n2, nl_n3, nl_n4, nl_add, nl_ladd, nl_aa, nl_mul, nl_rmul, nl_mm, pu_wi_1, pu_wi_2, bX11_means_17, bX11_means_38, bX11_means_66, bX11_means_84, a_ai, a_ald, a_cv, a_gi, a_gr, a_icne, a_idiv, a_ifne, a_ild, a_iret, a_ist, a_pi, a_push, sh_0, sh_45, sh_5, sh_59, sh_62, sh_64, pu_rv, pu_as, Value.category, pu_bk, pu_kl, pu_qe0, pu_qe1, f02, f56, hA, e, p05, p04, P2, ei, fl, q02, q56, c3]
      all_goals try simp [bX11_means_17, bX11_means_38, bX11_means_66, bX11_means_84, a_ai, a_ald, a_cv, a_gi, a_gr, a_icne, a_idiv, a_ifne, a_ild, a_iret, a_ist, a_pi, a_push, sh_0, sh_45, sh_5, sh_59, sh_62, sh_64, pu_rv, pu_as, Value.category, pu_bk, pu_kl, List.replicate, pu_wi_1, pu_wi_2, nl_add, nl_ladd, nl_aa, nl_mul, nl_rmul, nl_mm, pu_qe0, pu_qe1, f02, f56, hA, e, p05, p04, P2, ei, fl, q02, q56, c3]
  · -- the number is there
    rw [q] at ei
    have an : a < n := by omega
    have a100 : a < 100 := by omega
    have va := g5.1 a an
    have vU : V a < cU I := va.1
    have cf := (cfI (V a) vU).mp va.2
    have un : py_uN I (nI st) w y (V a) := ⟨by rw [← v65 a an]; exact q2, cf.1, cf.2⟩
    have f1 : py_u1 I (nI st) w y = nI (V a) := by
      unfold py_u1
      rcases pu_f1_spec (py_uN I (nI st) w y) (cU I) 0 with ⟨_, r⟩ | ⟨l, _, hl, r, r2, _⟩
      · exact absurd un (r (V a) (by omega) (by omega))
      · rw [r, py_uN_u hw s1' hw0 (by omega) (by omega) vU r2 un]
    have nn : ¬ nI (V a) = -1 := fun z => by rw [nl_n1 _ (by omega)] at z; exact z
    have na : ¬ nI a = -1 := fun z => by rw [nl_n1 _ (by omega)] at z; exact z
    have sl := pu_sl_lt hw vU
    have sv : py_sv I L nm tw w x k y = py_td I x k (pu_sl0 I (V a) / 2) y := by
      unfold py_sv
      rw [ss, if_neg ssn, f1, if_neg nn, nl_cl _ (by omega)]
    have td : pu_r 179 [some (.ref 0), some (.int (nI (pu_sl0 I (V a) / 2))), some (.int y)] [] P = some (some (.int (py_td I x k (pu_sl0 I (V a) / 2) y)), P) := c_toldOf hxP agP WJ hxl hk P3 P4 (pu_sl0 I (V a) / 2) (by omega) y
    rw [← sv] at td
    have s64 : P.1 64 a = nI (pu_sl0 I (V a)) := by rw [v64 a an]; exact sl.2
    have slB : pu_sl0 I (V a) < 200 := by omega
    by_cases c0 : py_sv I L nm tw w x k y = -1
    · have fo := c_findOne hxP (sv := 1) (rk := 0) td P (fun _ => rfl) (fun z => absurd c0 z)
      refine ⟨P, 0, by omega, PN2, fun a j _ z2 z3 => PN a j z2 z3, P45, Or.inr (Or.inl ⟨by rw [ss]; exact ssn, by rw [ss, f1]; exact nn, Or.inl ⟨c0, rfl⟩⟩), ?_⟩
      rw [nI_0] at P45 ⊢
      generalize pu_sl0 I (V a) = sv2 at *
      simp [bX11_means_17, bX11_means_38, bX11_means_66, bX11_means_84, a_ai, a_ald, a_cv, a_gi, a_gr, a_icne, a_idiv, a_ifne, a_ild, a_iret, a_ist, a_pi, a_push, sh_0, sh_45, sh_5, sh_59, sh_62, sh_64, pu_rv, pu_as, Value.category, pu_bk, pu_kl, List.replicate, pu_wi_1, pu_wi_2, nl_add, nl_ladd, nl_aa, nl_mul, nl_rmul, nl_mm, pu_qe0, pu_qe1, f02, f56, hA, e, p05, p04, P2, ei, na, p64, s64, a100, slB, fo, p02, p56, P45]
      all_goals try simp (maxSteps := 400000) (disch := omega) [nl_tle, nl_fle, nl_tlt, nl_flt, nl_teq, nl_feq, nl_sub, nl_ss, nl_lt, nl_llt, nl_ltt, nl_le, nl_lle, nl_lee, nl_eq, nl_leq, nl_ee, nl_div, nl_rem, nl_cl, nl_n1, nl_n2, nl_n3, nl_n4, nl_add, nl_ladd, nl_aa, nl_mul, nl_rmul, nl_mm, pu_wi_1, pu_wi_2, bX11_means_17, bX11_means_38, bX11_means_66, bX11_means_84, a_ai, a_ald, a_cv, a_gi, a_gr, a_icne, a_idiv, a_ifne, a_ild, a_iret, a_ist, a_pi, a_push, sh_0, sh_45, sh_5, sh_59, sh_62, sh_64, pu_rv, pu_as, Value.category, pu_bk, pu_kl, pu_qe0, pu_qe1, f02, f56, hA, e, p05, p04, P2, ei, na, p64, s64, a100, slB, fo, p02, p56, P45]
      all_goals try simp [bX11_means_17, bX11_means_38, bX11_means_66, bX11_means_84, a_ai, a_ald, a_cv, a_gi, a_gr, a_icne, a_idiv, a_ifne, a_ild, a_iret, a_ist, a_pi, a_push, sh_0, sh_45, sh_5, sh_59, sh_62, sh_64, pu_rv, pu_as, Value.category, pu_bk, pu_kl, List.replicate, pu_wi_1, pu_wi_2, nl_add, nl_ladd, nl_aa, nl_mul, nl_rmul, nl_mm, pu_qe0, pu_qe1, f02, f56, hA, e, p05, p04, P2, ei, na, p64, s64, a100, slB, fo, p02, p56, P45]
      all_goals try simp (maxSteps := 400000) (disch := omega) [nl_tle, nl_fle, nl_tlt, nl_flt, nl_teq, nl_feq, nl_sub, nl_ss, nl_lt, nl_llt, nl_ltt, nl_le, nl_lle, nl_lee, nl_eq, nl_leq, nl_ee, nl_div, nl_rem, nl_cl, nl_n1, nl_n2, nl_n3, nl_n4, nl_add, nl_ladd, nl_aa, nl_mul, nl_rmul, nl_mm, pu_wi_1, pu_wi_2, bX11_means_17, bX11_means_38, bX11_means_66, bX11_means_84, a_ai, a_ald, a_cv, a_gi, a_gr, a_icne, a_idiv, a_ifne, a_ild, a_iret, a_ist, a_pi, a_push, sh_0, sh_45, sh_5, sh_59, sh_62, sh_64, pu_rv, pu_as, Value.category, pu_bk, pu_kl, pu_qe0, pu_qe1, f02, f56, hA, e, p05, p04, P2, ei, na, p64, s64, a100, slB, fo, p02, p56, P45]
      all_goals try simp [bX11_means_17, bX11_means_38, bX11_means_66, bX11_means_84, a_ai, a_ald, a_cv, a_gi, a_gr, a_icne, a_idiv, a_ifne, a_ild, a_iret, a_ist, a_pi, a_push, sh_0, sh_45, sh_5, sh_59, sh_62, sh_64, pu_rv, pu_as, Value.category, pu_bk, pu_kl, List.replicate, pu_wi_1, pu_wi_2, nl_add, nl_ladd, nl_aa, nl_mul, nl_rmul, nl_mm, pu_qe0, pu_qe1, f02, f56, hA, e, p05, p04, P2, ei, na, p64, s64, a100, slB, fo, p02, p56, P45]
      all_goals try simp (maxSteps := 400000) (disch := omega) [nl_tle, nl_fle, nl_tlt, nl_flt, nl_teq, nl_feq, nl_sub, nl_ss, nl_lt, nl_llt, nl_ltt, nl_le, nl_lle, nl_lee, nl_eq, nl_leq, nl_ee, nl_div, nl_rem, nl_cl, nl_n1, nl_n2, nl_n3, nl_n4, nl_add, nl_ladd, nl_aa, nl_mul, nl_rmul, nl_mm, pu_wi_1, pu_wi_2, bX11_means_17, bX11_means_38, bX11_means_66, bX11_means_84, a_ai, a_ald, a_cv, a_gi, a_gr, a_icne, a_idiv, a_ifne, a_ild, a_iret, a_ist, a_pi, a_push, sh_0, sh_45, sh_5, sh_59, sh_62, sh_64, pu_rv, pu_as, Value.category, pu_bk, pu_kl, pu_qe0, pu_qe1, f02, f56, hA, e, p05, p04, P2, ei, na, p64, s64, a100, slB, fo, p02, p56, P45]
      all_goals try simp [bX11_means_17, bX11_means_38, bX11_means_66, bX11_means_84, a_ai, a_ald, a_cv, a_gi, a_gr, a_icne, a_idiv, a_ifne, a_ild, a_iret, a_ist, a_pi, a_push, sh_0, sh_45, sh_5, sh_59, sh_62, sh_64, pu_rv, pu_as, Value.category, pu_bk, pu_kl, List.replicate, pu_wi_1, pu_wi_2, nl_add, nl_ladd, nl_aa, nl_mul, nl_rmul, nl_mm, pu_qe0, pu_qe1, f02, f56, hA, e, p05, p04, P2, ei, na, p64, s64, a100, slB, fo, p02, p56, P45]
    · obtain ⟨b, Q, b1, b2, b3, b4, _, _, b7⟩ := c_addFound hxP (fun _ => py_sv I L nm tw w x k y) 1 (fun _ => 0) (fun _ => 0) (n := 0) (k := 0) (by omega) (fun j hj => by omega) (by show (0 : Nat) < 200000000; omega) P45 (fun j hj => by omega)
      rw [nI_0] at b7
      have fo := c_findOne hxP (sv := 1) (rk := 0) td Q (fun z => absurd z c0) (fun _ => b7)
      have hxQ : pu_fx Q := pz_fx_of hxP b2.1
      have q02 := fx_0_2 hxQ
      have q56 := fx_5_6 hxQ
      have w0 := b4 0 (by omega)
      refine ⟨Q, 1, by omega, by rw [b2.1, PN2], fun a j z1 z2 z3 => by rw [b2.2 a j z1 z2, PN a j z2 z3], b3, Or.inr (Or.inl ⟨by rw [ss]; exact ssn, by rw [ss, f1]; exact nn, Or.inr ⟨c0, rfl, w0.1, w0.2.1⟩⟩), ?_⟩
      rw [Nat.zero_add] at b3
      generalize pu_sl0 I (V a) = sv2 at *
      simp [bX11_means_17, bX11_means_38, bX11_means_66, bX11_means_84, a_ai, a_ald, a_cv, a_gi, a_gr, a_icne, a_idiv, a_ifne, a_ild, a_iret, a_ist, a_pi, a_push, sh_0, sh_45, sh_5, sh_59, sh_62, sh_64, pu_rv, pu_as, Value.category, pu_bk, pu_kl, List.replicate, pu_wi_1, pu_wi_2, nl_add, nl_ladd, nl_aa, nl_mul, nl_rmul, nl_mm, pu_qe0, pu_qe1, f02, f56, hA, e, p05, p04, P2, ei, na, p64, s64, a100, slB, fo, q02, q56, b3]
      all_goals try simp (maxSteps := 400000) (disch := omega) [nl_tle, nl_fle, nl_tlt, nl_flt, nl_teq, nl_feq, nl_sub, nl_ss, nl_lt, nl_llt, nl_ltt, nl_le, nl_lle, nl_lee, nl_eq, nl_leq, nl_ee, nl_div, nl_rem, nl_cl, nl_n1, nl_n2, nl_n3, nl_n4, nl_add, nl_ladd, nl_aa, nl_mul, nl_rmul, nl_mm, pu_wi_1, pu_wi_2, bX11_means_17, bX11_means_38, bX11_means_66, bX11_means_84, a_ai, a_ald, a_cv, a_gi, a_gr, a_icne, a_idiv, a_ifne, a_ild, a_iret, a_ist, a_pi, a_push, sh_0, sh_45, sh_5, sh_59, sh_62, sh_64, pu_rv, pu_as, Value.category, pu_bk, pu_kl, pu_qe0, pu_qe1, f02, f56, hA, e, p05, p04, P2, ei, na, p64, s64, a100, slB, fo, q02, q56, b3]
      all_goals try simp [bX11_means_17, bX11_means_38, bX11_means_66, bX11_means_84, a_ai, a_ald, a_cv, a_gi, a_gr, a_icne, a_idiv, a_ifne, a_ild, a_iret, a_ist, a_pi, a_push, sh_0, sh_45, sh_5, sh_59, sh_62, sh_64, pu_rv, pu_as, Value.category, pu_bk, pu_kl, List.replicate, pu_wi_1, pu_wi_2, nl_add, nl_ladd, nl_aa, nl_mul, nl_rmul, nl_mm, pu_qe0, pu_qe1, f02, f56, hA, e, p05, p04, P2, ei, na, p64, s64, a100, slB, fo, q02, q56, b3]
      all_goals try simp (maxSteps := 400000) (disch := omega) [nl_tle, nl_fle, nl_tlt, nl_flt, nl_teq, nl_feq, nl_sub, nl_ss, nl_lt, nl_llt, nl_ltt, nl_le, nl_lle, nl_lee, nl_eq, nl_leq, nl_ee, nl_div, nl_rem, nl_cl, nl_n1, nl_n2, nl_n3, nl_n4, nl_add, nl_ladd, nl_aa, nl_mul, nl_rmul, nl_mm, pu_wi_1, pu_wi_2, bX11_means_17, bX11_means_38, bX11_means_66, bX11_means_84, a_ai, a_ald, a_cv, a_gi, a_gr, a_icne, a_idiv, a_ifne, a_ild, a_iret, a_ist, a_pi, a_push, sh_0, sh_45, sh_5, sh_59, sh_62, sh_64, pu_rv, pu_as, Value.category, pu_bk, pu_kl, pu_qe0, pu_qe1, f02, f56, hA, e, p05, p04, P2, ei, na, p64, s64, a100, slB, fo, q02, q56, b3]
      all_goals try simp [bX11_means_17, bX11_means_38, bX11_means_66, bX11_means_84, a_ai, a_ald, a_cv, a_gi, a_gr, a_icne, a_idiv, a_ifne, a_ild, a_iret, a_ist, a_pi, a_push, sh_0, sh_45, sh_5, sh_59, sh_62, sh_64, pu_rv, pu_as, Value.category, pu_bk, pu_kl, List.replicate, pu_wi_1, pu_wi_2, nl_add, nl_ladd, nl_aa, nl_mul, nl_rmul, nl_mm, pu_qe0, pu_qe1, f02, f56, hA, e, p05, p04, P2, ei, na, p64, s64, a100, slB, fo, q02, q56, b3]
      all_goals try simp (maxSteps := 400000) (disch := omega) [nl_tle, nl_fle, nl_tlt, nl_flt, nl_teq, nl_feq, nl_sub, nl_ss, nl_lt, nl_llt, nl_ltt, nl_le, nl_lle, nl_lee, nl_eq, nl_leq, nl_ee, nl_div, nl_rem, nl_cl, nl_n1, nl_n2, nl_n3, nl_n4, nl_add, nl_ladd, nl_aa, nl_mul, nl_rmul, nl_mm, pu_wi_1, pu_wi_2, bX11_means_17, bX11_means_38, bX11_means_66, bX11_means_84, a_ai, a_ald, a_cv, a_gi, a_gr, a_icne, a_idiv, a_ifne, a_ild, a_iret, a_ist, a_pi, a_push, sh_0, sh_45, sh_5, sh_59, sh_62, sh_64, pu_rv, pu_as, Value.category, pu_bk, pu_kl, pu_qe0, pu_qe1, f02, f56, hA, e, p05, p04, P2, ei, na, p64, s64, a100, slB, fo, q02, q56, b3]
      all_goals try simp [bX11_means_17, bX11_means_38, bX11_means_66, bX11_means_84, a_ai, a_ald, a_cv, a_gi, a_gr, a_icne, a_idiv, a_ifne, a_ild, a_iret, a_ist, a_pi, a_push, sh_0, sh_45, sh_5, sh_59, sh_62, sh_64, pu_rv, pu_as, Value.category, pu_bk, pu_kl, List.replicate, pu_wi_1, pu_wi_2, nl_add, nl_ladd, nl_aa, nl_mul, nl_rmul, nl_mm, pu_qe0, pu_qe1, f02, f56, hA, e, p05, p04, P2, ei, na, p64, s64, a100, slB, fo, q02, q56, b3]
end
