/-! gone: the reference's loops -/
section
variable {I : Nat → Nat → Int32} {L : Nat → Nat → Int64}
/-- the row s2 behind the doors below d -/
def py_ri (I : Nat → Nat → Int32) (top : Nat) (P : Int32) (d : Nat) (s s2 : Nat → Int32) : Prop := (∀ e, e < cD I → e < d → py_S I top e → s2 (9552 + 12 * e + 10) = P) ∧ (∀ k, k < cU I → top < d → py_T I top k → s2 (10752 + 6 * k + 5) = P) ∧ (∀ j, (∀ e, e < cD I → e < d → py_S I top e → j ≠ 9552 + 12 * e + 10) → (∀ k, k < cU I → top < d → py_T I top k → j ≠ 10752 + 6 * k + 5) → s2 j = s j)
theorem py_ri_no {top : Nat} {P : Int32} {d : Nat} {s s2 : Nat → Int32} (h : py_ri I top P d s s2) (h1 : ¬ py_S I top d) (h2 : d ≠ top) : py_ri I top P (d + 1) s s2 := by
  refine ⟨fun e he hd hs => ?_, fun k hk ht hT => h.2.1 k hk (by omega) hT, fun j a b => h.2.2 j (fun e he hd hs => a e he (by omega) hs) (fun k hk ht hT => b k hk (by omega) hT)⟩
  have : e ≠ d := fun z => h1 (by rw [← z]; exact hs)
  exact h.1 e he (by omega) hs
theorem py_ri_ys {top : Nat} {P : Int32} {d : Nat} {s s2 : Nat → Int32} (hD : cD I ≤ 100) (hU : cU I ≤ 3000) (h : py_ri I top P d s s2) (h1 : py_S I top d) (hd : d < cD I) (s3 : Nat → Int32) (e1 : s3 (9552 + 12 * d + 10) = P) (e2 : ∀ k, k < cU I → d = top → py_T I top k → s3 (10752 + 6 * k + 5) = P) (e3 : ∀ j, j ≠ 9552 + 12 * d + 10 → (∀ k, k < cU I → d = top → py_T I top k → j ≠ 10752 + 6 * k + 5) → s3 j = s2 j) : py_ri I top P (d + 1) s s3 := by
  refine ⟨fun e he hde hs => ?_, fun k hk ht hT => ?_, fun j a b => ?_⟩
  · by_cases z : e = d
    · rw [z]
      exact e1
    · rw [e3 _ (by omega) (fun k hk _ _ => by omega)]
      exact h.1 e he (by omega) hs
  · by_cases z : top = d
    · exact e2 k hk z.symm hT
    · rw [e3 _ (by omega) (fun l hl y _ => by omega)]
      exact h.2.1 k hk (by omega) hT
  · rw [e3 j (a d hd (by omega) h1) (fun k hk y hT => b k hk (by omega) hT)]
    exact h.2.2 j (fun e he hde hs => a e he (by omega) hs) (fun k hk ht hT => b k hk (by omega) hT)
theorem r_gone_l {M : pu_M} {sr : Nat → Int32} (hx : pu_fx M) (hr : pu_Rel I L sr) (hsr : ∀ j, j ≠ 5 → ¬ (28752 ≤ j ∧ j < 30152) → M.1 72 j = sr j) (hw : pu_WF I L) (hP : cP I < 200) {top : Nat} (ht : top < cD I) (t37 : I 37 top = -1) (y : Int32) (t3 : Option Value) : ∀ m d n (N : pu_M) (t7 t8 : Option Value), d + m = cD I → n ≤ d → N.2 = M.2 → (∀ a j, a ≠ 72 → N.1 a j = M.1 a j) → (N.1 72 4 = nI (cD I) ∧ N.1 72 6 = nI (cU I)) → py_ri I top (nI (cP I)) d (M.1 72) (N.1 72) → ∃ F, F.2 = M.2 ∧ (∀ a j, a ≠ 72 → F.1 a j = M.1 a j) ∧ py_ri I top (nI (cP I)) (cD I) (M.1 72) (F.1 72) ∧ pu_r 468 [some (.ref 71), some (.int (nI top)), some (.int y), t3, some (.int (nI (cP I))), some (.int (nI n)), some (.int (nI d)), t7, t8] [] N = some (some (.int (nI (py_ct (py_S I top) m d n))), F)
  | 0, d, n, N, t7, t8, h, hnd, g1, g2, g3, g4 => by
    have bD := wx_bD hw
    have hxN : pu_fx N := pz_fx_of hx g1
    refine ⟨N, g1, g2, by rw [← h]; exact g4, ?_⟩
    have hc : nI (cD I) ≤ nI d := nI_le (by omega) (by omega)
    have f := fx_71_0 hxN
    have h4 := g3.1
    rw [qX12_gone_67]
    simp [bX12_gone_67, bX12_gone_192, bX12_gone_186, bX12_gone_100, a_ai, a_ald, a_cv, a_gr, a_iadd, a_icge, a_ifeq, a_ifne, a_ild, a_imul, a_inc, a_iret, a_ist, a_push, a_wi, sh_71, sh_72, pu_rv, pu_as, Value.category, pu_bk, pu_kl, List.replicate, pu_wi_1, pu_wi_2, nl_add, nl_ladd, nl_aa, nl_mul, nl_rmul, nl_mm, pu_qe0, pu_qe1, h4, f, hc, py_ct]
    all_goals try simp (maxSteps := 400000) (disch := omega) [nl_tle, nl_fle, nl_tlt, nl_flt, nl_teq, nl_feq, nl_sub, nl_ss, nl_lt, nl_llt, nl_ltt, nl_le, nl_lle, nl_lee, nl_eq, nl_leq, nl_ee, nl_div, nl_rem, nl_cl, nl_n1, nl_n2, nl_n3, nl_n4, nl_add, nl_ladd, nl_aa, nl_mul, nl_rmul, nl_mm, pu_wi_1, pu_wi_2, bX12_gone_67, bX12_gone_192, bX12_gone_186, bX12_gone_100, a_ai, a_ald, a_cv, a_gr, a_iadd, a_icge, a_ifeq, a_ifne, a_ild, a_imul, a_inc, a_iret, a_ist, a_push, a_wi, sh_71, sh_72, pu_rv, pu_as, Value.category, pu_bk, pu_kl, pu_qe0, pu_qe1, h4, f, hc, py_ct]
    all_goals try simp [bX12_gone_67, bX12_gone_192, bX12_gone_186, bX12_gone_100, a_ai, a_ald, a_cv, a_gr, a_iadd, a_icge, a_ifeq, a_ifne, a_ild, a_imul, a_inc, a_iret, a_ist, a_push, a_wi, sh_71, sh_72, pu_rv, pu_as, Value.category, pu_bk, pu_kl, List.replicate, pu_wi_1, pu_wi_2, nl_add, nl_ladd, nl_aa, nl_mul, nl_rmul, nl_mm, pu_qe0, pu_qe1, h4, f, hc, py_ct]
    all_goals try simp (maxSteps := 400000) (disch := omega) [nl_tle, nl_fle, nl_tlt, nl_flt, nl_teq, nl_feq, nl_sub, nl_ss, nl_lt, nl_llt, nl_ltt, nl_le, nl_lle, nl_lee, nl_eq, nl_leq, nl_ee, nl_div, nl_rem, nl_cl, nl_n1, nl_n2, nl_n3, nl_n4, nl_add, nl_ladd, nl_aa, nl_mul, nl_rmul, nl_mm, pu_wi_1, pu_wi_2, bX12_gone_67, bX12_gone_192, bX12_gone_186, bX12_gone_100, a_ai, a_ald, a_cv, a_gr, a_iadd, a_icge, a_ifeq, a_ifne, a_ild, a_imul, a_inc, a_iret, a_ist, a_push, a_wi, sh_71, sh_72, pu_rv, pu_as, Value.category, pu_bk, pu_kl, pu_qe0, pu_qe1, h4, f, hc, py_ct]
  | m + 1, d, n, N, t7, t8, h, hnd, g1, g2, g3, g4 => by
    have bD := wx_bD hw
    have bU := wx_bU hw
    have hxN : pu_fx N := pz_fx_of hx g1
    have hd : d < cD I := by omega
    have hc : ¬ nI (cD I) ≤ nI d := nI_ge (by omega) (by omega)
    have f := fx_71_0 hxN
    have h4 := g3.1
    have i1 := r_isOpenG hxN bD g3.1 hd
    have c10 : N.1 72 (9552 + 12 * d + 10) = I 37 d := by
      rw [g4.2.2 _ (fun e he hde hs => by omega) (fun k hk _ _ => by omega)]
      exact (hsr _ (by omega) (by omega)).trans (rl_d10 hr d hd)
    rw [c10] at i1
    have i2 := r_isUnder (I := I) (L := L) hxN hw (fun e he => by
      rw [g4.2.2 _ (fun e he hde hs => by omega) (fun k hk _ _ => by omega)]
      exact (hsr _ (by omega) (by omega)).trans (rl_d8 hr e he)) ht d hd
    by_cases s : py_S I top d
    · have e : py_ct (py_S I top) (m + 1) d n = py_ct (py_S I top) m (d + 1) (n + 1) := by
        show py_ct (py_S I top) m (d + 1) _ = _
        rw [if_pos s]
      rw [e]
      rw [pu_q1 s.1] at i1
      rw [pu_q1 s.2] at i2
      have hx1 : pu_fx (pu_wi N 72 (9552 + 12 * d + 10) (nI (cP I))) := pz_fx_of hxN rfl
      have ff := fx_71_0 hx1
      have c0 : ∀ j, j < 12 → j ≠ 10 → (pu_wi N 72 (9552 + 12 * d + 10) (nI (cP I))).1 72 (9552 + 12 * d + j) = M.1 72 (9552 + 12 * d + j) := fun j h1 h2 => by
        rw [py_wi_o (by omega), g4.2.2 _ (fun e he hde hs => by omega) (fun k hk _ _ => by omega)]
      -- places of this door
      have hp : ∀ (Q : pu_M) w, w < 2 → pu_fx Q → (∀ j, j < 12 → j ≠ 10 → Q.1 72 (9552 + 12 * d + j) = M.1 72 (9552 + 12 * d + j)) → pu_r 267 [some (.ref 71), some (.int (nI d)), some (.int (nI w))] [] Q = some (some (.int (pu_q (pu_hp I d w))), Q) := fun Q w hw2 hQ hq => by
        have e0 := r_of hQ d 0 (by omega) (by omega)
        rw [hq 0 (by omega) (by omega), show 9552 + 12 * d + 0 = 9552 + 12 * d from rfl, hsr _ (by omega) (by omega), rl_d0 hr d hd, nI_0] at e0
        have e1 := r_of hQ d 11 (by omega) (by omega)
        rw [hq 11 (by omega) (by omega), hsr _ (by omega) (by omega), rl_d11 hr d hd, show nI 11 = (11 : Int32) from rfl] at e1
        have e3 := pu_srt_lt hw hd
        unfold pu_srt at e3
        rw [qX12_hasPlace]
        simp [a_ent, bX12_hasPlace_0, bX12_hasPlace_34, bX12_hasPlace_35, bX12_hasPlace_30, a_ald, a_cv, a_iceq, a_icge, a_icne, a_ifeq, a_ild, a_push, a_zret, sh_71, pu_rv, pu_as, Value.category, pu_bk, pu_kl, List.replicate, pu_wi_1, pu_wi_2, nl_add, nl_ladd, nl_aa, nl_mul, nl_rmul, nl_mm, pu_qe0, pu_qe1, e0, e1, e3]
        all_goals try simp (maxSteps := 400000) (disch := omega) [nl_tle, nl_fle, nl_tlt, nl_flt, nl_teq, nl_feq, nl_sub, nl_ss, nl_lt, nl_llt, nl_ltt, nl_le, nl_lle, nl_lee, nl_eq, nl_leq, nl_ee, nl_div, nl_rem, nl_cl, nl_n1, nl_n2, nl_n3, nl_n4, nl_add, nl_ladd, nl_aa, nl_mul, nl_rmul, nl_mm, pu_wi_1, pu_wi_2, bX12_hasPlace_0, bX12_hasPlace_34, bX12_hasPlace_35, bX12_hasPlace_30, a_ald, a_cv, a_iceq, a_icge, a_icne, a_ifeq, a_ild, a_push, a_zret, sh_71, pu_rv, pu_as, Value.category, pu_bk, pu_kl, pu_qe0, pu_qe1, e0, e1, e3]
        all_goals try simp [bX12_hasPlace_0, bX12_hasPlace_34, bX12_hasPlace_35, bX12_hasPlace_30, a_ald, a_cv, a_iceq, a_icge, a_icne, a_ifeq, a_ild, a_push, a_zret, sh_71, pu_rv, pu_as, Value.category, pu_bk, pu_kl, List.replicate, pu_wi_1, pu_wi_2, nl_add, nl_ladd, nl_aa, nl_mul, nl_rmul, nl_mm, pu_qe0, pu_qe1, e0, e1, e3]
        all_goals try simp (maxSteps := 400000) (disch := omega) [nl_tle, nl_fle, nl_tlt, nl_flt, nl_teq, nl_feq, nl_sub, nl_ss, nl_lt, nl_llt, nl_ltt, nl_le, nl_lle, nl_lee, nl_eq, nl_leq, nl_ee, nl_div, nl_rem, nl_cl, nl_n1, nl_n2, nl_n3, nl_n4, nl_add, nl_ladd, nl_aa, nl_mul, nl_rmul, nl_mm, pu_wi_1, pu_wi_2, bX12_hasPlace_0, bX12_hasPlace_34, bX12_hasPlace_35, bX12_hasPlace_30, a_ald, a_cv, a_iceq, a_icge, a_icne, a_ifeq, a_ild, a_push, a_zret, sh_71, pu_rv, pu_as, Value.category, pu_bk, pu_kl, pu_qe0, pu_qe1, e0, e1, e3]
        grind [pu_q, pu_hp]
      by_cases c : d = top ∧ I 32 d = 0
      · obtain ⟨dt, d32⟩ := c
        subst dt
        have ro : ∀ Q : pu_M, Q.1 72 6 = nI (cU I) → (∀ k j, k < cU I → j < 5 → Q.1 72 (10752 + 6 * k + j) = M.1 72 (10752 + 6 * k + j)) → py_ro Q (cU I) (pu_sl0 I) := fun Q q6 q => ⟨q6, fun k hk => ⟨by
          have := q k 0 hk (by omega)
          rw [show 10752 + 6 * k + 0 = 10752 + 6 * k from rfl] at this
          rw [this]
          exact (hsr _ (by omega) (by omega)).trans (rl_u0 hr k hk), by rw [q k 1 hk (by omega)]; exact (hsr _ (by omega) (by omega)).trans (rl_u1 hr k hk), by have := (pu_sl_lt hw hk).1; omega⟩⟩
        have n5 : ∀ k j, k < cU I → j < 6 → N.1 72 (10752 + 6 * k + j) = M.1 72 (10752 + 6 * k + j) := fun k j hk hj => g4.2.2 _ (fun e he hde hs => by omega) (fun l hl z _ => by omega)
        obtain ⟨k0, K0⟩ := pz_os_ex hw (w := 0) hd (by omega) t37 ⟨d32, Or.inl rfl⟩
        have k0U := K0.1
        have w1 : ∀ k j, k < cU I → j < 6 → (pu_wi N 72 (9552 + 12 * d + 10) (nI (cP I))).1 72 (10752 + 6 * k + j) = M.1 72 (10752 + 6 * k + j) := fun k j hk hj => by
          rw [py_wi_o (by omega)]
          exact n5 k j hk hj
        have o0 := r_openSpanG hx1 bU (ro _ (by rw [py_wi_o (by omega)]; exact g3.2) (fun k j hk hj => w1 k j hk (by omega))) (d := d) (w := 0) (k := k0) (by omega) (by omega) K0.1 K0.2.1 (by rw [w1 k0 5 K0.1 (by omega), hsr _ (by omega) (by omega), rl_u5 hr k0 K0.1]; exact K0.2.2) (fun l h1 h2 h3 z => by
          rw [w1 l 5 h2 (by omega), hsr _ (by omega) (by omega), rl_u5 hr l h2] at z
          have := pz_os_un hw K0 ⟨h2, h3, z⟩
          omega)
        have p0 := hp _ 0 (by omega) hx1 c0
        rw [pu_q1 ⟨d32, Or.inl rfl⟩] at p0
        have nk0 : ¬ nI k0 = -1 := fun z => by
          rw [nl_n1 _ (by have := K0.1; omega)] at z
          exact z
        rw [nI_0] at p0 o0
        have hx2 : pu_fx (pu_wi (pu_wi N 72 (9552 + 12 * d + 10) (nI (cP I))) 72 (10752 + 6 * k0 + 5) (nI (cP I))) := pz_fx_of hxN rfl
        have ff2 := fx_71_0 hx2
        have p1 := hp (pu_wi (pu_wi N 72 (9552 + 12 * d + 10) (nI (cP I))) 72 (10752 + 6 * k0 + 5) (nI (cP I))) 1 (by omega) hx2 (fun j h1 h2 => by
          rw [py_wi_o (by omega)]
          exact c0 j h1 h2)
        rw [show nI 1 = (1 : Int32) from rfl] at p1
        have s0 := K0.2.1
        by_cases d38 : I 38 d = -1
        · rw [pu_q0 (fun z => by
            rcases z.2 with w | w
            · exact absurd w (by decide)
            · exact w.2 d38)] at p1
          have g5 : py_ri I d (nI (cP I)) (d + 1) (M.1 72) ((pu_wi (pu_wi N 72 (9552 + 12 * d + 10) (nI (cP I))) 72 (10752 + 6 * k0 + 5) (nI (cP I))).1 72) := by
            refine py_ri_ys bD bU g4 s hd _ ?_ (fun k hk _ hT => ?_) (fun j a b => ?_)
            · rw [py_wi_o (by omega)]
              simp [pu_wi_1]
            · have : k = k0 := by
                have o := pz_odd hw hk
                have e := hT.2
                refine (pz_os_un hw K0 ⟨hk, ?_, hT.1⟩).symm
                by_cases z : pu_sl0 I k % 2 = 1
                · have := o z
                  rw [e] at this
                  exact absurd d38 this
                · omega
              subst this
              simp [pu_wi_1]
            · rw [py_wi_o (fun z => b k0 k0U rfl ⟨K0.2.2, by omega⟩ z.2), py_wi_o (by omega)]
          obtain ⟨F, F1, F2, F3, F4⟩ := r_gone_l hx hr hsr hw hP ht t37 y t3 m (d + 1) (n + 1) _ (some (.int 2)) (some (.int (-1))) (by omega) (by omega) (by exact g1) (fun a j ha => by
            rw [py_wi_o (by omega), py_wi_o (by omega)]
            exact g2 a j ha) ⟨by rw [py_wi_o (by omega), py_wi_o (by omega)]; exact g3.1, by rw [py_wi_o (by omega), py_wi_o (by omega)]; exact g3.2⟩ g5
          refine ⟨F, F1, F2, F3, ?_⟩
          rw [← F4]
          have L1 : ∀ u8, pu_r 469 [some (.ref 71), some (.int (nI d)), some (.int y), t3, some (.int (nI (cP I))), some (.int (nI (n + 1))), some (.int (nI d)), some (.int 2), u8] [] (pu_wi (pu_wi N 72 (9552 + 12 * d + 10) (nI (cP I))) 72 (10752 + 6 * k0 + 5) (nI (cP I))) = pu_r 468 [some (.ref 71), some (.int (nI d)), some (.int y), t3, some (.int (nI (cP I))), some (.int (nI (n + 1))), some (.int (nI (d + 1))), some (.int 2), u8] [] (pu_wi (pu_wi N 72 (9552 + 12 * d + 10) (nI (cP I))) 72 (10752 + 6 * k0 + 5) (nI (cP I))) := fun u8 => by
            rw [qX12_gone_125]
            simp [bX12_gone_125, bX12_gone_186, bX12_gone_153, bX12_gone_154, bX12_gone_180, a_ald, a_cv, a_gr, a_iadd, a_iceq, a_icge, a_ifeq, a_ild, a_imul, a_inc, a_ist, a_push, a_wi, sh_71, sh_72, pu_rv, pu_as, Value.category, pu_bk, pu_kl, List.replicate, pu_wi_1, pu_wi_2, nl_add, nl_ladd, nl_aa, nl_mul, nl_rmul, nl_mm, pu_qe0, pu_qe1]
            all_goals try simp (maxSteps := 400000) (disch := omega) [nl_tle, nl_fle, nl_tlt, nl_flt, nl_teq, nl_feq, nl_sub, nl_ss, nl_lt, nl_llt, nl_ltt, nl_le, nl_lle, nl_lee, nl_eq, nl_leq, nl_ee, nl_div, nl_rem, nl_cl, nl_n1, nl_n2, nl_n3, nl_n4, nl_add, nl_ladd, nl_aa, nl_mul, nl_rmul, nl_mm, pu_wi_1, pu_wi_2, bX12_gone_125, bX12_gone_186, bX12_gone_153, bX12_gone_154, bX12_gone_180, a_ald, a_cv, a_gr, a_iadd, a_iceq, a_icge, a_ifeq, a_ild, a_imul, a_inc, a_ist, a_push, a_wi, sh_71, sh_72, pu_rv, pu_as, Value.category, pu_bk, pu_kl, pu_qe0, pu_qe1]
            all_goals try simp [bX12_gone_125, bX12_gone_186, bX12_gone_153, bX12_gone_154, bX12_gone_180, a_ald, a_cv, a_gr, a_iadd, a_iceq, a_icge, a_ifeq, a_ild, a_imul, a_inc, a_ist, a_push, a_wi, sh_71, sh_72, pu_rv, pu_as, Value.category, pu_bk, pu_kl, List.replicate, pu_wi_1, pu_wi_2, nl_add, nl_ladd, nl_aa, nl_mul, nl_rmul, nl_mm, pu_qe0, pu_qe1]
            all_goals try simp (maxSteps := 400000) (disch := omega) [nl_tle, nl_fle, nl_tlt, nl_flt, nl_teq, nl_feq, nl_sub, nl_ss, nl_lt, nl_llt, nl_ltt, nl_le, nl_lle, nl_lee, nl_eq, nl_leq, nl_ee, nl_div, nl_rem, nl_cl, nl_n1, nl_n2, nl_n3, nl_n4, nl_add, nl_ladd, nl_aa, nl_mul, nl_rmul, nl_mm, pu_wi_1, pu_wi_2, bX12_gone_125, bX12_gone_186, bX12_gone_153, bX12_gone_154, bX12_gone_180, a_ald, a_cv, a_gr, a_iadd, a_iceq, a_icge, a_ifeq, a_ild, a_imul, a_inc, a_ist, a_push, a_wi, sh_71, sh_72, pu_rv, pu_as, Value.category, pu_bk, pu_kl, pu_qe0, pu_qe1]
          have L2 : ∀ u8, pu_r 469 [some (.ref 71), some (.int (nI d)), some (.int y), t3, some (.int (nI (cP I))), some (.int (nI (n + 1))), some (.int (nI d)), some (.int 1), u8] [] (pu_wi (pu_wi N 72 (9552 + 12 * d + 10) (nI (cP I))) 72 (10752 + 6 * k0 + 5) (nI (cP I))) = pu_r 468 [some (.ref 71), some (.int (nI d)), some (.int y), t3, some (.int (nI (cP I))), some (.int (nI (n + 1))), some (.int (nI (d + 1))), some (.int 2), some (.int (-1))] [] (pu_wi (pu_wi N 72 (9552 + 12 * d + 10) (nI (cP I))) 72 (10752 + 6 * k0 + 5) (nI (cP I))) := fun u8 => by
            rw [qX12_gone_125]
            simp [bX12_gone_125, bX12_gone_186, bX12_gone_153, bX12_gone_154, bX12_gone_180, a_ald, a_cv, a_gr, a_iadd, a_iceq, a_icge, a_ifeq, a_ild, a_imul, a_inc, a_ist, a_push, a_wi, sh_71, sh_72, pu_rv, pu_as, Value.category, pu_bk, pu_kl, List.replicate, pu_wi_1, pu_wi_2, nl_add, nl_ladd, nl_aa, nl_mul, nl_rmul, nl_mm, pu_qe0, pu_qe1, p1, L1]
            all_goals try simp (maxSteps := 400000) (disch := omega) [nl_tle, nl_fle, nl_tlt, nl_flt, nl_teq, nl_feq, nl_sub, nl_ss, nl_lt, nl_llt, nl_ltt, nl_le, nl_lle, nl_lee, nl_eq, nl_leq, nl_ee, nl_div, nl_rem, nl_cl, nl_n1, nl_n2, nl_n3, nl_n4, nl_add, nl_ladd, nl_aa, nl_mul, nl_rmul, nl_mm, pu_wi_1, pu_wi_2, bX12_gone_125, bX12_gone_186, bX12_gone_153, bX12_gone_154, bX12_gone_180, a_ald, a_cv, a_gr, a_iadd, a_iceq, a_icge, a_ifeq, a_ild, a_imul, a_inc, a_ist, a_push, a_wi, sh_71, sh_72, pu_rv, pu_as, Value.category, pu_bk, pu_kl, pu_qe0, pu_qe1, p1, L1]
            all_goals try simp [bX12_gone_125, bX12_gone_186, bX12_gone_153, bX12_gone_154, bX12_gone_180, a_ald, a_cv, a_gr, a_iadd, a_iceq, a_icge, a_ifeq, a_ild, a_imul, a_inc, a_ist, a_push, a_wi, sh_71, sh_72, pu_rv, pu_as, Value.category, pu_bk, pu_kl, List.replicate, pu_wi_1, pu_wi_2, nl_add, nl_ladd, nl_aa, nl_mul, nl_rmul, nl_mm, pu_qe0, pu_qe1, p1, L1]
            all_goals try simp (maxSteps := 400000) (disch := omega) [nl_tle, nl_fle, nl_tlt, nl_flt, nl_teq, nl_feq, nl_sub, nl_ss, nl_lt, nl_llt, nl_ltt, nl_le, nl_lle, nl_lee, nl_eq, nl_leq, nl_ee, nl_div, nl_rem, nl_cl, nl_n1, nl_n2, nl_n3, nl_n4, nl_add, nl_ladd, nl_aa, nl_mul, nl_rmul, nl_mm, pu_wi_1, pu_wi_2, bX12_gone_125, bX12_gone_186, bX12_gone_153, bX12_gone_154, bX12_gone_180, a_ald, a_cv, a_gr, a_iadd, a_iceq, a_icge, a_ifeq, a_ild, a_imul, a_inc, a_ist, a_push, a_wi, sh_71, sh_72, pu_rv, pu_as, Value.category, pu_bk, pu_kl, pu_qe0, pu_qe1, p1, L1]
          have L3 : ∀ u8, pu_r 469 [some (.ref 71), some (.int (nI d)), some (.int y), t3, some (.int (nI (cP I))), some (.int (nI (n + 1))), some (.int (nI d)), some (.int 0), u8] [] (pu_wi N 72 (9552 + 12 * d + 10) (nI (cP I))) = pu_r 468 [some (.ref 71), some (.int (nI d)), some (.int y), t3, some (.int (nI (cP I))), some (.int (nI (n + 1))), some (.int (nI (d + 1))), some (.int 2), some (.int (-1))] [] (pu_wi (pu_wi N 72 (9552 + 12 * d + 10) (nI (cP I))) 72 (10752 + 6 * k0 + 5) (nI (cP I))) := fun u8 => by
            rw [qX12_gone_125]
            simp [bX12_gone_125, bX12_gone_186, bX12_gone_153, bX12_gone_154, bX12_gone_180, a_ald, a_cv, a_gr, a_iadd, a_iceq, a_icge, a_ifeq, a_ild, a_imul, a_inc, a_ist, a_push, a_wi, sh_71, sh_72, pu_rv, pu_as, Value.category, pu_bk, pu_kl, List.replicate, pu_wi_1, pu_wi_2, nl_add, nl_ladd, nl_aa, nl_mul, nl_rmul, nl_mm, pu_qe0, pu_qe1, p0, o0, nk0, f, ff, L2]
            all_goals try simp (maxSteps := 400000) (disch := omega) [nl_tle, nl_fle, nl_tlt, nl_flt, nl_teq, nl_feq, nl_sub, nl_ss, nl_lt, nl_llt, nl_ltt, nl_le, nl_lle, nl_lee, nl_eq, nl_leq, nl_ee, nl_div, nl_rem, nl_cl, nl_n1, nl_n2, nl_n3, nl_n4, nl_add, nl_ladd, nl_aa, nl_mul, nl_rmul, nl_mm, pu_wi_1, pu_wi_2, bX12_gone_125, bX12_gone_186, bX12_gone_153, bX12_gone_154, bX12_gone_180, a_ald, a_cv, a_gr, a_iadd, a_iceq, a_icge, a_ifeq, a_ild, a_imul, a_inc, a_ist, a_push, a_wi, sh_71, sh_72, pu_rv, pu_as, Value.category, pu_bk, pu_kl, pu_qe0, pu_qe1, p0, o0, nk0, f, ff, L2]
            all_goals try simp [bX12_gone_125, bX12_gone_186, bX12_gone_153, bX12_gone_154, bX12_gone_180, a_ald, a_cv, a_gr, a_iadd, a_iceq, a_icge, a_ifeq, a_ild, a_imul, a_inc, a_ist, a_push, a_wi, sh_71, sh_72, pu_rv, pu_as, Value.category, pu_bk, pu_kl, List.replicate, pu_wi_1, pu_wi_2, nl_add, nl_ladd, nl_aa, nl_mul, nl_rmul, nl_mm, pu_qe0, pu_qe1, p0, o0, nk0, f, ff, L2]
            all_goals try simp (maxSteps := 400000) (disch := omega) [nl_tle, nl_fle, nl_tlt, nl_flt, nl_teq, nl_feq, nl_sub, nl_ss, nl_lt, nl_llt, nl_ltt, nl_le, nl_lle, nl_lee, nl_eq, nl_leq, nl_ee, nl_div, nl_rem, nl_cl, nl_n1, nl_n2, nl_n3, nl_n4, nl_add, nl_ladd, nl_aa, nl_mul, nl_rmul, nl_mm, pu_wi_1, pu_wi_2, bX12_gone_125, bX12_gone_186, bX12_gone_153, bX12_gone_154, bX12_gone_180, a_ald, a_cv, a_gr, a_iadd, a_iceq, a_icge, a_ifeq, a_ild, a_imul, a_inc, a_ist, a_push, a_wi, sh_71, sh_72, pu_rv, pu_as, Value.category, pu_bk, pu_kl, pu_qe0, pu_qe1, p0, o0, nk0, f, ff, L2]
          rw [qX12_gone_67]
          simp [bX12_gone_67, bX12_gone_192, bX12_gone_186, bX12_gone_100, a_ai, a_ald, a_cv, a_gr, a_iadd, a_icge, a_ifeq, a_ifne, a_ild, a_imul, a_inc, a_iret, a_ist, a_push, a_wi, sh_71, sh_72, pu_rv, pu_as, Value.category, pu_bk, pu_kl, List.replicate, pu_wi_1, pu_wi_2, nl_add, nl_ladd, nl_aa, nl_mul, nl_rmul, nl_mm, pu_qe0, pu_qe1, h4, f, hc, i1, i2, L3]
          all_goals try simp (maxSteps := 400000) (disch := omega) [nl_tle, nl_fle, nl_tlt, nl_flt, nl_teq, nl_feq, nl_sub, nl_ss, nl_lt, nl_llt, nl_ltt, nl_le, nl_lle, nl_lee, nl_eq, nl_leq, nl_ee, nl_div, nl_rem, nl_cl, nl_n1, nl_n2, nl_n3, nl_n4, nl_add, nl_ladd, nl_aa, nl_mul, nl_rmul, nl_mm, pu_wi_1, pu_wi_2, bX12_gone_67, bX12_gone_192, bX12_gone_186, bX12_gone_100, a_ai, a_ald, a_cv, a_gr, a_iadd, a_icge, a_ifeq, a_ifne, a_ild, a_imul, a_inc, a_iret, a_ist, a_push, a_wi, sh_71, sh_72, pu_rv, pu_as, Value.category, pu_bk, pu_kl, pu_qe0, pu_qe1, h4, f, hc, i1, i2, L3]
          all_goals try simp [bX12_gone_67, bX12_gone_192, bX12_gone_186, bX12_gone_100, a_ai, a_ald, a_cv, a_gr, a_iadd, a_icge, a_ifeq, a_ifne, a_ild, a_imul, a_inc, a_iret, a_ist, a_push, a_wi, sh_71, sh_72, pu_rv, pu_as, Value.category, pu_bk, pu_kl, List.replicate, pu_wi_1, pu_wi_2, nl_add, nl_ladd, nl_aa, nl_mul, nl_rmul, nl_mm, pu_qe0, pu_qe1, h4, f, hc, i1, i2, L3]
          all_goals try simp (maxSteps := 400000) (disch := omega) [nl_tle, nl_fle, nl_tlt, nl_flt, nl_teq, nl_feq, nl_sub, nl_ss, nl_lt, nl_llt, nl_ltt, nl_le, nl_lle, nl_lee, nl_eq, nl_leq, nl_ee, nl_div, nl_rem, nl_cl, nl_n1, nl_n2, nl_n3, nl_n4, nl_add, nl_ladd, nl_aa, nl_mul, nl_rmul, nl_mm, pu_wi_1, pu_wi_2, bX12_gone_67, bX12_gone_192, bX12_gone_186, bX12_gone_100, a_ai, a_ald, a_cv, a_gr, a_iadd, a_icge, a_ifeq, a_ifne, a_ild, a_imul, a_inc, a_iret, a_ist, a_push, a_wi, sh_71, sh_72, pu_rv, pu_as, Value.category, pu_bk, pu_kl, pu_qe0, pu_qe1, h4, f, hc, i1, i2, L3]
        · rw [pu_q1 ⟨d32, Or.inr ⟨rfl, d38⟩⟩] at p1
          obtain ⟨k1, K1⟩ := pz_os_ex hw (w := 1) hd (by omega) t37 ⟨d32, Or.inr ⟨rfl, d38⟩⟩
          have s1 := K1.2.1
          have k1U := K1.1
          have k01 : k0 ≠ k1 := fun z => by
            rw [z] at s0
            omega
          have w2 : ∀ k j, k < cU I → j < 6 → ¬ (k = k0 ∧ j = 5) → (pu_wi (pu_wi N 72 (9552 + 12 * d + 10) (nI (cP I))) 72 (10752 + 6 * k0 + 5) (nI (cP I))).1 72 (10752 + 6 * k + j) = M.1 72 (10752 + 6 * k + j) := fun k j hk hj z => by
            rw [py_wi_o (by omega)]
            exact w1 k j hk hj
          have o1 := r_openSpanG hx2 bU (ro _ (by rw [py_wi_o (by omega), py_wi_o (by omega)]; exact g3.2) (fun k j hk hj => w2 k j hk (by omega) (by omega))) (d := d) (w := 1) (k := k1) (by omega) (by omega) K1.1 K1.2.1 (by rw [w2 k1 5 K1.1 (by omega) (by omega), hsr _ (by omega) (by omega), rl_u5 hr k1 K1.1]; exact K1.2.2) (fun l h1 h2 h3 z => by
            have l0 : l ≠ k0 := fun q => by
              rw [q] at h3
              omega
            rw [w2 l 5 h2 (by omega) (by omega), hsr _ (by omega) (by omega), rl_u5 hr l h2] at z
            have := pz_os_un hw K1 ⟨h2, h3, z⟩
            omega)
          rw [show nI 1 = (1 : Int32) from rfl] at o1
          have nk1 : ¬ nI k1 = -1 := fun z => by
            rw [nl_n1 _ (by have := K1.1; omega)] at z
            exact z
          have g5 : py_ri I d (nI (cP I)) (d + 1) (M.1 72) ((pu_wi (pu_wi (pu_wi N 72 (9552 + 12 * d + 10) (nI (cP I))) 72 (10752 + 6 * k0 + 5) (nI (cP I))) 72 (10752 + 6 * k1 + 5) (nI (cP I))).1 72) := by
            refine py_ri_ys bD bU g4 s hd _ ?_ (fun k hk _ hT => ?_) (fun j a b => ?_)
            · rw [py_wi_o (by omega), py_wi_o (by omega)]
              simp [pu_wi_1]
            · have e := hT.2
              by_cases z : pu_sl0 I k % 2 = 1
              · have : k1 = k := pz_os_un hw K1 ⟨hk, by omega, hT.1⟩
                subst this
                simp [pu_wi_1]
              · have : k0 = k := pz_os_un hw K0 ⟨hk, by omega, hT.1⟩
                subst this
                rw [py_wi_o (by omega)]
                simp [pu_wi_1]
            · rw [py_wi_o (fun z => b k1 k1U rfl ⟨K1.2.2, by omega⟩ z.2), py_wi_o (fun z => b k0 k0U rfl ⟨K0.2.2, by omega⟩ z.2), py_wi_o (by omega)]
          obtain ⟨F, F1, F2, F3, F4⟩ := r_gone_l hx hr hsr hw hP ht t37 y t3 m (d + 1) (n + 1) _ (some (.int 2)) (some (.int (nI k1))) (by omega) (by omega) (by exact g1) (fun a j ha => by
            rw [py_wi_o (by omega), py_wi_o (by omega), py_wi_o (by omega)]
            exact g2 a j ha) ⟨by rw [py_wi_o (by omega), py_wi_o (by omega), py_wi_o (by omega)]; exact g3.1, by rw [py_wi_o (by omega), py_wi_o (by omega), py_wi_o (by omega)]; exact g3.2⟩ g5
          refine ⟨F, F1, F2, F3, ?_⟩
          rw [← F4]
          have L1 : ∀ u8, pu_r 469 [some (.ref 71), some (.int (nI d)), some (.int y), t3, some (.int (nI (cP I))), some (.int (nI (n + 1))), some (.int (nI d)), some (.int 2), u8] [] (pu_wi (pu_wi (pu_wi N 72 (9552 + 12 * d + 10) (nI (cP I))) 72 (10752 + 6 * k0 + 5) (nI (cP I))) 72 (10752 + 6 * k1 + 5) (nI (cP I))) = pu_r 468 [some (.ref 71), some (.int (nI d)), some (.int y), t3, some (.int (nI (cP I))), some (.int (nI (n + 1))), some (.int (nI (d + 1))), some (.int 2), u8] [] (pu_wi (pu_wi (pu_wi N 72 (9552 + 12 * d + 10) (nI (cP I))) 72 (10752 + 6 * k0 + 5) (nI (cP I))) 72 (10752 + 6 * k1 + 5) (nI (cP I))) := fun u8 => by
            rw [qX12_gone_125]
            simp [bX12_gone_125, bX12_gone_186, bX12_gone_153, bX12_gone_154, bX12_gone_180, a_ald, a_cv, a_gr, a_iadd, a_iceq, a_icge, a_ifeq, a_ild, a_imul, a_inc, a_ist, a_push, a_wi, sh_71, sh_72, pu_rv, pu_as, Value.category, pu_bk, pu_kl, List.replicate, pu_wi_1, pu_wi_2, nl_add, nl_ladd, nl_aa, nl_mul, nl_rmul, nl_mm, pu_qe0, pu_qe1]
            all_goals try simp (maxSteps := 400000) (disch := omega) [nl_tle, nl_fle, nl_tlt, nl_flt, nl_teq, nl_feq, nl_sub, nl_ss, nl_lt, nl_llt, nl_ltt, nl_le, nl_lle, nl_lee, nl_eq, nl_leq, nl_ee, nl_div, nl_rem, nl_cl, nl_n1, nl_n2, nl_n3, nl_n4, nl_add, nl_ladd, nl_aa, nl_mul, nl_rmul, nl_mm, pu_wi_1, pu_wi_2, bX12_gone_125, bX12_gone_186, bX12_gone_153, bX12_gone_154, bX12_gone_180, a_ald, a_cv, a_gr, a_iadd, a_iceq, a_icge, a_ifeq, a_ild, a_imul, a_inc, a_ist, a_push, a_wi, sh_71, sh_72, pu_rv, pu_as, Value.category, pu_bk, pu_kl, pu_qe0, pu_qe1]
            all_goals try simp [bX12_gone_125, bX12_gone_186, bX12_gone_153, bX12_gone_154, bX12_gone_180, a_ald, a_cv, a_gr, a_iadd, a_iceq, a_icge, a_ifeq, a_ild, a_imul, a_inc, a_ist, a_push, a_wi, sh_71, sh_72, pu_rv, pu_as, Value.category, pu_bk, pu_kl, List.replicate, pu_wi_1, pu_wi_2, nl_add, nl_ladd, nl_aa, nl_mul, nl_rmul, nl_mm, pu_qe0, pu_qe1]
            all_goals try simp (maxSteps := 400000) (disch := omega) [nl_tle, nl_fle, nl_tlt, nl_flt, nl_teq, nl_feq, nl_sub, nl_ss, nl_lt, nl_llt, nl_ltt, nl_le, nl_lle, nl_lee, nl_eq, nl_leq, nl_ee, nl_div, nl_rem, nl_cl, nl_n1, nl_n2, nl_n3, nl_n4, nl_add, nl_ladd, nl_aa, nl_mul, nl_rmul, nl_mm, pu_wi_1, pu_wi_2, bX12_gone_125, bX12_gone_186, bX12_gone_153, bX12_gone_154, bX12_gone_180, a_ald, a_cv, a_gr, a_iadd, a_iceq, a_icge, a_ifeq, a_ild, a_imul, a_inc, a_ist, a_push, a_wi, sh_71, sh_72, pu_rv, pu_as, Value.category, pu_bk, pu_kl, pu_qe0, pu_qe1]
          have L2 : ∀ u8, pu_r 469 [some (.ref 71), some (.int (nI d)), some (.int y), t3, some (.int (nI (cP I))), some (.int (nI (n + 1))), some (.int (nI d)), some (.int 1), u8] [] (pu_wi (pu_wi N 72 (9552 + 12 * d + 10) (nI (cP I))) 72 (10752 + 6 * k0 + 5) (nI (cP I))) = pu_r 468 [some (.ref 71), some (.int (nI d)), some (.int y), t3, some (.int (nI (cP I))), some (.int (nI (n + 1))), some (.int (nI (d + 1))), some (.int 2), some (.int (nI k1))] [] (pu_wi (pu_wi (pu_wi N 72 (9552 + 12 * d + 10) (nI (cP I))) 72 (10752 + 6 * k0 + 5) (nI (cP I))) 72 (10752 + 6 * k1 + 5) (nI (cP I))) := fun u8 => by
            rw [qX12_gone_125]
            simp [bX12_gone_125, bX12_gone_186, bX12_gone_153, bX12_gone_154, bX12_gone_180, a_ald, a_cv, a_gr, a_iadd, a_iceq, a_icge, a_ifeq, a_ild, a_imul, a_inc, a_ist, a_push, a_wi, sh_71, sh_72, pu_rv, pu_as, Value.category, pu_bk, pu_kl, List.replicate, pu_wi_1, pu_wi_2, nl_add, nl_ladd, nl_aa, nl_mul, nl_rmul, nl_mm, pu_qe0, pu_qe1, p1, o1, nk1, f, ff2, L1]
            all_goals try simp (maxSteps := 400000) (disch := omega) [nl_tle, nl_fle, nl_tlt, nl_flt, nl_teq, nl_feq, nl_sub, nl_ss, nl_lt, nl_llt, nl_ltt, nl_le, nl_lle, nl_lee, nl_eq, nl_leq, nl_ee, nl_div, nl_rem, nl_cl, nl_n1, nl_n2, nl_n3, nl_n4, nl_add, nl_ladd, nl_aa, nl_mul, nl_rmul, nl_mm, pu_wi_1, pu_wi_2, bX12_gone_125, bX12_gone_186, bX12_gone_153, bX12_gone_154, bX12_gone_180, a_ald, a_cv, a_gr, a_iadd, a_iceq, a_icge, a_ifeq, a_ild, a_imul, a_inc, a_ist, a_push, a_wi, sh_71, sh_72, pu_rv, pu_as, Value.category, pu_bk, pu_kl, pu_qe0, pu_qe1, p1, o1, nk1, f, ff2, L1]
            all_goals try simp [bX12_gone_125, bX12_gone_186, bX12_gone_153, bX12_gone_154, bX12_gone_180, a_ald, a_cv, a_gr, a_iadd, a_iceq, a_icge, a_ifeq, a_ild, a_imul, a_inc, a_ist, a_push, a_wi, sh_71, sh_72, pu_rv, pu_as, Value.category, pu_bk, pu_kl, List.replicate, pu_wi_1, pu_wi_2, nl_add, nl_ladd, nl_aa, nl_mul, nl_rmul, nl_mm, pu_qe0, pu_qe1, p1, o1, nk1, f, ff2, L1]
            all_goals try simp (maxSteps := 400000) (disch := omega) [nl_tle, nl_fle, nl_tlt, nl_flt, nl_teq, nl_feq, nl_sub, nl_ss, nl_lt, nl_llt, nl_ltt, nl_le, nl_lle, nl_lee, nl_eq, nl_leq, nl_ee, nl_div, nl_rem, nl_cl, nl_n1, nl_n2, nl_n3, nl_n4, nl_add, nl_ladd, nl_aa, nl_mul, nl_rmul, nl_mm, pu_wi_1, pu_wi_2, bX12_gone_125, bX12_gone_186, bX12_gone_153, bX12_gone_154, bX12_gone_180, a_ald, a_cv, a_gr, a_iadd, a_iceq, a_icge, a_ifeq, a_ild, a_imul, a_inc, a_ist, a_push, a_wi, sh_71, sh_72, pu_rv, pu_as, Value.category, pu_bk, pu_kl, pu_qe0, pu_qe1, p1, o1, nk1, f, ff2, L1]
          have L3 : ∀ u8, pu_r 469 [some (.ref 71), some (.int (nI d)), some (.int y), t3, some (.int (nI (cP I))), some (.int (nI (n + 1))), some (.int (nI d)), some (.int 0), u8] [] (pu_wi N 72 (9552 + 12 * d + 10) (nI (cP I))) = pu_r 468 [some (.ref 71), some (.int (nI d)), some (.int y), t3, some (.int (nI (cP I))), some (.int (nI (n + 1))), some (.int (nI (d + 1))), some (.int 2), some (.int (nI k1))] [] (pu_wi (pu_wi (pu_wi N 72 (9552 + 12 * d + 10) (nI (cP I))) 72 (10752 + 6 * k0 + 5) (nI (cP I))) 72 (10752 + 6 * k1 + 5) (nI (cP I))) := fun u8 => by
            rw [qX12_gone_125]
            simp [bX12_gone_125, bX12_gone_186, bX12_gone_153, bX12_gone_154, bX12_gone_180, a_ald, a_cv, a_gr, a_iadd, a_iceq, a_icge, a_ifeq, a_ild, a_imul, a_inc, a_ist, a_push, a_wi, sh_71, sh_72, pu_rv, pu_as, Value.category, pu_bk, pu_kl, List.replicate, pu_wi_1, pu_wi_2, nl_add, nl_ladd, nl_aa, nl_mul, nl_rmul, nl_mm, pu_qe0, pu_qe1, p0, o0, nk0, f, ff, L2]
            all_goals try simp (maxSteps := 400000) (disch := omega) [nl_tle, nl_fle, nl_tlt, nl_flt, nl_teq, nl_feq, nl_sub, nl_ss, nl_lt, nl_llt, nl_ltt, nl_le, nl_lle, nl_lee, nl_eq, nl_leq, nl_ee, nl_div, nl_rem, nl_cl, nl_n1, nl_n2, nl_n3, nl_n4, nl_add, nl_ladd, nl_aa, nl_mul, nl_rmul, nl_mm, pu_wi_1, pu_wi_2, bX12_gone_125, bX12_gone_186, bX12_gone_153, bX12_gone_154, bX12_gone_180, a_ald, a_cv, a_gr, a_iadd, a_iceq, a_icge, a_ifeq, a_ild, a_imul, a_inc, a_ist, a_push, a_wi, sh_71, sh_72, pu_rv, pu_as, Value.category, pu_bk, pu_kl, pu_qe0, pu_qe1, p0, o0, nk0, f, ff, L2]
            all_goals try simp [bX12_gone_125, bX12_gone_186, bX12_gone_153, bX12_gone_154, bX12_gone_180, a_ald, a_cv, a_gr, a_iadd, a_iceq, a_icge, a_ifeq, a_ild, a_imul, a_inc, a_ist, a_push, a_wi, sh_71, sh_72, pu_rv, pu_as, Value.category, pu_bk, pu_kl, List.replicate, pu_wi_1, pu_wi_2, nl_add, nl_ladd, nl_aa, nl_mul, nl_rmul, nl_mm, pu_qe0, pu_qe1, p0, o0, nk0, f, ff, L2]
            all_goals try simp (maxSteps := 400000) (disch := omega) [nl_tle, nl_fle, nl_tlt, nl_flt, nl_teq, nl_feq, nl_sub, nl_ss, nl_lt, nl_llt, nl_ltt, nl_le, nl_lle, nl_lee, nl_eq, nl_leq, nl_ee, nl_div, nl_rem, nl_cl, nl_n1, nl_n2, nl_n3, nl_n4, nl_add, nl_ladd, nl_aa, nl_mul, nl_rmul, nl_mm, pu_wi_1, pu_wi_2, bX12_gone_125, bX12_gone_186, bX12_gone_153, bX12_gone_154, bX12_gone_180, a_ald, a_cv, a_gr, a_iadd, a_iceq, a_icge, a_ifeq, a_ild, a_imul, a_inc, a_ist, a_push, a_wi, sh_71, sh_72, pu_rv, pu_as, Value.category, pu_bk, pu_kl, pu_qe0, pu_qe1, p0, o0, nk0, f, ff, L2]
          rw [qX12_gone_67]
          simp [bX12_gone_67, bX12_gone_192, bX12_gone_186, bX12_gone_100, a_ai, a_ald, a_cv, a_gr, a_iadd, a_icge, a_ifeq, a_ifne, a_ild, a_imul, a_inc, a_iret, a_ist, a_push, a_wi, sh_71, sh_72, pu_rv, pu_as, Value.category, pu_bk, pu_kl, List.replicate, pu_wi_1, pu_wi_2, nl_add, nl_ladd, nl_aa, nl_mul, nl_rmul, nl_mm, pu_qe0, pu_qe1, h4, f, hc, i1, i2, L3]
          all_goals try simp (maxSteps := 400000) (disch := omega) [nl_tle, nl_fle, nl_tlt, nl_flt, nl_teq, nl_feq, nl_sub, nl_ss, nl_lt, nl_llt, nl_ltt, nl_le, nl_lle, nl_lee, nl_eq, nl_leq, nl_ee, nl_div, nl_rem, nl_cl, nl_n1, nl_n2, nl_n3, nl_n4, nl_add, nl_ladd, nl_aa, nl_mul, nl_rmul, nl_mm, pu_wi_1, pu_wi_2, bX12_gone_67, bX12_gone_192, bX12_gone_186, bX12_gone_100, a_ai, a_ald, a_cv, a_gr, a_iadd, a_icge, a_ifeq, a_ifne, a_ild, a_imul, a_inc, a_iret, a_ist, a_push, a_wi, sh_71, sh_72, pu_rv, pu_as, Value.category, pu_bk, pu_kl, pu_qe0, pu_qe1, h4, f, hc, i1, i2, L3]
          all_goals try simp [bX12_gone_67, bX12_gone_192, bX12_gone_186, bX12_gone_100, a_ai, a_ald, a_cv, a_gr, a_iadd, a_icge, a_ifeq, a_ifne, a_ild, a_imul, a_inc, a_iret, a_ist, a_push, a_wi, sh_71, sh_72, pu_rv, pu_as, Value.category, pu_bk, pu_kl, List.replicate, pu_wi_1, pu_wi_2, nl_add, nl_ladd, nl_aa, nl_mul, nl_rmul, nl_mm, pu_qe0, pu_qe1, h4, f, hc, i1, i2, L3]
          all_goals try simp (maxSteps := 400000) (disch := omega) [nl_tle, nl_fle, nl_tlt, nl_flt, nl_teq, nl_feq, nl_sub, nl_ss, nl_lt, nl_llt, nl_ltt, nl_le, nl_lle, nl_lee, nl_eq, nl_leq, nl_ee, nl_div, nl_rem, nl_cl, nl_n1, nl_n2, nl_n3, nl_n4, nl_add, nl_ladd, nl_aa, nl_mul, nl_rmul, nl_mm, pu_wi_1, pu_wi_2, bX12_gone_67, bX12_gone_192, bX12_gone_186, bX12_gone_100, a_ai, a_ald, a_cv, a_gr, a_iadd, a_icge, a_ifeq, a_ifne, a_ild, a_imul, a_inc, a_iret, a_ist, a_push, a_wi, sh_71, sh_72, pu_rv, pu_as, Value.category, pu_bk, pu_kl, pu_qe0, pu_qe1, h4, f, hc, i1, i2, L3]
      · have d32 : ¬ I 32 d = 0 := fun z => c ⟨py_S0 hw hd s z, z⟩
        have p0 := hp _ 0 (by omega) hx1 c0
        have p1 := hp _ 1 (by omega) hx1 c0
        rw [pu_q0 (fun z => d32 z.1)] at p0 p1
        rw [nI_0] at p0
        rw [show nI 1 = (1 : Int32) from rfl] at p1
        have g5 : py_ri I top (nI (cP I)) (d + 1) (M.1 72) ((pu_wi N 72 (9552 + 12 * d + 10) (nI (cP I))).1 72) := by
          refine py_ri_ys bD bU g4 s hd _ ?_ (fun k hk dt hT => ?_) (fun j a b => ?_)
          · simp [pu_wi_1]
          · have z := (pz_uc_of hw).2.2.2.1 k hk hT.1
            rw [hT.2, ← dt] at z
            exact absurd z.2.1 d32
          · rw [py_wi_o (by omega)]
        obtain ⟨F, F1, F2, F3, F4⟩ := r_gone_l hx hr hsr hw hP ht t37 y t3 m (d + 1) (n + 1) _ (some (.int 2)) (some (.int (-1))) (by omega) (by omega) (by exact g1) (fun a j ha => by
          rw [py_wi_o (by omega)]
          exact g2 a j ha) ⟨by rw [py_wi_o (by omega)]; exact g3.1, by rw [py_wi_o (by omega)]; exact g3.2⟩ g5
        refine ⟨F, F1, F2, F3, ?_⟩
        rw [← F4]
        have L1 : ∀ u8, pu_r 469 [some (.ref 71), some (.int (nI top)), some (.int y), t3, some (.int (nI (cP I))), some (.int (nI (n + 1))), some (.int (nI d)), some (.int 2), u8] [] (pu_wi N 72 (9552 + 12 * d + 10) (nI (cP I))) = pu_r 468 [some (.ref 71), some (.int (nI top)), some (.int y), t3, some (.int (nI (cP I))), some (.int (nI (n + 1))), some (.int (nI (d + 1))), some (.int 2), u8] [] (pu_wi N 72 (9552 + 12 * d + 10) (nI (cP I))) := fun u8 => by
          rw [qX12_gone_125]
          simp [bX12_gone_125, bX12_gone_186, bX12_gone_153, bX12_gone_154, bX12_gone_180, a_ald, a_cv, a_gr, a_iadd, a_iceq, a_icge, a_ifeq, a_ild, a_imul, a_inc, a_ist, a_push, a_wi, sh_71, sh_72, pu_rv, pu_as, Value.category, pu_bk, pu_kl, List.replicate, pu_wi_1, pu_wi_2, nl_add, nl_ladd, nl_aa, nl_mul, nl_rmul, nl_mm, pu_qe0, pu_qe1]
          all_goals try simp (maxSteps := 400000) (disch := omega) [nl_tle, nl_fle, nl_tlt, nl_flt, nl_teq, nl_feq, nl_sub, nl_ss, nl_lt, nl_llt, nl_ltt, nl_le, nl_lle, nl_lee, nl_eq, nl_leq, nl_ee, nl_div, nl_rem, nl_cl, nl_n1, nl_n2, nl_n3, nl_n4, nl_add, nl_ladd, nl_aa, nl_mul, nl_rmul, nl_mm, pu_wi_1, pu_wi_2, bX12_gone_125, bX12_gone_186, bX12_gone_153, bX12_gone_154, bX12_gone_180, a_ald, a_cv, a_gr, a_iadd, a_iceq, a_icge, a_ifeq, a_ild, a_imul, a_inc, a_ist, a_push, a_wi, sh_71, sh_72, pu_rv, pu_as, Value.category, pu_bk, pu_kl, pu_qe0, pu_qe1]
          all_goals try simp [bX12_gone_125, bX12_gone_186, bX12_gone_153, bX12_gone_154, bX12_gone_180, a_ald, a_cv, a_gr, a_iadd, a_iceq, a_icge, a_ifeq, a_ild, a_imul, a_inc, a_ist, a_push, a_wi, sh_71, sh_72, pu_rv, pu_as, Value.category, pu_bk, pu_kl, List.replicate, pu_wi_1, pu_wi_2, nl_add, nl_ladd, nl_aa, nl_mul, nl_rmul, nl_mm, pu_qe0, pu_qe1]
          all_goals try simp (maxSteps := 400000) (disch := omega) [nl_tle, nl_fle, nl_tlt, nl_flt, nl_teq, nl_feq, nl_sub, nl_ss, nl_lt, nl_llt, nl_ltt, nl_le, nl_lle, nl_lee, nl_eq, nl_leq, nl_ee, nl_div, nl_rem, nl_cl, nl_n1, nl_n2, nl_n3, nl_n4, nl_add, nl_ladd, nl_aa, nl_mul, nl_rmul, nl_mm, pu_wi_1, pu_wi_2, bX12_gone_125, bX12_gone_186, bX12_gone_153, bX12_gone_154, bX12_gone_180, a_ald, a_cv, a_gr, a_iadd, a_iceq, a_icge, a_ifeq, a_ild, a_imul, a_inc, a_ist, a_push, a_wi, sh_71, sh_72, pu_rv, pu_as, Value.category, pu_bk, pu_kl, pu_qe0, pu_qe1]
        have L2 : ∀ u8, pu_r 469 [some (.ref 71), some (.int (nI top)), some (.int y), t3, some (.int (nI (cP I))), some (.int (nI (n + 1))), some (.int (nI d)), some (.int 1), u8] [] (pu_wi N 72 (9552 + 12 * d + 10) (nI (cP I))) = pu_r 468 [some (.ref 71), some (.int (nI top)), some (.int y), t3, some (.int (nI (cP I))), some (.int (nI (n + 1))), some (.int (nI (d + 1))), some (.int 2), some (.int (-1))] [] (pu_wi N 72 (9552 + 12 * d + 10) (nI (cP I))) := fun u8 => by
          rw [qX12_gone_125]
          simp [bX12_gone_125, bX12_gone_186, bX12_gone_153, bX12_gone_154, bX12_gone_180, a_ald, a_cv, a_gr, a_iadd, a_iceq, a_icge, a_ifeq, a_ild, a_imul, a_inc, a_ist, a_push, a_wi, sh_71, sh_72, pu_rv, pu_as, Value.category, pu_bk, pu_kl, List.replicate, pu_wi_1, pu_wi_2, nl_add, nl_ladd, nl_aa, nl_mul, nl_rmul, nl_mm, pu_qe0, pu_qe1, p1, L1]
          all_goals try simp (maxSteps := 400000) (disch := omega) [nl_tle, nl_fle, nl_tlt, nl_flt, nl_teq, nl_feq, nl_sub, nl_ss, nl_lt, nl_llt, nl_ltt, nl_le, nl_lle, nl_lee, nl_eq, nl_leq, nl_ee, nl_div, nl_rem, nl_cl, nl_n1, nl_n2, nl_n3, nl_n4, nl_add, nl_ladd, nl_aa, nl_mul, nl_rmul, nl_mm, pu_wi_1, pu_wi_2, bX12_gone_125, bX12_gone_186, bX12_gone_153, bX12_gone_154, bX12_gone_180, a_ald, a_cv, a_gr, a_iadd, a_iceq, a_icge, a_ifeq, a_ild, a_imul, a_inc, a_ist, a_push, a_wi, sh_71, sh_72, pu_rv, pu_as, Value.category, pu_bk, pu_kl, pu_qe0, pu_qe1, p1, L1]
          all_goals try simp [bX12_gone_125, bX12_gone_186, bX12_gone_153, bX12_gone_154, bX12_gone_180, a_ald, a_cv, a_gr, a_iadd, a_iceq, a_icge, a_ifeq, a_ild, a_imul, a_inc, a_ist, a_push, a_wi, sh_71, sh_72, pu_rv, pu_as, Value.category, pu_bk, pu_kl, List.replicate, pu_wi_1, pu_wi_2, nl_add, nl_ladd, nl_aa, nl_mul, nl_rmul, nl_mm, pu_qe0, pu_qe1, p1, L1]
          all_goals try simp (maxSteps := 400000) (disch := omega) [nl_tle, nl_fle, nl_tlt, nl_flt, nl_teq, nl_feq, nl_sub, nl_ss, nl_lt, nl_llt, nl_ltt, nl_le, nl_lle, nl_lee, nl_eq, nl_leq, nl_ee, nl_div, nl_rem, nl_cl, nl_n1, nl_n2, nl_n3, nl_n4, nl_add, nl_ladd, nl_aa, nl_mul, nl_rmul, nl_mm, pu_wi_1, pu_wi_2, bX12_gone_125, bX12_gone_186, bX12_gone_153, bX12_gone_154, bX12_gone_180, a_ald, a_cv, a_gr, a_iadd, a_iceq, a_icge, a_ifeq, a_ild, a_imul, a_inc, a_ist, a_push, a_wi, sh_71, sh_72, pu_rv, pu_as, Value.category, pu_bk, pu_kl, pu_qe0, pu_qe1, p1, L1]
        have L3 : ∀ u8, pu_r 469 [some (.ref 71), some (.int (nI top)), some (.int y), t3, some (.int (nI (cP I))), some (.int (nI (n + 1))), some (.int (nI d)), some (.int 0), u8] [] (pu_wi N 72 (9552 + 12 * d + 10) (nI (cP I))) = pu_r 468 [some (.ref 71), some (.int (nI top)), some (.int y), t3, some (.int (nI (cP I))), some (.int (nI (n + 1))), some (.int (nI (d + 1))), some (.int 2), some (.int (-1))] [] (pu_wi N 72 (9552 + 12 * d + 10) (nI (cP I))) := fun u8 => by
          rw [qX12_gone_125]
          simp [bX12_gone_125, bX12_gone_186, bX12_gone_153, bX12_gone_154, bX12_gone_180, a_ald, a_cv, a_gr, a_iadd, a_iceq, a_icge, a_ifeq, a_ild, a_imul, a_inc, a_ist, a_push, a_wi, sh_71, sh_72, pu_rv, pu_as, Value.category, pu_bk, pu_kl, List.replicate, pu_wi_1, pu_wi_2, nl_add, nl_ladd, nl_aa, nl_mul, nl_rmul, nl_mm, pu_qe0, pu_qe1, p0, L2]
          all_goals try simp (maxSteps := 400000) (disch := omega) [nl_tle, nl_fle, nl_tlt, nl_flt, nl_teq, nl_feq, nl_sub, nl_ss, nl_lt, nl_llt, nl_ltt, nl_le, nl_lle, nl_lee, nl_eq, nl_leq, nl_ee, nl_div, nl_rem, nl_cl, nl_n1, nl_n2, nl_n3, nl_n4, nl_add, nl_ladd, nl_aa, nl_mul, nl_rmul, nl_mm, pu_wi_1, pu_wi_2, bX12_gone_125, bX12_gone_186, bX12_gone_153, bX12_gone_154, bX12_gone_180, a_ald, a_cv, a_gr, a_iadd, a_iceq, a_icge, a_ifeq, a_ild, a_imul, a_inc, a_ist, a_push, a_wi, sh_71, sh_72, pu_rv, pu_as, Value.category, pu_bk, pu_kl, pu_qe0, pu_qe1, p0, L2]
          all_goals try simp [bX12_gone_125, bX12_gone_186, bX12_gone_153, bX12_gone_154, bX12_gone_180, a_ald, a_cv, a_gr, a_iadd, a_iceq, a_icge, a_ifeq, a_ild, a_imul, a_inc, a_ist, a_push, a_wi, sh_71, sh_72, pu_rv, pu_as, Value.category, pu_bk, pu_kl, List.replicate, pu_wi_1, pu_wi_2, nl_add, nl_ladd, nl_aa, nl_mul, nl_rmul, nl_mm, pu_qe0, pu_qe1, p0, L2]
          all_goals try simp (maxSteps := 400000) (disch := omega) [nl_tle, nl_fle, nl_tlt, nl_flt, nl_teq, nl_feq, nl_sub, nl_ss, nl_lt, nl_llt, nl_ltt, nl_le, nl_lle, nl_lee, nl_eq, nl_leq, nl_ee, nl_div, nl_rem, nl_cl, nl_n1, nl_n2, nl_n3, nl_n4, nl_add, nl_ladd, nl_aa, nl_mul, nl_rmul, nl_mm, pu_wi_1, pu_wi_2, bX12_gone_125, bX12_gone_186, bX12_gone_153, bX12_gone_154, bX12_gone_180, a_ald, a_cv, a_gr, a_iadd, a_iceq, a_icge, a_ifeq, a_ild, a_imul, a_inc, a_ist, a_push, a_wi, sh_71, sh_72, pu_rv, pu_as, Value.category, pu_bk, pu_kl, pu_qe0, pu_qe1, p0, L2]
        rw [qX12_gone_67]
        simp [bX12_gone_67, bX12_gone_192, bX12_gone_186, bX12_gone_100, a_ai, a_ald, a_cv, a_gr, a_iadd, a_icge, a_ifeq, a_ifne, a_ild, a_imul, a_inc, a_iret, a_ist, a_push, a_wi, sh_71, sh_72, pu_rv, pu_as, Value.category, pu_bk, pu_kl, List.replicate, pu_wi_1, pu_wi_2, nl_add, nl_ladd, nl_aa, nl_mul, nl_rmul, nl_mm, pu_qe0, pu_qe1, h4, f, hc, i1, i2, L3]
        all_goals try simp (maxSteps := 400000) (disch := omega) [nl_tle, nl_fle, nl_tlt, nl_flt, nl_teq, nl_feq, nl_sub, nl_ss, nl_lt, nl_llt, nl_ltt, nl_le, nl_lle, nl_lee, nl_eq, nl_leq, nl_ee, nl_div, nl_rem, nl_cl, nl_n1, nl_n2, nl_n3, nl_n4, nl_add, nl_ladd, nl_aa, nl_mul, nl_rmul, nl_mm, pu_wi_1, pu_wi_2, bX12_gone_67, bX12_gone_192, bX12_gone_186, bX12_gone_100, a_ai, a_ald, a_cv, a_gr, a_iadd, a_icge, a_ifeq, a_ifne, a_ild, a_imul, a_inc, a_iret, a_ist, a_push, a_wi, sh_71, sh_72, pu_rv, pu_as, Value.category, pu_bk, pu_kl, pu_qe0, pu_qe1, h4, f, hc, i1, i2, L3]
        all_goals try simp [bX12_gone_67, bX12_gone_192, bX12_gone_186, bX12_gone_100, a_ai, a_ald, a_cv, a_gr, a_iadd, a_icge, a_ifeq, a_ifne, a_ild, a_imul, a_inc, a_iret, a_ist, a_push, a_wi, sh_71, sh_72, pu_rv, pu_as, Value.category, pu_bk, pu_kl, List.replicate, pu_wi_1, pu_wi_2, nl_add, nl_ladd, nl_aa, nl_mul, nl_rmul, nl_mm, pu_qe0, pu_qe1, h4, f, hc, i1, i2, L3]
        all_goals try simp (maxSteps := 400000) (disch := omega) [nl_tle, nl_fle, nl_tlt, nl_flt, nl_teq, nl_feq, nl_sub, nl_ss, nl_lt, nl_llt, nl_ltt, nl_le, nl_lle, nl_lee, nl_eq, nl_leq, nl_ee, nl_div, nl_rem, nl_cl, nl_n1, nl_n2, nl_n3, nl_n4, nl_add, nl_ladd, nl_aa, nl_mul, nl_rmul, nl_mm, pu_wi_1, pu_wi_2, bX12_gone_67, bX12_gone_192, bX12_gone_186, bX12_gone_100, a_ai, a_ald, a_cv, a_gr, a_iadd, a_icge, a_ifeq, a_ifne, a_ild, a_imul, a_inc, a_iret, a_ist, a_push, a_wi, sh_71, sh_72, pu_rv, pu_as, Value.category, pu_bk, pu_kl, pu_qe0, pu_qe1, h4, f, hc, i1, i2, L3]
    · have e : py_ct (py_S I top) (m + 1) d n = py_ct (py_S I top) m (d + 1) n := by
        show py_ct (py_S I top) m (d + 1) _ = _
        rw [if_neg s]
      rw [e]
      have dt : d ≠ top := fun z => by
        subst z
        exact s ⟨t37, (py_iu_s hw d hd).mpr (Or.inl rfl)⟩
      obtain ⟨F, F1, F2, F3, F4⟩ := r_gone_l hx hr hsr hw hP ht t37 y t3 m (d + 1) n N t7 t8 (by omega) (by omega) g1 g2 g3 (py_ri_no g4 s dt)
      refine ⟨F, F1, F2, F3, ?_⟩
      by_cases c : I 37 d = -1
      · rw [pu_q1 c] at i1
        rw [pu_q0 (fun z => s ⟨c, z⟩)] at i2
        rw [qX12_gone_67]
        simp [bX12_gone_67, bX12_gone_192, bX12_gone_186, bX12_gone_100, a_ai, a_ald, a_cv, a_gr, a_iadd, a_icge, a_ifeq, a_ifne, a_ild, a_imul, a_inc, a_iret, a_ist, a_push, a_wi, sh_71, sh_72, pu_rv, pu_as, Value.category, pu_bk, pu_kl, List.replicate, pu_wi_1, pu_wi_2, nl_add, nl_ladd, nl_aa, nl_mul, nl_rmul, nl_mm, pu_qe0, pu_qe1, h4, f, hc, i1, i2, F4]
        all_goals try simp (maxSteps := 400000) (disch := omega) [nl_tle, nl_fle, nl_tlt, nl_flt, nl_teq, nl_feq, nl_sub, nl_ss, nl_lt, nl_llt, nl_ltt, nl_le, nl_lle, nl_lee, nl_eq, nl_leq, nl_ee, nl_div, nl_rem, nl_cl, nl_n1, nl_n2, nl_n3, nl_n4, nl_add, nl_ladd, nl_aa, nl_mul, nl_rmul, nl_mm, pu_wi_1, pu_wi_2, bX12_gone_67, bX12_gone_192, bX12_gone_186, bX12_gone_100, a_ai, a_ald, a_cv, a_gr, a_iadd, a_icge, a_ifeq, a_ifne, a_ild, a_imul, a_inc, a_iret, a_ist, a_push, a_wi, sh_71, sh_72, pu_rv, pu_as, Value.category, pu_bk, pu_kl, pu_qe0, pu_qe1, h4, f, hc, i1, i2, F4]
        all_goals try simp [bX12_gone_67, bX12_gone_192, bX12_gone_186, bX12_gone_100, a_ai, a_ald, a_cv, a_gr, a_iadd, a_icge, a_ifeq, a_ifne, a_ild, a_imul, a_inc, a_iret, a_ist, a_push, a_wi, sh_71, sh_72, pu_rv, pu_as, Value.category, pu_bk, pu_kl, List.replicate, pu_wi_1, pu_wi_2, nl_add, nl_ladd, nl_aa, nl_mul, nl_rmul, nl_mm, pu_qe0, pu_qe1, h4, f, hc, i1, i2, F4]
        all_goals try simp (maxSteps := 400000) (disch := omega) [nl_tle, nl_fle, nl_tlt, nl_flt, nl_teq, nl_feq, nl_sub, nl_ss, nl_lt, nl_llt, nl_ltt, nl_le, nl_lle, nl_lee, nl_eq, nl_leq, nl_ee, nl_div, nl_rem, nl_cl, nl_n1, nl_n2, nl_n3, nl_n4, nl_add, nl_ladd, nl_aa, nl_mul, nl_rmul, nl_mm, pu_wi_1, pu_wi_2, bX12_gone_67, bX12_gone_192, bX12_gone_186, bX12_gone_100, a_ai, a_ald, a_cv, a_gr, a_iadd, a_icge, a_ifeq, a_ifne, a_ild, a_imul, a_inc, a_iret, a_ist, a_push, a_wi, sh_71, sh_72, pu_rv, pu_as, Value.category, pu_bk, pu_kl, pu_qe0, pu_qe1, h4, f, hc, i1, i2, F4]
      · rw [pu_q0 c] at i1
        rw [qX12_gone_67]
        simp [bX12_gone_67, bX12_gone_192, bX12_gone_186, bX12_gone_100, a_ai, a_ald, a_cv, a_gr, a_iadd, a_icge, a_ifeq, a_ifne, a_ild, a_imul, a_inc, a_iret, a_ist, a_push, a_wi, sh_71, sh_72, pu_rv, pu_as, Value.category, pu_bk, pu_kl, List.replicate, pu_wi_1, pu_wi_2, nl_add, nl_ladd, nl_aa, nl_mul, nl_rmul, nl_mm, pu_qe0, pu_qe1, h4, f, hc, i1, F4]
        all_goals try simp (maxSteps := 400000) (disch := omega) [nl_tle, nl_fle, nl_tlt, nl_flt, nl_teq, nl_feq, nl_sub, nl_ss, nl_lt, nl_llt, nl_ltt, nl_le, nl_lle, nl_lee, nl_eq, nl_leq, nl_ee, nl_div, nl_rem, nl_cl, nl_n1, nl_n2, nl_n3, nl_n4, nl_add, nl_ladd, nl_aa, nl_mul, nl_rmul, nl_mm, pu_wi_1, pu_wi_2, bX12_gone_67, bX12_gone_192, bX12_gone_186, bX12_gone_100, a_ai, a_ald, a_cv, a_gr, a_iadd, a_icge, a_ifeq, a_ifne, a_ild, a_imul, a_inc, a_iret, a_ist, a_push, a_wi, sh_71, sh_72, pu_rv, pu_as, Value.category, pu_bk, pu_kl, pu_qe0, pu_qe1, h4, f, hc, i1, F4]
        all_goals try simp [bX12_gone_67, bX12_gone_192, bX12_gone_186, bX12_gone_100, a_ai, a_ald, a_cv, a_gr, a_iadd, a_icge, a_ifeq, a_ifne, a_ild, a_imul, a_inc, a_iret, a_ist, a_push, a_wi, sh_71, sh_72, pu_rv, pu_as, Value.category, pu_bk, pu_kl, List.replicate, pu_wi_1, pu_wi_2, nl_add, nl_ladd, nl_aa, nl_mul, nl_rmul, nl_mm, pu_qe0, pu_qe1, h4, f, hc, i1, F4]
        all_goals try simp (maxSteps := 400000) (disch := omega) [nl_tle, nl_fle, nl_tlt, nl_flt, nl_teq, nl_feq, nl_sub, nl_ss, nl_lt, nl_llt, nl_ltt, nl_le, nl_lle, nl_lee, nl_eq, nl_leq, nl_ee, nl_div, nl_rem, nl_cl, nl_n1, nl_n2, nl_n3, nl_n4, nl_add, nl_ladd, nl_aa, nl_mul, nl_rmul, nl_mm, pu_wi_1, pu_wi_2, bX12_gone_67, bX12_gone_192, bX12_gone_186, bX12_gone_100, a_ai, a_ald, a_cv, a_gr, a_iadd, a_icge, a_ifeq, a_ifne, a_ild, a_imul, a_inc, a_iret, a_ist, a_push, a_wi, sh_71, sh_72, pu_rv, pu_as, Value.category, pu_bk, pu_kl, pu_qe0, pu_qe1, h4, f, hc, i1, F4]
end
