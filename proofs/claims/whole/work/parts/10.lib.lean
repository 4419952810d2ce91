/-! arraycopy, Math, Object, calls -/
theorem pu_sto2 {X : pu_X} {d : pu_D} {pc pc' a : Nat} {st0 st : List Value} {M M' : pu_M} {ls : pu_L} {k : pu_K}
    (hS : pu_okS ls st0 M) (hm1 : Value.ref a ∈ st0) (hm2 : ∀ v ∈ st, v ∈ st0) (hn : X.2.2.2.2.2.2.2.2.2.2.2.2.1 ≤ M.2.2.2) (hM1 : M'.2.2.2 = M.2.2.2) (hM2 : pu_okM M') (hM3 : ∀ b, b ≠ a → pu_ce X.2.2.2.2.2.2.2.2.2.2.1 M' b = pu_ce X.2.2.2.2.2.2.2.2.2.2.1 M b) (h : pu_S X d pc' k) (ho : k ls st M' = some X.2.2.2.2.2.2.2.2.2.2.2.2.2)
    (hw : ∀ (la : Array Slot) (H : Heap) (locs : List Loc), a < M.2.2.2 → pu_lv X.2.2.2.2.2.2.2.2.2.2.1 la d.2.2.2.1 ls → pu_W X.2.2.2.2.2.2.2.2.2.2.1 M H → va_S (fun q => X.2.2.2.2.2.2.2.2.2.2.1.1 ≤ q) X.2.2.2.2.1.heap H locs →
      (∀ (H1 : Heap) (locs1 : List Loc), H1[X.2.2.2.2.2.2.2.2.2.2.1.1 + a]? = (match pu_ce X.2.2.2.2.2.2.2.2.2.2.1 M' a with | .inl q => some (vp_cell q.1 q.2) | .inr _ => H1[X.2.2.2.2.2.2.2.2.2.2.1.1 + a]?) → (match pu_ce X.2.2.2.2.2.2.2.2.2.2.1 M' a with | .inl _ => True | .inr _ => False) → H1.size = H.size → (∀ q, q ≠ X.2.2.2.2.2.2.2.2.2.2.1.1 + a → H1[q]? = H[q]?) → (∀ l ∈ locs1, l ∈ locs ∨ l.base = X.2.2.2.2.2.2.2.2.2.2.1.1 + a) →
        W X.1 X.2.1 X.2.2.1 X.2.2.2.1 X.2.2.2.2.1 X.2.2.2.2.2.1 X.2.2.2.2.2.2.1 X.2.2.2.2.2.2.2.1 X.2.2.2.2.2.2.2.2.1 X.2.2.2.2.2.2.2.2.2.1 H1 locs1 (M.2.2.2 - X.2.2.2.2.2.2.2.2.2.2.2.2.1) (pu_sl M.2.2.2 - pu_sl X.2.2.2.2.2.2.2.2.2.2.2.2.1) X.2.2.2.2.2.2.2.2.2.2.2.1 (F0 X.2.2.2.2.2.1 pc' la (st.map (pu_t X.2.2.2.2.2.2.2.2.2.2.1)))) →
      W X.1 X.2.1 X.2.2.1 X.2.2.2.1 X.2.2.2.2.1 X.2.2.2.2.2.1 X.2.2.2.2.2.2.1 X.2.2.2.2.2.2.2.1 X.2.2.2.2.2.2.2.2.1 X.2.2.2.2.2.2.2.2.2.1 H locs (M.2.2.2 - X.2.2.2.2.2.2.2.2.2.2.2.2.1) (pu_sl M.2.2.2 - pu_sl X.2.2.2.2.2.2.2.2.2.2.2.2.1) X.2.2.2.2.2.2.2.2.2.2.2.1 (F0 X.2.2.2.2.2.1 pc la (st0.map (pu_t X.2.2.2.2.2.2.2.2.2.2.1)))) :
    (M.2.2.2 ≤ X.2.2.2.2.2.2.2.2.2.2.2.2.2.2.2.2.2 ∧ pu_okO X.2.2.2.2.2.2.2.2.2.2.2.2.2) ∧ ∀ (la : Array Slot) (H : Heap) (locs : List Loc), pu_lv X.2.2.2.2.2.2.2.2.2.2.1 la d.2.2.2.1 ls → pu_W X.2.2.2.2.2.2.2.2.2.2.1 M H → va_S (fun q => X.2.2.2.2.2.2.2.2.2.2.1.1 ≤ q) X.2.2.2.2.1.heap H locs →
        W X.1 X.2.1 X.2.2.1 X.2.2.2.1 X.2.2.2.2.1 X.2.2.2.2.2.1 X.2.2.2.2.2.2.1 X.2.2.2.2.2.2.2.1 X.2.2.2.2.2.2.2.2.1 X.2.2.2.2.2.2.2.2.2.1 H locs (M.2.2.2 - X.2.2.2.2.2.2.2.2.2.2.2.2.1) (pu_sl M.2.2.2 - pu_sl X.2.2.2.2.2.2.2.2.2.2.2.2.1) X.2.2.2.2.2.2.2.2.2.2.2.1 (F0 X.2.2.2.2.2.1 pc la (st0.map (pu_t X.2.2.2.2.2.2.2.2.2.2.1))) := by
  obtain ⟨p, l, e, R, s, m, args, below, meth, c', g, Q, n0, out⟩ := X
  dsimp only at *
  have ha : a < M.2.2.2 := hS.1 (.ref a) hm1
  obtain ⟨a1, a2⟩ := h ls st M' ho ⟨fun v hv => by rw [hM1]; exact hS.1 v (hm2 v hv), fun v hv => by rw [hM1]; exact hS.2.1 v hv, hM2⟩ (by rw [hM1]; exact hn)
  rw [hM1] at a1 a2
  refine ⟨a1, fun la H locs hlv hW hs2 => hw la H locs ha hlv hW hs2 fun H1 locs1 e1 e0 e2 e3 e4 => ?_⟩
  refine a2 la H1 locs1 hlv (pu_W_upd hW hM1 e2 e3 hM3 fun _ => ?_) ?_
  · unfold va_at
    cases hq : pu_ce g M' a with
    | inl q => rw [hq] at e1; exact e1
    | inr q => rw [hq] at e0; exact e0.elim
  · refine ⟨by rw [e2]; exact hs2.1, fun q h1 h2 => ?_, fun q hq => ?_⟩
    · rw [e3 q (by omega)]
      exact hs2.2.1 q h1 h2
    · rcases e4 q hq with h | h
      · exact hs2.2.2 q h
      · rw [h]; omega

theorem pu_ci_ne {M : pu_M} {a sp a2 dp n b : Nat} (h : b ≠ a2) : (pu_ci M a sp a2 dp n).1 b = M.1 b := by
  funext j; simp [pu_ci, h]
def s_cp1 (k : pu_K) : pu_K := fun ls st M => match st with
  | .int n :: .int dp :: .ref b :: .int sp :: .ref a :: st => if ((pu_sh a).1 = 1 ∧ (pu_sh b).1 = 1 ∧ ¬ sp < 0 ∧ ¬ dp < 0 ∧ ¬ n < 0 ∧ sp.toNatClampNeg + n.toNatClampNeg ≤ (pu_sh a).2 ∧ dp.toNatClampNeg + n.toNatClampNeg ≤ (pu_sh b).2) ∧ (st.map fun v => v.category).sum ≤ 8 then k ls st (pu_ci M a sp.toNatClampNeg b dp.toNatClampNeg n.toNatClampNeg) else none
  | _ => none
theorem z_cp1 {X : pu_X} {d : pu_D} {pc index : Nat} {k : pu_K} (hX : pu_H X d) (hd : decode d.2.2.1 pc = .ok (.invokestatic index, 3)) (hw : Cond.methodLink d.1 index arraycopyName ∈ wsL_law ∧ Cond.native arraycopyName ∈ wsL_law ∧ Cond.static arraycopyName ∈ wsL_law ∧ Cond.initialized "java/lang/System" ∈ wsL_law) (hr : 1 ≤ d.2.2.2.2.2.1 ∧ 26 ≤ d.2.2.2.2.2.2) (h : pu_S X d (pc + 3) k) : pu_S X d pc (s_cp1 k) := by
  obtain ⟨p, l, e, R, s, m, args, below, meth, c', g, Q, n0, out⟩ := X
  intro ls st M ho hS hn
  unfold s_cp1 at ho
  split at ho
  · rename_i n dp b sp a st
    split at ho
    · rename_i hs
      obtain ⟨⟨hka, hkb, h1, h2, h3, h4, h5⟩, hcat⟩ := hs
      obtain ⟨hx, hb, hml, hown, hts, hK, hsp, hR, hsz, hnm, hE⟩ := hX
      have hcea := fun M' => pu_ce_arr (g := g) (M := M') (pu_sh_eta hka)
      have hceb := fun M' => pu_ce_arr (g := g) (M := M') (pu_sh_eta hkb)
      have hla : a < M.2.2.2 := hS.1 (.ref a) (by simp)
      refine pu_sto2 (X := (p, l, e, R, s, m, args, below, meth, c', g, Q, n0, out)) (a := b) (M' := pu_ci M a sp.toNatClampNeg b dp.toNatClampNeg n.toNatClampNeg) hS (by simp) (fun v hv => by simp [hv]) hn rfl (fun b k r h1 h2 => hS.2.2 b k r h1 h2) (fun b hb => pu_ce_congr (pu_ci_ne hb) rfl rfl) h ho fun la H locs ha hlv hW hs2 kk => ?_
      have nn : ∀ z : Int32, ¬ z < 0 → z.toInt = (z.toNatClampNeg : Int) := by
        intro z hz
        have hz0 : (0 : Int) ≤ z.toInt := by
          have := Int32.not_lt.mp hz
          simpa using Int32.le_iff_toInt_le.mp this
        show z.toInt = ((z.toInt.toNat : Nat) : Int)
        omega
      have hata := hW.2 a hla
      have hatb := hW.2 b ha
      rw [hcea M] at hata
      rw [hceb M] at hatb
      have hc0 : H[g.1 + a]? = some (vp_cell (g.2.2.1 1) ((pu_sh a).2, .inl (M.1 a))) := hata
      have hc1 : H[g.1 + b]? = some (vp_cell (g.2.2.1 1) ((pu_sh b).2, .inl (M.1 b))) := hatb
      intro T hT X
      obtain ⟨-, k0, hk0, cm0, hkk0⟩ := (hK.2 0 (g.2.2.1 1, .int) rfl).1 (pu_sh a).2 (fun j => .int (M.1 a j))
      obtain ⟨-, k1, hk1, cm1, hkk1⟩ := (hK.2 0 (g.2.2.1 1, .int) rfl).1 (pu_sh b).2 (fun j => .int (M.1 b j))
      obtain ⟨vm', X', step⟩ := X.arraycopy hx hown (hts _ hw.1) (hts _ hw.2.1) (hts _ hw.2.2.1) (hts _ hw.2.2.2) (src := g.1 + a) (dst := g.1 + b) (cs := vp_cell (g.2.2.1 1) ((pu_sh a).2, .inl (M.1 a))) (cd := vp_cell (g.2.2.1 1) ((pu_sh b).2, .inl (M.1 b))) (srcPos := sp) (destPos := dp) (n := n) (by rw [hT]; exact hc0) (by rw [hT]; exact hc1)
        (fun _ h => by cases h) (fun _ h => by cases h) (fun h => by cases h) (fun h => by cases h) hk0 hk1 hkk0 hkk1 (by simp [refKind]) h1 h2 h3
        (by rw [nn sp h1, nn n h3]; show ¬ _ > ((arrV _ (pu_sh a).2 (fun j => .int (M.1 a j))).slots.size : Int); rw [arrV_size]; omega)
        (by rw [nn dp h2, nn n h3]; show ¬ _ > ((arrV _ (pu_sh b).2 (fun j => .int (M.1 b j))).slots.size : Int); rw [arrV_size]; omega)
        (fun vm₁ _ i hi => by
          have e : (vp_cell (g.2.2.1 1) ((pu_sh a).2, .inl (M.1 a))).slots.getD (sp.toNatClampNeg + i) .null = .int (M.1 a (sp.toNatClampNeg + i)) := by
            show (arrV _ (pu_sh a).2 (fun j => .int (M.1 a j))).slots.getD _ _ = _
            rw [Array.getD_eq_getD_getElem?, arrV_read _ _ (by omega)]
            rfl
          refine ⟨?_, ?_⟩
          · rw [e]
            rfl
          · rw [e]
            exact trivial)
        (g := F0 m pc la (.int n :: .int dp :: .ref (g.1 + b) :: .int sp :: .ref (g.1 + a) :: st.map (pu_t g))) rfl (by show la.size = _; rw [hml]; exact hlv.1.1) (rest := st.map (pu_t g)) rfl (by rw [hb]; exact hd) (by show 1 ≤ R.frames; have := hR.2.2.1; omega) (by
          have hq : ((st.map (pu_t g)).map fun v => v.category).sum ≤ 8 := by
            rw [List.map_map]
            have : ((fun v : Value => v.category) ∘ pu_t g) = fun v => v.category := by funext v; exact pu_t_cat g v
            rw [this]; exact hcat
          show 2 * 0 + _ + _ ≤ _
          have := hR.2.2.2
          show 2 * 0 + ((st.map (pu_t g)).map fun v => v.category).sum + (nativeFrameWords "java/lang/System" "arraycopy" 5 + 11) ≤ R.locals
          have e5 : nativeFrameWords "java/lang/System" "arraycopy" 5 = 7 := by decide
          rw [e5]; omega)
      have e1 : copied (vp_cell (g.2.2.1 1) ((pu_sh a).2, .inl (M.1 a))) (vp_cell (g.2.2.1 1) ((pu_sh b).2, .inl (M.1 b))) sp dp n = vp_cell (g.2.2.1 1) ((pu_sh b).2, .inl (va_cpy (M.1 a) (M.1 b) sp.toNatClampNeg dp.toNatClampNeg n.toNatClampNeg)) := va_copied (fun z => .int z) (g.2.2.1 1) (g.2.2.1 1) (M.1 a) (M.1 b) h4
      rw [e1] at X' step
      have hl : g.1 + b < H.size := (Array.getElem?_eq_some_iff.mp hc1).1
      have hheap : ((T.setVm vm').setCell (g.1 + b) (vp_cell (g.2.2.1 1) ((pu_sh b).2, .inl (va_cpy (M.1 a) (M.1 b) sp.toNatClampNeg dp.toNatClampNeg n.toNatClampNeg)))).heap = H.setIfInBounds (g.1 + b) (vp_cell (g.2.2.1 1) ((pu_sh b).2, .inl (va_cpy (M.1 a) (M.1 b) sp.toNatClampNeg dp.toNatClampNeg n.toNatClampNeg))) := by rw [← hT]; rfl
      have ecp : (pu_ci M a sp.toNatClampNeg b dp.toNatClampNeg n.toNatClampNeg).1 b = va_cpy (M.1 a) (M.1 b) sp.toNatClampNeg dp.toNatClampNeg n.toNatClampNeg := by
        funext j
        simp [pu_ci, va_cpy]
      obtain ⟨t, a1, b1⟩ := kk _ _ (by
          rw [hceb]
          show (H.setIfInBounds (g.1 + b) (vp_cell (g.2.2.1 1) ((pu_sh b).2, .inl (va_cpy (M.1 a) (M.1 b) sp.toNatClampNeg dp.toNatClampNeg n.toNatClampNeg))))[_]? = some (vp_cell _ ((pu_sh b).2, .inl ((pu_ci M a sp.toNatClampNeg b dp.toNatClampNeg n.toNatClampNeg).1 b)))
          rw [ecp]
          simp [Array.getElem?_setIfInBounds, hl]) (by rw [hceb]; trivial) (by simp) (fun q hq => by simp [Array.getElem?_setIfInBounds, Ne.symm hq]) (fun q hq => by
          rcases List.mem_append.mp hq with h | h
          · exact Or.inl h
          · obtain ⟨z, -, hz⟩ := List.mem_map.mp h
            rw [← hz]
            exact Or.inr rfl) _ hheap X'
      exact ⟨t, step t a1, b1⟩
    · cases ho
  · cases ho
theorem pu_cl_ne {M : pu_M} {a sp a2 dp n b : Nat} (h : b ≠ a2) : (pu_cl M a sp a2 dp n).2.1 b = M.2.1 b := by
  funext j; simp [pu_cl, h]
def s_cp3 (k : pu_K) : pu_K := fun ls st M => match st with
  | .int n :: .int dp :: .ref b :: .int sp :: .ref a :: st => if ((pu_sh a).1 = 3 ∧ (pu_sh b).1 = 3 ∧ ¬ sp < 0 ∧ ¬ dp < 0 ∧ ¬ n < 0 ∧ sp.toNatClampNeg + n.toNatClampNeg ≤ (pu_sh a).2 ∧ dp.toNatClampNeg + n.toNatClampNeg ≤ (pu_sh b).2) ∧ (st.map fun v => v.category).sum ≤ 8 then k ls st (pu_cl M a sp.toNatClampNeg b dp.toNatClampNeg n.toNatClampNeg) else none
  | _ => none
theorem z_cp3 {X : pu_X} {d : pu_D} {pc index : Nat} {k : pu_K} (hX : pu_H X d) (hd : decode d.2.2.1 pc = .ok (.invokestatic index, 3)) (hw : Cond.methodLink d.1 index arraycopyName ∈ wsL_law ∧ Cond.native arraycopyName ∈ wsL_law ∧ Cond.static arraycopyName ∈ wsL_law ∧ Cond.initialized "java/lang/System" ∈ wsL_law) (hr : 1 ≤ d.2.2.2.2.2.1 ∧ 26 ≤ d.2.2.2.2.2.2) (h : pu_S X d (pc + 3) k) : pu_S X d pc (s_cp3 k) := by
  obtain ⟨p, l, e, R, s, m, args, below, meth, c', g, Q, n0, out⟩ := X
  intro ls st M ho hS hn
  unfold s_cp3 at ho
  split at ho
  · rename_i n dp b sp a st
    split at ho
    · rename_i hs
      obtain ⟨⟨hka, hkb, h1, h2, h3, h4, h5⟩, hcat⟩ := hs
      obtain ⟨hx, hb, hml, hown, hts, hK, hsp, hR, hsz, hnm, hE⟩ := hX
      have hcea := fun M' => pu_ce_arr (g := g) (M := M') (pu_sh_eta hka)
      have hceb := fun M' => pu_ce_arr (g := g) (M := M') (pu_sh_eta hkb)
      have hla : a < M.2.2.2 := hS.1 (.ref a) (by simp)
      refine pu_sto2 (X := (p, l, e, R, s, m, args, below, meth, c', g, Q, n0, out)) (a := b) (M' := pu_cl M a sp.toNatClampNeg b dp.toNatClampNeg n.toNatClampNeg) hS (by simp) (fun v hv => by simp [hv]) hn rfl (fun b k r h1 h2 => hS.2.2 b k r h1 h2) (fun b hb => pu_ce_congr rfl (pu_cl_ne hb) rfl) h ho fun la H locs ha hlv hW hs2 kk => ?_
      have nn : ∀ z : Int32, ¬ z < 0 → z.toInt = (z.toNatClampNeg : Int) := by
        intro z hz
        have hz0 : (0 : Int) ≤ z.toInt := by
          have := Int32.not_lt.mp hz
          simpa using Int32.le_iff_toInt_le.mp this
        show z.toInt = ((z.toInt.toNat : Nat) : Int)
        omega
      have hata := hW.2 a hla
      have hatb := hW.2 b ha
      rw [hcea M] at hata
      rw [hceb M] at hatb
      have hc0 : H[g.1 + a]? = some (vp_cell (g.2.2.1 3) ((pu_sh a).2, .inr (.inl (M.2.1 a)))) := hata
      have hc1 : H[g.1 + b]? = some (vp_cell (g.2.2.1 3) ((pu_sh b).2, .inr (.inl (M.2.1 b)))) := hatb
      intro T hT X
      obtain ⟨-, k0, hk0, cm0, hkk0⟩ := (hK.2 2 (g.2.2.1 3, .long) rfl).1 (pu_sh a).2 (fun j => .long (M.2.1 a j))
      obtain ⟨-, k1, hk1, cm1, hkk1⟩ := (hK.2 2 (g.2.2.1 3, .long) rfl).1 (pu_sh b).2 (fun j => .long (M.2.1 b j))
      obtain ⟨vm', X', step⟩ := X.arraycopy hx hown (hts _ hw.1) (hts _ hw.2.1) (hts _ hw.2.2.1) (hts _ hw.2.2.2) (src := g.1 + a) (dst := g.1 + b) (cs := vp_cell (g.2.2.1 3) ((pu_sh a).2, .inr (.inl (M.2.1 a)))) (cd := vp_cell (g.2.2.1 3) ((pu_sh b).2, .inr (.inl (M.2.1 b)))) (srcPos := sp) (destPos := dp) (n := n) (by rw [hT]; exact hc0) (by rw [hT]; exact hc1)
        (fun _ h => by cases h) (fun _ h => by cases h) (fun h => by cases h) (fun h => by cases h) hk0 hk1 hkk0 hkk1 (by simp [refKind]) h1 h2 h3
        (by rw [nn sp h1, nn n h3]; show ¬ _ > ((arrV _ (pu_sh a).2 (fun j => .long (M.2.1 a j))).slots.size : Int); rw [arrV_size]; omega)
        (by rw [nn dp h2, nn n h3]; show ¬ _ > ((arrV _ (pu_sh b).2 (fun j => .long (M.2.1 b j))).slots.size : Int); rw [arrV_size]; omega)
        (fun vm₁ _ i hi => by
          have e : (vp_cell (g.2.2.1 3) ((pu_sh a).2, .inr (.inl (M.2.1 a)))).slots.getD (sp.toNatClampNeg + i) .null = .long (M.2.1 a (sp.toNatClampNeg + i)) := by
            show (arrV _ (pu_sh a).2 (fun j => .long (M.2.1 a j))).slots.getD _ _ = _
            rw [Array.getD_eq_getD_getElem?, arrV_read _ _ (by omega)]
            rfl
          refine ⟨?_, ?_⟩
          · rw [e]
            rfl
          · rw [e]
            exact trivial)
        (g := F0 m pc la (.int n :: .int dp :: .ref (g.1 + b) :: .int sp :: .ref (g.1 + a) :: st.map (pu_t g))) rfl (by show la.size = _; rw [hml]; exact hlv.1.1) (rest := st.map (pu_t g)) rfl (by rw [hb]; exact hd) (by show 1 ≤ R.frames; have := hR.2.2.1; omega) (by
          have hq : ((st.map (pu_t g)).map fun v => v.category).sum ≤ 8 := by
            rw [List.map_map]
            have : ((fun v : Value => v.category) ∘ pu_t g) = fun v => v.category := by funext v; exact pu_t_cat g v
            rw [this]; exact hcat
          show 2 * 0 + _ + _ ≤ _
          have := hR.2.2.2
          show 2 * 0 + ((st.map (pu_t g)).map fun v => v.category).sum + (nativeFrameWords "java/lang/System" "arraycopy" 5 + 11) ≤ R.locals
          have e5 : nativeFrameWords "java/lang/System" "arraycopy" 5 = 7 := by decide
          rw [e5]; omega)
      have e1 : copied (vp_cell (g.2.2.1 3) ((pu_sh a).2, .inr (.inl (M.2.1 a)))) (vp_cell (g.2.2.1 3) ((pu_sh b).2, .inr (.inl (M.2.1 b)))) sp dp n = vp_cell (g.2.2.1 3) ((pu_sh b).2, .inr (.inl (va_cpy (M.2.1 a) (M.2.1 b) sp.toNatClampNeg dp.toNatClampNeg n.toNatClampNeg))) := va_copied (fun z => .long z) (g.2.2.1 3) (g.2.2.1 3) (M.2.1 a) (M.2.1 b) h4
      rw [e1] at X' step
      have hl : g.1 + b < H.size := (Array.getElem?_eq_some_iff.mp hc1).1
      have hheap : ((T.setVm vm').setCell (g.1 + b) (vp_cell (g.2.2.1 3) ((pu_sh b).2, .inr (.inl (va_cpy (M.2.1 a) (M.2.1 b) sp.toNatClampNeg dp.toNatClampNeg n.toNatClampNeg))))).heap = H.setIfInBounds (g.1 + b) (vp_cell (g.2.2.1 3) ((pu_sh b).2, .inr (.inl (va_cpy (M.2.1 a) (M.2.1 b) sp.toNatClampNeg dp.toNatClampNeg n.toNatClampNeg)))) := by rw [← hT]; rfl
      have ecp : (pu_cl M a sp.toNatClampNeg b dp.toNatClampNeg n.toNatClampNeg).2.1 b = va_cpy (M.2.1 a) (M.2.1 b) sp.toNatClampNeg dp.toNatClampNeg n.toNatClampNeg := by
        funext j
        simp [pu_cl, va_cpy]
      obtain ⟨t, a1, b1⟩ := kk _ _ (by
          rw [hceb]
          show (H.setIfInBounds (g.1 + b) (vp_cell (g.2.2.1 3) ((pu_sh b).2, .inr (.inl (va_cpy (M.2.1 a) (M.2.1 b) sp.toNatClampNeg dp.toNatClampNeg n.toNatClampNeg)))))[_]? = some (vp_cell _ ((pu_sh b).2, .inr (.inl ((pu_cl M a sp.toNatClampNeg b dp.toNatClampNeg n.toNatClampNeg).2.1 b))))
          rw [ecp]
          simp [Array.getElem?_setIfInBounds, hl]) (by rw [hceb]; trivial) (by simp) (fun q hq => by simp [Array.getElem?_setIfInBounds, Ne.symm hq]) (fun q hq => by
          rcases List.mem_append.mp hq with h | h
          · exact Or.inl h
          · obtain ⟨z, -, hz⟩ := List.mem_map.mp h
            rw [← hz]
            exact Or.inr rfl) _ hheap X'
      exact ⟨t, step t a1, b1⟩
    · cases ho
  · cases ho
theorem pu_cat8 {g : pu_G} {st : List Value} (h : (st.map fun v => v.category).sum ≤ 8) : ((st.map (pu_t g)).map fun v => v.category).sum ≤ 8 := by
  rw [List.map_map]
  have : ((fun v : Value => v.category) ∘ pu_t g) = fun v => v.category := by funext v; exact pu_t_cat g v
  rw [this]; exact h
def s_max (k : pu_K) : pu_K := fun ls st M => match st with
  | .int y :: .int x :: st => if (st.map fun v => v.category).sum ≤ 8 then k ls (.int (if x < y then y else x) :: st) M else none
  | _ => none
theorem z_max {X : pu_X} {d : pu_D} {pc index : Nat} {k : pu_K} (hX : pu_H X d) (hd : decode d.2.2.1 pc = .ok (.invokestatic index, 3)) (hw : Cond.methodLink d.1 index Lib.Math.max.name ∈ wsL_law ∧ Cond.static Lib.Math.max.name ∈ wsL_law ∧ Cond.initialized "java/lang/Math" ∈ wsL_law ∧ Cond.code Lib.Math.max.name Lib.Math.max.code 2 (some .int) ∈ wsL_law) (hr : 1 ≤ d.2.2.2.2.2.1 ∧ 21 ≤ d.2.2.2.2.2.2) (h : pu_S X d (pc + 3) k) : pu_S X d pc (s_max k) := by
  obtain ⟨p, l, e, R, s, m, args, below, meth, c', g, Q, n0, out⟩ := X
  obtain ⟨hx, hb, hml, hown, hts, hK, hsp, hR, hsz, hnm, hE⟩ := hX
  intro ls st M ho hS hn
  unfold s_max at ho
  split at ho
  · split at ho
    · rename_i hc
      have hS1 := hS.1
      simp only [List.mem_cons, forall_eq_or_imp] at hS1
      obtain ⟨a1, a2⟩ := h ls _ M ho ⟨fun v hv => by
        rcases List.mem_cons.mp hv with rfl | hv
        · trivial
        · exact hS1.2.2 v hv, hS.2⟩ hn
      have hsl : pu_sl M.2.2.2 ≤ pu_sl out.2.2.2.2 := pu_sl_mono a1.1
      have h8 := pu_cat8 (g := g) hc
      exact ⟨a1, fun la H locs hl hW hs => va_mmax hx hb (by rw [hml]; exact hl.1.1.symm) hown (hts _ hw.1) (hts _ hw.2.1) (hts _ hw.2.2.1) (hts _ hw.2.2.2) (by have := hR.2.2.1; omega) (by have := hR.2.2.2; omega) (by have := hR.1; have := a1.1; omega) (by have := hR.2.1; omega) hd (a2 la H locs hl hW hs)⟩
    · cases ho
  · cases ho
def s_min (k : pu_K) : pu_K := fun ls st M => match st with
  | .int y :: .int x :: st => if (st.map fun v => v.category).sum ≤ 8 then k ls (.int (if y < x then y else x) :: st) M else none
  | _ => none
theorem z_min {X : pu_X} {d : pu_D} {pc index : Nat} {k : pu_K} (hX : pu_H X d) (hd : decode d.2.2.1 pc = .ok (.invokestatic index, 3)) (hw : Cond.methodLink d.1 index Lib.Math.min.name ∈ wsL_law ∧ Cond.static Lib.Math.min.name ∈ wsL_law ∧ Cond.initialized "java/lang/Math" ∈ wsL_law ∧ Cond.code Lib.Math.min.name Lib.Math.min.code 2 (some .int) ∈ wsL_law) (hr : 1 ≤ d.2.2.2.2.2.1 ∧ 21 ≤ d.2.2.2.2.2.2) (h : pu_S X d (pc + 3) k) : pu_S X d pc (s_min k) := by
  obtain ⟨p, l, e, R, s, m, args, below, meth, c', g, Q, n0, out⟩ := X
  obtain ⟨hx, hb, hml, hown, hts, hK, hsp, hR, hsz, hnm, hE⟩ := hX
  intro ls st M ho hS hn
  unfold s_min at ho
  split at ho
  · split at ho
    · rename_i hc
      have hS1 := hS.1
      simp only [List.mem_cons, forall_eq_or_imp] at hS1
      obtain ⟨a1, a2⟩ := h ls _ M ho ⟨fun v hv => by
        rcases List.mem_cons.mp hv with rfl | hv
        · trivial
        · exact hS1.2.2 v hv, hS.2⟩ hn
      have hsl : pu_sl M.2.2.2 ≤ pu_sl out.2.2.2.2 := pu_sl_mono a1.1
      have h8 := pu_cat8 (g := g) hc
      exact ⟨a1, fun la H locs hl hW hs => va_mmin hx hb (by rw [hml]; exact hl.1.1.symm) hown (hts _ hw.1) (hts _ hw.2.1) (hts _ hw.2.2.1) (hts _ hw.2.2.2) (by have := hR.2.2.1; omega) (by have := hR.2.2.2; omega) (by have := hR.1; have := a1.1; omega) (by have := hR.2.1; omega) hd (a2 la H locs hl hW hs)⟩
    · cases ho
  · cases ho
def s_abs (k : pu_K) : pu_K := fun ls st M => match st with
  | .int x :: st => if (st.map fun v => v.category).sum ≤ 8 then k ls (.int (if 0 ≤ x then x else 0 - x) :: st) M else none
  | _ => none
theorem z_abs {X : pu_X} {d : pu_D} {pc index : Nat} {k : pu_K} (hX : pu_H X d) (hd : decode d.2.2.1 pc = .ok (.invokestatic index, 3)) (hw : Cond.methodLink d.1 index Lib.Math.abs.name ∈ wsL_law ∧ Cond.static Lib.Math.abs.name ∈ wsL_law ∧ Cond.initialized "java/lang/Math" ∈ wsL_law ∧ Cond.code Lib.Math.abs.name Lib.Math.abs.code 1 (some .int) ∈ wsL_law) (hr : 1 ≤ d.2.2.2.2.2.1 ∧ 21 ≤ d.2.2.2.2.2.2) (h : pu_S X d (pc + 3) k) : pu_S X d pc (s_abs k) := by
  obtain ⟨p, l, e, R, s, m, args, below, meth, c', g, Q, n0, out⟩ := X
  obtain ⟨hx, hb, hml, hown, hts, hK, hsp, hR, hsz, hnm, hE⟩ := hX
  intro ls st M ho hS hn
  unfold s_abs at ho
  split at ho
  · split at ho
    · rename_i hc
      have hS1 := hS.1
      simp only [List.mem_cons, forall_eq_or_imp] at hS1
      obtain ⟨a1, a2⟩ := h ls _ M ho ⟨fun v hv => by
        rcases List.mem_cons.mp hv with rfl | hv
        · trivial
        · exact hS1.2 v hv, hS.2⟩ hn
      have hsl : pu_sl M.2.2.2 ≤ pu_sl out.2.2.2.2 := pu_sl_mono a1.1
      have h8 := pu_cat8 (g := g) hc
      exact ⟨a1, fun la H locs hl hW hs => va_mabs hx hb (by rw [hml]; exact hl.1.1.symm) hown (hts _ hw.1) (hts _ hw.2.1) (hts _ hw.2.2.1) (hts _ hw.2.2.2) (by have := hR.2.2.1; omega) (by have := hR.2.2.2; omega) (by have := hR.1; have := a1.1; omega) (by have := hR.2.1; omega) hd (a2 la H locs hl hW hs)⟩
    · cases ho
  · cases ho
def s_obj (k : pu_K) : pu_K := fun ls st M => match st with
  | .ref _ :: st => if (st.map fun v => v.category).sum ≤ 8 then k ls st M else none
  | _ => none
theorem z_obj {X : pu_X} {d : pu_D} {pc index : Nat} {k : pu_K} (hX : pu_H X d) (hd : decode d.2.2.1 pc = .ok (.invokespecial index, 3)) (hw : Cond.methodLink d.1 index Lib.objectInit ∈ wsL_law ∧ Cond.instanceMethod Lib.objectInit ∈ wsL_law ∧ Cond.code Lib.objectInit ⟨#[0xb1]⟩ 1 none ∈ wsL_law) (hr : 1 ≤ d.2.2.2.2.2.1 ∧ 20 ≤ d.2.2.2.2.2.2) (h : pu_S X d (pc + 3) k) : pu_S X d pc (s_obj k) := by
  obtain ⟨p, l, e, R, s, m, args, below, meth, c', g, Q, n0, out⟩ := X
  obtain ⟨hx, hb, hml, hown, hts, hK, hsp, hR, hsz, hnm, hE⟩ := hX
  intro ls st M ho hS hn
  unfold s_obj at ho
  split at ho
  · split at ho
    · rename_i hc
      have hS1 := hS.1
      simp only [List.mem_cons, forall_eq_or_imp] at hS1
      obtain ⟨a1, a2⟩ := h ls _ M ho ⟨hS1.2, hS.2⟩ hn
      have h8 := pu_cat8 (g := g) hc
      exact ⟨a1, fun la H locs hl hW hs => W.objInit hx hb hown (hts _ hw.1) (hts _ hw.2.1) (hts _ hw.2.2) rfl (by show la.size = _; rw [hml]; exact hl.1.1) rfl hd (by have := hR.2.2.1; omega) (by
        show 2 * 0 + ((_ : List Value).map fun v => v.category).sum + 12 ≤ _
        have := hR.2.2.2; omega) (a2 la H locs hl hW hs)⟩
    · cases ho
  · cases ho
