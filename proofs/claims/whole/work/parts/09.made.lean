/-! new things, arraycopy, Math, Object's constructor -/
def s_new (c : Nat) (k : pu_K) : pu_K := fun ls st M => if pu_sh M.2.2.2 = (0, c) then k ls (.ref M.2.2.2 :: st) (pu_nw M) else none
def s_na (kd : Nat) (k : pu_K) : pu_K := fun ls st M => match st with
  | .int n :: st => if (¬ n < 0 ∧ n.toNatClampNeg ≤ 1000000) ∧ pu_sh M.2.2.2 = (kd, n.toNatClampNeg) then k ls (.ref M.2.2.2 :: st) (pu_nw M) else none
  | _ => none
theorem pu_nw_okM {M : pu_M} (h : pu_okM M) : pu_okM (pu_nw M) := by
  intro a k r h1 h2
  unfold pu_nw at h1 h2 ⊢
  dsimp only at h1 h2 ⊢
  split at h2
  · cases h2
  · exact Nat.lt_succ_of_lt (h a k r (by omega) h2)
theorem pu_nw_W {g : pu_G} {M : pu_M} {H H' : Heap} (hW : pu_W g M H) (z : H'.size = g.1 + M.2.2.2 + 1) (o : ∀ q, q < g.1 + M.2.2.2 → H'[q]? = H[q]?) (hn : va_at g.2.1 vwCl (g.1 + M.2.2.2, pu_ce g (pu_nw M) M.2.2.2) H') : pu_W g (pu_nw M) H' := by
  refine ⟨by rw [z]; rfl, fun b hb => ?_⟩
  have hb2 : b < M.2.2.2 + 1 := hb
  by_cases e : b = M.2.2.2
  · subst e; exact hn
  · have hlt : b < M.2.2.2 := by omega
    rw [pu_ce_congr (M := M) (M' := pu_nw M) (by funext j; simp [pu_nw, e]) (by funext j; simp [pu_nw, e]) (by funext j; simp [pu_nw, e])]
    exact (hW.2 b hlt).kept (o _ (by dsimp only; omega))
/-- behind an allocation -/
theorem pu_made {X : pu_X} {d : pu_D} {pc pc' : Nat} {st st0 : List Value} {M : pu_M} {ls : pu_L} {k : pu_K}
    (hX : pu_H X d) (hS : pu_okS ls st M) (hn : X.2.2.2.2.2.2.2.2.2.2.2.2.1 ≤ M.2.2.2) (h : pu_S X d pc' k) (ho : k ls (.ref M.2.2.2 :: st) (pu_nw M) = some X.2.2.2.2.2.2.2.2.2.2.2.2.2)
    (hw : ∀ (la : Array Slot) (H : Heap) (locs : List Loc), pu_W X.2.2.2.2.2.2.2.2.2.2.1 M H → va_S (fun q => X.2.2.2.2.2.2.2.2.2.2.1.1 ≤ q) X.2.2.2.2.1.heap H locs → M.2.2.2 - X.2.2.2.2.2.2.2.2.2.2.2.2.1 + 1 ≤ X.2.2.2.1.cells → pu_sl M.2.2.2 - pu_sl X.2.2.2.2.2.2.2.2.2.2.2.2.1 + pu_sz M.2.2.2 ≤ X.2.2.2.1.slots →
      (∀ (H1 : Heap), va_at X.2.2.2.2.2.2.2.2.2.2.1.2.1 vwCl (X.2.2.2.2.2.2.2.2.2.2.1.1 + M.2.2.2, pu_ce X.2.2.2.2.2.2.2.2.2.2.1 (pu_nw M) M.2.2.2) H1 → H1.size = X.2.2.2.2.2.2.2.2.2.2.1.1 + M.2.2.2 + 1 → (∀ q, q < X.2.2.2.2.2.2.2.2.2.2.1.1 + M.2.2.2 → H1[q]? = H[q]?) →
        W X.1 X.2.1 X.2.2.1 X.2.2.2.1 X.2.2.2.2.1 X.2.2.2.2.2.1 X.2.2.2.2.2.2.1 X.2.2.2.2.2.2.2.1 X.2.2.2.2.2.2.2.2.1 X.2.2.2.2.2.2.2.2.2.1 H1 locs (M.2.2.2 - X.2.2.2.2.2.2.2.2.2.2.2.2.1 + 1) (pu_sl M.2.2.2 - pu_sl X.2.2.2.2.2.2.2.2.2.2.2.2.1 + pu_sz M.2.2.2) X.2.2.2.2.2.2.2.2.2.2.2.1 (F0 X.2.2.2.2.2.1 pc' la (.ref (X.2.2.2.2.2.2.2.2.2.2.1.1 + M.2.2.2) :: st.map (pu_t X.2.2.2.2.2.2.2.2.2.2.1)))) →
      W X.1 X.2.1 X.2.2.1 X.2.2.2.1 X.2.2.2.2.1 X.2.2.2.2.2.1 X.2.2.2.2.2.2.1 X.2.2.2.2.2.2.2.1 X.2.2.2.2.2.2.2.2.1 X.2.2.2.2.2.2.2.2.2.1 H locs (M.2.2.2 - X.2.2.2.2.2.2.2.2.2.2.2.2.1) (pu_sl M.2.2.2 - pu_sl X.2.2.2.2.2.2.2.2.2.2.2.2.1) X.2.2.2.2.2.2.2.2.2.2.2.1 (F0 X.2.2.2.2.2.1 pc la st0)) :
    (M.2.2.2 ≤ X.2.2.2.2.2.2.2.2.2.2.2.2.2.2.2.2.2 ∧ pu_okO X.2.2.2.2.2.2.2.2.2.2.2.2.2) ∧ ∀ (la : Array Slot) (H : Heap) (locs : List Loc), pu_lv X.2.2.2.2.2.2.2.2.2.2.1 la d.2.2.2.1 ls → pu_W X.2.2.2.2.2.2.2.2.2.2.1 M H → va_S (fun q => X.2.2.2.2.2.2.2.2.2.2.1.1 ≤ q) X.2.2.2.2.1.heap H locs →
        W X.1 X.2.1 X.2.2.1 X.2.2.2.1 X.2.2.2.2.1 X.2.2.2.2.2.1 X.2.2.2.2.2.2.1 X.2.2.2.2.2.2.2.1 X.2.2.2.2.2.2.2.2.1 X.2.2.2.2.2.2.2.2.2.1 H locs (M.2.2.2 - X.2.2.2.2.2.2.2.2.2.2.2.2.1) (pu_sl M.2.2.2 - pu_sl X.2.2.2.2.2.2.2.2.2.2.2.2.1) X.2.2.2.2.2.2.2.2.2.2.2.1 (F0 X.2.2.2.2.2.1 pc la st0) := by
  obtain ⟨p, l, e, R, s, m, args, below, meth, c', g, Q, n0, out⟩ := X
  obtain ⟨hx, hb, hml, hown, hts, hK, hsp, hR, hsz, hnm, hE⟩ := hX
  dsimp only at *
  obtain ⟨a1, a2⟩ := h ls (.ref M.2.2.2 :: st) (pu_nw M) ho ⟨fun v hv => by
      rcases List.mem_cons.mp hv with rfl | hv
      · exact Nat.lt_succ_self _
      · exact pu_ok_mono (Nat.le_succ _) (hS.1 v hv), fun v hv => pu_ok_mono (Nat.le_succ _) (hS.2.1 v hv), pu_nw_okM hS.2.2⟩ (Nat.le_succ_of_le hn)
  have hm : M.2.2.2 + 1 ≤ out.2.2.2.2 := a1.1
  have hsl : pu_sl M.2.2.2 + pu_sz M.2.2.2 ≤ pu_sl out.2.2.2.2 := pu_sl_mono hm
  have hsl0 : pu_sl n0 ≤ pu_sl M.2.2.2 := pu_sl_mono hn
  refine ⟨⟨by omega, a1.2⟩, fun la H locs hlv hW hs2 => hw la H locs hW hs2 (by omega) (by omega) fun H1 e1 e2 e3 => ?_⟩
  have hk := a2 la H1 locs hlv (pu_nw_W hW e2 e3 e1) ⟨by have := hs2.1; have := hW.1; omega, fun q h1 h2 => by
    rw [e3 q (by have := hs2.1; have := hW.1; omega)]
    exact hs2.2.1 q h1 h2, hs2.2.2⟩
  rw [show (pu_nw M).2.2.2 = M.2.2.2 + 1 from rfl, show pu_sl (M.2.2.2 + 1) = pu_sl M.2.2.2 + pu_sz M.2.2.2 from rfl, show M.2.2.2 + 1 - n0 = M.2.2.2 - n0 + 1 by omega, show pu_sl M.2.2.2 + pu_sz M.2.2.2 - pu_sl n0 = pu_sl M.2.2.2 - pu_sl n0 + pu_sz M.2.2.2 by omega] at hk
  exact hk
theorem z_new {X : pu_X} {d : pu_D} {pc c index N : Nat} {k : pu_K} {C : String} {T : u_T} (ty0 : Nat → FieldType) (hty : ∀ k, k < N → parseFieldDescriptor (T k).2.2.1 = some (ty0 k)) (hX : pu_H X d) (hd : decode d.2.2.1 pc = .ok (.new index, 3)) (hc : vwCl[c]? = some (C, T, N)) (hin : ∀ w ∈ u_ws C T N, w ∈ wsL_law) (hl : Cond.classLink d.1 index C ∈ wsL_law ∧ Cond.instantiable C N ∈ wsL_law ∧ Cond.initialized C ∈ wsL_law) (hf : pu_nf c = N ∧ ∀ j, j < N → (pu_ft c j = 0 ∧ defaultValue (ty0 j) = .int 0) ∨ (pu_ft c j = 2 ∧ defaultValue (ty0 j) = .null)) (h : pu_S X d (pc + 3) k) : pu_S X d pc (s_new c k) := by
  obtain ⟨p, l, e, R, s, m, args, below, meth, c', g, Q, n0, out⟩ := X
  intro ls st M ho hS hn
  unfold s_new at ho
  split at ho
  · rename_i hs
    refine pu_made (X := (p, l, e, R, s, m, args, below, meth, c', g, Q, n0, out)) hX hS hn h ho fun la H locs hW hs2 hcs hss kk => ?_
    obtain ⟨hx, hb, hml, hown, hts, hK, hsp, hR, hsz, hnm, hE⟩ := hX
    dsimp only at *
    have hKn := hK.1 c _ hc
    have hsz2 : pu_sz M.2.2.2 = N := by unfold pu_sz; rw [hs]; exact hf.1
    rw [hsz2] at hss kk
    refine W.newcK hx hb hown (hts _ hl.1) (hts _ hl.2.1) (hts _ hl.2.2) rfl hd hcs hss hKn.2.1 hW.1 fun H1 kC hkC e1 z1 o1 => kk H1 ?_ z1 o1
    rw [pu_ce_obj hs]
    refine ⟨_, hc, (u_born ty0 hts hin hKn hkC e1 hty).to fun j hj => ?_⟩
    have hj2 : j < pu_nf c := by rw [hf.1]; exact hj
    have e2 : vp_V (pu_fs g (pu_nw M) M.2.2.2 c) j = pu_fv g (pu_nw M) M.2.2.2 (pu_ft c j) j := by
      unfold vp_V
      rw [List.getD_eq_getElem?_getD, pu_fs_at hj2]
      rfl
    show _ = vp_V (pu_fs g (pu_nw M) M.2.2.2 c) j
    rw [e2]
    rcases hf.2 j hj with ⟨q1, q2⟩ | ⟨q1, q2⟩
    · rw [q1, q2]; simp [pu_fv, pu_nw]
    · rw [q1, q2]; simp [pu_fv, pu_nw, va_rf]
  · cases ho
theorem pu_zero {g : pu_G} {M : pu_M} {kd n : Nat} (cA : ClassId) {ty : FieldType} (h : (kd = 1 ∧ ty = .int) ∨ (kd = 2 ∧ ty = .byte) ∨ (kd = 3 ∧ ty = .long) ∨ (kd = 4 ∧ ty = .boolean)) : vp_cell cA (pu_ar g (pu_nw M) M.2.2.2 kd n) = arrV cA n (fun _ => defaultValue ty) := by
  rcases h with ⟨rfl, rfl⟩ | ⟨rfl, rfl⟩ | ⟨rfl, rfl⟩ | ⟨rfl, rfl⟩ <;> (simp [pu_ar, vp_cell, pu_nw]; try rfl)
theorem z_na {X : pu_X} {d : pu_D} {pc kd t0 : Nat} {k : pu_K} {atype : ArrayType} {ty : FieldType} (hX : pu_H X d) (hd : decode d.2.2.1 pc = .ok (.newarray atype, 2)) (hw : Cond.arrayClass (newarray.typeOf atype) ∈ wsL_law) (hty : newarray.typeOf atype = ty ∧ componentBytes ty ≤ 8) (hk : (kd = 1 ∧ ty = .int) ∨ (kd = 2 ∧ ty = .byte) ∨ (kd = 3 ∧ ty = .long) ∨ (kd = 4 ∧ ty = .boolean)) (ht : ∀ g, (pu_ty g)[t0]? = some (g.2.2.1 kd, ty)) (h : pu_S X d (pc + 2) k) : pu_S X d pc (s_na kd k) := by
  obtain ⟨p, l, e, R, s, m, args, below, meth, c', g, Q, n0, out⟩ := X
  intro ls st M ho hS hn
  unfold s_na at ho
  split at ho
  · rename_i n st
    split at ho
    · rename_i hs
      obtain ⟨⟨hn0, hnb⟩, hs⟩ := hs
      have hS1 := hS.1
      simp only [List.mem_cons, forall_eq_or_imp] at hS1
      refine pu_made (X := (p, l, e, R, s, m, args, below, meth, c', g, Q, n0, out)) hX ⟨hS1.2, hS.2⟩ hn h ho fun la H locs hW hs2 hcs hss kk => ?_
      obtain ⟨hx, hb, hml, hown, hts, hK, hsp, hR, hsz, hnm, hE⟩ := hX
      obtain ⟨hty, hcb⟩ := hty
      subst hty
      dsimp only at *
      have hkd : ∃ q, kd = q + 1 := by rcases hk with h | h | h | h <;> exact ⟨_, h.1⟩
      have hsz2 : pu_sz M.2.2.2 = n.toNatClampNeg := by
        unfold pu_sz
        rw [hs]
        obtain ⟨q, rfl⟩ := hkd
        rfl
      rw [hsz2] at hss kk
      have hbt : n.toNatClampNeg * componentBytes (newarray.typeOf atype) ≤ 536870912 := Nat.le_trans (Nat.mul_le_mul hnb hcb) (by decide)
      refine va_newaK hx hb (hts _ hw) rfl hd rfl hn0 rfl hbt hcs hss hW.1 fun H1 cA e1 z1 o1 hAr hNm => kk H1 ?_ z1 o1
      have hA2 := (hK.2 t0 _ (ht g)).2
      have hcA : cA = g.2.2.1 kd := by
        unfold va_RA at hA2
        rcases hk with ⟨-, q⟩ | ⟨-, q⟩ | ⟨-, q⟩ | ⟨-, q⟩ <;> (rw [q] at hA2 hNm; exact Option.some.inj (hNm.symm.trans hA2))
      obtain ⟨q, rfl⟩ := hkd
      rw [pu_ce_arr hs]
      show H1[_]? = some (vp_cell (g.2.2.1 (q + 1)) (pu_ar g (pu_nw M) M.2.2.2 (q + 1) n.toNatClampNeg))
      rw [pu_zero _ hk, ← hcA]
      exact e1
    · cases ho
  · cases ho
theorem z_ana {X : pu_X} {d : pu_D} {pc index : Nat} {k : pu_K} (hX : pu_H X d) (hd : decode d.2.2.1 pc = .ok (.anewarray index, 3)) (hw : Cond.classLink d.1 index "DoorOffice$Office" ∈ wsL_law) (h : pu_S X d (pc + 3) k) : pu_S X d pc (s_na 5 k) := by
  obtain ⟨p, l, e, R, s, m, args, below, meth, c', g, Q, n0, out⟩ := X
  intro ls st M ho hS hn
  unfold s_na at ho
  split at ho
  · rename_i n st
    split at ho
    · rename_i hs
      obtain ⟨⟨hn0, hnb⟩, hs⟩ := hs
      have hS1 := hS.1
      simp only [List.mem_cons, forall_eq_or_imp] at hS1
      refine pu_made (X := (p, l, e, R, s, m, args, below, meth, c', g, Q, n0, out)) hX ⟨hS1.2, hS.2⟩ hn h ho fun la H locs hW hs2 hcs hss kk => ?_
      obtain ⟨hx, hb, hml, hown, hts, hK, hsp, hR, hsz, hnm, hE⟩ := hX
      dsimp only at *
      have hsz2 : pu_sz M.2.2.2 = n.toNatClampNeg := by
        unfold pu_sz
        rw [hs]
        rfl
      rw [hsz2] at hss kk
      refine W.anew hx hb hown (hts _ hw) (va_AO.use hsp.2.2.2.2.1) rfl hd rfl hn0 (by omega) hcs hss fun cA kA comp f1 f2 f3 f4 => ?_
      rw [hW.1]
      refine kk _ ?_ (by rw [Array.size_push, hW.1]) (fun q hq => by rw [Array.getElem?_push, if_neg (by rw [hW.1]; omega)])
      obtain ⟨_, _, _, _, _, k4⟩ := (hK.2 4 (g.2.2.1 5, .object "DoorOffice$Office") rfl).2
      have hcA : cA = g.2.2.1 5 := Option.some.inj (f1.symm.trans k4)
      rw [pu_ce_arr (kd := 4) hs]
      show (H.push _)[_]? = some (vp_cell (g.2.2.1 5) (pu_ar g (pu_nw M) M.2.2.2 5 n.toNatClampNeg))
      rw [← hW.1, Array.getElem?_push_size, ← hcA]
      simp [pu_ar, vp_cell, pu_nw, va_rf, ← arrV_new]
    · cases ho
  · cases ho
