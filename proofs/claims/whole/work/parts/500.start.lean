/-! the claim out of the pure run of the law -/
def pu_tm (i : Nat) : Term := Term.string (pu_so i).1 (pu_so i).2.1
set_option maxRecDepth 100000 in
theorem pu_strs {args : Array Value} {s : State} (hgv : (Jvm.Cond.and given_1 narrow_1).before args s = true) : ∃ adK adV : Nat → Nat, vk_S 6 pu_sn pu_sb adK adV (fun q => s.heap.size ≤ q) s s.heap ∧ ∀ i : Nat, i < 6 → (pu_tm i).eval args s none [] s = some (.ref (adK i)) := by
  have hs := flat_of_before _ hgv
  refine vk_Sof (tm := pu_tm) (by decide +kernel) (fun i hi => hs _ ?_) (fun i hi => hs _ ?_) (fun i hi => hs _ ?_) (fun i hi => hs _ ?_) (fun i hi j hj => hs _ ?_) (fun i j hi hj hne => ?_) (fun a ha => Nat.not_le.mpr ha)
  · revert i; decide +kernel
  · revert i; decide +kernel
  · revert i; decide +kernel
  · revert i; decide +kernel
  · revert j; revert i; decide +kernel
  · have hm : ∀ i, i < 6 → ∀ j, j < 6 → i ≠ j → Cond.not (Cond.eq (pu_tm i) (pu_tm j)) ∈ flatC (Jvm.Cond.and given_1 narrow_1) ∨ Cond.not (Cond.eq (pu_tm j) (pu_tm i)) ∈ flatC (Jvm.Cond.and given_1 narrow_1) := by decide +kernel
    rcases hm i hi j hj hne with h | h
    · exact Or.inl (hs _ h)
    · exact Or.inr (hs _ h)
def pu_M0 : pu_M := (fun _ _ => 0, fun _ _ => 0, fun _ _ => none, 0)
noncomputable def pu_lw (L : Nat) (xs : Nat → Int32) : Nat → pu_K
  | 0 => fun _ _ _ => none
  | f + 1 => kL_law_18 L xs pu_r (pu_lw L xs f)
/-- what is left: the law's pure run answers 1, in the claim's room -/
def pu_claim : Prop := ∀ (L : Nat) (xs : Nat → Int32), L ≤ 3584 → ∃ (f : Nat) (M1 : pu_M), kL_law_0 L xs pu_r (pu_lw L xs f) [some (.float 0), none, none, none] [] pu_M0 = some (some (.int 1), M1) ∧ M1.2.2.2 ≤ room_1.cells ∧ pu_sl M1.2.2.2 ≤ room_1.slots
set_option maxRecDepth 100000 in
theorem pu_classes {args : Array Value} {s : State} (hts : ∀ w ∈ lw_tbl, w.before args s = true) : ∃ (dC : Nat → ClassId) (dI : Nat → Nat → Nat), ∀ (k : Nat) (q : vw_C), vwCl[k]? = some q → u_Kn s q.1 q.2.1 q.2.2 (dC k) (dI k) := by
  have h0 : ∀ k : Nat, ∃ z : ClassId × (Nat → Nat), ∀ q : vw_C, vwCl[k]? = some q → u_Kn s q.1 q.2.1 q.2.2 z.1 z.2 := by
    intro k
    match k with
    | 0 => obtain ⟨c, i, h⟩ := u_known (C := RX0) (T := TX0) (N := 2) (n := 2) hts inX0 (hts _ iw_inst0); exact ⟨(c, i), fun q hq => by cases hq; exact h⟩
    | 1 => obtain ⟨c, i, h⟩ := u_known (C := RX1) (T := TX1) (N := 20) (n := 20) hts inX1 (hts _ iw_inst1); exact ⟨(c, i), fun q hq => by cases hq; exact h⟩
    | 2 => obtain ⟨c, i, h⟩ := u_known (C := RX2) (T := TX2) (N := 11) (n := 11) hts inX2 (hts _ iw_inst2); exact ⟨(c, i), fun q hq => by cases hq; exact h⟩
    | 3 => obtain ⟨c, i, h⟩ := u_known (C := RX3) (T := TX3) (N := 6) (n := 6) hts inX3 (hts _ iw_inst3); exact ⟨(c, i), fun q hq => by cases hq; exact h⟩
    | 4 => obtain ⟨c, i, h⟩ := u_known (C := RX4) (T := TX4) (N := 5) (n := 5) hts inX4 (hts _ iw_inst4); exact ⟨(c, i), fun q hq => by cases hq; exact h⟩
    | 5 => obtain ⟨c, i, h⟩ := u_known (C := RX5) (T := TX5) (N := 7) (n := 7) hts inX5 (hts _ iw_inst5); exact ⟨(c, i), fun q hq => by cases hq; exact h⟩
    | 6 => obtain ⟨c, i, h⟩ := u_known (C := RX6) (T := TX6) (N := 10) (n := 10) hts inX6 (hts _ iw_inst6); exact ⟨(c, i), fun q hq => by cases hq; exact h⟩
    | 7 => obtain ⟨c, i, h⟩ := u_known (C := RX7) (T := TX7) (N := 8) (n := 8) hts inX7 (hts _ iw_inst7); exact ⟨(c, i), fun q hq => by cases hq; exact h⟩
    | 8 => obtain ⟨c, i, h⟩ := u_known (C := RX8) (T := TX8) (N := 3) (n := 3) hts inX8 (hts _ iw_inst8); exact ⟨(c, i), fun q hq => by cases hq; exact h⟩
    | 9 => obtain ⟨c, i, h⟩ := u_known (C := RX9) (T := TX9) (N := 9) (n := 9) hts inX9 (hts _ iw_inst9); exact ⟨(c, i), fun q hq => by cases hq; exact h⟩
    | 10 => obtain ⟨c, i, h⟩ := u_known (C := RX10) (T := TX10) (N := 7) (n := 7) hts inX10 (hts _ iw_inst10); exact ⟨(c, i), fun q hq => by cases hq; exact h⟩
    | 11 => obtain ⟨c, i, h⟩ := u_known (C := RX11) (T := TX11) (N := 10) (n := 10) hts inX11 (hts _ iw_inst11); exact ⟨(c, i), fun q hq => by cases hq; exact h⟩
    | 12 => obtain ⟨c, i, h⟩ := u_known (C := RX12) (T := TX12) (N := 26) (n := 26) hts inX12 (hts _ iw_inst12); exact ⟨(c, i), fun q hq => by cases hq; exact h⟩
    | k + 13 => exact ⟨(0, fun _ => 0), fun q hq => by cases hq⟩
  obtain ⟨z, hz⟩ := Classical.axiomOfChoice h0
  exact ⟨fun k => (z k).1, fun k => (z k).2, hz⟩
theorem pu_arr {args : Array Value} {s : State} {ty : FieldType} (hty : ty = .int ∨ ty = .byte ∨ ty = .long ∨ ty = .boolean) (h : (Cond.arrayClass ty).before args s = true) : ∃ cA : ClassId, ArrOfT s cA ty ∧ va_RA s cA ty := by
  obtain ⟨c, k, comp, h1, h2, h3⟩ := Cond.arrayClass_spec h
  refine ⟨c, fun n z => ⟨fun k h => (by cases h), k, h2, comp, h3⟩, ?_⟩
  rcases hty with rfl | rfl | rfl | rfl <;> exact h1
theorem pu_arrO {args : Array Value} {s : State} (h : (Cond.arrayOver (.object "DoorOffice$Office")).before args s = true) : ∃ cA : ClassId, ArrOfT s cA (.object "DoorOffice$Office") ∧ va_RA s cA (.object "DoorOffice$Office") := by
  obtain ⟨comp, c, k, h1, -, h2, h3, h4⟩ := Cond.arrayOver_spec h
  exact ⟨c, fun n z => ⟨fun k h => (by cases h), k, h2, comp, h3⟩, ⟨k, comp, h2, h3, h1, h4⟩⟩
set_option maxRecDepth 100000 in
set_option maxHeartbeats 4000000 in
theorem whole_of (hc : pu_claim) {p : Program} {e : Env} {s : State} {m : MethodId} {below : List Frame} {meth : Method} {c : Code} (l : Launch) {b L : Nat} {xs : Nat → Int32} (hL : L ≤ 3584) (C0 : lw_At p s m meth c b L xs) : W p l e room_1 s m #[Value.ref b] below meth c s.heap [] 0 0 (lw_Z below #[Value.ref b] s) (entryFrame m ([Value.ref b] : List Value).toArray 4) := by
  obtain ⟨hx, hb, hr, hml, hown, hts, hXs, hbl, hlocks, hgv⟩ := id C0
  obtain ⟨f, M1, ho, hn1, hn2⟩ := hc L xs hL
  obtain ⟨adK, adV, hstr, hev⟩ := pu_strs hgv
  obtain ⟨dC, dI, hKc⟩ := pu_classes hts
  obtain ⟨a1, hA1⟩ := pu_arr (ty := .int) (by simp) (hts _ iw_int)
  obtain ⟨a2, hA2⟩ := pu_arr (ty := .byte) (by simp) (hts _ iw_byte)
  obtain ⟨a3, hA3⟩ := pu_arr (ty := .long) (by simp) (hts _ iw_long)
  obtain ⟨a4, hA4⟩ := pu_arr (ty := .boolean) (by simp) (hts _ iw_boolean)
  obtain ⟨a5, hA5⟩ := pu_arrO (hts _ iw_over)
  have hfl := flat_of_before _ hgv
  have hcs : va_Z "java/lang/String" "COMPACT_STRINGS" "Z" (.int 1) (fun q => s.heap.size ≤ q) s s.heap := va_Zof (hts _ iw_ls1) (hts _ iw_i1) (va_eqt (hfl (Cond.eq (.static "java/lang/String" "COMPACT_STRINGS" "Z") (.int 1)) (by decide +kernel))) (fun a ha => Nat.not_le.mpr ha)
  have hoo : ∃ oob : Option Nat, va_Z "jdk/internal/util/Preconditions" "SIOOBE_FORMATTER" "Ljava/util/function/BiFunction;" (va_rf oob) (fun q => s.heap.size ≤ q) s s.heap := by
    rcases va_Zqof (A := fun q => s.heap.size ≤ q) (hts _ iw_ls2) (hts _ iw_i2) (hfl (Cond.isRef (.static "jdk/internal/util/Preconditions" "SIOOBE_FORMATTER" "Ljava/util/function/BiFunction;")) (by decide +kernel)) (fun a ha => Nat.not_le.mpr ha) with h | ⟨t, h⟩
    · exact ⟨none, h⟩
    · exact ⟨some t, h⟩
  obtain ⟨oob, hoob⟩ := hoo
  obtain ⟨dA, hdA⟩ : ∃ dA : Nat → ClassId, dA 1 = a1 ∧ dA 2 = a2 ∧ dA 3 = a3 ∧ dA 4 = a4 ∧ dA 5 = a5 := ⟨fun k => if k = 1 then a1 else if k = 2 then a2 else if k = 3 then a3 else if k = 4 then a4 else a5, by simp⟩
  obtain ⟨hd1, hd2, hd3, hd4, hd5⟩ := hdA
  have hK : va_K (dC, dI) vwCl (pu_ty (s.heap.size, (dC, dI), dA, adK, (adV, oob), b, L, xs)) s := by
    refine ⟨hKc, fun k q hq => ?_⟩
    match k, hq with
    | 0, hq => cases hq; dsimp only; rw [hd1]; exact hA1
    | 1, hq => cases hq; dsimp only; rw [hd2]; exact hA2
    | 2, hq => cases hq; dsimp only; rw [hd3]; exact hA3
    | 3, hq => cases hq; dsimp only; rw [hd4]; exact hA4
    | 4, hq => cases hq; dsimp only; rw [hd5]; exact hA5
    | k + 5, hq => cases hq
  have hX : pu_H (p, l, e, room_1, s, m, #[Value.ref b], below, meth, c, (s.heap.size, (dC, dI), dA, adK, (adV, oob), b, L, xs), lw_Z below #[Value.ref b] s, 0, (some (.int 1), M1)) (mdL meth.name) := by
    refine ⟨hx, hb, hml, hown, fun w hw => hts w (wsL_law_in w hw), hK, ⟨⟨hbl, hXs⟩, hstr, fun i hi => vk_R.of (hts _ (iw_sr i hi)) (hev i hi), hcs, va_AO.of (hts _ iw_over), hoob, fun q hq => va_Nw.of rfl (hts _ (iw_nest q hq))⟩, ⟨?_, ?_, Nat.le_of_ble_eq_true rfl, Nat.le_of_ble_eq_true rfl⟩, rfl, rfl, ?_, ?_, ?_⟩
    · show M1.2.2.2 - 0 ≤ room_1.cells
      omega
    · show pu_sl M1.2.2.2 - pu_sl 0 ≤ room_1.slots
      omega
    · intro v M pc la H locs he hd hrt hW hn hs
      cases he
      refine va_forget hs.2.2 (W.widen (k := room_1.cells) (n := room_1.slots) (by omega) (by have : pu_sl 0 = 0 := rfl; omega) ?_)
      exact lw_ret hx hb hr hlocks hd
    · intro M pc la H locs he hrt
      cases hrt
    · intro v M pc la H locs he hrt
      cases hrt
  have hP : pu_P l (s.heap.size, (dC, dI), dA, adK, (adV, oob), b, L, xs) pu_r := pu_all l _
  have hloop : ∀ f, pu_S (p, l, e, room_1, s, m, #[Value.ref b], below, meth, c, (s.heap.size, (dC, dI), dA, adK, (adV, oob), b, L, xs), lw_Z below #[Value.ref b] s, 0, (some (.int 1), M1)) (mdL meth.name) 18 (pu_lw L xs f) := by
    intro f
    induction f with
    | zero => intro ls st M ho; cases ho
    | succ f ih => exact tL_law_18 hX hP rfl ih
  have hS := tL_law_0 hX hP rfl (hloop f)
  obtain ⟨-, h2⟩ := hS _ _ _ ho ⟨fun v hv => (by cases hv), fun v hv => by
    simp at hv
    subst hv
    trivial, fun a k r h1 h2 => (by cases h2)⟩ (Nat.le_refl _)
  rw [lg_entry_eq]
  have hl := lv_entry ([.ref b]) (n := 4) (Nat.le_of_ble_eq_true rfl)
  exact h2 _ s.heap [] (pu_lv_of hl rfl fun i v hi => by
    match i, hi with
    | 0, hi => cases hi; exact List.mem_cons_self
    | 1, hi => cases hi
    | 2, hi => cases hi
    | 3, hi => cases hi
    | i + 4, hi => cases hi) ⟨rfl, fun a ha => absurd ha (Nat.not_lt_zero a)⟩ va_S.rf
