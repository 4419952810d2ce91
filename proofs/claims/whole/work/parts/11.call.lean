/-! calls and contracts -/
def pu_as (vs : List Value) : pu_L := vs.flatMap (fun v => if v.category = 2 then [some v, none] else [some v])
def pu_Q (g : pu_G) (o : pu_O) : Array Value → State → Outcome → State → Prop := fun _ st oc t => oc = .returned (o.1.map (pu_t g)) ∧ pu_W g o.2 t.heap ∧ va_F (fun q => g.1 ≤ q) st t
def pu_B (g : pu_G) (M : pu_M) (U : State) : Prop := pu_W g M U.heap ∧ va_K g.2.1 vwCl (pu_ty g) U ∧ pu_sp g U U.heap
def pu_rm (d : pu_D) (M : pu_M) (o : pu_O) : Room := { frames := d.2.2.2.2.2.1, cells := o.2.2.2.2 - M.2.2.2, slots := pu_sl o.2.2.2.2 - pu_sl M.2.2.2, locals := d.2.2.2.2.2.2 }
def pu_C (l : Launch) (g : pu_G) (d : pu_D) (vs : List Value) (M : pu_M) (o : pu_O) : Prop :=
  Met l d.2.1 (Cond.code d.2.1 d.2.2.1 d.2.2.2.1 d.2.2.2.2.1 :: wsL_law) (pu_rm d M o) (va_Pc (vs.map (pu_t g)) (pu_B g M)) (pu_Q g o) (o.2.2.2.2 - M.2.2.2) (pu_sl o.2.2.2.2 - pu_sl M.2.2.2) (fun q => g.1 ≤ q)
/-- r's methods keep their contracts -/
def pu_P (l : Launch) (g : pu_G) (r : pu_R) : Prop := ∀ (j : Nat) (d : pu_D), pu_tab[j]? = some d → ∀ (vs : List Value) (M : pu_M) (o : pu_O), (∀ v ∈ vs, pu_ok M.2.2.2 v) → pu_okM M → r j (pu_as vs) [] M = some o → (M.2.2.2 ≤ o.2.2.2.2 ∧ pu_okO o) ∧ pu_C l g d vs M o
theorem pu_blind (g : pu_G) (M : pu_M) (vs : List Value) : FrameBlind (va_Pc vs (pu_B g M)) := by
  intro a U g' mk h
  obtain ⟨h1, h2, h3, h4⟩ := h
  exact ⟨h1, h2, va_K.moved (u := U) (U := U.calling g' mk a) (Vm.Alike.refl U.vm) h3, pu_sp_same (s := U) (U := U.calling g' mk a) rfl h4⟩
theorem pu_gd : GoodIn wsL_law wsL_law := goodIn_sub (fun _ h => h) (by decide +kernel)
/-- what a method's words are -/
def pu_mw (d : pu_D) (n : Nat) : Prop := Cond.code d.2.1 d.2.2.1 d.2.2.2.1 d.2.2.2.2.1 ∈ wsL_law ∧ Cond.initialized d.2.1.cls ∈ wsL_law ∧ (d.2.1.cls ≠ "java/lang/invoke/MethodHandle" ∧ d.2.1.cls ≠ "java/lang/invoke/VarHandle" ∧ (parseMethodDescriptor d.2.1.desc).map (fun q => q.parameters.length) = some n)
section PC
variable {p : Program} {l : Launch} {e : Env} {R : Room} {s : State} {m : MethodId} {args : Array Value} {below : List Frame} {meth : Method} {c : Code} {g : pu_G} {Q : State → Prop} {n0 : Nat} {out : pu_O} {d d' : pu_D} {pc : Nat} {k : pu_K}
theorem pu_after {H : Heap} {locs : List Loc} {cells slots mc ms : Nat} {la : Array Slot} {st0 rest : List Value} {o : pu_O} {a : Array Value} (hr : va_Run p l e R s m args below meth c H locs cells slots mc ms (F0 m pc la st0) rest (pu_Q g o a) (fun q => g.1 ≤ q)) (hS : va_S (fun q => g.1 ≤ q) s.heap H locs)
    (kk : ∀ (H1 : Heap) (locs1 : List Loc), pu_W g o.2 H1 → va_S (fun q => g.1 ≤ q) s.heap H1 locs1 → W p l e R s m args below meth c H1 locs1 (cells + mc) (slots + ms) Q (F0 m (pc + 3) la ((o.1.map (pu_t g)).toList ++ rest))) : W p l e R s m args below meth c H locs cells slots Q (F0 m pc la st0) := by
  intro T hT X
  obtain ⟨v, st₀, t, T', L, h0, X', hL, e1, e2, ⟨hv, hw, hz, hk⟩, st⟩ := hr T hT X
  cases hv
  rw [h0] at hz hk
  obtain ⟨t2, a1, b1⟩ := kk T'.heap (locs ++ L) (by rw [e1]; exact hw)
    ⟨Nat.le_trans hS.1 (by rw [e1]; exact hz), fun q h1 h2 => by rw [e1, hk q (Nat.lt_of_lt_of_le h1 hS.1) h2]; exact hS.2.1 q h1 h2, fun q hq => by
      rcases List.mem_append.mp hq with h | h
      · exact hS.2.2 q h
      · exact hL q h⟩ T' rfl X'
  exact ⟨t2, st t2 a1, b1⟩
theorem pu_pre {H : Heap} {locs : List Loc} {M : pu_M} {vs : List Value} (hK : va_K g.2.1 vwCl (pu_ty g) s) (hsp : pu_sp g s s.heap) (hg : g.1 ≤ s.heap.size) (hW : pu_W g M H) (hS : va_S (fun q => g.1 ≤ q) s.heap H locs) : ∀ U : State, U.heap = H → s.WarmedH U.vm → va_Pc (vs.map (pu_t g)) (pu_B g M) (vs.map (pu_t g)).toArray U := by
  intro U hU hw
  refine ⟨rfl, by rw [hU]; exact hW, va_K.moved hw.alike hK, ?_⟩
  rw [hU]
  exact pu_sp_kept (pu_sp_warm hw hsp) hg hS.2.1
theorem pu_gc (h : Cond.code d.2.1 d.2.2.1 d.2.2.2.1 d.2.2.2.2.1 ∈ wsL_law) : GoodIn wsL_law (Cond.code d.2.1 d.2.2.1 d.2.2.2.1 d.2.2.2.2.1 :: wsL_law) := by
  intro w hw
  rcases List.mem_cons.mp hw with rfl | hw
  · exact pu_gd _ h
  · exact pu_gd _ hw
end PC
/-- what stands behind a call -/
def pu_bk (k : pu_K) (ls : pu_L) (rest : List Value) (o : Option pu_O) : Option pu_O := match o with
  | none => none
  | some q => k ls (q.1.toList ++ rest) q.2
/-- a call of method j with n arguments beside the receiver, which is of class c -/
def s_cv (r : pu_R) (j n c : Nat) (k : pu_K) : pu_K := fun ls st M => match st.drop n with
  | .ref a :: rest => if (pu_sh a = (0, c) ∧ (st.take n).length = n) ∧ (rest.map fun v => v.category).sum ≤ 8 then pu_bk k ls rest (r j (pu_as (.ref a :: (st.take n).reverse)) [] M) else none
  | _ => none
/-- a constructor's -/
def s_ci (r : pu_R) (j n : Nat) (k : pu_K) : pu_K := fun ls st M => match st.drop n with
  | .ref a :: rest => if (st.take n).length = n ∧ (rest.map fun v => v.category).sum ≤ 8 then pu_bk k ls rest (r j (pu_as (.ref a :: (st.take n).reverse)) [] M) else none
  | _ => none
/-- a static method's -/
def s_cs (r : pu_R) (j n : Nat) (k : pu_K) : pu_K := fun ls st M => if (st.take n).length = n ∧ ((st.drop n).map fun v => v.category).sum ≤ 8 then pu_bk k ls (st.drop n) (r j (pu_as (st.take n).reverse) [] M) else none
/-- the common part of the three -/
theorem pu_call {X : pu_X} {d d' : pu_D} {pc j : Nat} {k : pu_K} {r : pu_R} {ls : pu_L} {st rest vs : List Value} {M : pu_M} (hX : pu_H X d) (hr : pu_P X.2.1 X.2.2.2.2.2.2.2.2.2.2.1 r) (hj : pu_tab[j]? = some d') (hS : pu_okS ls st M) (hn : X.2.2.2.2.2.2.2.2.2.2.2.2.1 ≤ M.2.2.2) (hvs : ∀ v ∈ vs, v ∈ st) (hre : ∀ v ∈ rest, v ∈ st) (h : pu_S X d (pc + 3) k) (ho : pu_bk k ls rest (r j (pu_as vs) [] M) = some X.2.2.2.2.2.2.2.2.2.2.2.2.2)
    (hw : ∀ (o : pu_O), pu_C X.2.1 X.2.2.2.2.2.2.2.2.2.2.1 d' vs M o → M.2.2.2 ≤ o.2.2.2.2 → o.2.2.2.2 ≤ X.2.2.2.2.2.2.2.2.2.2.2.2.2.2.2.2.2 → ∀ (la : Array Slot) (H : Heap) (locs : List Loc), pu_lv X.2.2.2.2.2.2.2.2.2.2.1 la d.2.2.2.1 ls → pu_W X.2.2.2.2.2.2.2.2.2.2.1 M H → va_S (fun q => X.2.2.2.2.2.2.2.2.2.2.1.1 ≤ q) X.2.2.2.2.1.heap H locs →
      va_Run X.1 X.2.1 X.2.2.1 X.2.2.2.1 X.2.2.2.2.1 X.2.2.2.2.2.1 X.2.2.2.2.2.2.1 X.2.2.2.2.2.2.2.1 X.2.2.2.2.2.2.2.2.1 X.2.2.2.2.2.2.2.2.2.1 H locs (M.2.2.2 - X.2.2.2.2.2.2.2.2.2.2.2.2.1) (pu_sl M.2.2.2 - pu_sl X.2.2.2.2.2.2.2.2.2.2.2.2.1) (o.2.2.2.2 - M.2.2.2) (pu_sl o.2.2.2.2 - pu_sl M.2.2.2) (F0 X.2.2.2.2.2.1 pc la (st.map (pu_t X.2.2.2.2.2.2.2.2.2.2.1))) (rest.map (pu_t X.2.2.2.2.2.2.2.2.2.2.1)) (pu_Q X.2.2.2.2.2.2.2.2.2.2.1 o (vs.map (pu_t X.2.2.2.2.2.2.2.2.2.2.1)).toArray) (fun q => X.2.2.2.2.2.2.2.2.2.2.1.1 ≤ q)) :
    (M.2.2.2 ≤ X.2.2.2.2.2.2.2.2.2.2.2.2.2.2.2.2.2 ∧ pu_okO X.2.2.2.2.2.2.2.2.2.2.2.2.2) ∧ ∀ (la : Array Slot) (H : Heap) (locs : List Loc), pu_lv X.2.2.2.2.2.2.2.2.2.2.1 la d.2.2.2.1 ls → pu_W X.2.2.2.2.2.2.2.2.2.2.1 M H → va_S (fun q => X.2.2.2.2.2.2.2.2.2.2.1.1 ≤ q) X.2.2.2.2.1.heap H locs →
        W X.1 X.2.1 X.2.2.1 X.2.2.2.1 X.2.2.2.2.1 X.2.2.2.2.2.1 X.2.2.2.2.2.2.1 X.2.2.2.2.2.2.2.1 X.2.2.2.2.2.2.2.2.1 X.2.2.2.2.2.2.2.2.2.1 H locs (M.2.2.2 - X.2.2.2.2.2.2.2.2.2.2.2.2.1) (pu_sl M.2.2.2 - pu_sl X.2.2.2.2.2.2.2.2.2.2.2.2.1) X.2.2.2.2.2.2.2.2.2.2.2.1 (F0 X.2.2.2.2.2.1 pc la (st.map (pu_t X.2.2.2.2.2.2.2.2.2.2.1))) := by
  obtain ⟨p, l, e, R, s, m, args, below, meth, c', g, Q, n0, out⟩ := X
  dsimp only at *
  cases hq : r j (pu_as vs) [] M with
  | none => rw [hq] at ho; cases ho
  | some o =>
    rw [hq] at ho
    obtain ⟨⟨hm, hok⟩, hC⟩ := hr j d' hj vs M o (fun v hv => hS.1 v (hvs v hv)) hS.2.2 hq
    obtain ⟨a1, a2⟩ := h ls (o.1.toList ++ rest) o.2 ho ⟨fun v hv => by
      rcases List.mem_append.mp hv with hv | hv
      · exact hok.1 v (by cases h1 : o.1 with
          | none => rw [h1] at hv; simp at hv
          | some w => rw [h1] at hv; simp at hv; rw [hv])
      · exact pu_ok_mono hm (hS.1 v (hre v hv)), fun v hv => pu_ok_mono hm (hS.2.1 v hv), hok.2⟩ (Nat.le_trans hn hm)
    refine ⟨⟨Nat.le_trans hm a1.1, a1.2⟩, fun la H locs hlv hW hs => pu_after (hw o hC hm a1.1 la H locs hlv hW hs) hs fun H1 locs1 hW1 hs1 => ?_⟩
    have hsl : pu_sl M.2.2.2 ≤ pu_sl o.2.2.2.2 := pu_sl_mono hm
    have hsl0 : pu_sl n0 ≤ pu_sl M.2.2.2 := pu_sl_mono hn
    have hk := a2 la H1 locs1 hlv hW1 hs1
    rw [show M.2.2.2 - n0 + (o.2.2.2.2 - M.2.2.2) = o.2.2.2.2 - n0 by omega, show pu_sl M.2.2.2 - pu_sl n0 + (pu_sl o.2.2.2.2 - pu_sl M.2.2.2) = pu_sl o.2.2.2.2 - pu_sl n0 by omega]
    rw [List.map_append] at hk
    cases h1 : o.1 with
    | none => rw [h1] at hk; exact hk
    | some w => rw [h1] at hk; exact hk
theorem z_cv {X : pu_X} {d d' : pu_D} {pc j n c index N : Nat} {k : pu_K} {r : pu_R} {T : u_T} (hX : pu_H X d) (hr : pu_P X.2.1 X.2.2.2.2.2.2.2.2.2.2.1 r) (hd : decode d.2.2.1 pc = .ok (.invokevirtual index, 3)) (hj : pu_tab[j]? = some d') (hm : pu_mw d' n) (hc : vwCl[c]? = some (d'.2.1.cls, T, N)) (hl : Cond.methodLink d.1 index d'.2.1 ∈ wsL_law) (hi : Cond.instanceMethod d'.2.1 ∈ wsL_law ∧ Cond.selects d'.2.1.cls d'.2.1 d'.2.1 ∈ wsL_law) (hR : d'.2.2.2.2.2.1 + 1 ≤ d.2.2.2.2.2.1 ∧ 8 + (d'.2.2.2.1 + 11) + d'.2.2.2.2.2.2 ≤ d.2.2.2.2.2.2) (h : pu_S X d (pc + 3) k) : pu_S X d pc (s_cv r j n c k) := by
  obtain ⟨p, l, e, R, s, m, args, below, meth, c', g, Q, n0, out⟩ := X
  intro ls st M ho hS hn
  unfold s_cv at ho
  split at ho
  · rename_i a rest hdr
    split at ho
    · rename_i hs
      obtain ⟨⟨hs1, hs2⟩, hs3⟩ := hs
      have hst : st = st.take n ++ .ref a :: rest := by rw [← hdr, List.take_append_drop]
      refine pu_call (X := (p, l, e, R, s, m, args, below, meth, c', g, Q, n0, out)) hX hr hj hS hn (fun v hv => ?_) (fun v hv => by rw [hst]; simp [hv]) h ho fun o hC hmo hoo la H locs hlv hW hs => ?_
      · rw [hst]
        rcases List.mem_cons.mp hv with rfl | hv
        · simp
        · exact List.mem_append_left _ (List.mem_reverse.mp hv)
      · obtain ⟨hx, hb, hml, hown, hts, hK, hsp, hRR, hsz, hnm, hE⟩ := hX
        dsimp only at *
        have ha : a < M.2.2.2 := hS.1 (.ref a) (by rw [hst]; simp)
        have hsl : pu_sl M.2.2.2 ≤ pu_sl o.2.2.2.2 := pu_sl_mono hmo
        have hsl1 : pu_sl o.2.2.2.2 ≤ pu_sl out.2.2.2.2 := pu_sl_mono hoo
        have hsl0 : pu_sl n0 ≤ pu_sl M.2.2.2 := pu_sl_mono hn
        have hrec : ∃ cellB : Cell, H[g.1 + a]? = some cellB ∧ cellB.vm.isStatics = false ∧ s.vm.findClass d'.2.1.cls = some cellB.cls := va_recv (q0 := 0) (ci := c) hK (pu_P1 hW ha) hc (by rw [pu_ce_obj hs1]; rfl)
        exact va_runV (Ts := wsL_law) (As := (st.take n).reverse.map (pu_t g)) (rest := rest.map (pu_t g)) (nL := d.2.2.2.1) ⟨hx, hb, hml, hown, hts⟩ hC ⟨callB_of n hts (pu_gc hm.1) rfl rfl rfl (hts _ hm.2.1) (hts _ hl) hm.2.2 ⟨Nat.le_trans hR.1 hRR.2.2.1, Nat.le_trans hR.2 hRR.2.2.2⟩, hts _ hi.1, hts _ hi.2⟩ ⟨pu_blind g M _, hrec, pu_pre (vs := .ref a :: (st.take n).reverse) hK hsp (by rw [hsz]; omega) hW hs⟩ rfl (by rw [List.length_map, List.length_reverse]; exact hs2) hlv.1.1 (by
          show st.map (pu_t g) = _
          rw [← List.map_reverse, List.reverse_reverse]
          conv => lhs; rw [hst]
          rw [List.map_append]; rfl) (lv_room (pu_cat8 hs3)) hd ⟨by have := hRR.1; omega, by have := hRR.2.1; omega⟩
    · cases ho
  · cases ho
theorem z_ci {X : pu_X} {d d' : pu_D} {pc j n index : Nat} {k : pu_K} {r : pu_R} (hX : pu_H X d) (hr : pu_P X.2.1 X.2.2.2.2.2.2.2.2.2.2.1 r) (hd : decode d.2.2.1 pc = .ok (.invokespecial index, 3)) (hj : pu_tab[j]? = some d') (hm : pu_mw d' n) (hnm : d'.2.1.name = "<init>" ∧ d'.2.2.2.2.1 = none) (hl : Cond.methodLink d.1 index d'.2.1 ∈ wsL_law) (hi : Cond.instanceMethod d'.2.1 ∈ wsL_law) (hR : d'.2.2.2.2.2.1 + 1 ≤ d.2.2.2.2.2.1 ∧ 8 + (d'.2.2.2.1 + 11) + d'.2.2.2.2.2.2 ≤ d.2.2.2.2.2.2) (h : pu_S X d (pc + 3) k) : pu_S X d pc (s_ci r j n k) := by
  obtain ⟨p, l, e, R, s, m, args, below, meth, c', g, Q, n0, out⟩ := X
  intro ls st M ho hS hn
  unfold s_ci at ho
  split at ho
  · rename_i a rest hdr
    split at ho
    · rename_i hs
      obtain ⟨hs2, hs3⟩ := hs
      have hst : st = st.take n ++ .ref a :: rest := by rw [← hdr, List.take_append_drop]
      refine pu_call (X := (p, l, e, R, s, m, args, below, meth, c', g, Q, n0, out)) hX hr hj hS hn (fun v hv => ?_) (fun v hv => by rw [hst]; simp [hv]) h ho fun o hC hmo hoo la H locs hlv hW hs => ?_
      · rw [hst]
        rcases List.mem_cons.mp hv with rfl | hv
        · simp
        · exact List.mem_append_left _ (List.mem_reverse.mp hv)
      · obtain ⟨hx, hb, hml, hown, hts, hK, hsp, hRR, hsz, hnm2, hE⟩ := hX
        dsimp only at *
        have hsl : pu_sl M.2.2.2 ≤ pu_sl o.2.2.2.2 := pu_sl_mono hmo
        have hsl1 : pu_sl o.2.2.2.2 ≤ pu_sl out.2.2.2.2 := pu_sl_mono hoo
        have hsl0 : pu_sl n0 ≤ pu_sl M.2.2.2 := pu_sl_mono hn
        have hm1 := hm.1
        have hgc := pu_gc hm.1
        unfold pu_C at hC
        rw [hnm.2] at hC hm1 hgc
        exact va_runI (Ts := wsL_law) (b := g.1 + a) (As := (st.take n).reverse.map (pu_t g)) (rest := rest.map (pu_t g)) (nL := d.2.2.2.1) ⟨hx, hb, hml, hown, hts⟩ hC ⟨callB_of n hts hgc rfl rfl rfl (hts _ hm.2.1) (hts _ hl) hm.2.2 ⟨Nat.le_trans hR.1 hRR.2.2.1, Nat.le_trans hR.2 hRR.2.2.2⟩, hnm.1, hts _ hi⟩ ⟨pu_blind g M _, pu_pre (vs := .ref a :: (st.take n).reverse) hK hsp (by rw [hsz]; omega) hW hs⟩ rfl (by rw [List.length_map, List.length_reverse]; exact hs2) hlv.1.1 (by
          show st.map (pu_t g) = _
          rw [← List.map_reverse, List.reverse_reverse]
          conv => lhs; rw [hst]
          rw [List.map_append]; rfl) (lv_room (pu_cat8 hs3)) hd ⟨by have := hRR.1; omega, by have := hRR.2.1; omega⟩
    · cases ho
  · cases ho
theorem z_cs {X : pu_X} {d d' : pu_D} {pc j n index : Nat} {k : pu_K} {r : pu_R} (hX : pu_H X d) (hr : pu_P X.2.1 X.2.2.2.2.2.2.2.2.2.2.1 r) (hd : decode d.2.2.1 pc = .ok (.invokestatic index, 3)) (hj : pu_tab[j]? = some d') (hm : pu_mw d' n) (hl : Cond.methodLink d.1 index d'.2.1 ∈ wsL_law) (hi : Cond.static d'.2.1 ∈ wsL_law) (hR : d'.2.2.2.2.2.1 + 1 ≤ d.2.2.2.2.2.1 ∧ 8 + (d'.2.2.2.1 + 11) + d'.2.2.2.2.2.2 ≤ d.2.2.2.2.2.2) (h : pu_S X d (pc + 3) k) : pu_S X d pc (s_cs r j n k) := by
  obtain ⟨p, l, e, R, s, m, args, below, meth, c', g, Q, n0, out⟩ := X
  intro ls st M ho hS hn
  unfold s_cs at ho
  split at ho
  · rename_i hs
    obtain ⟨hs2, hs3⟩ := hs
    refine pu_call (X := (p, l, e, R, s, m, args, below, meth, c', g, Q, n0, out)) hX hr hj hS hn (fun v hv => List.mem_of_mem_take (List.mem_reverse.mp hv)) (fun v hv => List.mem_of_mem_drop hv) h ho fun o hC hmo hoo la H locs hlv hW hs => ?_
    obtain ⟨hx, hb, hml, hown, hts, hK, hsp, hRR, hsz, hnm2, hE⟩ := hX
    dsimp only at *
    have hsl : pu_sl M.2.2.2 ≤ pu_sl o.2.2.2.2 := pu_sl_mono hmo
    have hsl1 : pu_sl o.2.2.2.2 ≤ pu_sl out.2.2.2.2 := pu_sl_mono hoo
    have hsl0 : pu_sl n0 ≤ pu_sl M.2.2.2 := pu_sl_mono hn
    exact va_runS (Ts := wsL_law) (As := (st.take n).reverse.map (pu_t g)) (rest := (st.drop n).map (pu_t g)) (nL := d.2.2.2.1) ⟨hx, hb, hml, hown, hts⟩ hC ⟨callB_of n hts (pu_gc hm.1) rfl rfl rfl (hts _ hm.2.1) (hts _ hl) hm.2.2 ⟨Nat.le_trans hR.1 hRR.2.2.1, Nat.le_trans hR.2 hRR.2.2.2⟩, hts _ hi⟩ ⟨pu_blind g M _, pu_pre (vs := (st.take n).reverse) hK hsp (by rw [hsz]; omega) hW hs⟩ rfl (by rw [List.length_map, List.length_reverse]; exact hs2) hlv.1.1 (by
      show st.map (pu_t g) = _
      rw [← List.map_reverse, List.reverse_reverse, ← List.map_append, List.take_append_drop]) (lv_room (pu_cat8 hs3)) hd ⟨by have := hRR.1; omega, by have := hRR.2.1; omega⟩
  · cases ho
