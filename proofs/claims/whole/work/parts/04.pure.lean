/-! The pure machine: memory as functions, a method's code as a function of locals, stack and memory. -/
abbrev pu_M : Type := (Nat → Nat → Int32) × (Nat → Nat → Int64) × (Nat → Nat → Option Nat) × Nat
abbrev pu_O : Type := Option Value × pu_M
abbrev pu_L : Type := List (Option Value)
abbrev pu_K : Type := pu_L → List Value → pu_M → Option pu_O
abbrev pu_R : Type := Nat → pu_K
/-- base address, class numbers and slots, array classes by kind, addresses of the texts and of their bytes, a static of the JDK's that is a reference or null, the script: its address, length, ints -/
abbrev pu_G : Type := Nat × va_G × (Nat → ClassId) × (Nat → Nat) × ((Nat → Nat) × Option Nat) × Nat × Nat × (Nat → Int32)
/-- a constant's address: 0 the script, k + 1 the text k, k + 101 its bytes -/
def pu_cn (g : pu_G) (k : UInt32) : Nat := if k.toNat = 0 then g.2.2.2.2.2.1 else if k.toNat < 100 then g.2.2.2.1 (k.toNat - 1) else g.2.2.2.2.1.1 (k.toNat - 101)
abbrev pu_X : Type := Program × Launch × Env × Room × State × MethodId × Array Value × List Frame × Method × Code × pu_G × (State → Prop) × Nat × pu_O
def pu_wi (m : pu_M) (a i : Nat) (v : Int32) : pu_M := (fun b j => if b = a then (if j = i then v else m.1 b j) else m.1 b j, m.2)
def pu_wl (m : pu_M) (a i : Nat) (v : Int64) : pu_M := (m.1, fun b j => if b = a then (if j = i then v else m.2.1 b j) else m.2.1 b j, m.2.2)
def pu_wr (m : pu_M) (a i : Nat) (v : Option Nat) : pu_M := (m.1, m.2.1, fun b j => if b = a then (if j = i then v else m.2.2.1 b j) else m.2.2.1 b j, m.2.2.2)
def pu_nw (m : pu_M) : pu_M := (fun b j => if b = m.2.2.2 then 0 else m.1 b j, fun b j => if b = m.2.2.2 then 0 else m.2.1 b j, fun b j => if b = m.2.2.2 then none else m.2.2.1 b j, m.2.2.2 + 1)
/-- arraycopy: n elements of row a from sp on to row b from dp on -/
def pu_ci (m : pu_M) (a sp b dp n : Nat) : pu_M := (fun c j => if c = b then (if dp ≤ j ∧ j < dp + n then m.1 a (sp + (j - dp)) else m.1 c j) else m.1 c j, m.2)
def pu_cl (m : pu_M) (a sp b dp n : Nat) : pu_M := (m.1, fun c j => if c = b then (if dp ≤ j ∧ j < dp + n then m.2.1 a (sp + (j - dp)) else m.2.1 c j) else m.2.1 c j, m.2.2)
def pu_sz (a : Nat) : Nat := match pu_sh a with
  | (0, c) => pu_nf c
  | (_, n) => n
def pu_sl : Nat → Nat
  | 0 => 0
  | n + 1 => pu_sl n + pu_sz n
theorem pu_sl_mono {a b : Nat} (h : a ≤ b) : pu_sl a ≤ pu_sl b := by
  induction b with
  | zero => rw [Nat.le_zero.mp h]; exact Nat.le_refl _
  | succ n ih =>
    rcases Nat.lt_or_ge a (n + 1) with q | q
    · exact Nat.le_trans (ih (by omega)) (Nat.le_add_right _ _)
    · rw [show a = n + 1 by omega]; exact Nat.le_refl _
def pu_t (g : pu_G) (v : Value) : Value := match v with
  | .ref r => .ref (g.1 + r)
  | .float k => .ref (pu_cn g k)
  | .retAddr _ => va_rf g.2.2.2.2.1.2
  | w => w
def pu_ok (n : Nat) (v : Value) : Prop := match v with
  | .ref r => r < n
  | _ => True
theorem pu_ok_mono {n n' : Nat} (h : n ≤ n') {v : Value} (hv : pu_ok n v) : pu_ok n' v := by
  cases v <;> first | exact Nat.lt_of_lt_of_le hv h | trivial
theorem pu_t_cat (g : pu_G) (v : Value) : (pu_t g v).category = v.category := by
  cases v with
  | retAddr k =>
    show (va_rf g.2.2.2.2.1.2).category = 1
    cases g.2.2.2.2.1.2 <;> rfl
  | _ => rfl
def pu_fv (g : pu_G) (m : pu_M) (a t k : Nat) : Value := match t with
  | 0 => .int (m.1 a k)
  | 1 => .long (m.2.1 a k)
  | _ => va_rf ((m.2.2.1 a k).map (fun r => g.1 + r))
def pu_fs (g : pu_G) (m : pu_M) (a c : Nat) : List Value := (List.range (pu_nf c)).map (fun k => pu_fv g m a (pu_ft c k) k)
def pu_ar (g : pu_G) (m : pu_M) (a kd n : Nat) : vp_A := match kd with
  | 3 => (n, .inr (.inl (m.2.1 a)))
  | 5 => (n, .inr (.inr (.inr (.inr (fun i => (m.2.2.1 a i).map (fun r => g.1 + r))))))
  | _ => (n, .inl (m.1 a))
def pu_ce (g : pu_G) (m : pu_M) (a : Nat) : va_E := match (pu_sh a).1 with
  | 0 => .inr ((pu_sh a).2, pu_fs g m a (pu_sh a).2)
  | kd + 1 => .inl (g.2.2.1 (kd + 1), pu_ar g m a (kd + 1) (pu_sh a).2)
def pu_ty (g : pu_G) : List (ClassId × FieldType) := [(g.2.2.1 1, .int), (g.2.2.1 2, .byte), (g.2.2.1 3, .long), (g.2.2.1 4, .boolean), (g.2.2.1 5, .object "DoorOffice$Office")]
def pu_W (g : pu_G) (m : pu_M) (H : Heap) : Prop := H.size = g.1 + m.2.2.2 ∧ ∀ a, a < m.2.2.2 → va_at g.2.1 vwCl (g.1 + a, pu_ce g m a) H
def pu_okM (m : pu_M) : Prop := ∀ a k r, a < m.2.2.2 → m.2.2.1 a k = some r → r < m.2.2.2
def pu_okS (ls : pu_L) (st : List Value) (m : pu_M) : Prop := (∀ v ∈ st, pu_ok m.2.2.2 v) ∧ (∀ v, some v ∈ ls → pu_ok m.2.2.2 v) ∧ pu_okM m
def pu_okO (o : pu_O) : Prop := (∀ v, o.1 = some v → pu_ok o.2.2.2.2 v) ∧ pu_okM o.2
/-- the locals as pairs -/
def pu_pr (g : pu_G) (ls : pu_L) : List (Nat × Value) := (List.range ls.length).filterMap (fun i => (ls[i]?.join).map (fun v => (i, pu_t g v)))
theorem pu_pr_mem {g : pu_G} {ls : pu_L} {q : Nat × Value} : q ∈ pu_pr g ls ↔ ∃ v, ls[q.1]? = some (some v) ∧ q.2 = pu_t g v := by
  unfold pu_pr
  rw [List.mem_filterMap]
  constructor
  · rintro ⟨i, hi, h⟩
    cases hl : ls[i]? with
    | none => rw [hl] at h; simp at h
    | some x =>
      cases x with
      | none => rw [hl] at h; simp at h
      | some v =>
        rw [hl] at h
        simp at h
        subst h
        exact ⟨v, hl, rfl⟩
  · rintro ⟨v, h1, h2⟩
    refine ⟨q.1, ?_, ?_⟩
    · rw [List.mem_range]
      exact (List.getElem?_eq_some_iff.mp h1).1
    · rw [h1]
      simp [← h2]
def pu_lv (g : pu_G) (la : Array Slot) (n : Nat) (ls : pu_L) : Prop := lv_has la n (pu_pr g ls) ∧ ls.length = n
theorem pu_lv_at {g : pu_G} {la : Array Slot} {n : Nat} {ls : pu_L} (h : pu_lv g la n ls) {i : Nat} {v : Value} (hi : ls[i]? = some (some v)) : la[i]? = some (.val (pu_t g v)) :=
  h.1.2.2 (i, pu_t g v) (pu_pr_mem.mpr ⟨v, hi, rfl⟩)
theorem pu_lv_of {g : pu_G} {la : Array Slot} {n : Nat} {ls : pu_L} {l : List (Nat × Value)} (h : lv_has la n l) (hn : ls.length = n) (hm : ∀ i v, ls[i]? = some (some v) → (i, pu_t g v) ∈ l) : pu_lv g la n ls := by
  refine ⟨⟨h.1, h.2.1, fun q hq => ?_⟩, hn⟩
  obtain ⟨v, h1, h2⟩ := pu_pr_mem.mp hq
  have h3 := h.2.2 _ (hm _ _ h1)
  rw [h2]
  exact h3
/-- the constants: strings and the script -/
def pu_sp (g : pu_G) (U : State) (H : Heap) : Prop := (g.2.2.2.2.2.1 < g.1 ∧ va_X g.2.2.2.2.2.1 g.2.2.2.2.2.2.1 g.2.2.2.2.2.2.2 U H) ∧ vk_S 6 pu_sn pu_sb g.2.2.2.1 g.2.2.2.2.1.1 (fun q => g.1 ≤ q) U H ∧ (∀ i : Nat, i < 6 → vk_R (pu_so i).1 (pu_so i).2.1 (pu_so i).2.2 (g.2.2.2.1 i) U) ∧ va_Z "java/lang/String" "COMPACT_STRINGS" "Z" (.int 1) (fun q => g.1 ≤ q) U H ∧ va_AO "DoorOffice$Office" U ∧ va_Z "jdk/internal/util/Preconditions" "SIOOBE_FORMATTER" "Ljava/util/function/BiFunction;" (va_rf g.2.2.2.2.1.2) (fun q => g.1 ≤ q) U H ∧ ∀ q ∈ pu_nest, va_Nw (.methodLinkNest q.1 q.2.1 q.2.2 "DoorOffice") U
theorem pu_sp_kept {g : pu_G} {U : State} {H H1 : Heap} (h : pu_sp g U H) (hg : g.1 ≤ H.size) (hq : ∀ a : Nat, a < H.size → ¬ g.1 ≤ a → H1[a]? = H[a]?) : pu_sp g U H1 :=
  ⟨⟨h.1.1, h.1.2.kept (hq _ (Nat.lt_of_lt_of_le h.1.1 hg) (Nat.not_le.mpr h.1.1))⟩, h.2.1.kept hq, h.2.2.1, h.2.2.2.1.kept hq, h.2.2.2.2.1, h.2.2.2.2.2.1.kept hq, h.2.2.2.2.2.2⟩
theorem pu_sp_warm {g : pu_G} {s U : State} {H : Heap} (hW : s.WarmedH U.vm) (h : pu_sp g s H) : pu_sp g U H :=
  ⟨⟨h.1.1, h.1.2.moved hW.alike⟩, h.2.1.moved hW.alike, fun i hi => (h.2.2.1 i hi).warm hW, h.2.2.2.1.moved hW.alike, h.2.2.2.2.1.moved hW.alike, h.2.2.2.2.2.1.moved hW.alike, fun q hq => (h.2.2.2.2.2.2 q hq).warmM hW⟩
theorem pu_sp_same {g : pu_G} {s U : State} {H : Heap} (hv : U.vm = s.vm) (h : pu_sp g s H) : pu_sp g U H := by
  have ha : s.vm.Alike U.vm := by rw [hv]; exact Vm.Alike.refl s.vm
  exact ⟨⟨h.1.1, h.1.2.moved ha⟩, h.2.1.moved ha, fun i hi => (h.2.2.1 i hi).same hv, h.2.2.2.1.moved ha, h.2.2.2.2.1.moved ha, h.2.2.2.2.2.1.moved ha, fun q hq => (h.2.2.2.2.2.2 q hq).same rfl hv.symm⟩
/-- what holds throughout a method's walk -/
def pu_H (X : pu_X) (d : pu_D) : Prop := match X with
  | (p, l, e, R, s, m, args, below, meth, c, g, Q, n0, out) =>
    p.tables.exec = Jvm.exec ∧ c.code = d.2.2.1 ∧ c.maxLocals = d.2.2.2.1 ∧ s.vm.findClass d.1 = some m.cls ∧ (∀ w ∈ wsL_law, w.before args s = true) ∧ va_K g.2.1 vwCl (pu_ty g) s ∧ pu_sp g s s.heap ∧
    (out.2.2.2.2 - n0 ≤ R.cells ∧ pu_sl out.2.2.2.2 - pu_sl n0 ≤ R.slots ∧ d.2.2.2.2.2.1 ≤ R.frames ∧ d.2.2.2.2.2.2 ≤ R.locals) ∧ s.heap.size = g.1 + n0 ∧ meth.name = d.2.1.name ∧
    (∀ (v : Int32) (M : pu_M) (pc : Nat) (la : Array Slot) (H : Heap) (locs : List Loc), out = (some (.int v), M) → decode d.2.2.1 pc = .ok (.ireturn, 1) → (∃ ty, d.2.2.2.2.1 = some ty ∧ narrow ty (.int v) = .int v) → pu_W g M H → n0 ≤ M.2.2.2 → va_S (fun q => g.1 ≤ q) s.heap H locs → W p l e R s m args below meth c H locs (M.2.2.2 - n0) (pu_sl M.2.2.2 - pu_sl n0) Q (F0 m pc la [.int v])) ∧
    (∀ (M : pu_M) (pc : Nat) (la : Array Slot) (H : Heap) (locs : List Loc), out = (none, M) → d.2.2.2.2.1 = none → decode d.2.2.1 pc = .ok (.return_, 1) → pu_W g M H → n0 ≤ M.2.2.2 → va_S (fun q => g.1 ≤ q) s.heap H locs → W p l e R s m args below meth c H locs (M.2.2.2 - n0) (pu_sl M.2.2.2 - pu_sl n0) Q (F0 m pc la [])) ∧
    (∀ (v : Int64) (M : pu_M) (pc : Nat) (la : Array Slot) (H : Heap) (locs : List Loc), out = (some (.long v), M) → d.2.2.2.2.1 = some .long → decode d.2.2.1 pc = .ok (.lreturn, 1) → pu_W g M H → n0 ≤ M.2.2.2 → va_S (fun q => g.1 ≤ q) s.heap H locs → W p l e R s m args below meth c H locs (M.2.2.2 - n0) (pu_sl M.2.2.2 - pu_sl n0) Q (F0 m pc la [.long v]))
/-- code k is what the machine does from pc on -/
def pu_S (X : pu_X) (d : pu_D) (pc : Nat) (k : pu_K) : Prop := match X with
  | (p, l, e, R, s, m, args, below, meth, c, g, Q, n0, out) =>
    ∀ (ls : pu_L) (st : List Value) (M : pu_M), k ls st M = some out → pu_okS ls st M → n0 ≤ M.2.2.2 →
      (M.2.2.2 ≤ out.2.2.2.2 ∧ pu_okO out) ∧
      ∀ (la : Array Slot) (H : Heap) (locs : List Loc), pu_lv g la d.2.2.2.1 ls → pu_W g M H → va_S (fun q => g.1 ≤ q) s.heap H locs →
        W p l e R s m args below meth c H locs (M.2.2.2 - n0) (pu_sl M.2.2.2 - pu_sl n0) Q (F0 m pc la (st.map (pu_t g)))
section PU
variable {p : Program} {l : Launch} {e : Env} {R : Room} {s : State} {m : MethodId} {args : Array Value} {below : List Frame} {meth : Method} {c : Code} {g : pu_G} {Q : State → Prop} {n0 : Nat} {out : pu_O} {d : pu_D} {pc pc' : Nat} {k op : pu_K}
/-- a step that changes the stack alone -/
theorem z_st (h : pu_S (p, l, e, R, s, m, args, below, meth, c, g, Q, n0, out) d pc' k)
    (hh : ∀ (ls : pu_L) (st : List Value) (M : pu_M), op ls st M = some out → ∃ st' : List Value, k ls st' M = some out ∧ (pu_okS ls st M → ∀ v ∈ st', pu_ok M.2.2.2 v) ∧
      ∀ (la : Array Slot) (H : Heap) (locs : List Loc), pu_okS ls st M → pu_lv g la d.2.2.2.1 ls → pu_W g M H → va_S (fun q => g.1 ≤ q) s.heap H locs →
        W p l e R s m args below meth c H locs (M.2.2.2 - n0) (pu_sl M.2.2.2 - pu_sl n0) Q (F0 m pc' la (st'.map (pu_t g))) → W p l e R s m args below meth c H locs (M.2.2.2 - n0) (pu_sl M.2.2.2 - pu_sl n0) Q (F0 m pc la (st.map (pu_t g)))) :
    pu_S (p, l, e, R, s, m, args, below, meth, c, g, Q, n0, out) d pc op := by
  intro ls st M ho hS hn
  obtain ⟨st', h1, h2, h3⟩ := hh ls st M ho
  obtain ⟨h4, h5⟩ := h ls st' M h1 ⟨h2 hS, hS.2⟩ hn
  exact ⟨h4, fun la H locs hl hW hs => h3 la H locs hS hl hW hs (h5 la H locs hl hW hs)⟩
end PU
