/-! texts, switches, roads that aren't taken -/
def s_no : pu_K := fun _ _ _ => none
theorem z_no {X : pu_X} {d : pu_D} {pc : Nat} : pu_S X d pc s_no := by
  obtain ⟨p, l, e, R, s, m, args, below, meth, c, g, Q, n0, out⟩ := X
  intro ls st M ho
  cases ho
theorem v_no : pu_T (fun _ => s_no) s_no := ⟨fun _ => ⟨fun _ _ _ _ h => (by cases h), fun _ _ _ _ h => h⟩, fun _ => ⟨fun _ _ _ _ h => (by cases h), fun _ _ _ _ h => h⟩, fun _ _ _ _ h => ⟨0, h⟩⟩
/-- the answer of a small type -/
def s_nret (ty : FieldType) : pu_K := fun _ st M => match st with
  | [.int v] => if narrow ty (.int v) = .int v then some (some (.int v), M) else none
  | _ => none
theorem z_nret {X : pu_X} {d : pu_D} {pc : Nat} {ty : FieldType} (hX : pu_H X d) (hd : decode d.2.2.1 pc = .ok (.ireturn, 1)) (hr : d.2.2.2.2.1 = some ty) : pu_S X d pc (s_nret ty) := by
  obtain ⟨p, l, e, R, s, m, args, below, meth, c, g, Q, n0, out⟩ := X
  obtain ⟨hx, hb, hml, hown, hts, hK, hsp, hR, hsz, hnm, hE⟩ := hX
  intro ls st M ho hS hn
  unfold s_nret at ho
  split at ho
  · split at ho
    · rename_i hc
      have ho := (Option.some.inj ho).symm
      refine ⟨?_, fun la H locs hl hW hs => hE.1 _ M pc la H locs ho hd ⟨_, hr, hc⟩ hW hn hs⟩
      subst ho
      exact ⟨Nat.le_refl _, fun v hv => (by cases hv; trivial), hS.2.2⟩
    · cases ho
  · cases ho
theorem w_nret {ty : FieldType} : pu_V (s_nret ty) (s_nret ty) := by
  refine ⟨?_, fun _ _ _ _ h => h⟩
  intro ls st M o ho hS
  unfold s_nret at ho
  split at ho
  · split at ho
    · cases ho
      exact ⟨Nat.le_refl _, fun v hv => (by cases hv; trivial), hS.2.2⟩
    · cases ho
  · cases ho
theorem v_nret {ty : FieldType} : pu_T (fun _ => s_nret ty) (s_nret ty) := ⟨fun _ => w_nret, fun _ => w_nret, fun _ _ _ _ h => ⟨0, h⟩⟩
def s_i2c (k : pu_K) : pu_K := fun ls st M => match st with
  | .int x :: st => k ls (.int (x.toUInt32 % 65536).toInt32 :: st) M
  | _ => none
theorem z_i2c {X : pu_X} {d : pu_D} {pc : Nat} {k : pu_K} (hX : pu_H X d) (hd : decode d.2.2.1 pc = .ok (.i2c, 1)) (h : pu_S X d (pc + 1) k) : pu_S X d pc (s_i2c k) := by
  obtain ⟨p, l, e, R, s, m, args, below, meth, c, g, Q, n0, out⟩ := X
  obtain ⟨hx, hb, hml, hown, hts, hK, hsp, hR, hsz, hnm, hE⟩ := hX
  refine z_st h fun ls st M ho => ?_
  unfold s_i2c at ho
  split at ho
  · exact ⟨_, ho, fun q v hv => by
      have q1 := q.1
      simp only [List.mem_cons, forall_eq_or_imp] at hv q1
      rcases hv with rfl | hv
      · trivial
      · exact q1.2 v hv, fun la H locs _ hl hW hs kk => lv_i2c hx hb hd rfl kk⟩
  · cases ho
theorem w_i2c {k k' : pu_K} (h : pu_V k k') : pu_V (s_i2c k) (s_i2c k') := by
  refine ⟨fun ls st M o ho hS => ?_, fun ls st M o ho => ?_⟩
  · unfold s_i2c at ho
    split at ho
    · exact h.1 ls _ M o ho ⟨fun v hv => by
        have q1 := hS.1
        simp only [List.mem_cons, forall_eq_or_imp] at hv q1
        rcases hv with rfl | hv
        · trivial
        · exact q1.2 v hv, hS.2⟩
    · cases ho
  · unfold s_i2c at ho ⊢
    split at ho
    · exact h.2 _ _ _ _ ho
    · cases ho
theorem v_i2c {kf : Nat → pu_K} {k : pu_K} (h : pu_T kf k) : pu_T (fun f => s_i2c (kf f)) (s_i2c k) := by
  refine ⟨fun f => w_i2c (h.1 f), fun f => w_i2c (h.2.1 f), fun ls st M o ho => ?_⟩
  unfold s_i2c at ho ⊢
  split at ho
  · exact h.2.2 _ _ _ _ ho
  · cases ho
/-- a text that is a constant -/
theorem z_ldcS {X : pu_X} {d : pu_D} {pc index i : Nat} {q : UInt32} {k : pu_K} (hX : pu_H X d) (hd : decode d.2.2.1 pc = .ok (.ldc index, 2)) (hi : i < 6 ∧ (pu_so i).1 = d.1 ∧ (pu_so i).2.1 = index ∧ q.toNat = i + 1) (h : pu_S X d (pc + 2) k) : pu_S X d pc (s_push (.float q) k) := by
  obtain ⟨p, l, e, R, s, m, args, below, meth, c, g, Q, n0, out⟩ := X
  obtain ⟨hx, hb, hml, hown, hts, hK, hsp, hR, hsz, hnm, hE⟩ := hX
  obtain ⟨h1, h2, h3, h4⟩ := hi
  refine z_st h fun ls st M ho => ⟨_, ho, fun q v hv => by
    rcases List.mem_cons.mp hv with rfl | hv
    · trivial
    · exact q.1 v hv, fun la H locs _ hl hW hs kk => ?_⟩
  have hz := hsp.2.2.1 i h1
  rw [h2, h3] at hz
  have e : pu_t g (.float q) = .ref (g.2.2.2.1 i) := by
    show Value.ref (pu_cn g q) = _
    unfold pu_cn
    rw [h4, if_neg (by omega), if_pos (by omega)]
    rfl
  rw [List.map_cons, e] at kk
  exact va_ldcS hx hb hown hz hd kk
theorem pu_ldcwS {p : Program} {l : Launch} {e : Env} {R : Room} {s : State} {m : MethodId} {args : Array Value} {below : List Frame} {meth : Method} {c : Code} {T : State} {locs : List Loc} {cells slots : Nat}
    (X : Stand p l e R s m args below meth c T locs cells slots) (hexec : p.tables.exec = Jvm.exec) {own text : String} {index : Nat} {a : Addr} (hown : s.vm.findClass own = some m.cls)
    (hconst : (Cond.stringRef own index text).before args s = true) (hev : (Term.string own index).eval args s none [] s = some (.ref a)) {g : JFrame} (hg : g.method = m) (hdg : decode c.code g.pc = .ok (.ldc_w index, 3)) :
    ∀ target, Steps p.tables e below (T.setTop { g with pc := g.pc + 3, stack := .ref a :: g.stack }) target → Steps p.tables e below (T.setTop g) target := by
  obtain ⟨k, cf, i, a', hk, hcf, hcp, -, hr, hev'⟩ := Cond.stringRef_spec hown hconst
  cases hev.symm.trans hev'
  obtain ⟨k', hk', he⟩ := X.warmed.alike.2.2 _ _ hk
  have hr' : k'.resolved[index]? = some (some (.string a)) := by
    rcases X.warmed.entry hk hk' index with h | ⟨h, -⟩
    · rw [h]; exact hr
    · rw [hr] at h; cases h
  intro target hrest
  subst hg
  jvm_step X.here [hexec, hdg, ldc_w.wp_string (e := e) (s := T) (f := g) X.here.top hk' (by rw [he]; exact hcf) hcp hr']
  exact hrest
theorem z_ldcwS {X : pu_X} {d : pu_D} {pc index i : Nat} {q : UInt32} {k : pu_K} (hX : pu_H X d) (hd : decode d.2.2.1 pc = .ok (.ldc_w index, 3)) (hi : i < 6 ∧ (pu_so i).1 = d.1 ∧ (pu_so i).2.1 = index ∧ q.toNat = i + 1) (h : pu_S X d (pc + 3) k) : pu_S X d pc (s_push (.float q) k) := by
  obtain ⟨p, l, e, R, s, m, args, below, meth, c, g, Q, n0, out⟩ := X
  obtain ⟨hx, hb, hml, hown, hts, hK, hsp, hR, hsz, hnm, hE⟩ := hX
  obtain ⟨h1, h2, h3, h4⟩ := hi
  refine z_st h fun ls st M ho => ⟨_, ho, fun q v hv => by
    rcases List.mem_cons.mp hv with rfl | hv
    · trivial
    · exact q.1 v hv, fun la H locs _ hl hW hs kk => ?_⟩
  have hz := hsp.2.2.1 i h1
  rw [h2, h3] at hz
  have e1 : pu_t g (.float q) = .ref (g.2.2.2.1 i) := by
    show Value.ref (pu_cn g q) = _
    unfold pu_cn
    rw [h4, if_neg (by omega), if_pos (by omega)]
    rfl
  rw [List.map_cons, e1] at kk
  intro T hT X
  obtain ⟨t, a1, b1⟩ := kk T hT X
  exact ⟨t, pu_ldcwS X hx hown (text := (pu_so i).2.2) (a := g.2.2.2.1 i) hz.1 hz.2 (g := F0 m pc la (st.map (pu_t g))) rfl (by rw [hb]; exact hd) t a1, b1⟩
/-- a switch -/
def s_sw (lo : Int) (ks : List pu_K) (kd : pu_K) : pu_K := fun ls st M => match st with
  | .int x :: st => if x.toInt < lo then kd ls st M else (match ks[(x.toInt - lo).toNat]? with
    | some k => k ls st M
    | none => kd ls st M)
  | _ => none
theorem z_sw {X : pu_X} {d : pu_D} {pc len td : Nat} {dflt lo hi : Int} {offs : Array Int} {ks : List pu_K} {kd : pu_K} (hX : pu_H X d) (hd : decode d.2.2.1 pc = .ok (.tableswitch dflt lo hi offs, len)) (hh : hi = lo + (ks.length : Int) - 1) (htd : (pc : Int) + dflt = (td : Int)) (hdf : pu_S X d td kd) (h : ∀ (i : Nat) (k : pu_K), ks[i]? = some k → ∃ (off : Int) (tgt : Nat), offs[i]? = some off ∧ (pc : Int) + off = (tgt : Int) ∧ pu_S X d tgt k) : pu_S X d pc (s_sw lo ks kd) := by
  obtain ⟨p, l, e, R, s, m, args, below, meth, c, g, Q, n0, out⟩ := X
  obtain ⟨hx, hb, hml, hown, hts, hK, hsp, hR, hsz, hnm, hE⟩ := hX
  intro ls st M ho hS hn
  unfold s_sw at ho
  split at ho
  · rename_i x st
    have hS1 := hS.1
    simp only [List.mem_cons, forall_eq_or_imp] at hS1
    split at ho
    · rename_i hc
      obtain ⟨a1, a2⟩ := hdf ls _ M ho ⟨hS1.2, hS.2⟩ hn
      exact ⟨a1, fun la H locs hl hW hs => lv_tableOut hx hb hd (Or.inl hc) htd (a2 la H locs hl hW hs)⟩
    · rename_i hc
      split at ho
      · rename_i k hk
        obtain ⟨off, tgt, h1, h2, h3⟩ := h _ k hk
        obtain ⟨a1, a2⟩ := h3 ls _ M ho ⟨hS1.2, hS.2⟩ hn
        have hlt := (List.getElem?_eq_some_iff.mp hk).1
        exact ⟨a1, fun la H locs hl hW hs => lv_tableIn hx hb hd hc (by omega) h1 h2 (a2 la H locs hl hW hs)⟩
      · rename_i hk
        obtain ⟨a1, a2⟩ := hdf ls _ M ho ⟨hS1.2, hS.2⟩ hn
        have hge := List.getElem?_eq_none_iff.mp hk
        exact ⟨a1, fun la H locs hl hW hs => lv_tableOut hx hb hd (Or.inr (by omega)) htd (a2 la H locs hl hW hs)⟩
  · cases ho
theorem w_sw {lo : Int} {ks ks' : List pu_K} {kd kd' : pu_K} (hl : ks.length = ks'.length) (h : ∀ (i : Nat) (k k' : pu_K), ks[i]? = some k → ks'[i]? = some k' → pu_V k k') (hd : pu_V kd kd') : pu_V (s_sw lo ks kd) (s_sw lo ks' kd') := by
  have hex : ∀ (i : Nat) (k : pu_K), ks[i]? = some k → ∃ k', ks'[i]? = some k' := fun i k hk => by
    have := (List.getElem?_eq_some_iff.mp hk).1
    exact ⟨ks'[i]'(by omega), List.getElem?_eq_getElem (by omega)⟩
  refine ⟨fun ls st M o ho hS => ?_, fun ls st M o ho => ?_⟩
  · unfold s_sw at ho
    split at ho
    · have hS1 := hS.1
      simp only [List.mem_cons, forall_eq_or_imp] at hS1
      split at ho
      · exact hd.1 ls _ M o ho ⟨hS1.2, hS.2⟩
      · split at ho
        · rename_i k hk
          obtain ⟨k', hk'⟩ := hex _ k hk
          exact (h _ k k' hk hk').1 ls _ M o ho ⟨hS1.2, hS.2⟩
        · exact hd.1 ls _ M o ho ⟨hS1.2, hS.2⟩
    · cases ho
  · unfold s_sw at ho ⊢
    split at ho
    · split at ho
      · rename_i hc
        try dsimp only
        rw [if_pos hc]
        exact hd.2 _ _ _ _ ho
      · rename_i hc
        try dsimp only
        rw [if_neg hc]
        split at ho
        · rename_i k hk
          obtain ⟨k', hk'⟩ := hex _ k hk
          rw [hk']
          exact (h _ k k' hk hk').2 _ _ _ _ ho
        · rename_i hk
          rw [List.getElem?_eq_none_iff.mpr (by rw [← hl]; exact List.getElem?_eq_none_iff.mp hk)]
          exact hd.2 _ _ _ _ ho
    · cases ho
theorem v_sw {lo : Int} {kfs : Nat → List pu_K} {ks : List pu_K} {kdf : Nat → pu_K} {kd : pu_K} (h : ∀ (i : Nat) (k : pu_K), ks[i]? = some k → ∃ kf : Nat → pu_K, (∀ f, (kfs f)[i]? = some (kf f)) ∧ pu_T kf k) (hl : ∀ f, (kfs f).length = ks.length) (hd : pu_T kdf kd) : pu_T (fun f => s_sw lo (kfs f) (kdf f)) (s_sw lo ks kd) := by
  have at' : ∀ (f i : Nat) (q : pu_K), (kfs f)[i]? = some q → ∃ k, ks[i]? = some k := fun f i q hq => by
    have := (List.getElem?_eq_some_iff.mp hq).1
    rw [hl f] at this
    exact ⟨ks[i], List.getElem?_eq_getElem this⟩
  refine ⟨fun f => w_sw (by rw [hl, hl]) (fun i k k' h1 h2 => ?_) (hd.1 f), fun f => w_sw (hl f) (fun i k k' h1 h2 => ?_) (hd.2.1 f), fun ls st M o ho => ?_⟩
  · obtain ⟨q, hq⟩ := at' f i k h1
    obtain ⟨kf, e1, e2⟩ := h i q hq
    rw [e1] at h1 h2
    cases h1; cases h2
    exact e2.1 f
  · obtain ⟨kf, e1, e2⟩ := h i k' h2
    rw [e1] at h1
    cases h1
    exact e2.2.1 f
  · unfold s_sw at ho
    split at ho
    · rename_i x st
      split at ho
      · rename_i hc
        obtain ⟨f, hf⟩ := hd.2.2 _ _ _ _ ho
        refine ⟨f, ?_⟩
        unfold s_sw
        try dsimp only
        rw [if_pos hc]
        exact hf
      · rename_i hc
        split at ho
        · rename_i k hk
          obtain ⟨kf, e1, e2⟩ := h _ k hk
          obtain ⟨f, hf⟩ := e2.2.2 _ _ _ _ ho
          refine ⟨f, ?_⟩
          unfold s_sw
          dsimp only
          rw [if_neg hc, e1]
          exact hf
        · rename_i hk
          obtain ⟨f, hf⟩ := hd.2.2 _ _ _ _ ho
          refine ⟨f, ?_⟩
          unfold s_sw
          dsimp only
          rw [if_neg hc, List.getElem?_eq_none_iff.mpr (by rw [hl]; exact List.getElem?_eq_none_iff.mp hk)]
          exact hf
    · cases ho
