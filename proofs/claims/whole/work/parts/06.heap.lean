/-! fields, arrays, new things -/
def pu_rv (r : Option Nat) : Value := match r with
  | none => .null
  | some a => .ref a
theorem pu_rv_t (g : pu_G) (r : Option Nat) : pu_t g (pu_rv r) = va_rf (r.map (fun r => g.1 + r)) := by cases r <;> rfl
theorem pu_ce_obj {g : pu_G} {M : pu_M} {a c : Nat} (h : pu_sh a = (0, c)) : pu_ce g M a = .inr (c, pu_fs g M a c) := by unfold pu_ce; rw [h]
theorem pu_ce_arr {g : pu_G} {M : pu_M} {a kd n : Nat} (h : pu_sh a = (kd + 1, n)) : pu_ce g M a = .inl (g.2.2.1 (kd + 1), pu_ar g M a (kd + 1) n) := by unfold pu_ce; rw [h]
theorem pu_fs_at {g : pu_G} {M : pu_M} {a c j : Nat} (hj : j < pu_nf c) : (pu_fs g M a c)[j]? = some (pu_fv g M a (pu_ft c j) j) := by
  unfold pu_fs
  rw [List.getElem?_map, List.getElem?_range hj]
  rfl
theorem pu_fs_len {g : pu_G} {M : pu_M} {a c : Nat} : (pu_fs g M a c).length = pu_nf c := by simp [pu_fs]
theorem pu_ce_congr {g : pu_G} {M M' : pu_M} {b : Nat} (h1 : M'.1 b = M.1 b) (h2 : M'.2.1 b = M.2.1 b) (h3 : M'.2.2.1 b = M.2.2.1 b) : pu_ce g M' b = pu_ce g M b := by
  have e1 : ∀ t k, pu_fv g M' b t k = pu_fv g M b t k := by
    intro t k
    unfold pu_fv
    rw [h1, h2, h3]
  have e2 : ∀ c, pu_fs g M' b c = pu_fs g M b c := by
    intro c
    unfold pu_fs
    exact List.map_congr_left fun k _ => e1 _ _
  have e3 : ∀ kd n, pu_ar g M' b kd n = pu_ar g M b kd n := by
    intro kd n
    unfold pu_ar
    rw [h1, h2, h3]
  unfold pu_ce
  split
  · rw [e2]
  · rw [e3]
theorem pu_W_upd {g : pu_G} {M M' : pu_M} {H H' : Heap} {a : Nat} (hW : pu_W g M H) (hn : M'.2.2.2 = M.2.2.2) (hs : H'.size = H.size) (ho : ∀ q, q ≠ g.1 + a → H'[q]? = H[q]?) (hc : ∀ b, b ≠ a → pu_ce g M' b = pu_ce g M b) (ha : a < M.2.2.2 → va_at g.2.1 vwCl (g.1 + a, pu_ce g M' a) H') : pu_W g M' H' := by
  refine ⟨by rw [hs, hn]; exact hW.1, fun b hb => ?_⟩
  rw [hn] at hb
  by_cases e : b = a
  · subst e; exact ha hb
  · rw [hc b e]
    exact (hW.2 b hb).kept (ho _ (by simp; omega))
theorem pu_P1 {g : pu_G} {M : pu_M} {H : Heap} {a : Nat} (hW : pu_W g M H) (ha : a < M.2.2.2) : va_P g.2.1 vwCl [(g.1 + a, pu_ce g M a)] H := by
  intro k q hq
  match k, hq with
  | 0, hq => cases hq; exact hW.2 a ha
  | k + 1, hq => simp at hq
/-- reading an int field -/
def s_gi (c j : Nat) (k : pu_K) : pu_K := fun ls st M => match st with
  | .ref a :: st => if pu_sh a = (0, c) then k ls (.int (M.1 a j) :: st) M else none
  | _ => none
def s_gr (c j : Nat) (k : pu_K) : pu_K := fun ls st M => match st with
  | .ref a :: st => if pu_sh a = (0, c) then k ls (pu_rv (M.2.2.1 a j) :: st) M else none
  | _ => none
theorem z_gi {X : pu_X} {d : pu_D} {pc c j index N : Nat} {k : pu_K} {C : String} {T : u_T} (hX : pu_H X d) (hd : decode d.2.2.1 pc = .ok (.getfield index, 3)) (hc : vwCl[c]? = some (C, T, N)) (hin : ∀ w ∈ u_ws C T N, w ∈ wsL_law) (hl : Cond.fieldLink d.1 index (T j).1 (T j).2.1 (T j).2.2.1 ∈ wsL_law) (hf : pu_nf c = N ∧ j < N ∧ pu_ft c j = 0) (h : pu_S X d (pc + 3) k) : pu_S X d pc (s_gi c j k) := by
  obtain ⟨p, l, e, R, s, m, args, below, meth, c', g, Q, n0, out⟩ := X
  obtain ⟨hx, hb, hml, hown, hts, hK, hsp, hR, hsz, hnm, hE⟩ := hX
  obtain ⟨hf1, hf2, hf3⟩ := hf
  refine z_st h fun ls st M ho => ?_
  unfold s_gi at ho
  split at ho
  · rename_i a st
    split at ho
    · rename_i hs
      exact ⟨_, ho, fun q v hv => by
        rcases List.mem_cons.mp hv with rfl | hv
        · trivial
        · exact q.1 v (List.mem_cons_of_mem _ hv), fun la H locs hS hl2 hW hs2 kk => by
        have ha : a < M.2.2.2 := hS.1 (.ref a) List.mem_cons_self
        refine va_get (v := .int (M.1 a j)) hx hb hts hin hown hK (pu_P1 hW ha) 0 (by rw [pu_ce_obj hs]; rfl) hc j hf2 (hts _ hl) (fun _ h => h) (by rw [pu_fs_at (by omega), hf3]; rfl) hd kk⟩
    · cases ho
  · cases ho
theorem z_gr {X : pu_X} {d : pu_D} {pc c j index N : Nat} {k : pu_K} {C : String} {T : u_T} (hX : pu_H X d) (hd : decode d.2.2.1 pc = .ok (.getfield index, 3)) (hc : vwCl[c]? = some (C, T, N)) (hin : ∀ w ∈ u_ws C T N, w ∈ wsL_law) (hl : Cond.fieldLink d.1 index (T j).1 (T j).2.1 (T j).2.2.1 ∈ wsL_law) (hf : pu_nf c = N ∧ j < N ∧ pu_ft c j = 2) (h : pu_S X d (pc + 3) k) : pu_S X d pc (s_gr c j k) := by
  obtain ⟨p, l, e, R, s, m, args, below, meth, c', g, Q, n0, out⟩ := X
  obtain ⟨hx, hb, hml, hown, hts, hK, hsp, hR, hsz, hnm, hE⟩ := hX
  obtain ⟨hf1, hf2, hf3⟩ := hf
  refine z_st h fun ls st M ho => ?_
  unfold s_gr at ho
  split at ho
  · rename_i a st
    split at ho
    · rename_i hs
      exact ⟨_, ho, fun q v hv => by
        rcases List.mem_cons.mp hv with rfl | hv
        · have ha : a < M.2.2.2 := q.1 (.ref a) List.mem_cons_self
          cases hr : M.2.2.1 a j with
          | none => trivial
          | some r => exact q.2.2 a j r ha hr
        · exact q.1 v (List.mem_cons_of_mem _ hv), fun la H locs hS hl2 hW hs2 kk => by
        have ha : a < M.2.2.2 := hS.1 (.ref a) List.mem_cons_self
        rw [List.map_cons, pu_rv_t] at kk
        refine va_get (v := va_rf ((M.2.2.1 a j).map (fun r => g.1 + r))) hx hb hts hin hown hK (pu_P1 hW ha) 0 (by rw [pu_ce_obj hs]; rfl) hc j hf2 (hts _ hl) (fun _ h => h) (by rw [pu_fs_at (by omega), hf3]; rfl) hd kk⟩
    · cases ho
  · cases ho
theorem pu_wi_ne {M : pu_M} {a i : Nat} {v : Int32} {b : Nat} (h : b ≠ a) : (pu_wi M a i v).1 b = M.1 b := by
  funext j; simp [pu_wi, h]
theorem pu_wl_ne {M : pu_M} {a i : Nat} {v : Int64} {b : Nat} (h : b ≠ a) : (pu_wl M a i v).2.1 b = M.2.1 b := by
  funext j; simp [pu_wl, h]
theorem pu_wr_ne {M : pu_M} {a i : Nat} {v : Option Nat} {b : Nat} (h : b ≠ a) : (pu_wr M a i v).2.2.1 b = M.2.2.1 b := by
  funext j; simp [pu_wr, h]
/-- writing a field -/
def s_pi (c j : Nat) (k : pu_K) : pu_K := fun ls st M => match st with
  | .int v :: .ref a :: st => if pu_sh a = (0, c) then k ls st (pu_wi M a j v) else none
  | _ => none
def s_pz (c j : Nat) (k : pu_K) : pu_K := fun ls st M => match st with
  | .int v :: .ref a :: st => if pu_sh a = (0, c) ∧ (v = 0 ∨ v = 1) then k ls st (pu_wi M a j v) else none
  | _ => none
def s_pr (c j : Nat) (k : pu_K) : pu_K := fun ls st M => match st with
  | .ref v :: .ref a :: st => if pu_sh a = (0, c) then k ls st (pu_wr M a j (some v)) else none
  | _ => none
theorem pu_put {p : Program} {l : Launch} {e : Env} {R : Room} {s : State} {m : MethodId} {args : Array Value} {below : List Frame} {meth : Method} {c : Code} {H : Heap} {locs : List Loc} {cells slots : Nat} {Q : State → Prop} {cc : ByteArray} {pc : Nat} {la : Array Slot} {rest : List Value} {D : va_G} {cl : List vw_C} {a : Nat} {tys : List (ClassId × FieldType)}
    (hexec : p.tables.exec = Jvm.exec) (hb : c.code = cc) {own C : String} {T : u_T} {N ci index : Nat} {Ts : List Cond} (hts : ∀ w ∈ Ts, w.before args s = true) (hin : ∀ w ∈ u_ws C T N, w ∈ Ts) (ty0 : Nat → FieldType) (hty : ∀ k, k < N → parseFieldDescriptor (T k).2.2.1 = some (ty0 k)) (hnm : ∀ a, a < N → ∀ b, b < N → a ≠ b → (T a).2.1 ≠ (T b).2.1) (hown : s.vm.findClass own = some m.cls) (hK : va_K D cl tys s) {fs : List Value} (he : va_at D cl (a, .inr (ci, fs)) H) (hc : cl[ci]? = some (C, T, N)) (k : Nat) (hk : k < N) (hlink : (Cond.fieldLink own index (T k).1 (T k).2.1 (T k).2.2.1).before args s = true)
    (hfin : (T k).2.2.2 = false ∨ ((T k).2.2.2 = true ∧ meth.name = "<init>" ∧ (T k).1 = own)) {v : Value} (hn : narrow (ty0 k) v = v) (hfit : fits (ty0 k) v = true) (hl : k < fs.length) (hdg : decode cc pc = .ok (.putfield index, 3))
    (kk : ∀ (H1 : Heap) (locs1 : List Loc) (j : Nat), va_at D cl (a, .inr (ci, fs.set k v)) H1 → H1.size = H.size → (∀ q, q ≠ a → H1[q]? = H[q]?) → locs1 = locs ++ [⟨a, j⟩] → W p l e R s m args below meth c H1 locs1 cells slots Q (F0 m (pc + 3) la rest)) : W p l e R s m args below meth c H locs cells slots Q (F0 m pc la (v :: .ref a :: rest)) := by
  have hap := va_apart (own := own) hts hin ty0 hty hnm hK hc
  obtain ⟨r, h1, cell, q1, q2, q3, q4⟩ := he
  have hr : r = (C, T, N) := Option.some.inj (h1.symm.trans hc)
  subst hr
  obtain ⟨hS, hfc, kC, hkC, hkind⟩ := hK.1 ci _ hc
  obtain ⟨cf, kf, fi, f, hi, hsl⟩ := hS k hk
  have hlay := hts _ (hin _ (u_in_lay hk))
  have hst := (u_facts hfc hkC (u_lays hts hin hk) hi).1
  unfold u_lay at hlay
  rcases hfin with hfin | ⟨hfin, hin2, hdecl⟩
  · rw [if_neg (by rw [hfin]; decide)] at hlay
    have h6 := u_store hfc hkC hkind hlay hi (hty k hk) hn hfit
    refine W.putK hexec hb (f := f) ⟨hown, hlink, ⟨_, _, _, hi⟩, hst⟩ (by rw [q2]; exact h6) q1 q3 (by rw [hsl]; exact k2_hasslot (q4 k hk)) rfl rfl hdg fun H' e1 e2 e3 => ?_
    rw [hsl] at e1 ⊢
    exact kk H' _ _ ⟨_, hc, t_OB.to (V := updV (vp_V fs) k v) ⟨_, e1, q2, q3, t_set q4 hap hk v⟩ (fun j _ => vp_updV_set hl v j)⟩ e2 e3 rfl
  · rw [if_pos hfin] at hlay
    have hcf : m.cls = cf := by
      obtain ⟨_, _, c', _, _, _, -, -, hf', -, -, -, hown2, -⟩ := Cond.laysFinal_spec hlay
      have e1 : c' = cf := by have := hi.symm.trans hf'; simp at this; exact this.1.symm
      rw [hdecl] at hown2
      rw [← e1]; exact Option.some.inj (hown.symm.trans hown2)
    have h6 := u_fits hfc hkC hkind (Or.inr hlay) hi (hty k hk) hn hfit
    refine W.putFinK hexec hb hown hlink hi hst hcf hin2 (by rw [q2]; exact h6) q1 q3 (by rw [hsl]; exact k2_hasslot (q4 k hk)) rfl rfl hdg fun H' e1 e2 e3 => ?_
    rw [hsl] at e1 ⊢
    exact kk H' _ _ ⟨_, hc, t_OB.to (V := updV (vp_V fs) k v) ⟨_, e1, q2, q3, t_set q4 hap hk v⟩ (fun j _ => vp_updV_set hl v j)⟩ e2 e3 rfl
theorem pu_put2 {X : pu_X} {d : pu_D} {pc c j index N : Nat} {C : String} {T : u_T} {a : Nat} {v : Value} {M M' : pu_M} {ls : pu_L} {st : List Value} {k : pu_K} (ty0 : Nat → FieldType) (hty : ∀ k, k < N → parseFieldDescriptor (T k).2.2.1 = some (ty0 k)) (hnm : ∀ a, a < N → ∀ b, b < N → a ≠ b → (T a).2.1 ≠ (T b).2.1) (hX : pu_H X d) (hd : decode d.2.2.1 pc = .ok (.putfield index, 3)) (hc : vwCl[c]? = some (C, T, N)) (hin : ∀ w ∈ u_ws C T N, w ∈ wsL_law) (hl : Cond.fieldLink d.1 index (T j).1 (T j).2.1 (T j).2.2.1 ∈ wsL_law) (hf : pu_nf c = N ∧ j < N) (hfin : (T j).2.2.2 = false ∨ ((T j).2.2.2 = true ∧ d.2.1.name = "<init>" ∧ (T j).1 = d.1))
    (hs : pu_sh a = (0, c)) (hS : pu_okS ls (v :: .ref a :: st) M) (hn : X.2.2.2.2.2.2.2.2.2.2.2.2.1 ≤ M.2.2.2) (hM1 : M'.2.2.2 = M.2.2.2) (hM2 : pu_okM M') (hM3 : ∀ b, b ≠ a → pu_ce X.2.2.2.2.2.2.2.2.2.2.1 M' b = pu_ce X.2.2.2.2.2.2.2.2.2.2.1 M b) (hM4 : pu_fs X.2.2.2.2.2.2.2.2.2.2.1 M' a c = (pu_fs X.2.2.2.2.2.2.2.2.2.2.1 M a c).set j (pu_t X.2.2.2.2.2.2.2.2.2.2.1 v)) (hnar : narrow (ty0 j) (pu_t X.2.2.2.2.2.2.2.2.2.2.1 v) = pu_t X.2.2.2.2.2.2.2.2.2.2.1 v) (hfit : fits (ty0 j) (pu_t X.2.2.2.2.2.2.2.2.2.2.1 v) = true) (h : pu_S X d (pc + 3) k) (ho : k ls st M' = some X.2.2.2.2.2.2.2.2.2.2.2.2.2) :
    (M.2.2.2 ≤ X.2.2.2.2.2.2.2.2.2.2.2.2.2.2.2.2.2 ∧ pu_okO X.2.2.2.2.2.2.2.2.2.2.2.2.2) ∧ ∀ (la : Array Slot) (H : Heap) (locs : List Loc), pu_lv X.2.2.2.2.2.2.2.2.2.2.1 la d.2.2.2.1 ls → pu_W X.2.2.2.2.2.2.2.2.2.2.1 M H → va_S (fun q => X.2.2.2.2.2.2.2.2.2.2.1.1 ≤ q) X.2.2.2.2.1.heap H locs →
        W X.1 X.2.1 X.2.2.1 X.2.2.2.1 X.2.2.2.2.1 X.2.2.2.2.2.1 X.2.2.2.2.2.2.1 X.2.2.2.2.2.2.2.1 X.2.2.2.2.2.2.2.2.1 X.2.2.2.2.2.2.2.2.2.1 H locs (M.2.2.2 - X.2.2.2.2.2.2.2.2.2.2.2.2.1) (pu_sl M.2.2.2 - pu_sl X.2.2.2.2.2.2.2.2.2.2.2.2.1) X.2.2.2.2.2.2.2.2.2.2.2.1 (F0 X.2.2.2.2.2.1 pc la ((v :: .ref a :: st).map (pu_t X.2.2.2.2.2.2.2.2.2.2.1))) := by
  obtain ⟨p, l, e, R, s, m, args, below, meth, c', g, Q, n0, out⟩ := X
  obtain ⟨hx, hb, hml, hown, hts, hK, hsp, hR, hsz, hnm2, hE⟩ := hX
  dsimp only at *
  obtain ⟨hf1, hf2⟩ := hf
  have hS1 := hS.1
  simp only [List.mem_cons, forall_eq_or_imp] at hS1
  have ha : a < M.2.2.2 := hS1.2.1
  obtain ⟨a1, a2⟩ := h ls st M' ho ⟨fun v hv => by rw [hM1]; exact hS1.2.2 v hv, fun v hv => by rw [hM1]; exact hS.2.1 v hv, hM2⟩ (by rw [hM1]; exact hn)
  rw [hM1] at a1 a2
  refine ⟨a1, fun la H locs hlv hW hs2 => ?_⟩
  have hat := hW.2 a ha
  rw [pu_ce_obj hs] at hat
  refine pu_put hx hb hts hin ty0 hty hnm hown hK hat hc j hf2 (hts _ hl) ?_ hnar hfit (by rw [pu_fs_len]; omega) hd fun H1 locs1 i e1 e2 e3 e4 => ?_
  · rcases hfin with q | ⟨q1, q2, q3⟩
    · exact Or.inl q
    · exact Or.inr ⟨q1, by rw [hnm2]; exact q2, q3⟩
  · refine a2 la H1 locs1 hlv (pu_W_upd hW hM1 e2 e3 hM3 fun _ => ?_) ?_
    · rw [pu_ce_obj hs, hM4]
      exact e1
    · rw [e4]
      exact hs2.put e2 e3 (by omega)
theorem pu_fs_wi {g : pu_G} {M : pu_M} {a c j : Nat} {v : Int32} (hj : j < pu_nf c) (hf : pu_ft c j = 0) : pu_fs g (pu_wi M a j v) a c = (pu_fs g M a c).set j (.int v) := by
  apply List.ext_getElem?
  intro i
  rw [List.getElem?_set, pu_fs_len]
  by_cases hi : i < pu_nf c
  · rw [pu_fs_at hi, pu_fs_at hi]
    by_cases e : j = i
    · subst e
      rw [if_pos rfl, if_pos hi, hf]
      simp [pu_fv, pu_wi]
    · rw [if_neg e]
      congr 1
      unfold pu_fv
      split
      · simp [pu_wi, Ne.symm e]
      · rfl
      · rfl
  · rw [List.getElem?_eq_none (by rw [pu_fs_len]; omega), List.getElem?_eq_none (by rw [pu_fs_len]; omega)]
    by_cases e : j = i
    · omega
    · rw [if_neg e]
theorem pu_fs_wr {g : pu_G} {M : pu_M} {a c j : Nat} {v : Nat} (hj : j < pu_nf c) (hf : pu_ft c j = 2) : pu_fs g (pu_wr M a j (some v)) a c = (pu_fs g M a c).set j (.ref (g.1 + v)) := by
  apply List.ext_getElem?
  intro i
  rw [List.getElem?_set, pu_fs_len]
  by_cases hi : i < pu_nf c
  · rw [pu_fs_at hi, pu_fs_at hi]
    by_cases e : j = i
    · subst e
      rw [if_pos rfl, if_pos hi, hf]
      simp [pu_fv, pu_wr, va_rf]
    · rw [if_neg e]
      congr 1
      unfold pu_fv
      split
      · rfl
      · rfl
      · simp [pu_wr, Ne.symm e]
  · rw [List.getElem?_eq_none (by rw [pu_fs_len]; omega), List.getElem?_eq_none (by rw [pu_fs_len]; omega)]
    by_cases e : j = i
    · omega
    · rw [if_neg e]
theorem z_pi {X : pu_X} {d : pu_D} {pc c j index N : Nat} {k : pu_K} {C : String} {T : u_T} (ty0 : Nat → FieldType) (hty : ∀ k, k < N → parseFieldDescriptor (T k).2.2.1 = some (ty0 k)) (hnm : ∀ a, a < N → ∀ b, b < N → a ≠ b → (T a).2.1 ≠ (T b).2.1) (hX : pu_H X d) (hd : decode d.2.2.1 pc = .ok (.putfield index, 3)) (hc : vwCl[c]? = some (C, T, N)) (hin : ∀ w ∈ u_ws C T N, w ∈ wsL_law) (hl : Cond.fieldLink d.1 index (T j).1 (T j).2.1 (T j).2.2.1 ∈ wsL_law) (hf : pu_nf c = N ∧ j < N) (hf3 : pu_ft c j = 0 ∧ ty0 j = .int) (hfin : (T j).2.2.2 = false) (h : pu_S X d (pc + 3) k) : pu_S X d pc (s_pi c j k) := by
  obtain ⟨p, l, e, R, s, m, args, below, meth, c', g, Q, n0, out⟩ := X
  intro ls st M ho hS hn
  unfold s_pi at ho
  split at ho
  · rename_i v a st
    split at ho
    · rename_i hs
      exact pu_put2 (v := .int v) (M' := pu_wi M a j v) ty0 hty hnm hX hd hc hin hl hf (Or.inl hfin) hs hS hn rfl (fun b k r h1 h2 => hS.2.2 b k r h1 h2) (fun b hb => pu_ce_congr (pu_wi_ne hb) rfl rfl) (pu_fs_wi (by omega) hf3.1) (by rw [hf3.2]; rfl) (by rw [hf3.2]; rfl) h ho
    · cases ho
  · cases ho
theorem z_pz {X : pu_X} {d : pu_D} {pc c j index N : Nat} {k : pu_K} {C : String} {T : u_T} (ty0 : Nat → FieldType) (hty : ∀ k, k < N → parseFieldDescriptor (T k).2.2.1 = some (ty0 k)) (hnm : ∀ a, a < N → ∀ b, b < N → a ≠ b → (T a).2.1 ≠ (T b).2.1) (hX : pu_H X d) (hd : decode d.2.2.1 pc = .ok (.putfield index, 3)) (hc : vwCl[c]? = some (C, T, N)) (hin : ∀ w ∈ u_ws C T N, w ∈ wsL_law) (hl : Cond.fieldLink d.1 index (T j).1 (T j).2.1 (T j).2.2.1 ∈ wsL_law) (hf : pu_nf c = N ∧ j < N) (hf3 : pu_ft c j = 0 ∧ ty0 j = .boolean) (hfin : (T j).2.2.2 = false) (h : pu_S X d (pc + 3) k) : pu_S X d pc (s_pz c j k) := by
  obtain ⟨p, l, e, R, s, m, args, below, meth, c', g, Q, n0, out⟩ := X
  intro ls st M ho hS hn
  unfold s_pz at ho
  split at ho
  · rename_i v a st
    split at ho
    · rename_i hs
      obtain ⟨hs, hv⟩ := hs
      exact pu_put2 (v := .int v) (M' := pu_wi M a j v) ty0 hty hnm hX hd hc hin hl hf (Or.inl hfin) hs hS hn rfl (fun b k r h1 h2 => hS.2.2 b k r h1 h2) (fun b hb => pu_ce_congr (pu_wi_ne hb) rfl rfl) (pu_fs_wi (by omega) hf3.1) (by rw [hf3.2]; rcases hv with rfl | rfl <;> rfl) (by rw [hf3.2]; rcases hv with rfl | rfl <;> rfl) h ho
    · cases ho
  · cases ho
theorem z_pr {X : pu_X} {d : pu_D} {pc c j index N : Nat} {k : pu_K} {C : String} {T : u_T} (ty0 : Nat → FieldType) (hty : ∀ k, k < N → parseFieldDescriptor (T k).2.2.1 = some (ty0 k)) (hnm : ∀ a, a < N → ∀ b, b < N → a ≠ b → (T a).2.1 ≠ (T b).2.1) (hX : pu_H X d) (hd : decode d.2.2.1 pc = .ok (.putfield index, 3)) (hc : vwCl[c]? = some (C, T, N)) (hin : ∀ w ∈ u_ws C T N, w ∈ wsL_law) (hl : Cond.fieldLink d.1 index (T j).1 (T j).2.1 (T j).2.2.1 ∈ wsL_law) (hf : pu_nf c = N ∧ j < N) (hf3 : pu_ft c j = 2 ∧ ∀ q : Nat, narrow (ty0 j) (.ref q) = .ref q ∧ fits (ty0 j) (.ref q) = true) (hfin : (T j).2.2.2 = false ∨ ((T j).2.2.2 = true ∧ d.2.1.name = "<init>" ∧ (T j).1 = d.1)) (h : pu_S X d (pc + 3) k) : pu_S X d pc (s_pr c j k) := by
  obtain ⟨p, l, e, R, s, m, args, below, meth, c', g, Q, n0, out⟩ := X
  intro ls st M ho hS hn
  unfold s_pr at ho
  split at ho
  · rename_i v a st
    split at ho
    · rename_i hs
      exact pu_put2 (v := .ref v) (M' := pu_wr M a j (some v)) ty0 hty hnm hX hd hc hin hl hf hfin hs hS hn rfl (fun b k r h1 h2 => by
        have hv : v < M.2.2.2 := hS.1 (.ref v) List.mem_cons_self
        unfold pu_wr at h1 h2 ⊢
        dsimp only at h1 h2 ⊢
        split at h2
        · split at h2
          · cases h2; exact hv
          · exact hS.2.2 b k r h1 h2
        · exact hS.2.2 b k r h1 h2) (fun b hb => pu_ce_congr rfl rfl (pu_wr_ne hb)) (pu_fs_wr (by omega) hf3.1) (hf3.2 _).1 (hf3.2 _).2 h ho
    · cases ho
  · cases ho
