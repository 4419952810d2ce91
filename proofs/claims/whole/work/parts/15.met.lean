/-! a method's contract out of its body; all contracts out of all bodies -/
theorem pu_sl_len (g : pu_G) (vs : List Value) : (lg_sl (vs.map (pu_t g))).length = (pu_as vs).length := by
  induction vs with
  | nil => rfl
  | cons v vs ih =>
    simp only [lg_sl, pu_as, List.map_cons, List.flatMap_cons, List.length_append] at ih ⊢
    rw [ih, pu_t_cat]
    split <;> rfl
theorem pu_args_mem (g : pu_G) (n : Nat) : ∀ (vs : List Value) (off i : Nat) (v : Value), (pu_as vs ++ List.replicate n none)[i]? = some (some v) → (off + i, pu_t g v) ∈ lv_args off (vs.map (pu_t g))
  | [], off, i, v, h => by
    have h1 := List.mem_of_getElem? h
    simp only [pu_as, List.flatMap_nil, List.nil_append] at h1
    exact absurd (List.eq_of_mem_replicate h1) (by simp)
  | w :: vs, off, i, v, h => by
    have ih := pu_args_mem g n vs
    unfold pu_as at h
    rw [List.flatMap_cons, List.append_assoc] at h
    change ((if w.category = 2 then [some w, none] else [some w]) ++ (pu_as vs ++ List.replicate n none))[i]? = some (some v) at h
    show (off + i, pu_t g v) ∈ (off, pu_t g w) :: lv_args (if (pu_t g w).category = 2 then off + 2 else off + 1) (vs.map (pu_t g))
    rw [pu_t_cat]
    by_cases hc : w.category = 2
    · rw [if_pos hc] at h ⊢
      match i, h with
      | 0, h => cases h; exact List.mem_cons_self
      | 1, h => cases h
      | i + 2, h =>
        refine List.mem_cons_of_mem _ ?_
        have h2 : (pu_as vs ++ List.replicate n none)[i]? = some (some v) := h
        have := ih (off + 2) i v h2
        rw [show off + (i + 2) = off + 2 + i by omega]
        exact this
    · rw [if_neg hc] at h ⊢
      match i, h with
      | 0, h => cases h; exact List.mem_cons_self
      | i + 1, h =>
        refine List.mem_cons_of_mem _ ?_
        have h2 : (pu_as vs ++ List.replicate n none)[i]? = some (some v) := h
        have := ih (off + 1) i v h2
        rw [show off + (i + 1) = off + 1 + i by omega]
        exact this
theorem pu_met {l : Launch} {g : pu_G} {d : pu_D} {k : pu_K} {vs : List Value} {M : pu_M} {o : pu_O} (hcl : plainName d.2.1.cls = true) (hown : d.2.1.cls = d.1) (hb : ∀ X : pu_X, X.2.1 = l → X.2.2.2.2.2.2.2.2.2.2.1 = g → pu_H X d → pu_S X d 0 k)
    (hv : ∀ v ∈ vs, pu_ok M.2.2.2 v) (hM : pu_okM M) (ho : s_ent d.2.2.2.1 k (pu_as vs) [] M = some o) : pu_C l g d vs M o := by
  unfold s_ent at ho
  split at ho
  · rename_i hlen
    unfold pu_C
    refine Met.ofW (cc := d.2.2.1) (maxL := d.2.2.2.1) (ret := d.2.2.2.2.1) hcl rfl ?_
    intro p e s m args below meth c s₁ B hml hP
    obtain ⟨rfl, hW, hK, hsp⟩ := hP
    have hts : ∀ w ∈ wsL_law, w.before (vs.map (pu_t g)).toArray s = true := fun w hw => atoms_spec (ws := Cond.code d.2.1 d.2.2.1 d.2.2.2.1 d.2.2.2.2.1 :: wsL_law) B.pre w (List.mem_cons_of_mem _ hw)
    have hown2 : s.vm.findClass d.1 = some m.cls := by rw [← hown]; exact findClass_of_methodNamed B.named
    have hlocks := B.notSynchronized
    have hr := B.returns
    have hX : pu_H (p, l, e, (headSpec (Cond.code d.2.1 d.2.2.1 d.2.2.2.1 d.2.2.2.2.1 :: wsL_law) (pu_rm d M o)).room, s, m, (vs.map (pu_t g)).toArray, below, meth, c, g, MQ below (pu_Q g o) (vs.map (pu_t g)).toArray s (o.2.2.2.2 - M.2.2.2) (pu_sl o.2.2.2.2 - pu_sl M.2.2.2) (fun q => g.1 ≤ q), M.2.2.2, o) d := by
      refine ⟨B.exec, B.bytes, hml, hown2, hts, hK, hsp, ⟨Nat.le_refl _, Nat.le_refl _, Nat.le_refl _, Nat.le_refl _⟩, hW.1, (name_of_methodNamed B.named B.method).1, ?_, ?_, ?_⟩
      · intro v M' pc la H locs he hd hrt hW' hn hs
        subst he
        obtain ⟨ty, hrt, hnr⟩ := hrt
        exact W.zret B.exec B.bytes (by rw [hr, hrt]) hnr (fun t ht hw => ⟨rfl, by rw [ht]; exact hW', hs.F ht⟩) hs.2.2 hd
      · intro M' pc la H locs he hrt hd hW' hn hs
        subst he
        exact W.vret B.exec B.bytes (by rw [hr, hrt]) (fun t ht hw => ⟨rfl, by rw [ht]; exact hW', hs.F ht⟩) hs.2.2 hd
      · intro v M' pc la H locs he hrt hd hW' hn hs
        subst he
        exact W.lret B.exec B.bytes (by rw [hr, hrt]) (fun t ht hw => ⟨rfl, by rw [ht]; exact hW', hs.F ht⟩) hs.2.2 hd
    have hS := hb _ rfl rfl hX
    obtain ⟨a1, a2⟩ := hS (pu_as vs ++ List.replicate (d.2.2.2.1 - (pu_as vs).length) none) [] M ho ⟨fun v hv => (by simp at hv), fun v hv2 => by
      rcases List.mem_append.mp hv2 with hv2 | hv2
      · exact hv v (pu_as_mem hv2)
      · exact absurd (List.eq_of_mem_replicate hv2) (by simp), hM⟩ (Nat.le_refl _)
    have hle : (lg_sl (vs.map (pu_t g))).length ≤ d.2.2.2.1 := by rw [pu_sl_len]; exact hlen
    have hl := lv_entry (vs.map (pu_t g)) (n := d.2.2.2.1) hle
    rw [lg_entry_eq]
    have hk := a2 _ s.heap [] (pu_lv_of hl (by simp; omega) fun i v hi => by
      have := pu_args_mem g _ vs 0 i v hi
      rw [Nat.zero_add] at this
      exact this) hW va_S.rf
    rw [Nat.sub_self, Nat.sub_self] at hk
    exact hk
  · cases ho
/-- all contracts, by the fuel -/
theorem pu_sound {cd : Nat → Option (pu_R → pu_K)} {lp : Nat → Option (Nat × Nat)} {l : Launch} {g : pu_G} (hcd : ∀ i c, cd i = some c → pu_cok2 c)
    (hm : ∀ (j : Nat) (d : pu_D), pu_tab[j]? = some d → plainName d.2.1.cls = true ∧ d.2.1.cls = d.1 ∧ ∃ k : pu_R → pu_K, cd j = some (fun r => s_ent d.2.2.2.1 (k r)) ∧ ∀ (X : pu_X) (r : pu_R), X.2.1 = l → X.2.2.2.2.2.2.2.2.2.2.1 = g → pu_H X d → pu_P l g r → (∀ i pc, lp i = some (j, pc) → pu_S X d pc (r i)) → pu_S X d 0 (k r))
    (hl : ∀ (i j pc : Nat) (d : pu_D), lp i = some (j, pc) → pu_tab[j]? = some d → ∃ k : pu_R → pu_K, cd i = some k ∧ ∀ (X : pu_X) (r : pu_R), X.2.1 = l → X.2.2.2.2.2.2.2.2.2.2.1 = g → pu_H X d → pu_P l g r → (∀ i pc, lp i = some (j, pc) → pu_S X d pc (r i)) → pu_S X d pc (k r)) :
    ∀ f : Nat, pu_P l g (pu_run cd f) ∧ ∀ (i j pc : Nat) (d : pu_D), lp i = some (j, pc) → pu_tab[j]? = some d → ∀ X : pu_X, X.2.1 = l → X.2.2.2.2.2.2.2.2.2.2.1 = g → pu_H X d → pu_S X d pc (pu_run cd f i)
  | 0 => by
    refine ⟨fun j d hj vs M o hv hM ho => (by cases ho), fun i j pc d h1 h2 X h3 h4 h5 => ?_⟩
    obtain ⟨p, l, e, R, s, m, args, below, meth, c, g, Q, n0, out⟩ := X
    intro ls st M ho
    cases ho
  | f + 1 => by
    obtain ⟨ihP, ihL⟩ := pu_sound hcd hm hl f
    refine ⟨fun j d hj vs M o hv hM ho => ?_, fun i j pc d h1 h2 X h3 h4 h5 => ?_⟩
    · obtain ⟨hpl, hown, k, hk, hb⟩ := hm j d hj
      have hz := (pu_run_all hcd (f + 1) j).1.1 _ _ _ _ ho ⟨fun v hv => (by simp at hv), fun v hv2 => hv v (pu_as_mem hv2), hM⟩
      refine ⟨hz, ?_⟩
      have ho2 : (match cd j with
        | some c => c (pu_run cd f)
        | none => fun _ _ _ => none) (pu_as vs) [] M = some o := ho
      rw [hk] at ho2
      exact pu_met hpl hown (fun X e1 e2 hX => hb X _ e1 e2 hX ihP (fun i pc hi => ihL i j pc d hi hj X e1 e2 hX)) hv hM ho2
    · obtain ⟨k, hk, hb⟩ := hl i j pc d h1 h2
      have := hb X (pu_run cd f) h3 h4 h5 ihP (fun i pc hi => ihL i j pc d hi h2 X h3 h4 h5)
      have e : pu_run cd (f + 1) i = k (pu_run cd f) := by
        show (match cd i with
          | some c => c (pu_run cd f)
          | none => fun _ _ _ => none) = _
        rw [hk]
      rw [e]
      exact this
