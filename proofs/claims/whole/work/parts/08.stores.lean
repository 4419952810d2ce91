/-! stores into arrays -/
theorem pu_sto {X : pu_X} {d : pu_D} {pc pc' a : Nat} {sv st : List Value} {M M' : pu_M} {ls : pu_L} {k : pu_K}
    (hS : pu_okS ls (sv ++ .ref a :: st) M) (hn : X.2.2.2.2.2.2.2.2.2.2.2.2.1 ≤ M.2.2.2) (hM1 : M'.2.2.2 = M.2.2.2) (hM2 : pu_okM M') (hM3 : ∀ b, b ≠ a → pu_ce X.2.2.2.2.2.2.2.2.2.2.1 M' b = pu_ce X.2.2.2.2.2.2.2.2.2.2.1 M b) (h : pu_S X d pc' k) (ho : k ls st M' = some X.2.2.2.2.2.2.2.2.2.2.2.2.2)
    (hw : ∀ (la : Array Slot) (H : Heap) (locs : List Loc), a < M.2.2.2 → pu_lv X.2.2.2.2.2.2.2.2.2.2.1 la d.2.2.2.1 ls → pu_W X.2.2.2.2.2.2.2.2.2.2.1 M H → va_S (fun q => X.2.2.2.2.2.2.2.2.2.2.1.1 ≤ q) X.2.2.2.2.1.heap H locs →
      (∀ (H1 : Heap) (locs1 : List Loc), H1[X.2.2.2.2.2.2.2.2.2.2.1.1 + a]? = (match pu_ce X.2.2.2.2.2.2.2.2.2.2.1 M' a with | .inl q => some (vp_cell q.1 q.2) | .inr _ => H1[X.2.2.2.2.2.2.2.2.2.2.1.1 + a]?) → (match pu_ce X.2.2.2.2.2.2.2.2.2.2.1 M' a with | .inl _ => True | .inr _ => False) → H1.size = H.size → (∀ q, q ≠ X.2.2.2.2.2.2.2.2.2.2.1.1 + a → H1[q]? = H[q]?) → (∀ l ∈ locs1, l ∈ locs ∨ l.base = X.2.2.2.2.2.2.2.2.2.2.1.1 + a) →
        W X.1 X.2.1 X.2.2.1 X.2.2.2.1 X.2.2.2.2.1 X.2.2.2.2.2.1 X.2.2.2.2.2.2.1 X.2.2.2.2.2.2.2.1 X.2.2.2.2.2.2.2.2.1 X.2.2.2.2.2.2.2.2.2.1 H1 locs1 (M.2.2.2 - X.2.2.2.2.2.2.2.2.2.2.2.2.1) (pu_sl M.2.2.2 - pu_sl X.2.2.2.2.2.2.2.2.2.2.2.2.1) X.2.2.2.2.2.2.2.2.2.2.2.1 (F0 X.2.2.2.2.2.1 pc' la (st.map (pu_t X.2.2.2.2.2.2.2.2.2.2.1)))) →
      W X.1 X.2.1 X.2.2.1 X.2.2.2.1 X.2.2.2.2.1 X.2.2.2.2.2.1 X.2.2.2.2.2.2.1 X.2.2.2.2.2.2.2.1 X.2.2.2.2.2.2.2.2.1 X.2.2.2.2.2.2.2.2.2.1 H locs (M.2.2.2 - X.2.2.2.2.2.2.2.2.2.2.2.2.1) (pu_sl M.2.2.2 - pu_sl X.2.2.2.2.2.2.2.2.2.2.2.2.1) X.2.2.2.2.2.2.2.2.2.2.2.1 (F0 X.2.2.2.2.2.1 pc la ((sv ++ .ref a :: st).map (pu_t X.2.2.2.2.2.2.2.2.2.2.1)))) :
    (M.2.2.2 ≤ X.2.2.2.2.2.2.2.2.2.2.2.2.2.2.2.2.2 ∧ pu_okO X.2.2.2.2.2.2.2.2.2.2.2.2.2) ∧ ∀ (la : Array Slot) (H : Heap) (locs : List Loc), pu_lv X.2.2.2.2.2.2.2.2.2.2.1 la d.2.2.2.1 ls → pu_W X.2.2.2.2.2.2.2.2.2.2.1 M H → va_S (fun q => X.2.2.2.2.2.2.2.2.2.2.1.1 ≤ q) X.2.2.2.2.1.heap H locs →
        W X.1 X.2.1 X.2.2.1 X.2.2.2.1 X.2.2.2.2.1 X.2.2.2.2.2.1 X.2.2.2.2.2.2.1 X.2.2.2.2.2.2.2.1 X.2.2.2.2.2.2.2.2.1 X.2.2.2.2.2.2.2.2.2.1 H locs (M.2.2.2 - X.2.2.2.2.2.2.2.2.2.2.2.2.1) (pu_sl M.2.2.2 - pu_sl X.2.2.2.2.2.2.2.2.2.2.2.2.1) X.2.2.2.2.2.2.2.2.2.2.2.1 (F0 X.2.2.2.2.2.1 pc la ((sv ++ .ref a :: st).map (pu_t X.2.2.2.2.2.2.2.2.2.2.1))) := by
  obtain ⟨p, l, e, R, s, m, args, below, meth, c', g, Q, n0, out⟩ := X
  dsimp only at *
  have ha : a < M.2.2.2 := hS.1 (.ref a) (by simp)
  obtain ⟨a1, a2⟩ := h ls st M' ho ⟨fun v hv => by rw [hM1]; exact hS.1 v (by simp [hv]), fun v hv => by rw [hM1]; exact hS.2.1 v hv, hM2⟩ (by rw [hM1]; exact hn)
  rw [hM1] at a1 a2
  refine ⟨a1, fun la H locs hlv hW hs2 => hw la H locs ha hlv hW hs2 fun H1 locs1 e1 e0 e2 e3 e4 => ?_⟩
  refine a2 la H1 locs1 hlv (pu_W_upd hW hM1 e2 e3 hM3 fun _ => ?_) ?_
  · unfold va_at
    cases hq : pu_ce g M' a with
    | inl q => rw [hq] at e1; exact e1
    | inr q => rw [hq] at e0; exact e0.elim
  · refine ⟨by rw [e2]; exact hs2.1, fun q h1 h2 => ?_, fun q hq => ?_⟩
    · rw [e3 q (by omega)]
      exact hs2.2.1 q h1 h2
    · rcases e4 q hq with h | h
      · exact hs2.2.2 q h
      · rw [h]; omega
theorem pu_upd_eq (f : Nat → Int32) (i : Nat) (x : Int32) : (fun j => if j = i then x else f j) = upd f i x := by
  funext j
  by_cases h : j = i
  · subst h; simp [upd]
  · simp [upd, h]
/-- an int array's place -/
def s_wi (kd : Nat) (k : pu_K) : pu_K := fun ls st M => match st with
  | .int x :: .int i :: .ref a :: st => if (pu_sh a).1 = kd ∧ ¬ (i < 0 ∨ (pu_sh a).2 ≤ i.toNatClampNeg) then k ls st (pu_wi M a i.toNatClampNeg x) else none
  | _ => none
/-- a byte array's -/
def s_wb (k : pu_K) : pu_K := fun ls st M => match st with
  | .int x :: .int i :: .ref a :: st => if (pu_sh a).1 = 2 ∧ ¬ (i < 0 ∨ (pu_sh a).2 ≤ i.toNatClampNeg) then k ls st (pu_wi M a i.toNatClampNeg x.toInt8.toInt32) else none
  | _ => none
/-- a boolean array's -/
def s_wz (k : pu_K) : pu_K := fun ls st M => match st with
  | .int x :: .int i :: .ref a :: st => if ((pu_sh a).1 = 4 ∧ ¬ (i < 0 ∨ (pu_sh a).2 ≤ i.toNatClampNeg)) ∧ (x = 0 ∨ x = 1) then k ls st (pu_wi M a i.toNatClampNeg x) else none
  | _ => none
def s_wl (k : pu_K) : pu_K := fun ls st M => match st with
  | .long x :: .int i :: .ref a :: st => if (pu_sh a).1 = 3 ∧ ¬ (i < 0 ∨ (pu_sh a).2 ≤ i.toNatClampNeg) then k ls st (pu_wl M a i.toNatClampNeg x) else none
  | _ => none
def s_wr (k : pu_K) : pu_K := fun ls st M => match st with
  | .ref v :: .int i :: .ref a :: st => if ((pu_sh a).1 = 5 ∧ ¬ (i < 0 ∨ (pu_sh a).2 ≤ i.toNatClampNeg)) ∧ pu_sh v = (0, 5) then k ls st (pu_wr M a i.toNatClampNeg (some v)) else none
  | _ => none
theorem pu_locs1 {locs : List Loc} {a i : Nat} : ∀ l ∈ locs ++ [(⟨a, i⟩ : Loc)], l ∈ locs ∨ l.base = a := by
  intro l hl
  rcases List.mem_append.mp hl with h | h
  · exact Or.inl h
  · rw [List.mem_singleton.mp h]; exact Or.inr rfl
theorem z_iast {X : pu_X} {d : pu_D} {pc : Nat} {k : pu_K} (hX : pu_H X d) (hd : decode d.2.2.1 pc = .ok (.iastore, 1)) (h : pu_S X d (pc + 1) k) : pu_S X d pc (s_wi 1 k) := by
  obtain ⟨p, l, e, R, s, m, args, below, meth, c', g, Q, n0, out⟩ := X
  intro ls st M ho hS hn
  unfold s_wi at ho
  split at ho
  · rename_i x i a st
    split at ho
    · rename_i hs
      obtain ⟨hx, hb, hml, hown, hts, hK, hsp, hR, hsz, hnm, hE⟩ := hX
      have hce := fun M' => pu_ce_arr (g := g) (M := M') (pu_sh_eta hs.1)
      refine pu_sto (X := (p, l, e, R, s, m, args, below, meth, c', g, Q, n0, out)) (sv := [.int x, .int i]) (M' := pu_wi M a i.toNatClampNeg x) hS hn rfl (fun b k r h1 h2 => hS.2.2 b k r h1 h2) (fun b hb => pu_ce_congr (pu_wi_ne hb) rfl rfl) h ho fun la H locs ha hlv hW hs2 kk => ?_
      have hat := hW.2 a ha
      rw [hce M] at hat
      refine W.iast hx hb hat ((hK.2 0 _ rfl).1 _ (fun j => .int (M.1 a j))) (fun q => by cases q) (by show ¬ (i < 0 ∨ (arrV _ _ _).slots.size ≤ _); rw [arrV_size]; exact hs.2) rfl rfl hd fun H1 e z oq => kk H1 _ ?_ ?_ z oq pu_locs1
      · rw [hce]
        rw [e]
        show some (Cell.setSlot (vp_cell _ ((pu_sh a).2, .inl (M.1 a))) _ _) = some (vp_cell _ ((pu_sh a).2, .inl ((pu_wi M a i.toNatClampNeg x).1 a)))
        rw [vp_cell_i, vp_cell_i, arrV_store]
        congr 2
        funext q
        by_cases hq : q = i.toNatClampNeg
        · subst hq; simp [updV, pu_wi]
        · simp [updV, pu_wi, hq]
      · rw [hce]; trivial
    · cases ho
  · cases ho
theorem z_bast {X : pu_X} {d : pu_D} {pc : Nat} {k : pu_K} (hX : pu_H X d) (hd : decode d.2.2.1 pc = .ok (.bastore, 1)) (h : pu_S X d (pc + 1) k) : pu_S X d pc (s_wb k) := by
  obtain ⟨p, l, e, R, s, m, args, below, meth, c', g, Q, n0, out⟩ := X
  intro ls st M ho hS hn
  unfold s_wb at ho
  split at ho
  · rename_i x i a st
    split at ho
    · rename_i hs
      obtain ⟨hx, hb, hml, hown, hts, hK, hsp, hR, hsz, hnm, hE⟩ := hX
      have hce := fun M' => pu_ce_arr (g := g) (M := M') (pu_sh_eta hs.1)
      refine pu_sto (X := (p, l, e, R, s, m, args, below, meth, c', g, Q, n0, out)) (sv := [.int x, .int i]) (M' := pu_wi M a i.toNatClampNeg x.toInt8.toInt32) hS hn rfl (fun b k r h1 h2 => hS.2.2 b k r h1 h2) (fun b hb => pu_ce_congr (pu_wi_ne hb) rfl rfl) h ho fun la H locs ha hlv hW hs2 kk => ?_
      have hat := hW.2 a ha
      rw [hce M] at hat
      refine W.bast hx hb hat ((hK.2 1 _ rfl).1 _ (fun j => .int (M.1 a j))) (fun q => by cases q) (by show ¬ (i < 0 ∨ (arrV _ _ _).slots.size ≤ _); rw [arrV_size]; exact hs.2) rfl rfl hd fun H1 e z oq => kk H1 _ ?_ ?_ z oq pu_locs1
      · rw [hce]
        rw [e]
        show some (Cell.setSlot (vp_cell _ ((pu_sh a).2, .inl (M.1 a))) _ _) = some (vp_cell _ ((pu_sh a).2, .inl ((pu_wi M a i.toNatClampNeg x.toInt8.toInt32).1 a)))
        rw [vp_cell_i, vp_cell_i, arrV_store]
        congr 2
        funext q
        by_cases hq : q = i.toNatClampNeg
        · subst hq; simp [updV, pu_wi]; try rfl
        · simp [updV, pu_wi, hq]
      · rw [hce]; trivial
    · cases ho
  · cases ho
theorem z_zast {X : pu_X} {d : pu_D} {pc : Nat} {k : pu_K} (hX : pu_H X d) (hd : decode d.2.2.1 pc = .ok (.bastore, 1)) (h : pu_S X d (pc + 1) k) : pu_S X d pc (s_wz k) := by
  obtain ⟨p, l, e, R, s, m, args, below, meth, c', g, Q, n0, out⟩ := X
  intro ls st M ho hS hn
  unfold s_wz at ho
  split at ho
  · rename_i x i a st
    split at ho
    · rename_i hs
      obtain ⟨hs, hv⟩ := hs
      obtain ⟨hx, hb, hml, hown, hts, hK, hsp, hR, hsz, hnm, hE⟩ := hX
      have hce := fun M' => pu_ce_arr (g := g) (M := M') (pu_sh_eta hs.1)
      refine pu_sto (X := (p, l, e, R, s, m, args, below, meth, c', g, Q, n0, out)) (sv := [.int x, .int i]) (M' := pu_wi M a i.toNatClampNeg x) hS hn rfl (fun b k r h1 h2 => hS.2.2 b k r h1 h2) (fun b hb => pu_ce_congr (pu_wi_ne hb) rfl rfl) h ho fun la H locs ha hlv hW hs2 kk => ?_
      have hat := hW.2 a ha
      rw [hce M] at hat
      refine W.zast hx hb hat ((hK.2 3 _ rfl).1 _ (fun j => .int (M.1 a j))) (fun q => by cases q) (by show ¬ (i < 0 ∨ (arrV _ _ _).slots.size ≤ _); rw [arrV_size]; exact hs.2) rfl rfl hd fun H1 e z oq => kk H1 _ ?_ ?_ z oq pu_locs1
      · rw [hce]
        rw [e]
        show some (Cell.setSlot (vp_cell _ ((pu_sh a).2, .inl (M.1 a))) _ _) = some (vp_cell _ ((pu_sh a).2, .inl ((pu_wi M a i.toNatClampNeg x).1 a)))
        rw [vp_cell_i, vp_cell_i, arrV_store]
        congr 2
        funext q
        by_cases hq : q = i.toNatClampNeg
        · subst hq
          rcases hv with rfl | rfl
          · simp [updV, pu_wi]; try rfl
          · simp [updV, pu_wi]; try rfl
        · simp [updV, pu_wi, hq]
      · rw [hce]; trivial
    · cases ho
  · cases ho
theorem z_last {X : pu_X} {d : pu_D} {pc : Nat} {k : pu_K} (hX : pu_H X d) (hd : decode d.2.2.1 pc = .ok (.lastore, 1)) (h : pu_S X d (pc + 1) k) : pu_S X d pc (s_wl k) := by
  obtain ⟨p, l, e, R, s, m, args, below, meth, c', g, Q, n0, out⟩ := X
  intro ls st M ho hS hn
  unfold s_wl at ho
  split at ho
  · rename_i x i a st
    split at ho
    · rename_i hs
      obtain ⟨hx, hb, hml, hown, hts, hK, hsp, hR, hsz, hnm, hE⟩ := hX
      have hce := fun M' => pu_ce_arr (g := g) (M := M') (pu_sh_eta hs.1)
      refine pu_sto (X := (p, l, e, R, s, m, args, below, meth, c', g, Q, n0, out)) (sv := [.long x, .int i]) (M' := pu_wl M a i.toNatClampNeg x) hS hn rfl (fun b k r h1 h2 => hS.2.2 b k r h1 h2) (fun b hb => pu_ce_congr rfl (pu_wl_ne hb) rfl) h ho fun la H locs ha hlv hW hs2 kk => ?_
      have hat := hW.2 a ha
      rw [hce M] at hat
      refine W.last hx hb hat ((hK.2 2 _ rfl).1 _ (fun j => .long (M.2.1 a j))) (fun q => by cases q) (by show ¬ (i < 0 ∨ (arrV _ _ _).slots.size ≤ _); rw [arrV_size]; exact hs.2) rfl rfl hd fun H1 e z oq => kk H1 _ ?_ ?_ z oq pu_locs1
      · rw [hce]
        rw [e]
        show some (Cell.setSlot (vp_cell _ ((pu_sh a).2, .inr (.inl (M.2.1 a)))) _ _) = some (vp_cell _ ((pu_sh a).2, .inr (.inl ((pu_wl M a i.toNatClampNeg x).2.1 a))))
        rw [vp_cell_l, vp_cell_l, arrV_store]
        congr 2
        funext q
        by_cases hq : q = i.toNatClampNeg
        · subst hq; simp [updV, pu_wl]
        · simp [updV, pu_wl, hq]
      · rw [hce]; trivial
    · cases ho
  · cases ho
theorem z_aast {X : pu_X} {d : pu_D} {pc : Nat} {k : pu_K} (hX : pu_H X d) (hd : decode d.2.2.1 pc = .ok (.aastore, 1)) (h : pu_S X d (pc + 1) k) : pu_S X d pc (s_wr k) := by
  obtain ⟨p, l, e, R, s, m, args, below, meth, c', g, Q, n0, out⟩ := X
  intro ls st M ho hS hn
  unfold s_wr at ho
  split at ho
  · rename_i v i a st
    split at ho
    · rename_i hs
      obtain ⟨hs, hv⟩ := hs
      obtain ⟨hx, hb, hml, hown, hts, hK, hsp, hR, hsz, hnm, hE⟩ := hX
      have hvn : v < M.2.2.2 := hS.1 (.ref v) (by simp)
      have hce := fun M' => pu_ce_arr (g := g) (M := M') (pu_sh_eta hs.1)
      refine pu_sto (X := (p, l, e, R, s, m, args, below, meth, c', g, Q, n0, out)) (sv := [.ref v, .int i]) (M' := pu_wr M a i.toNatClampNeg (some v)) hS hn rfl (fun b k r h1 h2 => by
        unfold pu_wr at h1 h2 ⊢
        dsimp only at h1 h2 ⊢
        split at h2
        · split at h2
          · cases h2; exact hvn
          · exact hS.2.2 b k r h1 h2
        · exact hS.2.2 b k r h1 h2) (fun b hb => pu_ce_congr rfl rfl (pu_wr_ne hb)) h ho fun la H locs ha hlv hW hs2 kk => ?_
      have hat := hW.2 a ha
      rw [hce M] at hat
      have hatv := hW.2 v hvn
      rw [pu_ce_obj hv] at hatv
      obtain ⟨r', hr', cellV, g1, g2, g3, -⟩ := hatv
      have hcls := (hK.1 5 (RX5, TX5, 7) rfl).2
      obtain ⟨kA, comp, k1, k2, k3, -⟩ := (hK.2 4 (g.2.2.1 5, .object "DoorOffice$Office") rfl).2
      have hcomp : comp = g.2.1.1 5 := Option.some.inj (k3.symm.trans hcls.1)
      subst hcomp
      obtain ⟨kC, hkC, -⟩ := hcls.2
      have h0 : ¬ i < 0 := fun q => hs.2 (Or.inl q)
      have hlt : i.toNatClampNeg < (pu_sh a).2 := Nat.not_le.mp fun q => hs.2 (Or.inr q)
      refine W.aast hx hb hat (fun q h => by cases h) (fun h => by cases h) k1 k2 rfl hkC ⟨h0, by show _ < (arrV _ _ _).slots.size; rw [arrV_size]; exact hlt⟩ g1 (fun q h => by rw [g3] at h; cases h) (by rw [g2]; exact hkC) (by rw [g2]; exact va_assign hcls) rfl rfl hd fun H1 e z oq => kk H1 _ ?_ ?_ z oq pu_locs1
      · rw [hce]
        rw [e]
        show some (Cell.setSlot (vp_cell _ ((pu_sh a).2, .inr (.inr (.inr (.inr (fun i => (M.2.2.1 a i).map (fun r => g.1 + r))))))) _ _) = some (vp_cell _ ((pu_sh a).2, .inr (.inr (.inr (.inr (fun j => ((pu_wr M a i.toNatClampNeg (some v)).2.2.1 a j).map (fun r => g.1 + r)))))))
        rw [vp_cell_q, vp_cell_q, arrV_store]
        congr 2
        funext q
        by_cases hq : q = i.toNatClampNeg
        · subst hq; simp [updV, pu_wr, va_rf, pu_t]
        · simp [updV, pu_wr, hq]
      · rw [hce]; trivial
    · cases ho
  · cases ho
