/-! arrays, new things, calls -/
theorem pu_nn {a b n : Nat} (h1 : n ≤ a) : a - n + 1 = a + 1 - n := by omega
/-- arrays of whole numbers: kinds 1 (int), 2 (byte), 4 (boolean) -/
def s_ai (kd : Nat) (k : pu_K) : pu_K := fun ls st M => match st with
  | .int i :: .ref a :: st => if (pu_sh a).1 = kd ∧ ¬ (i < 0 ∨ (pu_sh a).2 ≤ i.toNatClampNeg) then k ls (.int (M.1 a i.toNatClampNeg) :: st) M else none
  | _ => none
def s_al (k : pu_K) : pu_K := fun ls st M => match st with
  | .int i :: .ref a :: st => if (pu_sh a).1 = 3 ∧ ¬ (i < 0 ∨ (pu_sh a).2 ≤ i.toNatClampNeg) then k ls (.long (M.2.1 a i.toNatClampNeg) :: st) M else none
  | _ => none
def s_ar (k : pu_K) : pu_K := fun ls st M => match st with
  | .int i :: .ref a :: st => if (pu_sh a).1 = 5 ∧ ¬ (i < 0 ∨ (pu_sh a).2 ≤ i.toNatClampNeg) then k ls (pu_rv (M.2.2.1 a i.toNatClampNeg) :: st) M else none
  | _ => none
def s_len (k : pu_K) : pu_K := fun ls st M => match st with
  | .ref a :: st => if (pu_sh a).1 = 1 ∨ (pu_sh a).1 = 3 then k ls (.int (Int32.ofNat (pu_sh a).2) :: st) M else none
  | _ => none
theorem pu_sh_eta {a kd : Nat} (h : (pu_sh a).1 = kd) : pu_sh a = (kd, (pu_sh a).2) := by rw [← h]
theorem z_iald {X : pu_X} {d : pu_D} {pc : Nat} {k : pu_K} (hX : pu_H X d) (hd : decode d.2.2.1 pc = .ok (.iaload, 1)) (h : pu_S X d (pc + 1) k) : pu_S X d pc (s_ai 1 k) := by
  obtain ⟨p, l, e, R, s, m, args, below, meth, c', g, Q, n0, out⟩ := X
  obtain ⟨hx, hb, hml, hown, hts, hK, hsp, hR, hsz, hnm, hE⟩ := hX
  refine z_st h fun ls st M ho => ?_
  unfold s_ai at ho
  split at ho
  · rename_i i a st
    split at ho
    · rename_i hs
      exact ⟨_, ho, fun q v hv => by
        have q1 := q.1
        simp only [List.mem_cons, forall_eq_or_imp] at hv q1
        rcases hv with rfl | hv
        · trivial
        · exact q1.2.2 v hv, fun la H locs hS hl2 hW hs2 kk => by
        have ha : a < M.2.2.2 := hS.1 (.ref a) (by simp)
        exact va_iald (f := M.1 a) (n := (pu_sh a).2) hx hb hK (pu_P1 hW ha) 0 0 (by rw [pu_ce_arr (pu_sh_eta hs.1)]; rfl) rfl hs.2 hd kk⟩
    · cases ho
  · cases ho
theorem z_bald {X : pu_X} {d : pu_D} {pc : Nat} {k : pu_K} (hX : pu_H X d) (hd : decode d.2.2.1 pc = .ok (.baload, 1)) (h : pu_S X d (pc + 1) k) : pu_S X d pc (s_ai 2 k) := by
  obtain ⟨p, l, e, R, s, m, args, below, meth, c', g, Q, n0, out⟩ := X
  obtain ⟨hx, hb, hml, hown, hts, hK, hsp, hR, hsz, hnm, hE⟩ := hX
  refine z_st h fun ls st M ho => ?_
  unfold s_ai at ho
  split at ho
  · rename_i i a st
    split at ho
    · rename_i hs
      exact ⟨_, ho, fun q v hv => by
        have q1 := q.1
        simp only [List.mem_cons, forall_eq_or_imp] at hv q1
        rcases hv with rfl | hv
        · trivial
        · exact q1.2.2 v hv, fun la H locs hS hl2 hW hs2 kk => by
        have ha : a < M.2.2.2 := hS.1 (.ref a) (by simp)
        exact va_bald (f := M.1 a) (n := (pu_sh a).2) hx hb hK (pu_P1 hW ha) 0 1 (by rw [pu_ce_arr (pu_sh_eta hs.1)]; rfl) rfl hs.2 hd kk⟩
    · cases ho
  · cases ho
theorem z_zald {X : pu_X} {d : pu_D} {pc : Nat} {k : pu_K} (hX : pu_H X d) (hd : decode d.2.2.1 pc = .ok (.baload, 1)) (h : pu_S X d (pc + 1) k) : pu_S X d pc (s_ai 4 k) := by
  obtain ⟨p, l, e, R, s, m, args, below, meth, c', g, Q, n0, out⟩ := X
  obtain ⟨hx, hb, hml, hown, hts, hK, hsp, hR, hsz, hnm, hE⟩ := hX
  refine z_st h fun ls st M ho => ?_
  unfold s_ai at ho
  split at ho
  · rename_i i a st
    split at ho
    · rename_i hs
      exact ⟨_, ho, fun q v hv => by
        have q1 := q.1
        simp only [List.mem_cons, forall_eq_or_imp] at hv q1
        rcases hv with rfl | hv
        · trivial
        · exact q1.2.2 v hv, fun la H locs hS hl2 hW hs2 kk => by
        have ha : a < M.2.2.2 := hS.1 (.ref a) (by simp)
        exact va_zald (f := M.1 a) (n := (pu_sh a).2) hx hb hK (pu_P1 hW ha) 0 3 (by rw [pu_ce_arr (pu_sh_eta hs.1)]; rfl) rfl hs.2 hd kk⟩
    · cases ho
  · cases ho
theorem z_lald {X : pu_X} {d : pu_D} {pc : Nat} {k : pu_K} (hX : pu_H X d) (hd : decode d.2.2.1 pc = .ok (.laload, 1)) (h : pu_S X d (pc + 1) k) : pu_S X d pc (s_al k) := by
  obtain ⟨p, l, e, R, s, m, args, below, meth, c', g, Q, n0, out⟩ := X
  obtain ⟨hx, hb, hml, hown, hts, hK, hsp, hR, hsz, hnm, hE⟩ := hX
  refine z_st h fun ls st M ho => ?_
  unfold s_al at ho
  split at ho
  · rename_i i a st
    split at ho
    · rename_i hs
      exact ⟨_, ho, fun q v hv => by
        have q1 := q.1
        simp only [List.mem_cons, forall_eq_or_imp] at hv q1
        rcases hv with rfl | hv
        · trivial
        · exact q1.2.2 v hv, fun la H locs hS hl2 hW hs2 kk => by
        have ha : a < M.2.2.2 := hS.1 (.ref a) (by simp)
        exact va_lald (f := M.2.1 a) (n := (pu_sh a).2) hx hb hK (pu_P1 hW ha) 0 2 (by rw [pu_ce_arr (pu_sh_eta hs.1)]; rfl) rfl hs.2 hd kk⟩
    · cases ho
  · cases ho
theorem z_aald {X : pu_X} {d : pu_D} {pc : Nat} {k : pu_K} (hX : pu_H X d) (hd : decode d.2.2.1 pc = .ok (.aaload, 1)) (h : pu_S X d (pc + 1) k) : pu_S X d pc (s_ar k) := by
  obtain ⟨p, l, e, R, s, m, args, below, meth, c', g, Q, n0, out⟩ := X
  obtain ⟨hx, hb, hml, hown, hts, hK, hsp, hR, hsz, hnm, hE⟩ := hX
  refine z_st h fun ls st M ho => ?_
  unfold s_ar at ho
  split at ho
  · rename_i i a st
    split at ho
    · rename_i hs
      exact ⟨_, ho, fun q v hv => by
        have q1 := q.1
        simp only [List.mem_cons, forall_eq_or_imp] at hv q1
        rcases hv with rfl | hv
        · cases hr : M.2.2.1 a i.toNatClampNeg with
          | none => trivial
          | some r => exact q.2.2 a _ r q1.2.1 hr
        · exact q1.2.2 v hv, fun la H locs hS hl2 hW hs2 kk => by
        have ha : a < M.2.2.2 := hS.1 (.ref a) (by simp)
        rw [List.map_cons, pu_rv_t] at kk
        exact va_aldq (C := "DoorOffice$Office") (f := fun i => (M.2.2.1 a i).map (fun r => g.1 + r)) (n := (pu_sh a).2) hx hb hK (pu_P1 hW ha) 0 4 (by rw [pu_ce_arr (pu_sh_eta hs.1)]; rfl) rfl hs.2 hd kk⟩
    · cases ho
  · cases ho
theorem z_len {X : pu_X} {d : pu_D} {pc : Nat} {k : pu_K} (hX : pu_H X d) (hd : decode d.2.2.1 pc = .ok (.arraylength, 1)) (h : pu_S X d (pc + 1) k) : pu_S X d pc (s_len k) := by
  obtain ⟨p, l, e, R, s, m, args, below, meth, c', g, Q, n0, out⟩ := X
  obtain ⟨hx, hb, hml, hown, hts, hK, hsp, hR, hsz, hnm, hE⟩ := hX
  refine z_st h fun ls st M ho => ?_
  unfold s_len at ho
  split at ho
  · rename_i a st
    split at ho
    · rename_i hs
      exact ⟨_, ho, fun q v hv => by
        have q1 := q.1
        simp only [List.mem_cons, forall_eq_or_imp] at hv q1
        rcases hv with rfl | hv
        · trivial
        · exact q1.2 v hv, fun la H locs hS hl2 hW hs2 kk => by
        have ha : a < M.2.2.2 := hS.1 (.ref a) (by simp)
        rcases hs with hs | hs
        · exact va_alen (x := ((pu_sh a).2, .inl (M.1 a))) hx hb hK (pu_P1 hW ha) 0 0 (by rw [pu_ce_arr (pu_sh_eta hs)]; rfl) rfl rfl hd kk
        · exact va_alen (x := ((pu_sh a).2, .inr (.inl (M.2.1 a)))) hx hb hK (pu_P1 hW ha) 0 2 (by rw [pu_ce_arr (pu_sh_eta hs)]; rfl) rfl rfl hd kk⟩
    · cases ho
  · cases ho
/-- the script -/
def s_sld (L : Nat) (xs : Nat → Int32) (k : pu_K) : pu_K := fun ls st M => match st with
  | .int i :: .float 0 :: st => if ¬ (i < 0 ∨ L ≤ i.toNatClampNeg) then k ls (.int (xs i.toNatClampNeg) :: st) M else none
  | _ => none
def s_sln (L : Nat) (k : pu_K) : pu_K := fun ls st M => match st with
  | .float 0 :: st => k ls (.int (Int32.ofNat L) :: st) M
  | _ => none
theorem z_sld {X : pu_X} {d : pu_D} {pc L : Nat} {xs : Nat → Int32} {k : pu_K} (hX : pu_H X d) (hd : decode d.2.2.1 pc = .ok (.iaload, 1)) (hg : X.2.2.2.2.2.2.2.2.2.2.1.2.2.2.2.2.2 = (L, xs)) (h : pu_S X d (pc + 1) k) : pu_S X d pc (s_sld L xs k) := by
  obtain ⟨p, l, e, R, s, m, args, below, meth, c', g, Q, n0, out⟩ := X
  obtain ⟨hx, hb, hml, hown, hts, hK, hsp, hR, hsz, hnm, hE⟩ := hX
  obtain ⟨g1, g2, g3, g4, g5, g6, g7⟩ := g
  dsimp only at hg
  subst hg
  refine z_st h fun ls st M ho => ?_
  unfold s_sld at ho
  split at ho
  · rename_i i st
    split at ho
    · rename_i hs
      exact ⟨_, ho, fun q v hv => by
        have q1 := q.1
        simp only [List.mem_cons, forall_eq_or_imp] at hv q1
        rcases hv with rfl | hv
        · trivial
        · exact q1.2.2 v hv, fun la H locs hS hl2 hW hs2 kk => va_sld hx hb hsp.1.2 (by have := hsp.1.1; dsimp only at this hsz ⊢; omega) (Nat.not_le.mpr hsp.1.1) hs2 hs hd kk⟩
    · cases ho
  · cases ho
theorem z_sln {X : pu_X} {d : pu_D} {pc L : Nat} {xs : Nat → Int32} {k : pu_K} (hX : pu_H X d) (hd : decode d.2.2.1 pc = .ok (.arraylength, 1)) (hg : X.2.2.2.2.2.2.2.2.2.2.1.2.2.2.2.2.2 = (L, xs)) (h : pu_S X d (pc + 1) k) : pu_S X d pc (s_sln L k) := by
  obtain ⟨p, l, e, R, s, m, args, below, meth, c', g, Q, n0, out⟩ := X
  obtain ⟨hx, hb, hml, hown, hts, hK, hsp, hR, hsz, hnm, hE⟩ := hX
  obtain ⟨g1, g2, g3, g4, g5, g6, g7⟩ := g
  dsimp only at hg
  subst hg
  refine z_st h fun ls st M ho => ?_
  unfold s_sln at ho
  split at ho
  · rename_i st
    exact ⟨_, ho, fun q v hv => by
        have q1 := q.1
        simp only [List.mem_cons, forall_eq_or_imp] at hv q1
        rcases hv with rfl | hv
        · trivial
        · exact q1.2 v hv, fun la H locs hS hl2 hW hs2 kk => va_slen (b := g6) hx hb hsp.1.2 (by have := hsp.1.1; dsimp only at this hsz ⊢; omega) (Nat.not_le.mpr hsp.1.1) hs2 hd kk⟩
  · cases ho
