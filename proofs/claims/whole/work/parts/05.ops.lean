/-! code words and their rows -/
def s_push (v : Value) (k : pu_K) : pu_K := fun ls st M => k ls (v :: st) M
theorem z_iconst {X : pu_X} {d : pu_D} {pc : Nat} {k : pu_K} {n : Int} {v : Int32} (hX : pu_H X d) (hd : decode d.2.2.1 pc = .ok (.iconst n, 1)) (hv : Int32.ofInt n = v) (h : pu_S X d (pc + 1) k) : pu_S X d pc (s_push (.int v) k) := by
  obtain ⟨p, l, e, R, s, m, args, below, meth, c, g, Q, n0, out⟩ := X
  obtain ⟨hx, hb, hml, hown, hts, hK, hsp, hR, hsz, hnm, hE⟩ := hX
  exact z_st h fun ls st M ho => ⟨_, ho, fun q v hv => by
    rcases List.mem_cons.mp hv with rfl | hv
    · trivial
    · exact q.1 v hv, fun la H locs _ hl hW hs kk => lv_iconst hx hb hd hv kk⟩
theorem z_bipush {X : pu_X} {d : pu_D} {pc : Nat} {k : pu_K} {n : Int} {v : Int32} (hX : pu_H X d) (hd : decode d.2.2.1 pc = .ok (.bipush n, 2)) (hv : (Int8.ofInt n).toInt32 = v) (h : pu_S X d (pc + 2) k) : pu_S X d pc (s_push (.int v) k) := by
  obtain ⟨p, l, e, R, s, m, args, below, meth, c, g, Q, n0, out⟩ := X
  obtain ⟨hx, hb, hml, hown, hts, hK, hsp, hR, hsz, hnm, hE⟩ := hX
  exact z_st h fun ls st M ho => ⟨_, ho, fun q v hv => by
    rcases List.mem_cons.mp hv with rfl | hv
    · trivial
    · exact q.1 v hv, fun la H locs _ hl hW hs kk => lv_bipush hx hb hd hv kk⟩
theorem z_sipush {X : pu_X} {d : pu_D} {pc : Nat} {k : pu_K} {n : Int} {v : Int32} (hX : pu_H X d) (hd : decode d.2.2.1 pc = .ok (.sipush n, 3)) (hv : (Int16.ofInt n).toInt32 = v) (h : pu_S X d (pc + 3) k) : pu_S X d pc (s_push (.int v) k) := by
  obtain ⟨p, l, e, R, s, m, args, below, meth, c, g, Q, n0, out⟩ := X
  obtain ⟨hx, hb, hml, hown, hts, hK, hsp, hR, hsz, hnm, hE⟩ := hX
  exact z_st h fun ls st M ho => ⟨_, ho, fun q v hv => by
    rcases List.mem_cons.mp hv with rfl | hv
    · trivial
    · exact q.1 v hv, fun la H locs _ hl hW hs kk => lv_sipush hx hb hd hv kk⟩
theorem z_lconst {X : pu_X} {d : pu_D} {pc : Nat} {k : pu_K} {n : Fin 2} {v : Int64} (hX : pu_H X d) (hd : decode d.2.2.1 pc = .ok (.lconst n, 1)) (hv : Int64.ofNat (n : Nat) = v) (h : pu_S X d (pc + 1) k) : pu_S X d pc (s_push (.long v) k) := by
  obtain ⟨p, l, e, R, s, m, args, below, meth, c, g, Q, n0, out⟩ := X
  obtain ⟨hx, hb, hml, hown, hts, hK, hsp, hR, hsz, hnm, hE⟩ := hX
  exact z_st h fun ls st M ho => ⟨_, ho, fun q v hv => by
    rcases List.mem_cons.mp hv with rfl | hv
    · trivial
    · exact q.1 v hv, fun la H locs _ hl hW hs kk => lv_lconst hx hb hd hv kk⟩
theorem z_ldc {X : pu_X} {d : pu_D} {pc : Nat} {k : pu_K} {index : Nat} {v : Int32} (hX : pu_H X d) (hd : decode d.2.2.1 pc = .ok (.ldc index, 2)) (hw : Cond.constant d.1 index v ∈ wsL_law) (h : pu_S X d (pc + 2) k) : pu_S X d pc (s_push (.int v) k) := by
  obtain ⟨p, l, e, R, s, m, args, below, meth, c, g, Q, n0, out⟩ := X
  obtain ⟨hx, hb, hml, hown, hts, hK, hsp, hR, hsz, hnm, hE⟩ := hX
  exact z_st h fun ls st M ho => ⟨_, ho, fun q v hv => by
    rcases List.mem_cons.mp hv with rfl | hv
    · trivial
    · exact q.1 v hv, fun la H locs _ hl hW hs kk => lv_ldc hx hb hown (hts _ hw) hd kk⟩
theorem z_ldcw {X : pu_X} {d : pu_D} {pc : Nat} {k : pu_K} {index : Nat} {v : Int32} (hX : pu_H X d) (hd : decode d.2.2.1 pc = .ok (.ldc_w index, 3)) (hw : Cond.constant d.1 index v ∈ wsL_law) (h : pu_S X d (pc + 3) k) : pu_S X d pc (s_push (.int v) k) := by
  obtain ⟨p, l, e, R, s, m, args, below, meth, c, g, Q, n0, out⟩ := X
  obtain ⟨hx, hb, hml, hown, hts, hK, hsp, hR, hsz, hnm, hE⟩ := hX
  exact z_st h fun ls st M ho => ⟨_, ho, fun q v hv => by
    rcases List.mem_cons.mp hv with rfl | hv
    · trivial
    · exact q.1 v hv, fun la H locs _ hl hW hs kk => lv_ldcw hx hb hown (hts _ hw) hd kk⟩
theorem z_ldc2 {X : pu_X} {d : pu_D} {pc : Nat} {k : pu_K} {index : Nat} {v : Int64} (hX : pu_H X d) (hd : decode d.2.2.1 pc = .ok (.ldc2_w index, 3)) (hw : Cond.constantLong d.1 index v ∈ wsL_law) (h : pu_S X d (pc + 3) k) : pu_S X d pc (s_push (.long v) k) := by
  obtain ⟨p, l, e, R, s, m, args, below, meth, c, g, Q, n0, out⟩ := X
  obtain ⟨hx, hb, hml, hown, hts, hK, hsp, hR, hsz, hnm, hE⟩ := hX
  exact z_st h fun ls st M ho => ⟨_, ho, fun q v hv => by
    rcases List.mem_cons.mp hv with rfl | hv
    · trivial
    · exact q.1 v hv, fun la H locs _ hl hW hs kk => lv_ldc2 hx hb hown (hts _ hw) hd kk⟩
def s_ild (i : Nat) (k : pu_K) : pu_K := fun ls st M => match ls[i]? with
  | some (some (.int x)) => k ls (.int x :: st) M
  | _ => none
theorem z_ild {X : pu_X} {d : pu_D} {pc : Nat} {k : pu_K} {i : Nat} (hX : pu_H X d) (hd : decode d.2.2.1 pc = .ok (.iload i, 2)) (h : pu_S X d (pc + 2) k) : pu_S X d pc (s_ild i k) := by
  obtain ⟨p, l, e, R, s, m, args, below, meth, c, g, Q, n0, out⟩ := X
  obtain ⟨hx, hb, hml, hown, hts, hK, hsp, hR, hsz, hnm, hE⟩ := hX
  refine z_st h fun ls st M ho => ?_
  unfold s_ild at ho
  split at ho
  · rename_i x hi2
    exact ⟨_, ho, fun q v hv => by
      rcases List.mem_cons.mp hv with rfl | hv
      · exact q.2.1 _ (List.mem_of_getElem? hi2)
      · exact q.1 v hv, fun la H locs _ hl hW hs kk => lv_iload hx hb hd (pu_lv_at hl hi2) kk⟩
  · cases ho
theorem z_ild_n {X : pu_X} {d : pu_D} {pc : Nat} {k : pu_K} {q : Fin 4} {i : Nat} (hX : pu_H X d) (hd : decode d.2.2.1 pc = .ok (.iload_n q, 1)) (hi : (q : Nat) = i) (h : pu_S X d (pc + 1) k) : pu_S X d pc (s_ild i k) := by
  obtain ⟨p, l, e, R, s, m, args, below, meth, c, g, Q, n0, out⟩ := X
  obtain ⟨hx, hb, hml, hown, hts, hK, hsp, hR, hsz, hnm, hE⟩ := hX
  refine z_st h fun ls st M ho => ?_
  unfold s_ild at ho
  split at ho
  · rename_i x hi2
    exact ⟨_, ho, fun q v hv => by
      rcases List.mem_cons.mp hv with rfl | hv
      · exact q.2.1 _ (List.mem_of_getElem? hi2)
      · exact q.1 v hv, fun la H locs _ hl hW hs kk => lv_iload_n hx hb hd hi (pu_lv_at hl hi2) kk⟩
  · cases ho
def s_lld (i : Nat) (k : pu_K) : pu_K := fun ls st M => match ls[i]? with
  | some (some (.long x)) => k ls (.long x :: st) M
  | _ => none
theorem z_lld {X : pu_X} {d : pu_D} {pc : Nat} {k : pu_K} {i : Nat} (hX : pu_H X d) (hd : decode d.2.2.1 pc = .ok (.lload i, 2)) (h : pu_S X d (pc + 2) k) : pu_S X d pc (s_lld i k) := by
  obtain ⟨p, l, e, R, s, m, args, below, meth, c, g, Q, n0, out⟩ := X
  obtain ⟨hx, hb, hml, hown, hts, hK, hsp, hR, hsz, hnm, hE⟩ := hX
  refine z_st h fun ls st M ho => ?_
  unfold s_lld at ho
  split at ho
  · rename_i x hi2
    exact ⟨_, ho, fun q v hv => by
      rcases List.mem_cons.mp hv with rfl | hv
      · exact q.2.1 _ (List.mem_of_getElem? hi2)
      · exact q.1 v hv, fun la H locs _ hl hW hs kk => lv_lload hx hb hd (pu_lv_at hl hi2) kk⟩
  · cases ho
theorem z_lld_n {X : pu_X} {d : pu_D} {pc : Nat} {k : pu_K} {q : Fin 4} {i : Nat} (hX : pu_H X d) (hd : decode d.2.2.1 pc = .ok (.lload_n q, 1)) (hi : (q : Nat) = i) (h : pu_S X d (pc + 1) k) : pu_S X d pc (s_lld i k) := by
  obtain ⟨p, l, e, R, s, m, args, below, meth, c, g, Q, n0, out⟩ := X
  obtain ⟨hx, hb, hml, hown, hts, hK, hsp, hR, hsz, hnm, hE⟩ := hX
  refine z_st h fun ls st M ho => ?_
  unfold s_lld at ho
  split at ho
  · rename_i x hi2
    exact ⟨_, ho, fun q v hv => by
      rcases List.mem_cons.mp hv with rfl | hv
      · exact q.2.1 _ (List.mem_of_getElem? hi2)
      · exact q.1 v hv, fun la H locs _ hl hW hs kk => lv_lload_n hx hb hd hi (pu_lv_at hl hi2) kk⟩
  · cases ho
def s_ald (i : Nat) (k : pu_K) : pu_K := fun ls st M => match ls[i]? with
  | some (some (.ref x)) => k ls (.ref x :: st) M
  | some (some (.float x)) => k ls (.float x :: st) M
  | _ => none
theorem z_ald {X : pu_X} {d : pu_D} {pc : Nat} {k : pu_K} {i : Nat} (hX : pu_H X d) (hd : decode d.2.2.1 pc = .ok (.aload i, 2)) (h : pu_S X d (pc + 2) k) : pu_S X d pc (s_ald i k) := by
  obtain ⟨p, l, e, R, s, m, args, below, meth, c, g, Q, n0, out⟩ := X
  obtain ⟨hx, hb, hml, hown, hts, hK, hsp, hR, hsz, hnm, hE⟩ := hX
  refine z_st h fun ls st M ho => ?_
  unfold s_ald at ho
  split at ho
  · rename_i x hi2
    exact ⟨_, ho, fun q v hv => by
      rcases List.mem_cons.mp hv with rfl | hv
      · exact q.2.1 _ (List.mem_of_getElem? hi2)
      · exact q.1 v hv, fun la H locs _ hl hW hs kk => lv_aload hx hb hd (pu_lv_at hl hi2) kk⟩
  · rename_i x hi2
    exact ⟨_, ho, fun q v hv => by
      rcases List.mem_cons.mp hv with rfl | hv
      · exact q.2.1 _ (List.mem_of_getElem? hi2)
      · exact q.1 v hv, fun la H locs _ hl hW hs kk => lv_aload hx hb hd (pu_lv_at hl hi2) kk⟩
  · cases ho
theorem z_ald_n {X : pu_X} {d : pu_D} {pc : Nat} {k : pu_K} {q : Fin 4} {i : Nat} (hX : pu_H X d) (hd : decode d.2.2.1 pc = .ok (.aload_n q, 1)) (hi : (q : Nat) = i) (h : pu_S X d (pc + 1) k) : pu_S X d pc (s_ald i k) := by
  obtain ⟨p, l, e, R, s, m, args, below, meth, c, g, Q, n0, out⟩ := X
  obtain ⟨hx, hb, hml, hown, hts, hK, hsp, hR, hsz, hnm, hE⟩ := hX
  refine z_st h fun ls st M ho => ?_
  unfold s_ald at ho
  split at ho
  · rename_i x hi2
    exact ⟨_, ho, fun q v hv => by
      rcases List.mem_cons.mp hv with rfl | hv
      · exact q.2.1 _ (List.mem_of_getElem? hi2)
      · exact q.1 v hv, fun la H locs _ hl hW hs kk => lv_aload_n hx hb hd hi (pu_lv_at hl hi2) kk⟩
  · rename_i x hi2
    exact ⟨_, ho, fun q v hv => by
      rcases List.mem_cons.mp hv with rfl | hv
      · exact q.2.1 _ (List.mem_of_getElem? hi2)
      · exact q.1 v hv, fun la H locs _ hl hW hs kk => lv_aload_n hx hb hd hi (pu_lv_at hl hi2) kk⟩
  · cases ho
def s_iadd (k : pu_K) : pu_K := fun ls st M => match st with
  | .int y :: .int x :: st => k ls (.int (x + y) :: st) M
  | _ => none
theorem z_iadd {X : pu_X} {d : pu_D} {pc : Nat} {k : pu_K} (hX : pu_H X d) (hd : decode d.2.2.1 pc = .ok (.iadd, 1)) (h : pu_S X d (pc + 1) k) : pu_S X d pc (s_iadd k) := by
  obtain ⟨p, l, e, R, s, m, args, below, meth, c, g, Q, n0, out⟩ := X
  obtain ⟨hx, hb, hml, hown, hts, hK, hsp, hR, hsz, hnm, hE⟩ := hX
  refine z_st h fun ls st M ho => ?_
  unfold s_iadd at ho
  split at ho
  · exact ⟨_, ho, fun q v hv => by
        have q1 := q.1
        simp only [List.mem_cons, forall_eq_or_imp] at hv q1
        rcases hv with rfl | hv
        · trivial
        · exact q1.2.2 v hv, fun la H locs _ hl hW hs kk => lv_iadd hx hb hd kk⟩
  · cases ho
def s_isub (k : pu_K) : pu_K := fun ls st M => match st with
  | .int y :: .int x :: st => k ls (.int (x - y) :: st) M
  | _ => none
theorem z_isub {X : pu_X} {d : pu_D} {pc : Nat} {k : pu_K} (hX : pu_H X d) (hd : decode d.2.2.1 pc = .ok (.isub, 1)) (h : pu_S X d (pc + 1) k) : pu_S X d pc (s_isub k) := by
  obtain ⟨p, l, e, R, s, m, args, below, meth, c, g, Q, n0, out⟩ := X
  obtain ⟨hx, hb, hml, hown, hts, hK, hsp, hR, hsz, hnm, hE⟩ := hX
  refine z_st h fun ls st M ho => ?_
  unfold s_isub at ho
  split at ho
  · exact ⟨_, ho, fun q v hv => by
        have q1 := q.1
        simp only [List.mem_cons, forall_eq_or_imp] at hv q1
        rcases hv with rfl | hv
        · trivial
        · exact q1.2.2 v hv, fun la H locs _ hl hW hs kk => lv_isub hx hb hd kk⟩
  · cases ho
def s_imul (k : pu_K) : pu_K := fun ls st M => match st with
  | .int y :: .int x :: st => k ls (.int (x * y) :: st) M
  | _ => none
theorem z_imul {X : pu_X} {d : pu_D} {pc : Nat} {k : pu_K} (hX : pu_H X d) (hd : decode d.2.2.1 pc = .ok (.imul, 1)) (h : pu_S X d (pc + 1) k) : pu_S X d pc (s_imul k) := by
  obtain ⟨p, l, e, R, s, m, args, below, meth, c, g, Q, n0, out⟩ := X
  obtain ⟨hx, hb, hml, hown, hts, hK, hsp, hR, hsz, hnm, hE⟩ := hX
  refine z_st h fun ls st M ho => ?_
  unfold s_imul at ho
  split at ho
  · exact ⟨_, ho, fun q v hv => by
        have q1 := q.1
        simp only [List.mem_cons, forall_eq_or_imp] at hv q1
        rcases hv with rfl | hv
        · trivial
        · exact q1.2.2 v hv, fun la H locs _ hl hW hs kk => lv_imul hx hb hd kk⟩
  · cases ho
def s_iand (k : pu_K) : pu_K := fun ls st M => match st with
  | .int y :: .int x :: st => k ls (.int (x &&& y) :: st) M
  | _ => none
theorem z_iand {X : pu_X} {d : pu_D} {pc : Nat} {k : pu_K} (hX : pu_H X d) (hd : decode d.2.2.1 pc = .ok (.iand, 1)) (h : pu_S X d (pc + 1) k) : pu_S X d pc (s_iand k) := by
  obtain ⟨p, l, e, R, s, m, args, below, meth, c, g, Q, n0, out⟩ := X
  obtain ⟨hx, hb, hml, hown, hts, hK, hsp, hR, hsz, hnm, hE⟩ := hX
  refine z_st h fun ls st M ho => ?_
  unfold s_iand at ho
  split at ho
  · exact ⟨_, ho, fun q v hv => by
        have q1 := q.1
        simp only [List.mem_cons, forall_eq_or_imp] at hv q1
        rcases hv with rfl | hv
        · trivial
        · exact q1.2.2 v hv, fun la H locs _ hl hW hs kk => lv_iand hx hb hd kk⟩
  · cases ho
def s_ishr (k : pu_K) : pu_K := fun ls st M => match st with
  | .int y :: .int x :: st => k ls (.int (x >>> (y &&& 31)) :: st) M
  | _ => none
theorem z_ishr {X : pu_X} {d : pu_D} {pc : Nat} {k : pu_K} (hX : pu_H X d) (hd : decode d.2.2.1 pc = .ok (.ishr, 1)) (h : pu_S X d (pc + 1) k) : pu_S X d pc (s_ishr k) := by
  obtain ⟨p, l, e, R, s, m, args, below, meth, c, g, Q, n0, out⟩ := X
  obtain ⟨hx, hb, hml, hown, hts, hK, hsp, hR, hsz, hnm, hE⟩ := hX
  refine z_st h fun ls st M ho => ?_
  unfold s_ishr at ho
  split at ho
  · exact ⟨_, ho, fun q v hv => by
        have q1 := q.1
        simp only [List.mem_cons, forall_eq_or_imp] at hv q1
        rcases hv with rfl | hv
        · trivial
        · exact q1.2.2 v hv, fun la H locs _ hl hW hs kk => lv_ishr hx hb hd kk⟩
  · cases ho
def s_ishl (k : pu_K) : pu_K := fun ls st M => match st with
  | .int y :: .int x :: st => k ls (.int (x <<< (y &&& 31)) :: st) M
  | _ => none
theorem z_ishl {X : pu_X} {d : pu_D} {pc : Nat} {k : pu_K} (hX : pu_H X d) (hd : decode d.2.2.1 pc = .ok (.ishl, 1)) (h : pu_S X d (pc + 1) k) : pu_S X d pc (s_ishl k) := by
  obtain ⟨p, l, e, R, s, m, args, below, meth, c, g, Q, n0, out⟩ := X
  obtain ⟨hx, hb, hml, hown, hts, hK, hsp, hR, hsz, hnm, hE⟩ := hX
  refine z_st h fun ls st M ho => ?_
  unfold s_ishl at ho
  split at ho
  · exact ⟨_, ho, fun q v hv => by
        have q1 := q.1
        simp only [List.mem_cons, forall_eq_or_imp] at hv q1
        rcases hv with rfl | hv
        · trivial
        · exact q1.2.2 v hv, fun la H locs _ hl hW hs kk => lv_ishl hx hb hd kk⟩
  · cases ho
def s_ior (k : pu_K) : pu_K := fun ls st M => match st with
  | .int y :: .int x :: st => k ls (.int (x ||| y) :: st) M
  | _ => none
theorem z_ior {X : pu_X} {d : pu_D} {pc : Nat} {k : pu_K} (hX : pu_H X d) (hd : decode d.2.2.1 pc = .ok (.ior, 1)) (h : pu_S X d (pc + 1) k) : pu_S X d pc (s_ior k) := by
  obtain ⟨p, l, e, R, s, m, args, below, meth, c, g, Q, n0, out⟩ := X
  obtain ⟨hx, hb, hml, hown, hts, hK, hsp, hR, hsz, hnm, hE⟩ := hX
  refine z_st h fun ls st M ho => ?_
  unfold s_ior at ho
  split at ho
  · exact ⟨_, ho, fun q v hv => by
        have q1 := q.1
        simp only [List.mem_cons, forall_eq_or_imp] at hv q1
        rcases hv with rfl | hv
        · trivial
        · exact q1.2.2 v hv, fun la H locs _ hl hW hs kk => lv_ior hx hb hd kk⟩
  · cases ho
def s_idiv (k : pu_K) : pu_K := fun ls st M => match st with
  | .int y :: .int x :: st => if y = 0 → False then k ls (.int (x / y) :: st) M else none
  | _ => none
theorem z_idiv {X : pu_X} {d : pu_D} {pc : Nat} {k : pu_K} (hX : pu_H X d) (hd : decode d.2.2.1 pc = .ok (.idiv, 1)) (h : pu_S X d (pc + 1) k) : pu_S X d pc (s_idiv k) := by
  obtain ⟨p, l, e, R, s, m, args, below, meth, c, g, Q, n0, out⟩ := X
  obtain ⟨hx, hb, hml, hown, hts, hK, hsp, hR, hsz, hnm, hE⟩ := hX
  refine z_st h fun ls st M ho => ?_
  unfold s_idiv at ho
  split at ho
  · split at ho
    · rename_i hc
      exact ⟨_, ho, fun q v hv => by
        have q1 := q.1
        simp only [List.mem_cons, forall_eq_or_imp] at hv q1
        rcases hv with rfl | hv
        · trivial
        · exact q1.2.2 v hv, fun la H locs _ hl hW hs kk => lv_idiv hx hb hd (fun e => hc e) kk⟩
    · cases ho
  · cases ho
def s_irem (k : pu_K) : pu_K := fun ls st M => match st with
  | .int y :: .int x :: st => if y = 0 → False then k ls (.int (x - x / y * y) :: st) M else none
  | _ => none
theorem z_irem {X : pu_X} {d : pu_D} {pc : Nat} {k : pu_K} (hX : pu_H X d) (hd : decode d.2.2.1 pc = .ok (.irem, 1)) (h : pu_S X d (pc + 1) k) : pu_S X d pc (s_irem k) := by
  obtain ⟨p, l, e, R, s, m, args, below, meth, c, g, Q, n0, out⟩ := X
  obtain ⟨hx, hb, hml, hown, hts, hK, hsp, hR, hsz, hnm, hE⟩ := hX
  refine z_st h fun ls st M ho => ?_
  unfold s_irem at ho
  split at ho
  · split at ho
    · rename_i hc
      exact ⟨_, ho, fun q v hv => by
        have q1 := q.1
        simp only [List.mem_cons, forall_eq_or_imp] at hv q1
        rcases hv with rfl | hv
        · trivial
        · exact q1.2.2 v hv, fun la H locs _ hl hW hs kk => lv_irem hx hb hd (fun e => hc e) kk⟩
    · cases ho
  · cases ho
def s_ladd (k : pu_K) : pu_K := fun ls st M => match st with
  | .long y :: .long x :: st => k ls (.long (x + y) :: st) M
  | _ => none
theorem z_ladd {X : pu_X} {d : pu_D} {pc : Nat} {k : pu_K} (hX : pu_H X d) (hd : decode d.2.2.1 pc = .ok (.ladd, 1)) (h : pu_S X d (pc + 1) k) : pu_S X d pc (s_ladd k) := by
  obtain ⟨p, l, e, R, s, m, args, below, meth, c, g, Q, n0, out⟩ := X
  obtain ⟨hx, hb, hml, hown, hts, hK, hsp, hR, hsz, hnm, hE⟩ := hX
  refine z_st h fun ls st M ho => ?_
  unfold s_ladd at ho
  split at ho
  · exact ⟨_, ho, fun q v hv => by
        have q1 := q.1
        simp only [List.mem_cons, forall_eq_or_imp] at hv q1
        rcases hv with rfl | hv
        · trivial
        · exact q1.2.2 v hv, fun la H locs _ hl hW hs kk => lv_ladd hx hb hd kk⟩
  · cases ho
def s_lsub (k : pu_K) : pu_K := fun ls st M => match st with
  | .long y :: .long x :: st => k ls (.long (x - y) :: st) M
  | _ => none
theorem z_lsub {X : pu_X} {d : pu_D} {pc : Nat} {k : pu_K} (hX : pu_H X d) (hd : decode d.2.2.1 pc = .ok (.lsub, 1)) (h : pu_S X d (pc + 1) k) : pu_S X d pc (s_lsub k) := by
  obtain ⟨p, l, e, R, s, m, args, below, meth, c, g, Q, n0, out⟩ := X
  obtain ⟨hx, hb, hml, hown, hts, hK, hsp, hR, hsz, hnm, hE⟩ := hX
  refine z_st h fun ls st M ho => ?_
  unfold s_lsub at ho
  split at ho
  · exact ⟨_, ho, fun q v hv => by
        have q1 := q.1
        simp only [List.mem_cons, forall_eq_or_imp] at hv q1
        rcases hv with rfl | hv
        · trivial
        · exact q1.2.2 v hv, fun la H locs _ hl hW hs kk => lv_lsub hx hb hd kk⟩
  · cases ho
def s_lmul (k : pu_K) : pu_K := fun ls st M => match st with
  | .long y :: .long x :: st => k ls (.long (x * y) :: st) M
  | _ => none
theorem z_lmul {X : pu_X} {d : pu_D} {pc : Nat} {k : pu_K} (hX : pu_H X d) (hd : decode d.2.2.1 pc = .ok (.lmul, 1)) (h : pu_S X d (pc + 1) k) : pu_S X d pc (s_lmul k) := by
  obtain ⟨p, l, e, R, s, m, args, below, meth, c, g, Q, n0, out⟩ := X
  obtain ⟨hx, hb, hml, hown, hts, hK, hsp, hR, hsz, hnm, hE⟩ := hX
  refine z_st h fun ls st M ho => ?_
  unfold s_lmul at ho
  split at ho
  · exact ⟨_, ho, fun q v hv => by
        have q1 := q.1
        simp only [List.mem_cons, forall_eq_or_imp] at hv q1
        rcases hv with rfl | hv
        · trivial
        · exact q1.2.2 v hv, fun la H locs _ hl hW hs kk => lv_lmul hx hb hd kk⟩
  · cases ho
def s_ldiv (k : pu_K) : pu_K := fun ls st M => match st with
  | .long y :: .long x :: st => if y = 0 → False then k ls (.long (x / y) :: st) M else none
  | _ => none
theorem z_ldiv {X : pu_X} {d : pu_D} {pc : Nat} {k : pu_K} (hX : pu_H X d) (hd : decode d.2.2.1 pc = .ok (.ldiv, 1)) (h : pu_S X d (pc + 1) k) : pu_S X d pc (s_ldiv k) := by
  obtain ⟨p, l, e, R, s, m, args, below, meth, c, g, Q, n0, out⟩ := X
  obtain ⟨hx, hb, hml, hown, hts, hK, hsp, hR, hsz, hnm, hE⟩ := hX
  refine z_st h fun ls st M ho => ?_
  unfold s_ldiv at ho
  split at ho
  · split at ho
    · rename_i hc
      exact ⟨_, ho, fun q v hv => by
        have q1 := q.1
        simp only [List.mem_cons, forall_eq_or_imp] at hv q1
        rcases hv with rfl | hv
        · trivial
        · exact q1.2.2 v hv, fun la H locs _ hl hW hs kk => lv_ldiv hx hb hd (fun e => hc e) kk⟩
    · cases ho
  · cases ho
def s_lcmp (k : pu_K) : pu_K := fun ls st M => match st with
  | .long y :: .long x :: st => k ls (.int (lg_cmp x y) :: st) M
  | _ => none
theorem z_lcmp {X : pu_X} {d : pu_D} {pc : Nat} {k : pu_K} (hX : pu_H X d) (hd : decode d.2.2.1 pc = .ok (.lcmp, 1)) (h : pu_S X d (pc + 1) k) : pu_S X d pc (s_lcmp k) := by
  obtain ⟨p, l, e, R, s, m, args, below, meth, c, g, Q, n0, out⟩ := X
  obtain ⟨hx, hb, hml, hown, hts, hK, hsp, hR, hsz, hnm, hE⟩ := hX
  refine z_st h fun ls st M ho => ?_
  unfold s_lcmp at ho
  split at ho
  · exact ⟨_, ho, fun q v hv => by
        have q1 := q.1
        simp only [List.mem_cons, forall_eq_or_imp] at hv q1
        rcases hv with rfl | hv
        · trivial
        · exact q1.2.2 v hv, fun la H locs _ hl hW hs kk => W.lcmp hx hb hd kk⟩
  · cases ho
def s_i2l (k : pu_K) : pu_K := fun ls st M => match st with
  | .int x :: st => k ls (.long x.toInt64 :: st) M
  | _ => none
theorem z_i2l {X : pu_X} {d : pu_D} {pc : Nat} {k : pu_K} (hX : pu_H X d) (hd : decode d.2.2.1 pc = .ok (.i2l, 1)) (h : pu_S X d (pc + 1) k) : pu_S X d pc (s_i2l k) := by
  obtain ⟨p, l, e, R, s, m, args, below, meth, c, g, Q, n0, out⟩ := X
  obtain ⟨hx, hb, hml, hown, hts, hK, hsp, hR, hsz, hnm, hE⟩ := hX
  refine z_st h fun ls st M ho => ?_
  unfold s_i2l at ho
  split at ho
  · exact ⟨_, ho, fun q v hv => by
        have q1 := q.1
        simp only [List.mem_cons, forall_eq_or_imp] at hv q1
        rcases hv with rfl | hv
        · trivial
        · exact q1.2 v hv, fun la H locs _ hl hW hs kk => lv_i2l hx hb hd rfl kk⟩
  · cases ho
def s_l2i (k : pu_K) : pu_K := fun ls st M => match st with
  | .long x :: st => k ls (.int x.toInt32 :: st) M
  | _ => none
theorem z_l2i {X : pu_X} {d : pu_D} {pc : Nat} {k : pu_K} (hX : pu_H X d) (hd : decode d.2.2.1 pc = .ok (.l2i, 1)) (h : pu_S X d (pc + 1) k) : pu_S X d pc (s_l2i k) := by
  obtain ⟨p, l, e, R, s, m, args, below, meth, c, g, Q, n0, out⟩ := X
  obtain ⟨hx, hb, hml, hown, hts, hK, hsp, hR, hsz, hnm, hE⟩ := hX
  refine z_st h fun ls st M ho => ?_
  unfold s_l2i at ho
  split at ho
  · exact ⟨_, ho, fun q v hv => by
        have q1 := q.1
        simp only [List.mem_cons, forall_eq_or_imp] at hv q1
        rcases hv with rfl | hv
        · trivial
        · exact q1.2 v hv, fun la H locs _ hl hW hs kk => lv_l2i hx hb hd rfl kk⟩
  · cases ho
def s_i2b (k : pu_K) : pu_K := fun ls st M => match st with
  | .int x :: st => k ls (.int x.toInt8.toInt32 :: st) M
  | _ => none
theorem z_i2b {X : pu_X} {d : pu_D} {pc : Nat} {k : pu_K} (hX : pu_H X d) (hd : decode d.2.2.1 pc = .ok (.i2b, 1)) (h : pu_S X d (pc + 1) k) : pu_S X d pc (s_i2b k) := by
  obtain ⟨p, l, e, R, s, m, args, below, meth, c, g, Q, n0, out⟩ := X
  obtain ⟨hx, hb, hml, hown, hts, hK, hsp, hR, hsz, hnm, hE⟩ := hX
  refine z_st h fun ls st M ho => ?_
  unfold s_i2b at ho
  split at ho
  · exact ⟨_, ho, fun q v hv => by
        have q1 := q.1
        simp only [List.mem_cons, forall_eq_or_imp] at hv q1
        rcases hv with rfl | hv
        · trivial
        · exact q1.2 v hv, fun la H locs _ hl hW hs kk => lv_i2b hx hb hd rfl kk⟩
  · cases ho
def s_ineg (k : pu_K) : pu_K := fun ls st M => match st with
  | .int x :: st => k ls (.int (-x) :: st) M
  | _ => none
theorem z_ineg {X : pu_X} {d : pu_D} {pc : Nat} {k : pu_K} (hX : pu_H X d) (hd : decode d.2.2.1 pc = .ok (.ineg, 1)) (h : pu_S X d (pc + 1) k) : pu_S X d pc (s_ineg k) := by
  obtain ⟨p, l, e, R, s, m, args, below, meth, c, g, Q, n0, out⟩ := X
  obtain ⟨hx, hb, hml, hown, hts, hK, hsp, hR, hsz, hnm, hE⟩ := hX
  refine z_st h fun ls st M ho => ?_
  unfold s_ineg at ho
  split at ho
  · exact ⟨_, ho, fun q v hv => by
        have q1 := q.1
        simp only [List.mem_cons, forall_eq_or_imp] at hv q1
        rcases hv with rfl | hv
        · trivial
        · exact q1.2 v hv, fun la H locs _ hl hW hs kk => lv_ineg hx hb hd kk⟩
  · cases ho
def s_dup (k : pu_K) : pu_K := fun ls st M => match st with
  | va :: st => if va.category = 1 then k ls (va :: va :: st) M else none
  | _ => none
theorem z_dup {X : pu_X} {d : pu_D} {pc : Nat} {k : pu_K} (hX : pu_H X d) (hd : decode d.2.2.1 pc = .ok (.dup, 1)) (h : pu_S X d (pc + 1) k) : pu_S X d pc (s_dup k) := by
  obtain ⟨p, l, e, R, s, m, args, below, meth, c, g, Q, n0, out⟩ := X
  obtain ⟨hx, hb, hml, hown, hts, hK, hsp, hR, hsz, hnm, hE⟩ := hX
  refine z_st h fun ls st M ho => ?_
  unfold s_dup at ho
  split at ho
  · split at ho
    · rename_i hc
      exact ⟨_, ho, fun q v hv => by
        have q1 := q.1
        simp only [List.mem_cons, forall_eq_or_imp] at hv q1
        rcases hv with rfl | rfl | hv
        · exact q1.1
        · exact q1.1
        · exact q1.2 v hv, fun la H locs _ hl hW hs kk => lv_dup hx hb hd (by rw [pu_t_cat]; exact hc) kk⟩
    · cases ho
  · cases ho
def s_dup2 (k : pu_K) : pu_K := fun ls st M => match st with
  | va :: vb :: st => if va.category = 1 ∧ vb.category = 1 then k ls (va :: vb :: va :: vb :: st) M else none
  | _ => none
theorem z_dup2 {X : pu_X} {d : pu_D} {pc : Nat} {k : pu_K} (hX : pu_H X d) (hd : decode d.2.2.1 pc = .ok (.dup2, 1)) (h : pu_S X d (pc + 1) k) : pu_S X d pc (s_dup2 k) := by
  obtain ⟨p, l, e, R, s, m, args, below, meth, c, g, Q, n0, out⟩ := X
  obtain ⟨hx, hb, hml, hown, hts, hK, hsp, hR, hsz, hnm, hE⟩ := hX
  refine z_st h fun ls st M ho => ?_
  unfold s_dup2 at ho
  split at ho
  · split at ho
    · rename_i hc
      exact ⟨_, ho, fun q v hv => by
        have q1 := q.1
        simp only [List.mem_cons, forall_eq_or_imp] at hv q1
        rcases hv with rfl | rfl | rfl | rfl | hv
        · exact q1.1
        · exact q1.2.1
        · exact q1.1
        · exact q1.2.1
        · exact q1.2.2 v hv, fun la H locs _ hl hW hs kk => lv_dup2_11 hx hb hd (by rw [pu_t_cat]; exact hc.1) (by rw [pu_t_cat]; exact hc.2) kk⟩
    · cases ho
  · cases ho
def s_pop (k : pu_K) : pu_K := fun ls st M => match st with
  | va :: st => if va.category = 1 then k ls (st) M else none
  | _ => none
theorem z_pop {X : pu_X} {d : pu_D} {pc : Nat} {k : pu_K} (hX : pu_H X d) (hd : decode d.2.2.1 pc = .ok (.pop, 1)) (h : pu_S X d (pc + 1) k) : pu_S X d pc (s_pop k) := by
  obtain ⟨p, l, e, R, s, m, args, below, meth, c, g, Q, n0, out⟩ := X
  obtain ⟨hx, hb, hml, hown, hts, hK, hsp, hR, hsz, hnm, hE⟩ := hX
  refine z_st h fun ls st M ho => ?_
  unfold s_pop at ho
  split at ho
  · split at ho
    · rename_i hc
      exact ⟨_, ho, fun q v hv => by
        have q1 := q.1
        simp only [List.mem_cons, forall_eq_or_imp] at hv q1
        exact q1.2 v hv, fun la H locs _ hl hW hs kk => lv_pop hx hb hd (by rw [pu_t_cat]; exact hc) kk⟩
    · cases ho
  · cases ho
def s_ifeq (kt kf : pu_K) : pu_K := fun ls st M => match st with
  | .int x :: st => if x = 0 then kt ls st M else kf ls st M
  | _ => none
theorem z_ifeq {X : pu_X} {d : pu_D} {pc tgt : Nat} {kt kf : pu_K} {off : Int} (hX : pu_H X d) (hd : decode d.2.2.1 pc = .ok (.ifCond .eq off, 3)) (ht : (pc : Int) + off = (tgt : Int)) (h1 : pu_S X d tgt kt) (h2 : pu_S X d (pc + 3) kf) : pu_S X d pc (s_ifeq kt kf) := by
  obtain ⟨p, l, e, R, s, m, args, below, meth, c, g, Q, n0, out⟩ := X
  obtain ⟨hx, hb, hml, hown, hts, hK, hsp, hR, hsz, hnm, hE⟩ := hX
  intro ls st M ho hS hn
  unfold s_ifeq at ho
  split at ho
  · have hS1 := hS.1
    simp only [List.mem_cons, forall_eq_or_imp] at hS1
    split at ho
    · rename_i hc
      obtain ⟨a1, a2⟩ := h1 ls _ M ho ⟨hS1.2, hS.2⟩ hn
      exact ⟨a1, fun la H locs hl hW hs => lv_if_eq hx hb hd ht (fun _ => a2 la H locs hl hW hs) (fun e => absurd hc e)⟩
    · rename_i hc
      obtain ⟨a1, a2⟩ := h2 ls _ M ho ⟨hS1.2, hS.2⟩ hn
      exact ⟨a1, fun la H locs hl hW hs => lv_if_eq hx hb hd ht (fun e => absurd e hc) (fun _ => a2 la H locs hl hW hs)⟩
  · cases ho
def s_iceq (kt kf : pu_K) : pu_K := fun ls st M => match st with
  | .int y :: .int x :: st => if x = y then kt ls st M else kf ls st M
  | _ => none
theorem z_iceq {X : pu_X} {d : pu_D} {pc tgt : Nat} {kt kf : pu_K} {off : Int} (hX : pu_H X d) (hd : decode d.2.2.1 pc = .ok (.if_icmp .eq off, 3)) (ht : (pc : Int) + off = (tgt : Int)) (h1 : pu_S X d tgt kt) (h2 : pu_S X d (pc + 3) kf) : pu_S X d pc (s_iceq kt kf) := by
  obtain ⟨p, l, e, R, s, m, args, below, meth, c, g, Q, n0, out⟩ := X
  obtain ⟨hx, hb, hml, hown, hts, hK, hsp, hR, hsz, hnm, hE⟩ := hX
  intro ls st M ho hS hn
  unfold s_iceq at ho
  split at ho
  · have hS1 := hS.1
    simp only [List.mem_cons, forall_eq_or_imp] at hS1
    split at ho
    · rename_i hc
      obtain ⟨a1, a2⟩ := h1 ls _ M ho ⟨hS1.2.2, hS.2⟩ hn
      exact ⟨a1, fun la H locs hl hW hs => lv_icmp_eq hx hb hd ht (fun _ => a2 la H locs hl hW hs) (fun e => absurd hc e)⟩
    · rename_i hc
      obtain ⟨a1, a2⟩ := h2 ls _ M ho ⟨hS1.2.2, hS.2⟩ hn
      exact ⟨a1, fun la H locs hl hW hs => lv_icmp_eq hx hb hd ht (fun e => absurd e hc) (fun _ => a2 la H locs hl hW hs)⟩
  · cases ho
def s_iflt (kt kf : pu_K) : pu_K := fun ls st M => match st with
  | .int x :: st => if x < 0 then kt ls st M else kf ls st M
  | _ => none
theorem z_iflt {X : pu_X} {d : pu_D} {pc tgt : Nat} {kt kf : pu_K} {off : Int} (hX : pu_H X d) (hd : decode d.2.2.1 pc = .ok (.ifCond .lt off, 3)) (ht : (pc : Int) + off = (tgt : Int)) (h1 : pu_S X d tgt kt) (h2 : pu_S X d (pc + 3) kf) : pu_S X d pc (s_iflt kt kf) := by
  obtain ⟨p, l, e, R, s, m, args, below, meth, c, g, Q, n0, out⟩ := X
  obtain ⟨hx, hb, hml, hown, hts, hK, hsp, hR, hsz, hnm, hE⟩ := hX
  intro ls st M ho hS hn
  unfold s_iflt at ho
  split at ho
  · have hS1 := hS.1
    simp only [List.mem_cons, forall_eq_or_imp] at hS1
    split at ho
    · rename_i hc
      obtain ⟨a1, a2⟩ := h1 ls _ M ho ⟨hS1.2, hS.2⟩ hn
      exact ⟨a1, fun la H locs hl hW hs => lv_if_lt hx hb hd ht (fun _ => a2 la H locs hl hW hs) (fun e => absurd hc e)⟩
    · rename_i hc
      obtain ⟨a1, a2⟩ := h2 ls _ M ho ⟨hS1.2, hS.2⟩ hn
      exact ⟨a1, fun la H locs hl hW hs => lv_if_lt hx hb hd ht (fun e => absurd e hc) (fun _ => a2 la H locs hl hW hs)⟩
  · cases ho
def s_iclt (kt kf : pu_K) : pu_K := fun ls st M => match st with
  | .int y :: .int x :: st => if x < y then kt ls st M else kf ls st M
  | _ => none
theorem z_iclt {X : pu_X} {d : pu_D} {pc tgt : Nat} {kt kf : pu_K} {off : Int} (hX : pu_H X d) (hd : decode d.2.2.1 pc = .ok (.if_icmp .lt off, 3)) (ht : (pc : Int) + off = (tgt : Int)) (h1 : pu_S X d tgt kt) (h2 : pu_S X d (pc + 3) kf) : pu_S X d pc (s_iclt kt kf) := by
  obtain ⟨p, l, e, R, s, m, args, below, meth, c, g, Q, n0, out⟩ := X
  obtain ⟨hx, hb, hml, hown, hts, hK, hsp, hR, hsz, hnm, hE⟩ := hX
  intro ls st M ho hS hn
  unfold s_iclt at ho
  split at ho
  · have hS1 := hS.1
    simp only [List.mem_cons, forall_eq_or_imp] at hS1
    split at ho
    · rename_i hc
      obtain ⟨a1, a2⟩ := h1 ls _ M ho ⟨hS1.2.2, hS.2⟩ hn
      exact ⟨a1, fun la H locs hl hW hs => lv_icmp_lt hx hb hd ht (fun _ => a2 la H locs hl hW hs) (fun e => absurd hc e)⟩
    · rename_i hc
      obtain ⟨a1, a2⟩ := h2 ls _ M ho ⟨hS1.2.2, hS.2⟩ hn
      exact ⟨a1, fun la H locs hl hW hs => lv_icmp_lt hx hb hd ht (fun e => absurd e hc) (fun _ => a2 la H locs hl hW hs)⟩
  · cases ho
def s_ifge (kt kf : pu_K) : pu_K := fun ls st M => match st with
  | .int x :: st => if 0 ≤ x then kt ls st M else kf ls st M
  | _ => none
theorem z_ifge {X : pu_X} {d : pu_D} {pc tgt : Nat} {kt kf : pu_K} {off : Int} (hX : pu_H X d) (hd : decode d.2.2.1 pc = .ok (.ifCond .ge off, 3)) (ht : (pc : Int) + off = (tgt : Int)) (h1 : pu_S X d tgt kt) (h2 : pu_S X d (pc + 3) kf) : pu_S X d pc (s_ifge kt kf) := by
  obtain ⟨p, l, e, R, s, m, args, below, meth, c, g, Q, n0, out⟩ := X
  obtain ⟨hx, hb, hml, hown, hts, hK, hsp, hR, hsz, hnm, hE⟩ := hX
  intro ls st M ho hS hn
  unfold s_ifge at ho
  split at ho
  · have hS1 := hS.1
    simp only [List.mem_cons, forall_eq_or_imp] at hS1
    split at ho
    · rename_i hc
      obtain ⟨a1, a2⟩ := h1 ls _ M ho ⟨hS1.2, hS.2⟩ hn
      exact ⟨a1, fun la H locs hl hW hs => lv_if_ge hx hb hd ht (fun _ => a2 la H locs hl hW hs) (fun e => absurd hc e)⟩
    · rename_i hc
      obtain ⟨a1, a2⟩ := h2 ls _ M ho ⟨hS1.2, hS.2⟩ hn
      exact ⟨a1, fun la H locs hl hW hs => lv_if_ge hx hb hd ht (fun e => absurd e hc) (fun _ => a2 la H locs hl hW hs)⟩
  · cases ho
def s_icge (kt kf : pu_K) : pu_K := fun ls st M => match st with
  | .int y :: .int x :: st => if y ≤ x then kt ls st M else kf ls st M
  | _ => none
theorem z_icge {X : pu_X} {d : pu_D} {pc tgt : Nat} {kt kf : pu_K} {off : Int} (hX : pu_H X d) (hd : decode d.2.2.1 pc = .ok (.if_icmp .ge off, 3)) (ht : (pc : Int) + off = (tgt : Int)) (h1 : pu_S X d tgt kt) (h2 : pu_S X d (pc + 3) kf) : pu_S X d pc (s_icge kt kf) := by
  obtain ⟨p, l, e, R, s, m, args, below, meth, c, g, Q, n0, out⟩ := X
  obtain ⟨hx, hb, hml, hown, hts, hK, hsp, hR, hsz, hnm, hE⟩ := hX
  intro ls st M ho hS hn
  unfold s_icge at ho
  split at ho
  · have hS1 := hS.1
    simp only [List.mem_cons, forall_eq_or_imp] at hS1
    split at ho
    · rename_i hc
      obtain ⟨a1, a2⟩ := h1 ls _ M ho ⟨hS1.2.2, hS.2⟩ hn
      exact ⟨a1, fun la H locs hl hW hs => lv_icmp_ge hx hb hd ht (fun _ => a2 la H locs hl hW hs) (fun e => absurd hc e)⟩
    · rename_i hc
      obtain ⟨a1, a2⟩ := h2 ls _ M ho ⟨hS1.2.2, hS.2⟩ hn
      exact ⟨a1, fun la H locs hl hW hs => lv_icmp_ge hx hb hd ht (fun e => absurd e hc) (fun _ => a2 la H locs hl hW hs)⟩
  · cases ho
def s_ifgt (kt kf : pu_K) : pu_K := fun ls st M => match st with
  | .int x :: st => if 0 < x then kt ls st M else kf ls st M
  | _ => none
theorem z_ifgt {X : pu_X} {d : pu_D} {pc tgt : Nat} {kt kf : pu_K} {off : Int} (hX : pu_H X d) (hd : decode d.2.2.1 pc = .ok (.ifCond .gt off, 3)) (ht : (pc : Int) + off = (tgt : Int)) (h1 : pu_S X d tgt kt) (h2 : pu_S X d (pc + 3) kf) : pu_S X d pc (s_ifgt kt kf) := by
  obtain ⟨p, l, e, R, s, m, args, below, meth, c, g, Q, n0, out⟩ := X
  obtain ⟨hx, hb, hml, hown, hts, hK, hsp, hR, hsz, hnm, hE⟩ := hX
  intro ls st M ho hS hn
  unfold s_ifgt at ho
  split at ho
  · have hS1 := hS.1
    simp only [List.mem_cons, forall_eq_or_imp] at hS1
    split at ho
    · rename_i hc
      obtain ⟨a1, a2⟩ := h1 ls _ M ho ⟨hS1.2, hS.2⟩ hn
      exact ⟨a1, fun la H locs hl hW hs => lv_if_gt hx hb hd ht (fun _ => a2 la H locs hl hW hs) (fun e => absurd hc e)⟩
    · rename_i hc
      obtain ⟨a1, a2⟩ := h2 ls _ M ho ⟨hS1.2, hS.2⟩ hn
      exact ⟨a1, fun la H locs hl hW hs => lv_if_gt hx hb hd ht (fun e => absurd e hc) (fun _ => a2 la H locs hl hW hs)⟩
  · cases ho
def s_icgt (kt kf : pu_K) : pu_K := fun ls st M => match st with
  | .int y :: .int x :: st => if y < x then kt ls st M else kf ls st M
  | _ => none
theorem z_icgt {X : pu_X} {d : pu_D} {pc tgt : Nat} {kt kf : pu_K} {off : Int} (hX : pu_H X d) (hd : decode d.2.2.1 pc = .ok (.if_icmp .gt off, 3)) (ht : (pc : Int) + off = (tgt : Int)) (h1 : pu_S X d tgt kt) (h2 : pu_S X d (pc + 3) kf) : pu_S X d pc (s_icgt kt kf) := by
  obtain ⟨p, l, e, R, s, m, args, below, meth, c, g, Q, n0, out⟩ := X
  obtain ⟨hx, hb, hml, hown, hts, hK, hsp, hR, hsz, hnm, hE⟩ := hX
  intro ls st M ho hS hn
  unfold s_icgt at ho
  split at ho
  · have hS1 := hS.1
    simp only [List.mem_cons, forall_eq_or_imp] at hS1
    split at ho
    · rename_i hc
      obtain ⟨a1, a2⟩ := h1 ls _ M ho ⟨hS1.2.2, hS.2⟩ hn
      exact ⟨a1, fun la H locs hl hW hs => lv_icmp_gt hx hb hd ht (fun _ => a2 la H locs hl hW hs) (fun e => absurd hc e)⟩
    · rename_i hc
      obtain ⟨a1, a2⟩ := h2 ls _ M ho ⟨hS1.2.2, hS.2⟩ hn
      exact ⟨a1, fun la H locs hl hW hs => lv_icmp_gt hx hb hd ht (fun e => absurd e hc) (fun _ => a2 la H locs hl hW hs)⟩
  · cases ho
def s_ifle (kt kf : pu_K) : pu_K := fun ls st M => match st with
  | .int x :: st => if x ≤ 0 then kt ls st M else kf ls st M
  | _ => none
theorem z_ifle {X : pu_X} {d : pu_D} {pc tgt : Nat} {kt kf : pu_K} {off : Int} (hX : pu_H X d) (hd : decode d.2.2.1 pc = .ok (.ifCond .le off, 3)) (ht : (pc : Int) + off = (tgt : Int)) (h1 : pu_S X d tgt kt) (h2 : pu_S X d (pc + 3) kf) : pu_S X d pc (s_ifle kt kf) := by
  obtain ⟨p, l, e, R, s, m, args, below, meth, c, g, Q, n0, out⟩ := X
  obtain ⟨hx, hb, hml, hown, hts, hK, hsp, hR, hsz, hnm, hE⟩ := hX
  intro ls st M ho hS hn
  unfold s_ifle at ho
  split at ho
  · have hS1 := hS.1
    simp only [List.mem_cons, forall_eq_or_imp] at hS1
    split at ho
    · rename_i hc
      obtain ⟨a1, a2⟩ := h1 ls _ M ho ⟨hS1.2, hS.2⟩ hn
      exact ⟨a1, fun la H locs hl hW hs => lv_if_le hx hb hd ht (fun _ => a2 la H locs hl hW hs) (fun e => absurd hc e)⟩
    · rename_i hc
      obtain ⟨a1, a2⟩ := h2 ls _ M ho ⟨hS1.2, hS.2⟩ hn
      exact ⟨a1, fun la H locs hl hW hs => lv_if_le hx hb hd ht (fun e => absurd e hc) (fun _ => a2 la H locs hl hW hs)⟩
  · cases ho
def s_icle (kt kf : pu_K) : pu_K := fun ls st M => match st with
  | .int y :: .int x :: st => if x ≤ y then kt ls st M else kf ls st M
  | _ => none
theorem z_icle {X : pu_X} {d : pu_D} {pc tgt : Nat} {kt kf : pu_K} {off : Int} (hX : pu_H X d) (hd : decode d.2.2.1 pc = .ok (.if_icmp .le off, 3)) (ht : (pc : Int) + off = (tgt : Int)) (h1 : pu_S X d tgt kt) (h2 : pu_S X d (pc + 3) kf) : pu_S X d pc (s_icle kt kf) := by
  obtain ⟨p, l, e, R, s, m, args, below, meth, c, g, Q, n0, out⟩ := X
  obtain ⟨hx, hb, hml, hown, hts, hK, hsp, hR, hsz, hnm, hE⟩ := hX
  intro ls st M ho hS hn
  unfold s_icle at ho
  split at ho
  · have hS1 := hS.1
    simp only [List.mem_cons, forall_eq_or_imp] at hS1
    split at ho
    · rename_i hc
      obtain ⟨a1, a2⟩ := h1 ls _ M ho ⟨hS1.2.2, hS.2⟩ hn
      exact ⟨a1, fun la H locs hl hW hs => lv_icmp_le hx hb hd ht (fun _ => a2 la H locs hl hW hs) (fun e => absurd hc e)⟩
    · rename_i hc
      obtain ⟨a1, a2⟩ := h2 ls _ M ho ⟨hS1.2.2, hS.2⟩ hn
      exact ⟨a1, fun la H locs hl hW hs => lv_icmp_le hx hb hd ht (fun e => absurd e hc) (fun _ => a2 la H locs hl hW hs)⟩
  · cases ho
def s_ifne (kt kf : pu_K) : pu_K := fun ls st M => match st with
  | .int x :: st => if x = 0 then kf ls st M else kt ls st M
  | _ => none
theorem z_ifne {X : pu_X} {d : pu_D} {pc tgt : Nat} {kt kf : pu_K} {off : Int} (hX : pu_H X d) (hd : decode d.2.2.1 pc = .ok (.ifCond .ne off, 3)) (ht : (pc : Int) + off = (tgt : Int)) (h1 : pu_S X d tgt kt) (h2 : pu_S X d (pc + 3) kf) : pu_S X d pc (s_ifne kt kf) := by
  obtain ⟨p, l, e, R, s, m, args, below, meth, c, g, Q, n0, out⟩ := X
  obtain ⟨hx, hb, hml, hown, hts, hK, hsp, hR, hsz, hnm, hE⟩ := hX
  intro ls st M ho hS hn
  unfold s_ifne at ho
  split at ho
  · have hS1 := hS.1
    simp only [List.mem_cons, forall_eq_or_imp] at hS1
    split at ho
    · rename_i hc
      obtain ⟨a1, a2⟩ := h2 ls _ M ho ⟨hS1.2, hS.2⟩ hn
      exact ⟨a1, fun la H locs hl hW hs => lv_if_ne hx hb hd ht (fun e => absurd hc e) (fun _ => a2 la H locs hl hW hs)⟩
    · rename_i hc
      obtain ⟨a1, a2⟩ := h1 ls _ M ho ⟨hS1.2, hS.2⟩ hn
      exact ⟨a1, fun la H locs hl hW hs => lv_if_ne hx hb hd ht (fun _ => a2 la H locs hl hW hs) (fun e => absurd e hc)⟩
  · cases ho
def s_icne (kt kf : pu_K) : pu_K := fun ls st M => match st with
  | .int y :: .int x :: st => if x = y then kf ls st M else kt ls st M
  | _ => none
theorem z_icne {X : pu_X} {d : pu_D} {pc tgt : Nat} {kt kf : pu_K} {off : Int} (hX : pu_H X d) (hd : decode d.2.2.1 pc = .ok (.if_icmp .ne off, 3)) (ht : (pc : Int) + off = (tgt : Int)) (h1 : pu_S X d tgt kt) (h2 : pu_S X d (pc + 3) kf) : pu_S X d pc (s_icne kt kf) := by
  obtain ⟨p, l, e, R, s, m, args, below, meth, c, g, Q, n0, out⟩ := X
  obtain ⟨hx, hb, hml, hown, hts, hK, hsp, hR, hsz, hnm, hE⟩ := hX
  intro ls st M ho hS hn
  unfold s_icne at ho
  split at ho
  · have hS1 := hS.1
    simp only [List.mem_cons, forall_eq_or_imp] at hS1
    split at ho
    · rename_i hc
      obtain ⟨a1, a2⟩ := h2 ls _ M ho ⟨hS1.2.2, hS.2⟩ hn
      exact ⟨a1, fun la H locs hl hW hs => lv_icmp_ne hx hb hd ht (fun e => absurd hc e) (fun _ => a2 la H locs hl hW hs)⟩
    · rename_i hc
      obtain ⟨a1, a2⟩ := h1 ls _ M ho ⟨hS1.2.2, hS.2⟩ hn
      exact ⟨a1, fun la H locs hl hW hs => lv_icmp_ne hx hb hd ht (fun _ => a2 la H locs hl hW hs) (fun e => absurd e hc)⟩
  · cases ho
theorem z_goto {X : pu_X} {d : pu_D} {pc tgt : Nat} {k : pu_K} {off : Int} (hX : pu_H X d) (hd : decode d.2.2.1 pc = .ok (.goto off, 3)) (ht : (pc : Int) + off = (tgt : Int)) (h : pu_S X d tgt k) : pu_S X d pc k := by
  obtain ⟨p, l, e, R, s, m, args, below, meth, c, g, Q, n0, out⟩ := X
  obtain ⟨hx, hb, hml, hown, hts, hK, hsp, hR, hsz, hnm, hE⟩ := hX
  exact z_st h fun ls st M ho => ⟨_, ho, fun q => q.1, fun la H locs _ hl hW hs kk => lv_goto hx hb hd ht kk⟩
def s_nn (kt kf : pu_K) : pu_K := fun ls st M => match st with
  | .ref _ :: st => kt ls st M
  | .null :: st => kf ls st M
  | _ => none
theorem z_nn {X : pu_X} {d : pu_D} {pc tgt : Nat} {kt kf : pu_K} {off : Int} (hX : pu_H X d) (hd : decode d.2.2.1 pc = .ok (.ifnonnull off, 3)) (ht : (pc : Int) + off = (tgt : Int)) (h1 : pu_S X d tgt kt) (h2 : pu_S X d (pc + 3) kf) : pu_S X d pc (s_nn kt kf) := by
  obtain ⟨p, l, e, R, s, m, args, below, meth, c, g, Q, n0, out⟩ := X
  obtain ⟨hx, hb, hml, hown, hts, hK, hsp, hR, hsz, hnm, hE⟩ := hX
  intro ls st M ho hS hn
  unfold s_nn at ho
  have hS1 := hS.1
  split at ho
  · simp only [List.mem_cons, forall_eq_or_imp] at hS1
    obtain ⟨a1, a2⟩ := h1 ls _ M ho ⟨hS1.2, hS.2⟩ hn
    exact ⟨a1, fun la H locs hl hW hs => lv_ifnonnull hx hb hd ht (a2 la H locs hl hW hs)⟩
  · simp only [List.mem_cons, forall_eq_or_imp] at hS1
    obtain ⟨a1, a2⟩ := h2 ls _ M ho ⟨hS1.2, hS.2⟩ hn
    exact ⟨a1, fun la H locs hl hW hs => lv_ifnonnullN hx hb hd (a2 la H locs hl hW hs)⟩
  · cases ho
def s_iret : pu_K := fun _ st M => match st with
  | [.int v] => some (some (.int v), M)
  | _ => none
def s_zret : pu_K := fun _ st M => match st with
  | [.int v] => if v = 0 ∨ v = 1 then some (some (.int v), M) else none
  | _ => none
def s_lret : pu_K := fun _ st M => match st with
  | [.long v] => some (some (.long v), M)
  | _ => none
def s_vret : pu_K := fun _ st M => match st with
  | [] => some (none, M)
  | _ => none
theorem z_iret {X : pu_X} {d : pu_D} {pc : Nat} (hX : pu_H X d) (hd : decode d.2.2.1 pc = .ok (.ireturn, 1)) (hr : d.2.2.2.2.1 = some .int) : pu_S X d pc s_iret := by
  obtain ⟨p, l, e, R, s, m, args, below, meth, c, g, Q, n0, out⟩ := X
  obtain ⟨hx, hb, hml, hown, hts, hK, hsp, hR, hsz, hnm, hE⟩ := hX
  intro ls st M ho hS hn
  unfold s_iret at ho
  split at ho
  · have ho := (Option.some.inj ho).symm
    refine ⟨?_, fun la H locs hl hW hs => hE.1 _ M pc la H locs ho hd ⟨_, hr, rfl⟩ hW hn hs⟩
    subst ho
    exact ⟨Nat.le_refl _, fun v hv => by cases hv; trivial, hS.2.2⟩
  · cases ho
theorem z_zret {X : pu_X} {d : pu_D} {pc : Nat} (hX : pu_H X d) (hd : decode d.2.2.1 pc = .ok (.ireturn, 1)) (hr : d.2.2.2.2.1 = some .boolean) : pu_S X d pc s_zret := by
  obtain ⟨p, l, e, R, s, m, args, below, meth, c, g, Q, n0, out⟩ := X
  obtain ⟨hx, hb, hml, hown, hts, hK, hsp, hR, hsz, hnm, hE⟩ := hX
  intro ls st M ho hS hn
  unfold s_zret at ho
  split at ho
  · split at ho
    · rename_i hc
      have ho := (Option.some.inj ho).symm
      refine ⟨?_, fun la H locs hl hW hs => hE.1 _ M pc la H locs ho hd ⟨_, hr, by rcases hc with rfl | rfl <;> rfl⟩ hW hn hs⟩
      subst ho
      exact ⟨Nat.le_refl _, fun v hv => by cases hv; trivial, hS.2.2⟩
    · cases ho
  · cases ho
theorem z_lret {X : pu_X} {d : pu_D} {pc : Nat} (hX : pu_H X d) (hd : decode d.2.2.1 pc = .ok (.lreturn, 1)) (hr : d.2.2.2.2.1 = some .long) : pu_S X d pc s_lret := by
  obtain ⟨p, l, e, R, s, m, args, below, meth, c, g, Q, n0, out⟩ := X
  obtain ⟨hx, hb, hml, hown, hts, hK, hsp, hR, hsz, hnm, hE⟩ := hX
  intro ls st M ho hS hn
  unfold s_lret at ho
  split at ho
  · have ho := (Option.some.inj ho).symm
    refine ⟨?_, fun la H locs hl hW hs => hE.2.2 _ M pc la H locs ho hr hd hW hn hs⟩
    subst ho
    exact ⟨Nat.le_refl _, fun v hv => by cases hv; trivial, hS.2.2⟩
  · cases ho
theorem z_vret {X : pu_X} {d : pu_D} {pc : Nat} (hX : pu_H X d) (hd : decode d.2.2.1 pc = .ok (.return_, 1)) (hr : d.2.2.2.2.1 = none) : pu_S X d pc s_vret := by
  obtain ⟨p, l, e, R, s, m, args, below, meth, c, g, Q, n0, out⟩ := X
  obtain ⟨hx, hb, hml, hown, hts, hK, hsp, hR, hsz, hnm, hE⟩ := hX
  intro ls st M ho hS hn
  unfold s_vret at ho
  split at ho
  · have ho := (Option.some.inj ho).symm
    refine ⟨?_, fun la H locs hl hW hs => hE.2.1 M pc la H locs ho hr hd hW hn hs⟩
    subst ho
    exact ⟨Nat.le_refl _, fun v hv => (by cases hv), hS.2.2⟩
  · cases ho
def pu_kl (i : Nat) (ls : pu_L) : pu_L := match i with
  | 0 => ls
  | j + 1 => match ls[j]? with
    | some (some v) => if v.category = 2 then ls.set j none else ls
    | _ => ls
theorem pu_kl_len (i : Nat) (ls : pu_L) : (pu_kl i ls).length = ls.length := by
  unfold pu_kl
  split
  · rfl
  · split
    · split
      · simp
      · rfl
    · rfl
theorem pu_kl_at {i j : Nat} {ls : pu_L} {v : Value} (h : (pu_kl i ls)[j]? = some (some v)) : ls[j]? = some (some v) ∧ ¬ (j + 1 = i ∧ v.category = 2) := by
  unfold pu_kl at h
  split at h
  · exact ⟨h, fun q => by omega⟩
  · rename_i i'
    split at h
    · rename_i w hw
      split at h
      · rename_i hc
        rw [List.getElem?_set] at h
        split at h
        · split at h
          · cases h
          · cases h
        · rename_i hne
          exact ⟨h, fun q => hne (by omega)⟩
      · rename_i hc
        refine ⟨h, fun q => ?_⟩
        have e : j = i' := by omega
        subst e
        rw [hw] at h
        cases h
        exact hc q.2
    · rename_i hw
      refine ⟨h, fun q => ?_⟩
      have e : j = i' := by omega
      subst e
      exact hw _ h
theorem pu_ls1 {g : pu_G} {la : Array Slot} {n i : Nat} {ls : pu_L} {x : Value} (hl : pu_lv g la n ls) (hi : i < ls.length) {la' : Array Slot} (h : lv_has la' n ((i, pu_t g x) :: (pu_pr g ls).filter (fun q => !(q.1 == i) && !(q.1 + 1 == i && q.2.category == 2)))) : pu_lv g la' n ((pu_kl i ls).set i (some x)) := by
  refine pu_lv_of h (by rw [List.length_set, pu_kl_len]; exact hl.2) fun j v hj => ?_
  rw [List.getElem?_set] at hj
  split at hj
  · rename_i e
    subst e
    split at hj
    · cases hj; exact List.mem_cons_self
    · cases hj
  · rename_i hne
    obtain ⟨h1, h2⟩ := pu_kl_at hj
    refine List.mem_cons_of_mem _ (List.mem_filter.mpr ⟨pu_pr_mem.mpr ⟨v, h1, rfl⟩, ?_⟩)
    have a1 : (j == i) = false := by simp; exact fun e => hne e.symm
    have a2 : (j + 1 == i && (pu_t g v).category == 2) = false := by
      rw [pu_t_cat]
      cases q1 : (j + 1 == i) <;> cases q2 : (v.category == 2) <;> simp_all
    simp [a1, a2]
theorem pu_ls2 {g : pu_G} {la : Array Slot} {n i : Nat} {ls : pu_L} {x : Value} (hl : pu_lv g la n ls) (hi : i + 1 < ls.length) {la' : Array Slot} (h : lv_has la' n ((i, pu_t g x) :: (pu_pr g ls).filter (fun q => !(q.1 == i) && (!(q.1 == i + 1) && !(q.1 + 1 == i && q.2.category == 2))))) : pu_lv g la' n (((pu_kl i ls).set i (some x)).set (i + 1) none) := by
  refine pu_lv_of h (by rw [List.length_set, List.length_set, pu_kl_len]; exact hl.2) fun j v hj => ?_
  rw [List.getElem?_set] at hj
  split at hj
  · split at hj
    · cases hj
    · cases hj
  · rename_i hne2
    rw [List.getElem?_set] at hj
    split at hj
    · rename_i e
      subst e
      split at hj
      · cases hj; exact List.mem_cons_self
      · cases hj
    · rename_i hne
      obtain ⟨h1, h2⟩ := pu_kl_at hj
      refine List.mem_cons_of_mem _ (List.mem_filter.mpr ⟨pu_pr_mem.mpr ⟨v, h1, rfl⟩, ?_⟩)
      have a1 : (j == i) = false := by simp; exact fun e => hne e.symm
      have a3 : (j == i + 1) = false := by simp; exact fun e => hne2 e.symm
      have a2 : (j + 1 == i && (pu_t g v).category == 2) = false := by
        rw [pu_t_cat]
        cases q1 : (j + 1 == i) <;> cases q2 : (v.category == 2) <;> simp_all
      simp [a1, a2, a3]
theorem pu_kl_mem {i : Nat} {ls : pu_L} {v : Value} (h : some v ∈ pu_kl i ls) : some v ∈ ls := by
  obtain ⟨j, hj⟩ := List.getElem?_of_mem h
  exact List.mem_of_getElem? (pu_kl_at hj).1
theorem pu_set_mem {i : Nat} {ls : pu_L} {v : Value} {x : Option Value} (h : some v ∈ ls.set i x) : some v ∈ ls ∨ x = some v := by
  rcases List.mem_or_eq_of_mem_set h with q | q
  · exact Or.inl q
  · exact Or.inr q.symm
def s_ist (i : Nat) (k : pu_K) : pu_K := fun ls st M => match st with
  | .int x :: st => if i < ls.length then k ((pu_kl i ls).set i (some (.int x))) st M else none
  | _ => none
theorem z_ist {X : pu_X} {d : pu_D} {pc : Nat} {k : pu_K} {i : Nat} (hX : pu_H X d) (hd : decode d.2.2.1 pc = .ok (.istore i, 2)) (h : pu_S X d (pc + 2) k) : pu_S X d pc (s_ist i k) := by
  obtain ⟨p, l, e, R, s, m, args, below, meth, c, g, Q, n0, out⟩ := X
  obtain ⟨hx, hb, hml, hown, hts, hK, hsp, hR, hsz, hnm, hE⟩ := hX
  intro ls st M ho hS hn
  unfold s_ist at ho
  have hS1 := hS.1
  split at ho
  · split at ho
    · rename_i x st hi2
      simp only [List.mem_cons, forall_eq_or_imp] at hS1
      obtain ⟨a1, a2⟩ := h _ _ M ho ⟨hS1.2, fun v hv => by
        rcases pu_set_mem hv with hv | hv
        · exact hS.2.1 v (pu_kl_mem hv)
        · cases hv; exact hS1.1, hS.2.2⟩ hn
      exact ⟨a1, fun la H locs hl hW hs => lv_istore hx hb hd hl.1 (by rw [← hl.2]; exact hi2) rfl (fun la' hl' => a2 la' H locs (pu_ls1 hl hi2 hl') hW hs)⟩
    · cases ho
  · cases ho
theorem z_ist_n {X : pu_X} {d : pu_D} {pc : Nat} {k : pu_K} {q : Fin 4} {i : Nat} (hX : pu_H X d) (hd : decode d.2.2.1 pc = .ok (.istore_n q, 1)) (hi : (q : Nat) = i) (h : pu_S X d (pc + 1) k) : pu_S X d pc (s_ist i k) := by
  obtain ⟨p, l, e, R, s, m, args, below, meth, c, g, Q, n0, out⟩ := X
  obtain ⟨hx, hb, hml, hown, hts, hK, hsp, hR, hsz, hnm, hE⟩ := hX
  intro ls st M ho hS hn
  unfold s_ist at ho
  have hS1 := hS.1
  split at ho
  · split at ho
    · rename_i x st hi2
      simp only [List.mem_cons, forall_eq_or_imp] at hS1
      obtain ⟨a1, a2⟩ := h _ _ M ho ⟨hS1.2, fun v hv => by
        rcases pu_set_mem hv with hv | hv
        · exact hS.2.1 v (pu_kl_mem hv)
        · cases hv; exact hS1.1, hS.2.2⟩ hn
      exact ⟨a1, fun la H locs hl hW hs => lv_istore_n hx hb hd hi hl.1 (by rw [← hl.2]; exact hi2) rfl (fun la' hl' => a2 la' H locs (pu_ls1 hl hi2 hl') hW hs)⟩
    · cases ho
  · cases ho
def s_lst (i : Nat) (k : pu_K) : pu_K := fun ls st M => match st with
  | .long x :: st => if i + 1 < ls.length then k (((pu_kl i ls).set i (some (.long x))).set (i + 1) none) st M else none
  | _ => none
theorem z_lst {X : pu_X} {d : pu_D} {pc : Nat} {k : pu_K} {i : Nat} (hX : pu_H X d) (hd : decode d.2.2.1 pc = .ok (.lstore i, 2)) (h : pu_S X d (pc + 2) k) : pu_S X d pc (s_lst i k) := by
  obtain ⟨p, l, e, R, s, m, args, below, meth, c, g, Q, n0, out⟩ := X
  obtain ⟨hx, hb, hml, hown, hts, hK, hsp, hR, hsz, hnm, hE⟩ := hX
  intro ls st M ho hS hn
  unfold s_lst at ho
  have hS1 := hS.1
  split at ho
  · split at ho
    · rename_i x st hi2
      simp only [List.mem_cons, forall_eq_or_imp] at hS1
      obtain ⟨a1, a2⟩ := h _ _ M ho ⟨hS1.2, fun v hv => by
        rcases pu_set_mem hv with hv | hv
        · rcases pu_set_mem hv with hv | hv
          · exact hS.2.1 v (pu_kl_mem hv)
          · cases hv; exact hS1.1
        · exact absurd hv (by simp), hS.2.2⟩ hn
      exact ⟨a1, fun la H locs hl hW hs => lv_lstore hx hb hd hl.1 (by rw [← hl.2]; exact hi2) rfl (fun la' hl' => a2 la' H locs (pu_ls2 hl hi2 hl') hW hs)⟩
    · cases ho
  · cases ho
theorem z_lst_n {X : pu_X} {d : pu_D} {pc : Nat} {k : pu_K} {q : Fin 4} {i : Nat} (hX : pu_H X d) (hd : decode d.2.2.1 pc = .ok (.lstore_n q, 1)) (hi : (q : Nat) = i) (h : pu_S X d (pc + 1) k) : pu_S X d pc (s_lst i k) := by
  obtain ⟨p, l, e, R, s, m, args, below, meth, c, g, Q, n0, out⟩ := X
  obtain ⟨hx, hb, hml, hown, hts, hK, hsp, hR, hsz, hnm, hE⟩ := hX
  intro ls st M ho hS hn
  unfold s_lst at ho
  have hS1 := hS.1
  split at ho
  · split at ho
    · rename_i x st hi2
      simp only [List.mem_cons, forall_eq_or_imp] at hS1
      obtain ⟨a1, a2⟩ := h _ _ M ho ⟨hS1.2, fun v hv => by
        rcases pu_set_mem hv with hv | hv
        · rcases pu_set_mem hv with hv | hv
          · exact hS.2.1 v (pu_kl_mem hv)
          · cases hv; exact hS1.1
        · exact absurd hv (by simp), hS.2.2⟩ hn
      exact ⟨a1, fun la H locs hl hW hs => lv_lstore_n hx hb hd hi hl.1 (by rw [← hl.2]; exact hi2) rfl (fun la' hl' => a2 la' H locs (pu_ls2 hl hi2 hl') hW hs)⟩
    · cases ho
  · cases ho
def s_ast (i : Nat) (k : pu_K) : pu_K := fun ls st M => match st with
  | .ref x :: st => if i < ls.length then k ((pu_kl i ls).set i (some (.ref x))) st M else none
  | _ => none
theorem z_ast {X : pu_X} {d : pu_D} {pc : Nat} {k : pu_K} {i : Nat} (hX : pu_H X d) (hd : decode d.2.2.1 pc = .ok (.astore i, 2)) (h : pu_S X d (pc + 2) k) : pu_S X d pc (s_ast i k) := by
  obtain ⟨p, l, e, R, s, m, args, below, meth, c, g, Q, n0, out⟩ := X
  obtain ⟨hx, hb, hml, hown, hts, hK, hsp, hR, hsz, hnm, hE⟩ := hX
  intro ls st M ho hS hn
  unfold s_ast at ho
  have hS1 := hS.1
  split at ho
  · split at ho
    · rename_i x st hi2
      simp only [List.mem_cons, forall_eq_or_imp] at hS1
      obtain ⟨a1, a2⟩ := h _ _ M ho ⟨hS1.2, fun v hv => by
        rcases pu_set_mem hv with hv | hv
        · exact hS.2.1 v (pu_kl_mem hv)
        · cases hv; exact hS1.1, hS.2.2⟩ hn
      exact ⟨a1, fun la H locs hl hW hs => lv_astore hx hb hd hl.1 (by rw [← hl.2]; exact hi2) rfl (fun la' hl' => a2 la' H locs (pu_ls1 hl hi2 hl') hW hs)⟩
    · cases ho
  · cases ho
theorem z_ast_n {X : pu_X} {d : pu_D} {pc : Nat} {k : pu_K} {q : Fin 4} {i : Nat} (hX : pu_H X d) (hd : decode d.2.2.1 pc = .ok (.astore_n q, 1)) (hi : (q : Nat) = i) (h : pu_S X d (pc + 1) k) : pu_S X d pc (s_ast i k) := by
  obtain ⟨p, l, e, R, s, m, args, below, meth, c, g, Q, n0, out⟩ := X
  obtain ⟨hx, hb, hml, hown, hts, hK, hsp, hR, hsz, hnm, hE⟩ := hX
  intro ls st M ho hS hn
  unfold s_ast at ho
  have hS1 := hS.1
  split at ho
  · split at ho
    · rename_i x st hi2
      simp only [List.mem_cons, forall_eq_or_imp] at hS1
      obtain ⟨a1, a2⟩ := h _ _ M ho ⟨hS1.2, fun v hv => by
        rcases pu_set_mem hv with hv | hv
        · exact hS.2.1 v (pu_kl_mem hv)
        · cases hv; exact hS1.1, hS.2.2⟩ hn
      exact ⟨a1, fun la H locs hl hW hs => lv_astore_n hx hb hd hi hl.1 (by rw [← hl.2]; exact hi2) rfl (fun la' hl' => a2 la' H locs (pu_ls1 hl hi2 hl') hW hs)⟩
    · cases ho
  · cases ho
def s_inc (i : Nat) (n : Int32) (k : pu_K) : pu_K := fun ls st M => match ls[i]? with
  | some (some (.int x)) => k ((pu_kl i ls).set i (some (.int (x + n)))) st M
  | _ => none
theorem z_inc {X : pu_X} {d : pu_D} {pc : Nat} {k : pu_K} {i : Nat} {n : Int} {n' : Int32} (hX : pu_H X d) (hd : decode d.2.2.1 pc = .ok (.iinc i n, 3)) (hn' : Int32.ofInt n = n') (h : pu_S X d (pc + 3) k) : pu_S X d pc (s_inc i n' k) := by
  obtain ⟨p, l, e, R, s, m, args, below, meth, c, g, Q, n0, out⟩ := X
  obtain ⟨hx, hb, hml, hown, hts, hK, hsp, hR, hsz, hnm, hE⟩ := hX
  intro ls st M ho hS hn
  unfold s_inc at ho
  subst hn'
  split at ho
  · rename_i x hi2
    have hlt : i < ls.length := (List.getElem?_eq_some_iff.mp hi2).1
    obtain ⟨a1, a2⟩ := h _ _ M ho ⟨hS.1, fun v hv => by
      rcases pu_set_mem hv with hv | hv
      · exact hS.2.1 v (pu_kl_mem hv)
      · cases hv; trivial, hS.2.2⟩ hn
    refine ⟨a1, fun la H locs hl hW hs => ?_⟩
    obtain ⟨kq, hkq⟩ := List.getElem?_of_mem (pu_pr_mem (g := g) (ls := ls) (q := (i, .int x)) |>.mpr ⟨.int x, hi2, rfl⟩)
    exact lv_iinc hx hb hd hl.1 hkq rfl (by rw [← hl.2]; exact hlt) rfl (fun la' hl' => a2 la' H locs (pu_ls1 (x := .int (x + Int32.ofInt n)) hl hlt hl') hW hs)
  · cases ho
