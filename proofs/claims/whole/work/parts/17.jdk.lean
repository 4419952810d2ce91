/-! the JDK's String: fields, bytes, calls -/
theorem pu_cnK {g : pu_G} {q : UInt32} {i : Nat} (h : q.toNat = i + 1) (hi : i < 6) : pu_cn g q = g.2.2.2.1 i := by
  unfold pu_cn
  rw [h, if_neg (by omega), if_pos (by omega)]
  rfl
theorem pu_cnV {g : pu_G} {q : UInt32} {i : Nat} (h : q.toNat = i + 101) : pu_cn g q = g.2.2.2.2.1.1 i := by
  unfold pu_cn
  rw [h, if_neg (by omega), if_neg (by omega), show i + 101 - 101 = i by omega]
def s_gsv (k : pu_K) : pu_K := fun ls st M => match st with
  | .float q :: st => if 1 ≤ q.toNat ∧ q.toNat < 7 ∧ (q + 100).toNat = q.toNat + 100 then k ls (.float (q + 100) :: st) M else none
  | _ => none
def s_gsc (k : pu_K) : pu_K := fun ls st M => match st with
  | .float q :: st => if 1 ≤ q.toNat ∧ q.toNat < 7 then k ls (.int 0 :: st) M else none
  | _ => none
def s_sal (k : pu_K) : pu_K := fun ls st M => match st with
  | .float q :: st => if 101 ≤ q.toNat ∧ q.toNat < 107 then k ls (.int (Int32.ofNat (pu_sn.getD (q.toNat - 101) 0)) :: st) M else none
  | _ => none
def s_sba (k : pu_K) : pu_K := fun ls st M => match st with
  | .int i :: .float q :: st => if (101 ≤ q.toNat ∧ q.toNat < 107) ∧ ¬ (i < 0 ∨ pu_sn.getD (q.toNat - 101) 0 ≤ i.toNatClampNeg) then k ls (.int ((pu_sb.getD (q.toNat - 101) []).getD i.toNatClampNeg 0) :: st) M else none
  | _ => none
theorem z_gsv {X : pu_X} {d : pu_D} {pc index : Nat} {k : pu_K} (hX : pu_H X d) (hd : decode d.2.2.1 pc = .ok (.getfield index, 3)) (hw : Cond.fieldLink d.1 index "java/lang/String" "value" "[B" ∈ wsL_law) (h : pu_S X d (pc + 3) k) : pu_S X d pc (s_gsv k) := by
  obtain ⟨p, l, e, R, s, m, args, below, meth, c, g, Q, n0, out⟩ := X
  obtain ⟨hx, hb, hml, hown, hts, hK, hsp, hR, hsz, hnm, hE⟩ := hX
  refine z_st h fun ls st M ho => ?_
  unfold s_gsv at ho
  split at ho
  · rename_i q st
    split at ho
    · rename_i hc
      refine ⟨_, ho, fun q v hv => by
        have q1 := q.1
        simp only [List.mem_cons, forall_eq_or_imp] at hv q1
        rcases hv with rfl | hv
        · trivial
        · exact q1.2 v hv, fun la H locs _ hl hW hs kk => ?_⟩
      obtain ⟨h1, h2, h3⟩ := hc
      have hv := (hsp.2.1.1 (q.toNat - 1) (by omega)).2.2.1
      rw [List.map_cons] at kk ⊢
      change W p l e R s m args below meth c H locs _ _ Q (F0 m _ la (.ref (pu_cn g (q + 100)) :: _)) at kk
      change W p l e R s m args below meth c H locs _ _ Q (F0 m _ la (.ref (pu_cn g q) :: _))
      rw [pu_cnV (i := q.toNat - 1) (by omega)] at kk
      rw [pu_cnK (i := q.toNat - 1) (by omega) (by omega)]
      exact vk_getf hx hb hv hs hown (hts _ hw) (fun _ h => h) hd kk
    · cases ho
  · cases ho
theorem z_gsc {X : pu_X} {d : pu_D} {pc index : Nat} {k : pu_K} (hX : pu_H X d) (hd : decode d.2.2.1 pc = .ok (.getfield index, 3)) (hw : Cond.fieldLink d.1 index "java/lang/String" "coder" "B" ∈ wsL_law) (h : pu_S X d (pc + 3) k) : pu_S X d pc (s_gsc k) := by
  obtain ⟨p, l, e, R, s, m, args, below, meth, c, g, Q, n0, out⟩ := X
  obtain ⟨hx, hb, hml, hown, hts, hK, hsp, hR, hsz, hnm, hE⟩ := hX
  refine z_st h fun ls st M ho => ?_
  unfold s_gsc at ho
  split at ho
  · rename_i q st
    split at ho
    · rename_i hc
      refine ⟨_, ho, fun q v hv => by
        have q1 := q.1
        simp only [List.mem_cons, forall_eq_or_imp] at hv q1
        rcases hv with rfl | hv
        · trivial
        · exact q1.2 v hv, fun la H locs _ hl hW hs kk => ?_⟩
      obtain ⟨h1, h2⟩ := hc
      have hv := (hsp.2.1.1 (q.toNat - 1) (by omega)).2.1
      rw [List.map_cons] at kk ⊢
      change W p l e R s m args below meth c H locs _ _ Q (F0 m _ la (.ref (pu_cn g q) :: _))
      rw [pu_cnK (i := q.toNat - 1) (by omega) (by omega)]
      exact vk_getf hx hb hv hs hown (hts _ hw) (fun _ h => h) hd kk
    · cases ho
  · cases ho
theorem z_sal {X : pu_X} {d : pu_D} {pc index : Nat} {k : pu_K} (hX : pu_H X d) (hd : decode d.2.2.1 pc = .ok (.arraylength, 1)) (h : pu_S X d (pc + 1) k) : pu_S X d pc (s_sal k) := by
  obtain ⟨p, l, e, R, s, m, args, below, meth, c, g, Q, n0, out⟩ := X
  obtain ⟨hx, hb, hml, hown, hts, hK, hsp, hR, hsz, hnm, hE⟩ := hX
  refine z_st h fun ls st M ho => ?_
  unfold s_sal at ho
  split at ho
  · rename_i q st
    split at ho
    · rename_i hc
      refine ⟨_, ho, fun q v hv => by
        have q1 := q.1
        simp only [List.mem_cons, forall_eq_or_imp] at hv q1
        rcases hv with rfl | hv
        · trivial
        · exact q1.2 v hv, fun la H locs _ hl hW hs kk => ?_⟩
      obtain ⟨h1, h2⟩ := hc
      have hv := (hsp.2.1.1 (q.toNat - 101) (by omega)).2.2.2
      rw [List.map_cons] at kk ⊢
      change W p l e R s m args below meth c H locs _ _ Q (F0 m _ la (.ref (pu_cn g q) :: _))
      rw [pu_cnV (i := q.toNat - 101) (by omega)]
      exact va_tlen hx hb hv hs rfl hd kk
    · cases ho
  · cases ho
theorem z_sba {X : pu_X} {d : pu_D} {pc index : Nat} {k : pu_K} (hX : pu_H X d) (hd : decode d.2.2.1 pc = .ok (.baload, 1)) (h : pu_S X d (pc + 1) k) : pu_S X d pc (s_sba k) := by
  obtain ⟨p, l, e, R, s, m, args, below, meth, c, g, Q, n0, out⟩ := X
  obtain ⟨hx, hb, hml, hown, hts, hK, hsp, hR, hsz, hnm, hE⟩ := hX
  refine z_st h fun ls st M ho => ?_
  unfold s_sba at ho
  split at ho
  · rename_i i q st
    split at ho
    · rename_i hc
      refine ⟨_, ho, fun q v hv => by
        have q1 := q.1
        simp only [List.mem_cons, forall_eq_or_imp] at hv q1
        rcases hv with rfl | hv
        · trivial
        · exact q1.2.2 v hv, fun la H locs _ hl hW hs kk => ?_⟩
      obtain ⟨⟨h1, h2⟩, h3⟩ := hc
      have hv := (hsp.2.1.1 (q.toNat - 101) (by omega)).2.2.2
      rw [List.map_cons, List.map_cons]
      rw [List.map_cons] at kk
      change W p l e R s m args below meth c H locs _ _ Q (F0 m _ la (.int i :: .ref (pu_cn g q) :: _))
      rw [pu_cnV (i := q.toNat - 101) (by omega)]
      exact va_tb hx hb hv hs h3 rfl hd kk
    · cases ho
  · cases ho
theorem z_gcs {X : pu_X} {d : pu_D} {pc index : Nat} {k : pu_K} (hX : pu_H X d) (hd : decode d.2.2.1 pc = .ok (.getstatic index, 3)) (hw : Cond.fieldLink d.1 index "java/lang/String" "COMPACT_STRINGS" "Z" ∈ wsL_law) (h : pu_S X d (pc + 3) k) : pu_S X d pc (s_push (.int 1) k) := by
  obtain ⟨p, l, e, R, s, m, args, below, meth, c, g, Q, n0, out⟩ := X
  obtain ⟨hx, hb, hml, hown, hts, hK, hsp, hR, hsz, hnm, hE⟩ := hX
  exact z_st h fun ls st M ho => ⟨_, ho, fun q v hv => by
    rcases List.mem_cons.mp hv with rfl | hv
    · trivial
    · exact q.1 v hv, fun la H locs _ hl hW hs kk => va_gets hx hb hsp.2.2.2.1 hs hown (hts _ hw) (fun _ h => h) hd kk⟩
theorem z_gso {X : pu_X} {d : pu_D} {pc index : Nat} {k : pu_K} (hX : pu_H X d) (hd : decode d.2.2.1 pc = .ok (.getstatic index, 3)) (hw : Cond.fieldLink d.1 index "jdk/internal/util/Preconditions" "SIOOBE_FORMATTER" "Ljava/util/function/BiFunction;" ∈ wsL_law) (h : pu_S X d (pc + 3) k) : pu_S X d pc (s_push (.retAddr 0) k) := by
  obtain ⟨p, l, e, R, s, m, args, below, meth, c, g, Q, n0, out⟩ := X
  obtain ⟨hx, hb, hml, hown, hts, hK, hsp, hR, hsz, hnm, hE⟩ := hX
  exact z_st h fun ls st M ho => ⟨_, ho, fun q v hv => by
    rcases List.mem_cons.mp hv with rfl | hv
    · trivial
    · exact q.1 v hv, fun la H locs _ hl hW hs kk => va_gets hx hb hsp.2.2.2.2.2.1 hs hown (hts _ hw) (fun _ h => h) hd kk⟩
theorem w_pr' {k k' : pu_K} {x : Nat} (h : pu_V k k') : pu_V (s_push (.retAddr x) k) (s_push (.retAddr x) k') := ⟨y_push (fun _ => trivial) h.1, fun ls st M o ho => h.2 ls _ M o ho⟩
theorem v_pr' {kf : Nat → pu_K} {k : pu_K} {x : Nat} (h : pu_T kf k) : pu_T (fun f => s_push (.retAddr x) (kf f)) (s_push (.retAddr x) k) := ⟨fun f => w_pr' (h.1 f), fun f => w_pr' (h.2.1 f), fun ls st M o ho => h.2.2 ls _ M o ho⟩
theorem w_gsv {k k' : pu_K} (h : pu_V k k') : pu_V (s_gsv k) (s_gsv k') := by
  refine ⟨fun ls st M o ho hS => ?_, fun ls st M o ho => ?_⟩
  · unfold s_gsv at ho
    split at ho
    · split at ho
      · exact h.1 ls _ M o ho ⟨fun v hv => by
          have q1 := hS.1
          simp only [List.mem_cons, forall_eq_or_imp] at hv q1
          rcases hv with rfl | hv
          · trivial
          · exact q1.2 v hv, hS.2⟩
      · cases ho
    · cases ho
  · unfold s_gsv at ho ⊢
    split at ho
    · split at ho
      · rename_i hc
        exact (if_pos hc).trans (h.2 _ _ _ _ ho)
      · cases ho
    · cases ho
theorem v_gsv {kf : Nat → pu_K} {k : pu_K} (h : pu_T kf k) : pu_T (fun f => s_gsv (kf f)) (s_gsv k) := by
  refine ⟨fun f => w_gsv (h.1 f), fun f => w_gsv (h.2.1 f), fun ls st M o ho => ?_⟩
  unfold s_gsv at ho ⊢
  split at ho
  · split at ho
    · rename_i hc
      obtain ⟨f, hf⟩ := h.2.2 _ _ _ _ ho
      exact ⟨f, (if_pos hc).trans hf⟩
    · cases ho
  · cases ho
theorem w_gsc {k k' : pu_K} (h : pu_V k k') : pu_V (s_gsc k) (s_gsc k') := by
  refine ⟨fun ls st M o ho hS => ?_, fun ls st M o ho => ?_⟩
  · unfold s_gsc at ho
    split at ho
    · split at ho
      · exact h.1 ls _ M o ho ⟨fun v hv => by
          have q1 := hS.1
          simp only [List.mem_cons, forall_eq_or_imp] at hv q1
          rcases hv with rfl | hv
          · trivial
          · exact q1.2 v hv, hS.2⟩
      · cases ho
    · cases ho
  · unfold s_gsc at ho ⊢
    split at ho
    · split at ho
      · rename_i hc
        exact (if_pos hc).trans (h.2 _ _ _ _ ho)
      · cases ho
    · cases ho
theorem v_gsc {kf : Nat → pu_K} {k : pu_K} (h : pu_T kf k) : pu_T (fun f => s_gsc (kf f)) (s_gsc k) := by
  refine ⟨fun f => w_gsc (h.1 f), fun f => w_gsc (h.2.1 f), fun ls st M o ho => ?_⟩
  unfold s_gsc at ho ⊢
  split at ho
  · split at ho
    · rename_i hc
      obtain ⟨f, hf⟩ := h.2.2 _ _ _ _ ho
      exact ⟨f, (if_pos hc).trans hf⟩
    · cases ho
  · cases ho
theorem w_sal {k k' : pu_K} (h : pu_V k k') : pu_V (s_sal k) (s_sal k') := by
  refine ⟨fun ls st M o ho hS => ?_, fun ls st M o ho => ?_⟩
  · unfold s_sal at ho
    split at ho
    · split at ho
      · exact h.1 ls _ M o ho ⟨fun v hv => by
          have q1 := hS.1
          simp only [List.mem_cons, forall_eq_or_imp] at hv q1
          rcases hv with rfl | hv
          · trivial
          · exact q1.2 v hv, hS.2⟩
      · cases ho
    · cases ho
  · unfold s_sal at ho ⊢
    split at ho
    · split at ho
      · rename_i hc
        exact (if_pos hc).trans (h.2 _ _ _ _ ho)
      · cases ho
    · cases ho
theorem v_sal {kf : Nat → pu_K} {k : pu_K} (h : pu_T kf k) : pu_T (fun f => s_sal (kf f)) (s_sal k) := by
  refine ⟨fun f => w_sal (h.1 f), fun f => w_sal (h.2.1 f), fun ls st M o ho => ?_⟩
  unfold s_sal at ho ⊢
  split at ho
  · split at ho
    · rename_i hc
      obtain ⟨f, hf⟩ := h.2.2 _ _ _ _ ho
      exact ⟨f, (if_pos hc).trans hf⟩
    · cases ho
  · cases ho
theorem w_sba {k k' : pu_K} (h : pu_V k k') : pu_V (s_sba k) (s_sba k') := by
  refine ⟨fun ls st M o ho hS => ?_, fun ls st M o ho => ?_⟩
  · unfold s_sba at ho
    split at ho
    · split at ho
      · exact h.1 ls _ M o ho ⟨fun v hv => by
          have q1 := hS.1
          simp only [List.mem_cons, forall_eq_or_imp] at hv q1
          rcases hv with rfl | hv
          · trivial
          · exact q1.2.2 v hv, hS.2⟩
      · cases ho
    · cases ho
  · unfold s_sba at ho ⊢
    split at ho
    · split at ho
      · rename_i hc
        exact (if_pos hc).trans (h.2 _ _ _ _ ho)
      · cases ho
    · cases ho
theorem v_sba {kf : Nat → pu_K} {k : pu_K} (h : pu_T kf k) : pu_T (fun f => s_sba (kf f)) (s_sba k) := by
  refine ⟨fun f => w_sba (h.1 f), fun f => w_sba (h.2.1 f), fun ls st M o ho => ?_⟩
  unfold s_sba at ho ⊢
  split at ho
  · split at ho
    · rename_i hc
      obtain ⟨f, hf⟩ := h.2.2 _ _ _ _ ho
      exact ⟨f, (if_pos hc).trans hf⟩
    · cases ho
  · cases ho
/-- a call whose receiver is a text -/
def s_ct (r : pu_R) (j n : Nat) (k : pu_K) : pu_K := fun ls st M => match st.drop n with
  | .float a :: rest => if ((1 ≤ a.toNat ∧ a.toNat < 7) ∧ (st.take n).length = n) ∧ (rest.map fun v => v.category).sum ≤ 8 then pu_bk k ls rest (r j (pu_as (.float a :: (st.take n).reverse)) [] M) else none
  | _ => none
theorem z_ct {X : pu_X} {d d' : pu_D} {pc j n index : Nat} {k : pu_K} {r : pu_R} (hX : pu_H X d) (hr : pu_P X.2.1 X.2.2.2.2.2.2.2.2.2.2.1 r) (hd : decode d.2.2.1 pc = .ok (.invokevirtual index, 3)) (hj : pu_tab[j]? = some d') (hm : pu_mw d' n) (hc : d'.2.1.cls = "java/lang/String") (hl : Cond.methodLink d.1 index d'.2.1 ∈ wsL_law) (hi : Cond.instanceMethod d'.2.1 ∈ wsL_law ∧ Cond.selects d'.2.1.cls d'.2.1 d'.2.1 ∈ wsL_law) (hR : d'.2.2.2.2.2.1 + 1 ≤ d.2.2.2.2.2.1 ∧ 8 + (d'.2.2.2.1 + 11) + d'.2.2.2.2.2.2 ≤ d.2.2.2.2.2.2) (h : pu_S X d (pc + 3) k) : pu_S X d pc (s_ct r j n k) := by
  obtain ⟨p, l, e, R, s, m, args, below, meth, c', g, Q, n0, out⟩ := X
  intro ls st M ho hS hn
  unfold s_ct at ho
  split at ho
  · rename_i a rest hdr
    split at ho
    · rename_i hs
      obtain ⟨⟨hs1, hs2⟩, hs3⟩ := hs
      have hst : st = st.take n ++ .float a :: rest := by rw [← hdr, List.take_append_drop]
      refine pu_call (X := (p, l, e, R, s, m, args, below, meth, c', g, Q, n0, out)) hX hr hj hS hn (fun v hv => ?_) (fun v hv => by rw [hst]; simp [hv]) h ho fun o hC hmo hoo la H locs hlv hW hs => ?_
      · rw [hst]
        rcases List.mem_cons.mp hv with rfl | hv
        · simp
        · exact List.mem_append_left _ (List.mem_reverse.mp hv)
      · obtain ⟨hx, hb, hml, hown, hts, hK, hsp, hRR, hsz, hnm, hE⟩ := hX
        dsimp only at *
        have hsl : pu_sl M.2.2.2 ≤ pu_sl o.2.2.2.2 := pu_sl_mono hmo
        have hsl1 : pu_sl o.2.2.2.2 ≤ pu_sl out.2.2.2.2 := pu_sl_mono hoo
        have hsl0 : pu_sl n0 ≤ pu_sl M.2.2.2 := pu_sl_mono hn
        have hrec : ∃ cellB : Cell, H[pu_cn g a]? = some cellB ∧ cellB.vm.isStatics = false ∧ s.vm.findClass d'.2.1.cls = some cellB.cls := by
          rw [hc, pu_cnK (i := a.toNat - 1) (by omega) (by omega)]
          exact vk_recv hsp.2.1 (by omega) hs
        exact va_runV (Ts := wsL_law) (As := (st.take n).reverse.map (pu_t g)) (rest := rest.map (pu_t g)) (nL := d.2.2.2.1) ⟨hx, hb, hml, hown, hts⟩ hC ⟨callB_of n hts (pu_gc hm.1) rfl rfl rfl (hts _ hm.2.1) (hts _ hl) hm.2.2 ⟨Nat.le_trans hR.1 hRR.2.2.1, Nat.le_trans hR.2 hRR.2.2.2⟩, hts _ hi.1, hts _ hi.2⟩ ⟨pu_blind g M _, hrec, pu_pre (vs := .float a :: (st.take n).reverse) hK hsp (by rw [hsz]; omega) hW hs⟩ rfl (by rw [List.length_map, List.length_reverse]; exact hs2) hlv.1.1 (by
          show st.map (pu_t g) = _
          rw [← List.map_reverse, List.reverse_reverse]
          conv => lhs; rw [hst]
          rw [List.map_append]; rfl) (lv_room (pu_cat8 hs3)) hd ⟨by have := hRR.1; omega, by have := hRR.2.1; omega⟩
    · cases ho
  · cases ho
theorem w_ct {k k' : pu_K} {r r' : pu_R} {j n : Nat} (hr : ∀ i, pu_V (r i) (r' i)) (h : pu_V k k') : pu_V (s_ct r j n k) (s_ct r' j n k') := by
  refine ⟨fun ls st M o ho hS => ?_, fun ls st M o ho => ?_⟩
  · unfold s_ct at ho
    split at ho
    · rename_i a rest hdr
      have hst : st = st.take n ++ .float a :: rest := by rw [← hdr, List.take_append_drop]
      split at ho
      · exact pu_bkz (fun i => (hr i).1) h.1 hS (fun v hv => by
          rw [hst]
          rcases List.mem_cons.mp hv with rfl | hv
          · simp
          · exact List.mem_append_left _ (List.mem_reverse.mp hv)) (fun v hv => by rw [hst]; simp [hv]) ho
      · cases ho
    · cases ho
  · unfold s_ct at ho ⊢
    split at ho
    · rename_i a rest hdr
      try rw [hdr]
      split at ho
      · rename_i hc
        exact (if_pos hc).trans (pu_bkm h.2 (fun x hx => (hr j).2 _ _ _ _ hx) ho)
      · cases ho
    · cases ho
theorem v_ct {kf : Nat → pu_K} {k : pu_K} {rf : Nat → pu_R} {r : pu_R} {j n : Nat} (hr : ∀ i, pu_T (fun f => rf f i) (r i)) (h : pu_T kf k) : pu_T (fun f => s_ct (rf f) j n (kf f)) (s_ct r j n k) := by
  refine ⟨fun f => w_ct (fun i => (hr i).1 f) (h.1 f), fun f => w_ct (fun i => (hr i).2.1 f) (h.2.1 f), fun ls st M o ho => ?_⟩
  unfold s_ct at ho ⊢
  split at ho
  · rename_i a rest hdr
    split at ho
    · rename_i hc
      obtain ⟨f, hf⟩ := pu_bkt h (hr j) ho
      refine ⟨f, ?_⟩
      dsimp only
      rw [hdr]
      exact (if_pos hc).trans hf
    · cases ho
  · cases ho
