/-! what the limit answers, some fuel answers -/
def pu_T (kf : Nat → pu_K) (k : pu_K) : Prop := (∀ f, pu_V (kf f) (kf (f + 1))) ∧ (∀ f, pu_V (kf f) k) ∧ ∀ (ls : pu_L) (st : List Value) (M : pu_M) (o : pu_O), k ls st M = some o → ∃ f, kf f ls st M = some o
theorem pu_T_mono {kf : Nat → pu_K} {k : pu_K} (h : pu_T kf k) {f f' : Nat} (hf : f ≤ f') : pu_le (kf f) (kf f') := by
  induction f' with
  | zero => rw [Nat.le_zero.mp hf]; exact fun _ _ _ _ h => h
  | succ n ih =>
    rcases Nat.lt_or_ge f (n + 1) with q | q
    · exact fun ls st M o ho => (h.1 n).2 _ _ _ _ (ih (by omega) ls st M o ho)
    · rw [show f = n + 1 by omega]; exact fun _ _ _ _ h => h
theorem v_pi {kf : Nat → pu_K} {k : pu_K} {x : Int32} (h : pu_T kf k) : pu_T (fun f => s_push (.int x) (kf f)) (s_push (.int x) k) := ⟨fun f => w_pi' (h.1 f), fun f => w_pi' (h.2.1 f), fun ls st M o ho => h.2.2 ls _ M o ho⟩
theorem v_pl {kf : Nat → pu_K} {k : pu_K} {x : Int64} (h : pu_T kf k) : pu_T (fun f => s_push (.long x) (kf f)) (s_push (.long x) k) := ⟨fun f => w_pl' (h.1 f), fun f => w_pl' (h.2.1 f), fun ls st M o ho => h.2.2 ls _ M o ho⟩
theorem v_pf {kf : Nat → pu_K} {k : pu_K} {x : UInt32} (h : pu_T kf k) : pu_T (fun f => s_push (.float x) (kf f)) (s_push (.float x) k) := ⟨fun f => w_pf' (h.1 f), fun f => w_pf' (h.2.1 f), fun ls st M o ho => h.2.2 ls _ M o ho⟩
theorem v_ild {kf : Nat → pu_K} {k : pu_K} {i : Nat} (h : pu_T kf k) : pu_T (fun f => s_ild i (kf f)) (s_ild i k) := by
  refine ⟨fun f => w_ild (h.1 f), fun f => w_ild (h.2.1 f), fun ls st M o ho => ?_⟩
  unfold s_ild at ho ⊢
  split at ho
  · rename_i x hi2
    obtain ⟨f, hf⟩ := h.2.2 _ _ _ _ ho
    refine ⟨f, ?_⟩
    dsimp only
    rw [hi2]
    exact hf
  · cases ho
theorem v_lld {kf : Nat → pu_K} {k : pu_K} {i : Nat} (h : pu_T kf k) : pu_T (fun f => s_lld i (kf f)) (s_lld i k) := by
  refine ⟨fun f => w_lld (h.1 f), fun f => w_lld (h.2.1 f), fun ls st M o ho => ?_⟩
  unfold s_lld at ho ⊢
  split at ho
  · rename_i x hi2
    obtain ⟨f, hf⟩ := h.2.2 _ _ _ _ ho
    refine ⟨f, ?_⟩
    dsimp only
    rw [hi2]
    exact hf
  · cases ho
theorem v_ald {kf : Nat → pu_K} {k : pu_K} {i : Nat} (h : pu_T kf k) : pu_T (fun f => s_ald i (kf f)) (s_ald i k) := by
  refine ⟨fun f => w_ald (h.1 f), fun f => w_ald (h.2.1 f), fun ls st M o ho => ?_⟩
  unfold s_ald at ho ⊢
  split at ho
  · rename_i x hi2
    obtain ⟨f, hf⟩ := h.2.2 _ _ _ _ ho
    refine ⟨f, ?_⟩
    dsimp only
    rw [hi2]
    exact hf
  · rename_i x hi2
    obtain ⟨f, hf⟩ := h.2.2 _ _ _ _ ho
    refine ⟨f, ?_⟩
    dsimp only
    rw [hi2]
    exact hf
  · cases ho
theorem v_inc {kf : Nat → pu_K} {k : pu_K} {i : Nat} {n : Int32} (h : pu_T kf k) : pu_T (fun f => s_inc i n (kf f)) (s_inc i n k) := by
  refine ⟨fun f => w_inc (h.1 f), fun f => w_inc (h.2.1 f), fun ls st M o ho => ?_⟩
  unfold s_inc at ho ⊢
  split at ho
  · rename_i x hi2
    obtain ⟨f, hf⟩ := h.2.2 _ _ _ _ ho
    refine ⟨f, ?_⟩
    dsimp only
    rw [hi2]
    exact hf
  · cases ho
theorem v_iadd {kf : Nat → pu_K} {k : pu_K} (h : pu_T kf k) : pu_T (fun f => s_iadd (kf f)) (s_iadd k) := by
  refine ⟨fun f => w_iadd (h.1 f), fun f => w_iadd (h.2.1 f), fun ls st M o ho => ?_⟩
  unfold s_iadd at ho ⊢
  split at ho
  · exact h.2.2 _ _ _ _ ho
  · cases ho
theorem v_isub {kf : Nat → pu_K} {k : pu_K} (h : pu_T kf k) : pu_T (fun f => s_isub (kf f)) (s_isub k) := by
  refine ⟨fun f => w_isub (h.1 f), fun f => w_isub (h.2.1 f), fun ls st M o ho => ?_⟩
  unfold s_isub at ho ⊢
  split at ho
  · exact h.2.2 _ _ _ _ ho
  · cases ho
theorem v_imul {kf : Nat → pu_K} {k : pu_K} (h : pu_T kf k) : pu_T (fun f => s_imul (kf f)) (s_imul k) := by
  refine ⟨fun f => w_imul (h.1 f), fun f => w_imul (h.2.1 f), fun ls st M o ho => ?_⟩
  unfold s_imul at ho ⊢
  split at ho
  · exact h.2.2 _ _ _ _ ho
  · cases ho
theorem v_iand {kf : Nat → pu_K} {k : pu_K} (h : pu_T kf k) : pu_T (fun f => s_iand (kf f)) (s_iand k) := by
  refine ⟨fun f => w_iand (h.1 f), fun f => w_iand (h.2.1 f), fun ls st M o ho => ?_⟩
  unfold s_iand at ho ⊢
  split at ho
  · exact h.2.2 _ _ _ _ ho
  · cases ho
theorem v_ishr {kf : Nat → pu_K} {k : pu_K} (h : pu_T kf k) : pu_T (fun f => s_ishr (kf f)) (s_ishr k) := by
  refine ⟨fun f => w_ishr (h.1 f), fun f => w_ishr (h.2.1 f), fun ls st M o ho => ?_⟩
  unfold s_ishr at ho ⊢
  split at ho
  · exact h.2.2 _ _ _ _ ho
  · cases ho
theorem v_ishl {kf : Nat → pu_K} {k : pu_K} (h : pu_T kf k) : pu_T (fun f => s_ishl (kf f)) (s_ishl k) := by
  refine ⟨fun f => w_ishl (h.1 f), fun f => w_ishl (h.2.1 f), fun ls st M o ho => ?_⟩
  unfold s_ishl at ho ⊢
  split at ho
  · exact h.2.2 _ _ _ _ ho
  · cases ho
theorem v_ior {kf : Nat → pu_K} {k : pu_K} (h : pu_T kf k) : pu_T (fun f => s_ior (kf f)) (s_ior k) := by
  refine ⟨fun f => w_ior (h.1 f), fun f => w_ior (h.2.1 f), fun ls st M o ho => ?_⟩
  unfold s_ior at ho ⊢
  split at ho
  · exact h.2.2 _ _ _ _ ho
  · cases ho
theorem v_ladd {kf : Nat → pu_K} {k : pu_K} (h : pu_T kf k) : pu_T (fun f => s_ladd (kf f)) (s_ladd k) := by
  refine ⟨fun f => w_ladd (h.1 f), fun f => w_ladd (h.2.1 f), fun ls st M o ho => ?_⟩
  unfold s_ladd at ho ⊢
  split at ho
  · exact h.2.2 _ _ _ _ ho
  · cases ho
theorem v_lsub {kf : Nat → pu_K} {k : pu_K} (h : pu_T kf k) : pu_T (fun f => s_lsub (kf f)) (s_lsub k) := by
  refine ⟨fun f => w_lsub (h.1 f), fun f => w_lsub (h.2.1 f), fun ls st M o ho => ?_⟩
  unfold s_lsub at ho ⊢
  split at ho
  · exact h.2.2 _ _ _ _ ho
  · cases ho
theorem v_lmul {kf : Nat → pu_K} {k : pu_K} (h : pu_T kf k) : pu_T (fun f => s_lmul (kf f)) (s_lmul k) := by
  refine ⟨fun f => w_lmul (h.1 f), fun f => w_lmul (h.2.1 f), fun ls st M o ho => ?_⟩
  unfold s_lmul at ho ⊢
  split at ho
  · exact h.2.2 _ _ _ _ ho
  · cases ho
theorem v_lcmp {kf : Nat → pu_K} {k : pu_K} (h : pu_T kf k) : pu_T (fun f => s_lcmp (kf f)) (s_lcmp k) := by
  refine ⟨fun f => w_lcmp (h.1 f), fun f => w_lcmp (h.2.1 f), fun ls st M o ho => ?_⟩
  unfold s_lcmp at ho ⊢
  split at ho
  · exact h.2.2 _ _ _ _ ho
  · cases ho
theorem v_i2l {kf : Nat → pu_K} {k : pu_K} (h : pu_T kf k) : pu_T (fun f => s_i2l (kf f)) (s_i2l k) := by
  refine ⟨fun f => w_i2l (h.1 f), fun f => w_i2l (h.2.1 f), fun ls st M o ho => ?_⟩
  unfold s_i2l at ho ⊢
  split at ho
  · exact h.2.2 _ _ _ _ ho
  · cases ho
theorem v_l2i {kf : Nat → pu_K} {k : pu_K} (h : pu_T kf k) : pu_T (fun f => s_l2i (kf f)) (s_l2i k) := by
  refine ⟨fun f => w_l2i (h.1 f), fun f => w_l2i (h.2.1 f), fun ls st M o ho => ?_⟩
  unfold s_l2i at ho ⊢
  split at ho
  · exact h.2.2 _ _ _ _ ho
  · cases ho
theorem v_i2b {kf : Nat → pu_K} {k : pu_K} (h : pu_T kf k) : pu_T (fun f => s_i2b (kf f)) (s_i2b k) := by
  refine ⟨fun f => w_i2b (h.1 f), fun f => w_i2b (h.2.1 f), fun ls st M o ho => ?_⟩
  unfold s_i2b at ho ⊢
  split at ho
  · exact h.2.2 _ _ _ _ ho
  · cases ho
theorem v_ineg {kf : Nat → pu_K} {k : pu_K} (h : pu_T kf k) : pu_T (fun f => s_ineg (kf f)) (s_ineg k) := by
  refine ⟨fun f => w_ineg (h.1 f), fun f => w_ineg (h.2.1 f), fun ls st M o ho => ?_⟩
  unfold s_ineg at ho ⊢
  split at ho
  · exact h.2.2 _ _ _ _ ho
  · cases ho
theorem v_idiv {kf : Nat → pu_K} {k : pu_K} (h : pu_T kf k) : pu_T (fun f => s_idiv (kf f)) (s_idiv k) := by
  refine ⟨fun f => w_idiv (h.1 f), fun f => w_idiv (h.2.1 f), fun ls st M o ho => ?_⟩
  unfold s_idiv at ho ⊢
  split at ho
  · split at ho
    · rename_i hc
      obtain ⟨f, hf⟩ := h.2.2 _ _ _ _ ho
      exact ⟨f, (if_pos hc).trans hf⟩
    · cases ho
  · cases ho
theorem v_irem {kf : Nat → pu_K} {k : pu_K} (h : pu_T kf k) : pu_T (fun f => s_irem (kf f)) (s_irem k) := by
  refine ⟨fun f => w_irem (h.1 f), fun f => w_irem (h.2.1 f), fun ls st M o ho => ?_⟩
  unfold s_irem at ho ⊢
  split at ho
  · split at ho
    · rename_i hc
      obtain ⟨f, hf⟩ := h.2.2 _ _ _ _ ho
      exact ⟨f, (if_pos hc).trans hf⟩
    · cases ho
  · cases ho
theorem v_ldiv {kf : Nat → pu_K} {k : pu_K} (h : pu_T kf k) : pu_T (fun f => s_ldiv (kf f)) (s_ldiv k) := by
  refine ⟨fun f => w_ldiv (h.1 f), fun f => w_ldiv (h.2.1 f), fun ls st M o ho => ?_⟩
  unfold s_ldiv at ho ⊢
  split at ho
  · split at ho
    · rename_i hc
      obtain ⟨f, hf⟩ := h.2.2 _ _ _ _ ho
      exact ⟨f, (if_pos hc).trans hf⟩
    · cases ho
  · cases ho
theorem v_max {kf : Nat → pu_K} {k : pu_K} (h : pu_T kf k) : pu_T (fun f => s_max (kf f)) (s_max k) := by
  refine ⟨fun f => w_max (h.1 f), fun f => w_max (h.2.1 f), fun ls st M o ho => ?_⟩
  unfold s_max at ho ⊢
  split at ho
  · split at ho
    · rename_i hc
      obtain ⟨f, hf⟩ := h.2.2 _ _ _ _ ho
      exact ⟨f, (if_pos hc).trans hf⟩
    · cases ho
  · cases ho
theorem v_min {kf : Nat → pu_K} {k : pu_K} (h : pu_T kf k) : pu_T (fun f => s_min (kf f)) (s_min k) := by
  refine ⟨fun f => w_min (h.1 f), fun f => w_min (h.2.1 f), fun ls st M o ho => ?_⟩
  unfold s_min at ho ⊢
  split at ho
  · split at ho
    · rename_i hc
      obtain ⟨f, hf⟩ := h.2.2 _ _ _ _ ho
      exact ⟨f, (if_pos hc).trans hf⟩
    · cases ho
  · cases ho
theorem v_abs {kf : Nat → pu_K} {k : pu_K} (h : pu_T kf k) : pu_T (fun f => s_abs (kf f)) (s_abs k) := by
  refine ⟨fun f => w_abs (h.1 f), fun f => w_abs (h.2.1 f), fun ls st M o ho => ?_⟩
  unfold s_abs at ho ⊢
  split at ho
  · split at ho
    · rename_i hc
      obtain ⟨f, hf⟩ := h.2.2 _ _ _ _ ho
      exact ⟨f, (if_pos hc).trans hf⟩
    · cases ho
  · cases ho
theorem v_dup {kf : Nat → pu_K} {k : pu_K} (h : pu_T kf k) : pu_T (fun f => s_dup (kf f)) (s_dup k) := by
  refine ⟨fun f => w_dup (h.1 f), fun f => w_dup (h.2.1 f), fun ls st M o ho => ?_⟩
  unfold s_dup at ho ⊢
  split at ho
  · split at ho
    · rename_i hc
      obtain ⟨f, hf⟩ := h.2.2 _ _ _ _ ho
      exact ⟨f, (if_pos hc).trans hf⟩
    · cases ho
  · cases ho
theorem v_dup2 {kf : Nat → pu_K} {k : pu_K} (h : pu_T kf k) : pu_T (fun f => s_dup2 (kf f)) (s_dup2 k) := by
  refine ⟨fun f => w_dup2 (h.1 f), fun f => w_dup2 (h.2.1 f), fun ls st M o ho => ?_⟩
  unfold s_dup2 at ho ⊢
  split at ho
  · split at ho
    · rename_i hc
      obtain ⟨f, hf⟩ := h.2.2 _ _ _ _ ho
      exact ⟨f, (if_pos hc).trans hf⟩
    · cases ho
  · cases ho
theorem v_pop {kf : Nat → pu_K} {k : pu_K} (h : pu_T kf k) : pu_T (fun f => s_pop (kf f)) (s_pop k) := by
  refine ⟨fun f => w_pop (h.1 f), fun f => w_pop (h.2.1 f), fun ls st M o ho => ?_⟩
  unfold s_pop at ho ⊢
  split at ho
  · split at ho
    · rename_i hc
      obtain ⟨f, hf⟩ := h.2.2 _ _ _ _ ho
      exact ⟨f, (if_pos hc).trans hf⟩
    · cases ho
  · cases ho
theorem v_obj {kf : Nat → pu_K} {k : pu_K} (h : pu_T kf k) : pu_T (fun f => s_obj (kf f)) (s_obj k) := by
  refine ⟨fun f => w_obj (h.1 f), fun f => w_obj (h.2.1 f), fun ls st M o ho => ?_⟩
  unfold s_obj at ho ⊢
  split at ho
  · split at ho
    · rename_i hc
      obtain ⟨f, hf⟩ := h.2.2 _ _ _ _ ho
      exact ⟨f, (if_pos hc).trans hf⟩
    · cases ho
  · cases ho
theorem v_len {kf : Nat → pu_K} {k : pu_K} (h : pu_T kf k) : pu_T (fun f => s_len (kf f)) (s_len k) := by
  refine ⟨fun f => w_len (h.1 f), fun f => w_len (h.2.1 f), fun ls st M o ho => ?_⟩
  unfold s_len at ho ⊢
  split at ho
  · split at ho
    · rename_i hc
      obtain ⟨f, hf⟩ := h.2.2 _ _ _ _ ho
      exact ⟨f, (if_pos hc).trans hf⟩
    · cases ho
  · cases ho
theorem v_al {kf : Nat → pu_K} {k : pu_K} (h : pu_T kf k) : pu_T (fun f => s_al (kf f)) (s_al k) := by
  refine ⟨fun f => w_al (h.1 f), fun f => w_al (h.2.1 f), fun ls st M o ho => ?_⟩
  unfold s_al at ho ⊢
  split at ho
  · split at ho
    · rename_i hc
      obtain ⟨f, hf⟩ := h.2.2 _ _ _ _ ho
      exact ⟨f, (if_pos hc).trans hf⟩
    · cases ho
  · cases ho
theorem v_ar {kf : Nat → pu_K} {k : pu_K} (h : pu_T kf k) : pu_T (fun f => s_ar (kf f)) (s_ar k) := by
  refine ⟨fun f => w_ar (h.1 f), fun f => w_ar (h.2.1 f), fun ls st M o ho => ?_⟩
  unfold s_ar at ho ⊢
  split at ho
  · split at ho
    · rename_i hc
      obtain ⟨f, hf⟩ := h.2.2 _ _ _ _ ho
      exact ⟨f, (if_pos hc).trans hf⟩
    · cases ho
  · cases ho
theorem v_wb {kf : Nat → pu_K} {k : pu_K} (h : pu_T kf k) : pu_T (fun f => s_wb (kf f)) (s_wb k) := by
  refine ⟨fun f => w_wb (h.1 f), fun f => w_wb (h.2.1 f), fun ls st M o ho => ?_⟩
  unfold s_wb at ho ⊢
  split at ho
  · split at ho
    · rename_i hc
      obtain ⟨f, hf⟩ := h.2.2 _ _ _ _ ho
      exact ⟨f, (if_pos hc).trans hf⟩
    · cases ho
  · cases ho
theorem v_wz {kf : Nat → pu_K} {k : pu_K} (h : pu_T kf k) : pu_T (fun f => s_wz (kf f)) (s_wz k) := by
  refine ⟨fun f => w_wz (h.1 f), fun f => w_wz (h.2.1 f), fun ls st M o ho => ?_⟩
  unfold s_wz at ho ⊢
  split at ho
  · split at ho
    · rename_i hc
      obtain ⟨f, hf⟩ := h.2.2 _ _ _ _ ho
      exact ⟨f, (if_pos hc).trans hf⟩
    · cases ho
  · cases ho
theorem v_wl {kf : Nat → pu_K} {k : pu_K} (h : pu_T kf k) : pu_T (fun f => s_wl (kf f)) (s_wl k) := by
  refine ⟨fun f => w_wl (h.1 f), fun f => w_wl (h.2.1 f), fun ls st M o ho => ?_⟩
  unfold s_wl at ho ⊢
  split at ho
  · split at ho
    · rename_i hc
      obtain ⟨f, hf⟩ := h.2.2 _ _ _ _ ho
      exact ⟨f, (if_pos hc).trans hf⟩
    · cases ho
  · cases ho
theorem v_wr {kf : Nat → pu_K} {k : pu_K} (h : pu_T kf k) : pu_T (fun f => s_wr (kf f)) (s_wr k) := by
  refine ⟨fun f => w_wr (h.1 f), fun f => w_wr (h.2.1 f), fun ls st M o ho => ?_⟩
  unfold s_wr at ho ⊢
  split at ho
  · split at ho
    · rename_i hc
      obtain ⟨f, hf⟩ := h.2.2 _ _ _ _ ho
      exact ⟨f, (if_pos hc).trans hf⟩
    · cases ho
  · cases ho
theorem v_cp1 {kf : Nat → pu_K} {k : pu_K} (h : pu_T kf k) : pu_T (fun f => s_cp1 (kf f)) (s_cp1 k) := by
  refine ⟨fun f => w_cp1 (h.1 f), fun f => w_cp1 (h.2.1 f), fun ls st M o ho => ?_⟩
  unfold s_cp1 at ho ⊢
  split at ho
  · split at ho
    · rename_i hc
      obtain ⟨f, hf⟩ := h.2.2 _ _ _ _ ho
      exact ⟨f, (if_pos hc).trans hf⟩
    · cases ho
  · cases ho
theorem v_cp3 {kf : Nat → pu_K} {k : pu_K} (h : pu_T kf k) : pu_T (fun f => s_cp3 (kf f)) (s_cp3 k) := by
  refine ⟨fun f => w_cp3 (h.1 f), fun f => w_cp3 (h.2.1 f), fun ls st M o ho => ?_⟩
  unfold s_cp3 at ho ⊢
  split at ho
  · split at ho
    · rename_i hc
      obtain ⟨f, hf⟩ := h.2.2 _ _ _ _ ho
      exact ⟨f, (if_pos hc).trans hf⟩
    · cases ho
  · cases ho
theorem v_ai {kf : Nat → pu_K} {k : pu_K} {kd : Nat} (h : pu_T kf k) : pu_T (fun f => s_ai kd (kf f)) (s_ai kd k) := by
  refine ⟨fun f => w_ai (h.1 f), fun f => w_ai (h.2.1 f), fun ls st M o ho => ?_⟩
  unfold s_ai at ho ⊢
  split at ho
  · split at ho
    · rename_i hc
      obtain ⟨f, hf⟩ := h.2.2 _ _ _ _ ho
      exact ⟨f, (if_pos hc).trans hf⟩
    · cases ho
  · cases ho
theorem v_wi {kf : Nat → pu_K} {k : pu_K} {kd : Nat} (h : pu_T kf k) : pu_T (fun f => s_wi kd (kf f)) (s_wi kd k) := by
  refine ⟨fun f => w_wi (h.1 f), fun f => w_wi (h.2.1 f), fun ls st M o ho => ?_⟩
  unfold s_wi at ho ⊢
  split at ho
  · split at ho
    · rename_i hc
      obtain ⟨f, hf⟩ := h.2.2 _ _ _ _ ho
      exact ⟨f, (if_pos hc).trans hf⟩
    · cases ho
  · cases ho
theorem v_na {kf : Nat → pu_K} {k : pu_K} {kd : Nat} (h : pu_T kf k) : pu_T (fun f => s_na kd (kf f)) (s_na kd k) := by
  refine ⟨fun f => w_na (h.1 f), fun f => w_na (h.2.1 f), fun ls st M o ho => ?_⟩
  unfold s_na at ho ⊢
  split at ho
  · split at ho
    · rename_i hc
      obtain ⟨f, hf⟩ := h.2.2 _ _ _ _ ho
      exact ⟨f, (if_pos hc).trans hf⟩
    · cases ho
  · cases ho
theorem v_gi {kf : Nat → pu_K} {k : pu_K} {c : Nat} {j : Nat} (h : pu_T kf k) : pu_T (fun f => s_gi c j (kf f)) (s_gi c j k) := by
  refine ⟨fun f => w_gi (h.1 f), fun f => w_gi (h.2.1 f), fun ls st M o ho => ?_⟩
  unfold s_gi at ho ⊢
  split at ho
  · split at ho
    · rename_i hc
      obtain ⟨f, hf⟩ := h.2.2 _ _ _ _ ho
      exact ⟨f, (if_pos hc).trans hf⟩
    · cases ho
  · cases ho
theorem v_gr {kf : Nat → pu_K} {k : pu_K} {c : Nat} {j : Nat} (h : pu_T kf k) : pu_T (fun f => s_gr c j (kf f)) (s_gr c j k) := by
  refine ⟨fun f => w_gr (h.1 f), fun f => w_gr (h.2.1 f), fun ls st M o ho => ?_⟩
  unfold s_gr at ho ⊢
  split at ho
  · split at ho
    · rename_i hc
      obtain ⟨f, hf⟩ := h.2.2 _ _ _ _ ho
      exact ⟨f, (if_pos hc).trans hf⟩
    · cases ho
  · cases ho
theorem v_puti {kf : Nat → pu_K} {k : pu_K} {c : Nat} {j : Nat} (h : pu_T kf k) : pu_T (fun f => s_pi c j (kf f)) (s_pi c j k) := by
  refine ⟨fun f => w_pi (h.1 f), fun f => w_pi (h.2.1 f), fun ls st M o ho => ?_⟩
  unfold s_pi at ho ⊢
  split at ho
  · split at ho
    · rename_i hc
      obtain ⟨f, hf⟩ := h.2.2 _ _ _ _ ho
      exact ⟨f, (if_pos hc).trans hf⟩
    · cases ho
  · cases ho
theorem v_pz {kf : Nat → pu_K} {k : pu_K} {c : Nat} {j : Nat} (h : pu_T kf k) : pu_T (fun f => s_pz c j (kf f)) (s_pz c j k) := by
  refine ⟨fun f => w_pz (h.1 f), fun f => w_pz (h.2.1 f), fun ls st M o ho => ?_⟩
  unfold s_pz at ho ⊢
  split at ho
  · split at ho
    · rename_i hc
      obtain ⟨f, hf⟩ := h.2.2 _ _ _ _ ho
      exact ⟨f, (if_pos hc).trans hf⟩
    · cases ho
  · cases ho
theorem v_pr {kf : Nat → pu_K} {k : pu_K} {c : Nat} {j : Nat} (h : pu_T kf k) : pu_T (fun f => s_pr c j (kf f)) (s_pr c j k) := by
  refine ⟨fun f => w_pr (h.1 f), fun f => w_pr (h.2.1 f), fun ls st M o ho => ?_⟩
  unfold s_pr at ho ⊢
  split at ho
  · split at ho
    · rename_i hc
      obtain ⟨f, hf⟩ := h.2.2 _ _ _ _ ho
      exact ⟨f, (if_pos hc).trans hf⟩
    · cases ho
  · cases ho
theorem v_ist {kf : Nat → pu_K} {k : pu_K} {i : Nat} (h : pu_T kf k) : pu_T (fun f => s_ist i (kf f)) (s_ist i k) := by
  refine ⟨fun f => w_ist (h.1 f), fun f => w_ist (h.2.1 f), fun ls st M o ho => ?_⟩
  unfold s_ist at ho ⊢
  split at ho
  · split at ho
    · rename_i hc
      obtain ⟨f, hf⟩ := h.2.2 _ _ _ _ ho
      exact ⟨f, (if_pos hc).trans hf⟩
    · cases ho
  · cases ho
theorem v_lst {kf : Nat → pu_K} {k : pu_K} {i : Nat} (h : pu_T kf k) : pu_T (fun f => s_lst i (kf f)) (s_lst i k) := by
  refine ⟨fun f => w_lst (h.1 f), fun f => w_lst (h.2.1 f), fun ls st M o ho => ?_⟩
  unfold s_lst at ho ⊢
  split at ho
  · split at ho
    · rename_i hc
      obtain ⟨f, hf⟩ := h.2.2 _ _ _ _ ho
      exact ⟨f, (if_pos hc).trans hf⟩
    · cases ho
  · cases ho
theorem v_ast {kf : Nat → pu_K} {k : pu_K} {i : Nat} (h : pu_T kf k) : pu_T (fun f => s_ast i (kf f)) (s_ast i k) := by
  refine ⟨fun f => w_ast (h.1 f), fun f => w_ast (h.2.1 f), fun ls st M o ho => ?_⟩
  unfold s_ast at ho ⊢
  split at ho
  · split at ho
    · rename_i hc
      obtain ⟨f, hf⟩ := h.2.2 _ _ _ _ ho
      exact ⟨f, (if_pos hc).trans hf⟩
    · cases ho
  · cases ho
theorem v_sld {kf : Nat → pu_K} {k : pu_K} {L : Nat} {xs : Nat → Int32} (h : pu_T kf k) : pu_T (fun f => s_sld L xs (kf f)) (s_sld L xs k) := by
  refine ⟨fun f => w_sld (h.1 f), fun f => w_sld (h.2.1 f), fun ls st M o ho => ?_⟩
  unfold s_sld at ho ⊢
  split at ho
  · split at ho
    · rename_i hc
      obtain ⟨f, hf⟩ := h.2.2 _ _ _ _ ho
      exact ⟨f, (if_pos hc).trans hf⟩
    · cases ho
  · cases ho
theorem v_sln {kf : Nat → pu_K} {k : pu_K} {L : Nat} (h : pu_T kf k) : pu_T (fun f => s_sln L (kf f)) (s_sln L k) := by
  refine ⟨fun f => w_sln (h.1 f), fun f => w_sln (h.2.1 f), fun ls st M o ho => ?_⟩
  unfold s_sln at ho ⊢
  split at ho
  · exact h.2.2 _ _ _ _ ho
  · cases ho
theorem v_new {kf : Nat → pu_K} {k : pu_K} {c : Nat} (h : pu_T kf k) : pu_T (fun f => s_new c (kf f)) (s_new c k) := by
  refine ⟨fun f => w_new (h.1 f), fun f => w_new (h.2.1 f), fun ls st M o ho => ?_⟩
  unfold s_new at ho ⊢
  split at ho
  · rename_i hc
    obtain ⟨f, hf⟩ := h.2.2 _ _ _ _ ho
    exact ⟨f, (if_pos hc).trans hf⟩
  · cases ho
theorem v_ent {kf : Nat → pu_K} {k : pu_K} {n : Nat} (h : pu_T kf k) : pu_T (fun f => s_ent n (kf f)) (s_ent n k) := by
  refine ⟨fun f => w_ent (h.1 f), fun f => w_ent (h.2.1 f), fun ls st M o ho => ?_⟩
  unfold s_ent at ho ⊢
  split at ho
  · rename_i hc
    obtain ⟨f, hf⟩ := h.2.2 _ _ _ _ ho
    exact ⟨f, (if_pos hc).trans hf⟩
  · cases ho
theorem v_iret : pu_T (fun _ => s_iret) s_iret := ⟨fun _ => w_iret, fun _ => w_iret, fun _ _ _ _ h => ⟨0, h⟩⟩
theorem v_zret : pu_T (fun _ => s_zret) s_zret := ⟨fun _ => w_zret, fun _ => w_zret, fun _ _ _ _ h => ⟨0, h⟩⟩
theorem v_lret : pu_T (fun _ => s_lret) s_lret := ⟨fun _ => w_lret, fun _ => w_lret, fun _ _ _ _ h => ⟨0, h⟩⟩
theorem v_vret : pu_T (fun _ => s_vret) s_vret := ⟨fun _ => w_vret, fun _ => w_vret, fun _ _ _ _ h => ⟨0, h⟩⟩
theorem v_ifeq {tf ff : Nat → pu_K} {kt kf : pu_K} (h1 : pu_T tf kt) (h2 : pu_T ff kf) : pu_T (fun f => s_ifeq (tf f) (ff f)) (s_ifeq kt kf) := by
  refine ⟨fun f => w_ifeq (h1.1 f) (h2.1 f), fun f => w_ifeq (h1.2.1 f) (h2.2.1 f), fun ls st M o ho => ?_⟩
  unfold s_ifeq at ho ⊢
  split at ho
  · split at ho
    · rename_i hc
      obtain ⟨f, hf⟩ := h1.2.2 _ _ _ _ ho
      exact ⟨f, (if_pos hc).trans hf⟩
    · rename_i hc
      obtain ⟨f, hf⟩ := h2.2.2 _ _ _ _ ho
      exact ⟨f, (if_neg hc).trans hf⟩
  · cases ho
theorem v_iceq {tf ff : Nat → pu_K} {kt kf : pu_K} (h1 : pu_T tf kt) (h2 : pu_T ff kf) : pu_T (fun f => s_iceq (tf f) (ff f)) (s_iceq kt kf) := by
  refine ⟨fun f => w_iceq (h1.1 f) (h2.1 f), fun f => w_iceq (h1.2.1 f) (h2.2.1 f), fun ls st M o ho => ?_⟩
  unfold s_iceq at ho ⊢
  split at ho
  · split at ho
    · rename_i hc
      obtain ⟨f, hf⟩ := h1.2.2 _ _ _ _ ho
      exact ⟨f, (if_pos hc).trans hf⟩
    · rename_i hc
      obtain ⟨f, hf⟩ := h2.2.2 _ _ _ _ ho
      exact ⟨f, (if_neg hc).trans hf⟩
  · cases ho
theorem v_ifne {tf ff : Nat → pu_K} {kt kf : pu_K} (h1 : pu_T tf kt) (h2 : pu_T ff kf) : pu_T (fun f => s_ifne (tf f) (ff f)) (s_ifne kt kf) := by
  refine ⟨fun f => w_ifne (h1.1 f) (h2.1 f), fun f => w_ifne (h1.2.1 f) (h2.2.1 f), fun ls st M o ho => ?_⟩
  unfold s_ifne at ho ⊢
  split at ho
  · split at ho
    · rename_i hc
      obtain ⟨f, hf⟩ := h2.2.2 _ _ _ _ ho
      exact ⟨f, (if_pos hc).trans hf⟩
    · rename_i hc
      obtain ⟨f, hf⟩ := h1.2.2 _ _ _ _ ho
      exact ⟨f, (if_neg hc).trans hf⟩
  · cases ho
theorem v_icne {tf ff : Nat → pu_K} {kt kf : pu_K} (h1 : pu_T tf kt) (h2 : pu_T ff kf) : pu_T (fun f => s_icne (tf f) (ff f)) (s_icne kt kf) := by
  refine ⟨fun f => w_icne (h1.1 f) (h2.1 f), fun f => w_icne (h1.2.1 f) (h2.2.1 f), fun ls st M o ho => ?_⟩
  unfold s_icne at ho ⊢
  split at ho
  · split at ho
    · rename_i hc
      obtain ⟨f, hf⟩ := h2.2.2 _ _ _ _ ho
      exact ⟨f, (if_pos hc).trans hf⟩
    · rename_i hc
      obtain ⟨f, hf⟩ := h1.2.2 _ _ _ _ ho
      exact ⟨f, (if_neg hc).trans hf⟩
  · cases ho
theorem v_iflt {tf ff : Nat → pu_K} {kt kf : pu_K} (h1 : pu_T tf kt) (h2 : pu_T ff kf) : pu_T (fun f => s_iflt (tf f) (ff f)) (s_iflt kt kf) := by
  refine ⟨fun f => w_iflt (h1.1 f) (h2.1 f), fun f => w_iflt (h1.2.1 f) (h2.2.1 f), fun ls st M o ho => ?_⟩
  unfold s_iflt at ho ⊢
  split at ho
  · split at ho
    · rename_i hc
      obtain ⟨f, hf⟩ := h1.2.2 _ _ _ _ ho
      exact ⟨f, (if_pos hc).trans hf⟩
    · rename_i hc
      obtain ⟨f, hf⟩ := h2.2.2 _ _ _ _ ho
      exact ⟨f, (if_neg hc).trans hf⟩
  · cases ho
theorem v_iclt {tf ff : Nat → pu_K} {kt kf : pu_K} (h1 : pu_T tf kt) (h2 : pu_T ff kf) : pu_T (fun f => s_iclt (tf f) (ff f)) (s_iclt kt kf) := by
  refine ⟨fun f => w_iclt (h1.1 f) (h2.1 f), fun f => w_iclt (h1.2.1 f) (h2.2.1 f), fun ls st M o ho => ?_⟩
  unfold s_iclt at ho ⊢
  split at ho
  · split at ho
    · rename_i hc
      obtain ⟨f, hf⟩ := h1.2.2 _ _ _ _ ho
      exact ⟨f, (if_pos hc).trans hf⟩
    · rename_i hc
      obtain ⟨f, hf⟩ := h2.2.2 _ _ _ _ ho
      exact ⟨f, (if_neg hc).trans hf⟩
  · cases ho
theorem v_ifge {tf ff : Nat → pu_K} {kt kf : pu_K} (h1 : pu_T tf kt) (h2 : pu_T ff kf) : pu_T (fun f => s_ifge (tf f) (ff f)) (s_ifge kt kf) := by
  refine ⟨fun f => w_ifge (h1.1 f) (h2.1 f), fun f => w_ifge (h1.2.1 f) (h2.2.1 f), fun ls st M o ho => ?_⟩
  unfold s_ifge at ho ⊢
  split at ho
  · split at ho
    · rename_i hc
      obtain ⟨f, hf⟩ := h1.2.2 _ _ _ _ ho
      exact ⟨f, (if_pos hc).trans hf⟩
    · rename_i hc
      obtain ⟨f, hf⟩ := h2.2.2 _ _ _ _ ho
      exact ⟨f, (if_neg hc).trans hf⟩
  · cases ho
theorem v_icge {tf ff : Nat → pu_K} {kt kf : pu_K} (h1 : pu_T tf kt) (h2 : pu_T ff kf) : pu_T (fun f => s_icge (tf f) (ff f)) (s_icge kt kf) := by
  refine ⟨fun f => w_icge (h1.1 f) (h2.1 f), fun f => w_icge (h1.2.1 f) (h2.2.1 f), fun ls st M o ho => ?_⟩
  unfold s_icge at ho ⊢
  split at ho
  · split at ho
    · rename_i hc
      obtain ⟨f, hf⟩ := h1.2.2 _ _ _ _ ho
      exact ⟨f, (if_pos hc).trans hf⟩
    · rename_i hc
      obtain ⟨f, hf⟩ := h2.2.2 _ _ _ _ ho
      exact ⟨f, (if_neg hc).trans hf⟩
  · cases ho
theorem v_ifgt {tf ff : Nat → pu_K} {kt kf : pu_K} (h1 : pu_T tf kt) (h2 : pu_T ff kf) : pu_T (fun f => s_ifgt (tf f) (ff f)) (s_ifgt kt kf) := by
  refine ⟨fun f => w_ifgt (h1.1 f) (h2.1 f), fun f => w_ifgt (h1.2.1 f) (h2.2.1 f), fun ls st M o ho => ?_⟩
  unfold s_ifgt at ho ⊢
  split at ho
  · split at ho
    · rename_i hc
      obtain ⟨f, hf⟩ := h1.2.2 _ _ _ _ ho
      exact ⟨f, (if_pos hc).trans hf⟩
    · rename_i hc
      obtain ⟨f, hf⟩ := h2.2.2 _ _ _ _ ho
      exact ⟨f, (if_neg hc).trans hf⟩
  · cases ho
theorem v_icgt {tf ff : Nat → pu_K} {kt kf : pu_K} (h1 : pu_T tf kt) (h2 : pu_T ff kf) : pu_T (fun f => s_icgt (tf f) (ff f)) (s_icgt kt kf) := by
  refine ⟨fun f => w_icgt (h1.1 f) (h2.1 f), fun f => w_icgt (h1.2.1 f) (h2.2.1 f), fun ls st M o ho => ?_⟩
  unfold s_icgt at ho ⊢
  split at ho
  · split at ho
    · rename_i hc
      obtain ⟨f, hf⟩ := h1.2.2 _ _ _ _ ho
      exact ⟨f, (if_pos hc).trans hf⟩
    · rename_i hc
      obtain ⟨f, hf⟩ := h2.2.2 _ _ _ _ ho
      exact ⟨f, (if_neg hc).trans hf⟩
  · cases ho
theorem v_ifle {tf ff : Nat → pu_K} {kt kf : pu_K} (h1 : pu_T tf kt) (h2 : pu_T ff kf) : pu_T (fun f => s_ifle (tf f) (ff f)) (s_ifle kt kf) := by
  refine ⟨fun f => w_ifle (h1.1 f) (h2.1 f), fun f => w_ifle (h1.2.1 f) (h2.2.1 f), fun ls st M o ho => ?_⟩
  unfold s_ifle at ho ⊢
  split at ho
  · split at ho
    · rename_i hc
      obtain ⟨f, hf⟩ := h1.2.2 _ _ _ _ ho
      exact ⟨f, (if_pos hc).trans hf⟩
    · rename_i hc
      obtain ⟨f, hf⟩ := h2.2.2 _ _ _ _ ho
      exact ⟨f, (if_neg hc).trans hf⟩
  · cases ho
theorem v_icle {tf ff : Nat → pu_K} {kt kf : pu_K} (h1 : pu_T tf kt) (h2 : pu_T ff kf) : pu_T (fun f => s_icle (tf f) (ff f)) (s_icle kt kf) := by
  refine ⟨fun f => w_icle (h1.1 f) (h2.1 f), fun f => w_icle (h1.2.1 f) (h2.2.1 f), fun ls st M o ho => ?_⟩
  unfold s_icle at ho ⊢
  split at ho
  · split at ho
    · rename_i hc
      obtain ⟨f, hf⟩ := h1.2.2 _ _ _ _ ho
      exact ⟨f, (if_pos hc).trans hf⟩
    · rename_i hc
      obtain ⟨f, hf⟩ := h2.2.2 _ _ _ _ ho
      exact ⟨f, (if_neg hc).trans hf⟩
  · cases ho
theorem v_nn {tf ff : Nat → pu_K} {kt kf : pu_K} (h1 : pu_T tf kt) (h2 : pu_T ff kf) : pu_T (fun f => s_nn (tf f) (ff f)) (s_nn kt kf) := by
  refine ⟨fun f => w_nn (h1.1 f) (h2.1 f), fun f => w_nn (h1.2.1 f) (h2.2.1 f), fun ls st M o ho => ?_⟩
  unfold s_nn at ho ⊢
  split at ho
  · exact h1.2.2 _ _ _ _ ho
  · exact h2.2.2 _ _ _ _ ho
  · cases ho
theorem pu_bkt {kf : Nat → pu_K} {k : pu_K} {qf : Nat → pu_K} {q : pu_K} (h : pu_T kf k) (hq : pu_T qf q) {ls a : pu_L} {rest b : List Value} {M : pu_M} {o : pu_O} (ho : pu_bk k ls rest (q a b M) = some o) : ∃ f, pu_bk (kf f) ls rest (qf f a b M) = some o := by
  cases hx : q a b M with
  | none => rw [hx] at ho; cases ho
  | some x =>
    rw [hx] at ho
    obtain ⟨f1, h1⟩ := hq.2.2 _ _ _ _ hx
    obtain ⟨f2, h2⟩ := h.2.2 _ _ _ _ ho
    refine ⟨max f1 f2, ?_⟩
    rw [pu_T_mono hq (Nat.le_max_left f1 f2) _ _ _ _ h1]
    exact pu_T_mono h (Nat.le_max_right f1 f2) _ _ _ _ h2
theorem v_cv {kf : Nat → pu_K} {k : pu_K} {rf : Nat → pu_R} {r : pu_R} {j n c : Nat} (hr : ∀ i, pu_T (fun f => rf f i) (r i)) (h : pu_T kf k) : pu_T (fun f => s_cv (rf f) j n c (kf f)) (s_cv r j n c k) := by
  refine ⟨fun f => w_cv (fun i => (hr i).1 f) (h.1 f), fun f => w_cv (fun i => (hr i).2.1 f) (h.2.1 f), fun ls st M o ho => ?_⟩
  unfold s_cv at ho ⊢
  split at ho
  · rename_i a rest hdr
    split at ho
    · rename_i hc
      obtain ⟨f, hf⟩ := pu_bkt h (hr j) ho
      refine ⟨f, ?_⟩
      dsimp only
      rw [hdr]
      exact (if_pos hc).trans hf
    · cases ho
  · cases ho
theorem v_ci {kf : Nat → pu_K} {k : pu_K} {rf : Nat → pu_R} {r : pu_R} {j n : Nat} (hr : ∀ i, pu_T (fun f => rf f i) (r i)) (h : pu_T kf k) : pu_T (fun f => s_ci (rf f) j n (kf f)) (s_ci r j n k) := by
  refine ⟨fun f => w_ci (fun i => (hr i).1 f) (h.1 f), fun f => w_ci (fun i => (hr i).2.1 f) (h.2.1 f), fun ls st M o ho => ?_⟩
  unfold s_ci at ho ⊢
  split at ho
  · rename_i a rest hdr
    split at ho
    · rename_i hc
      obtain ⟨f, hf⟩ := pu_bkt h (hr j) ho
      refine ⟨f, ?_⟩
      dsimp only
      rw [hdr]
      exact (if_pos hc).trans hf
    · cases ho
  · cases ho
theorem v_cs {kf : Nat → pu_K} {k : pu_K} {rf : Nat → pu_R} {r : pu_R} {j n : Nat} (hr : ∀ i, pu_T (fun f => rf f i) (r i)) (h : pu_T kf k) : pu_T (fun f => s_cs (rf f) j n (kf f)) (s_cs r j n k) := by
  refine ⟨fun f => w_cs (fun i => (hr i).1 f) (h.1 f), fun f => w_cs (fun i => (hr i).2.1 f) (h.2.1 f), fun ls st M o ho => ?_⟩
  unfold s_cs at ho ⊢
  split at ho
  · rename_i hc
    obtain ⟨f, hf⟩ := pu_bkt h (hr j) ho
    exact ⟨f, (if_pos hc).trans hf⟩
  · cases ho
/-- a code list that is continuous -/
def pu_cok2 (c : pu_R → pu_K) : Prop := ∀ (rf : Nat → pu_R) (r : pu_R), (∀ i, pu_T (fun f => rf f i) (r i)) → pu_T (fun f => c (rf f)) (c r)
theorem pu_T_two {k k' : pu_K} (h : pu_V k k') (h' : pu_V k' k') : pu_T (fun f => match f with
    | 0 => k
    | _ + 1 => k') k' := by
  refine ⟨fun f => ?_, fun f => ?_, fun ls st M o ho => ⟨1, ho⟩⟩
  · cases f with
    | zero => exact h
    | succ n => exact h'
  · cases f with
    | zero => exact h
    | succ n => exact h'
theorem pu_run_all {cd : Nat → Option (pu_R → pu_K)} (h : ∀ i c, cd i = some c → pu_cok2 c) : ∀ (f i : Nat), pu_V (pu_run cd f i) (pu_run cd (f + 1) i) ∧ pu_V (pu_run cd (f + 1) i) (pu_run cd (f + 1) i)
  | 0, i => by
    have e0 : ∀ i, pu_V (pu_run cd 0 i) (pu_run cd 0 i) := fun i => ⟨fun _ _ _ _ ho => (by cases ho), fun _ _ _ _ ho => ho⟩
    refine ⟨⟨fun _ _ _ _ ho => (by cases ho), fun _ _ _ _ ho => (by cases ho)⟩, ?_⟩
    show pu_V (match cd i with
      | some c => c (pu_run cd 0)
      | none => fun _ _ _ => none) (match cd i with
      | some c => c (pu_run cd 0)
      | none => fun _ _ _ => none)
    cases hc : cd i with
    | none => exact ⟨fun _ _ _ _ ho => (by cases ho), fun _ _ _ _ ho => (by cases ho)⟩
    | some c => exact (h i c hc (fun _ => pu_run cd 0) (pu_run cd 0) (fun i => ⟨fun _ => e0 i, fun _ => e0 i, fun _ _ _ _ ho => ⟨0, ho⟩⟩)).1 0
  | f + 1, i => by
    have ih := pu_run_all h f
    have key : ∀ (r r' : pu_R), (∀ i, pu_V (r i) (r' i)) → (∀ i, pu_V (r' i) (r' i)) → pu_V (match cd i with
      | some c => c r
      | none => fun _ _ _ => none) (match cd i with
      | some c => c r'
      | none => fun _ _ _ => none) := by
      intro r r' h1 h2
      cases hc : cd i with
      | none => exact ⟨fun _ _ _ _ ho => (by cases ho), fun _ _ _ _ ho => (by cases ho)⟩
      | some c =>
        have hT := h i c hc (fun f => match f with
          | 0 => r
          | _ + 1 => r') r' (fun i => by
            have := pu_T_two (h1 i) (h2 i)
            refine ⟨fun f => ?_, fun f => ?_, fun ls st M o ho => ⟨1, ho⟩⟩
            · have := this.1 f
              cases f <;> exact this
            · have := this.2.1 f
              cases f <;> exact this)
        exact hT.1 0
    exact ⟨key _ _ (fun i => (ih i).1) (fun i => (ih i).2), key _ _ (fun i => (ih i).2) (fun i => (ih i).2)⟩
theorem pu_run_mono {cd : Nat → Option (pu_R → pu_K)} (h : ∀ i c, cd i = some c → pu_cok2 c) {f f' : Nat} (hf : f ≤ f') (i : Nat) : pu_le (pu_run cd f i) (pu_run cd f' i) := by
  induction f' with
  | zero => rw [Nat.le_zero.mp hf]; exact fun _ _ _ _ h => h
  | succ n ih =>
    rcases Nat.lt_or_ge f (n + 1) with q | q
    · exact fun ls st M o ho => (pu_run_all h n i).1.2 _ _ _ _ (ih (by omega) ls st M o ho)
    · rw [show f = n + 1 by omega]; exact fun _ _ _ _ h => h
theorem pu_lim_is {cd : Nat → Option (pu_R → pu_K)} (h : ∀ i c, cd i = some c → pu_cok2 c) {f i : Nat} {ls : pu_L} {st : List Value} {M : pu_M} {o : pu_O} (ho : pu_run cd f i ls st M = some o) : pu_lim cd i ls st M = some o := by
  rcases pu_lim_spec cd i ls st M with ⟨f', h1, h2⟩ | ⟨h1, -⟩
  · cases hq : pu_lim cd i ls st M with
    | none => exact absurd hq h2
    | some o' =>
      rw [hq] at h1
      have e1 := pu_run_mono h (Nat.le_max_left f f') i _ _ _ _ ho
      have e2 := pu_run_mono h (Nat.le_max_right f f') i _ _ _ _ h1
      rw [e1] at e2
      exact e2.symm
  · rw [h1 f] at ho; cases ho
theorem pu_run_T {cd : Nat → Option (pu_R → pu_K)} (h : ∀ i c, cd i = some c → pu_cok2 c) (i : Nat) : pu_T (fun f => pu_run cd f i) (pu_lim cd i) :=
  ⟨fun f => (pu_run_all h f i).1, fun f => ⟨(pu_run_all h f i).1.1, fun _ _ _ _ ho => pu_lim_is h ho⟩, fun _ _ _ _ ho => pu_lim_to ho⟩
/-- the limit is a fixed point: a method's answer is its code's over the limit -/
theorem pu_fix {cd : Nat → Option (pu_R → pu_K)} (h : ∀ i c, cd i = some c → pu_cok2 c) {i : Nat} {c : pu_R → pu_K} (hi : cd i = some c) (ls : pu_L) (st : List Value) (M : pu_M) : pu_lim cd i ls st M = c (pu_lim cd) ls st M := by
  have hT := h i c hi _ _ (pu_run_T h)
  cases hq : c (pu_lim cd) ls st M with
  | some o =>
    obtain ⟨f, hf⟩ := hT.2.2 _ _ _ _ hq
    refine pu_lim_is h (f := f + 1) ?_
    show (match cd i with
      | some c => c (pu_run cd f)
      | none => fun _ _ _ => none) ls st M = some o
    rw [hi]
    exact hf
  | none =>
    cases hl : pu_lim cd i ls st M with
    | none => rfl
    | some o =>
      obtain ⟨f, hf⟩ := pu_lim_to hl
      cases f with
      | zero => cases hf
      | succ f =>
        have hf2 : (match cd i with
          | some c => c (pu_run cd f)
          | none => fun _ _ _ => none) ls st M = some o := hf
        rw [hi] at hf2
        have := (hT.2.1 f).2 _ _ _ _ hf2
        rw [hq] at this
        exact this.symm
