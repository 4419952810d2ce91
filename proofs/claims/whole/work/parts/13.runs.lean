/-! more fuel, the same answer -/
def pu_le (k k' : pu_K) : Prop := ∀ (ls : pu_L) (st : List Value) (M : pu_M) (o : pu_O), k ls st M = some o → k' ls st M = some o
def pu_V (k k' : pu_K) : Prop := pu_Z k ∧ pu_le k k'
theorem w_pi' {k k' : pu_K} {x : Int32} (h : pu_V k k') : pu_V (s_push (.int x) k) (s_push (.int x) k') := ⟨y_pi h.1, fun ls st M o ho => h.2 ls _ M o ho⟩
theorem w_pl' {k k' : pu_K} {x : Int64} (h : pu_V k k') : pu_V (s_push (.long x) k) (s_push (.long x) k') := ⟨y_pl h.1, fun ls st M o ho => h.2 ls _ M o ho⟩
theorem w_pf' {k k' : pu_K} {x : UInt32} (h : pu_V k k') : pu_V (s_push (.float x) k) (s_push (.float x) k') := ⟨y_pf h.1, fun ls st M o ho => h.2 ls _ M o ho⟩
theorem w_ild {k k' : pu_K} {i : Nat} (h : pu_V k k') : pu_V (s_ild i k) (s_ild i k') := by
  refine ⟨y_ild h.1, fun ls st M o ho => ?_⟩
  unfold s_ild at ho ⊢
  split at ho
  · rename_i x hi2
    try rw [hi2]
    exact h.2 _ _ _ _ ho
  · cases ho
theorem w_lld {k k' : pu_K} {i : Nat} (h : pu_V k k') : pu_V (s_lld i k) (s_lld i k') := by
  refine ⟨y_lld h.1, fun ls st M o ho => ?_⟩
  unfold s_lld at ho ⊢
  split at ho
  · rename_i x hi2
    try rw [hi2]
    exact h.2 _ _ _ _ ho
  · cases ho
theorem w_ald {k k' : pu_K} {i : Nat} (h : pu_V k k') : pu_V (s_ald i k) (s_ald i k') := by
  refine ⟨y_ald h.1, fun ls st M o ho => ?_⟩
  unfold s_ald at ho ⊢
  split at ho
  · rename_i x hi2
    try rw [hi2]
    exact h.2 _ _ _ _ ho
  · rename_i x hi2
    try rw [hi2]
    exact h.2 _ _ _ _ ho
  · cases ho
theorem w_inc {k k' : pu_K} {i : Nat} {n : Int32} (h : pu_V k k') : pu_V (s_inc i n k) (s_inc i n k') := by
  refine ⟨y_inc h.1, fun ls st M o ho => ?_⟩
  unfold s_inc at ho ⊢
  split at ho
  · rename_i x hi2
    try rw [hi2]
    exact h.2 _ _ _ _ ho
  · cases ho
theorem x_iadd {k k' : pu_K} (h : pu_le k k') : pu_le (s_iadd k) (s_iadd k') := by
  intro ls st M o ho
  unfold s_iadd at ho ⊢
  split at ho
  · exact h _ _ _ _ ho
  · cases ho
theorem w_iadd {k k' : pu_K} (h : pu_V k k') : pu_V (s_iadd k) (s_iadd k') := ⟨y_iadd h.1, x_iadd h.2⟩
theorem x_isub {k k' : pu_K} (h : pu_le k k') : pu_le (s_isub k) (s_isub k') := by
  intro ls st M o ho
  unfold s_isub at ho ⊢
  split at ho
  · exact h _ _ _ _ ho
  · cases ho
theorem w_isub {k k' : pu_K} (h : pu_V k k') : pu_V (s_isub k) (s_isub k') := ⟨y_isub h.1, x_isub h.2⟩
theorem x_imul {k k' : pu_K} (h : pu_le k k') : pu_le (s_imul k) (s_imul k') := by
  intro ls st M o ho
  unfold s_imul at ho ⊢
  split at ho
  · exact h _ _ _ _ ho
  · cases ho
theorem w_imul {k k' : pu_K} (h : pu_V k k') : pu_V (s_imul k) (s_imul k') := ⟨y_imul h.1, x_imul h.2⟩
theorem x_iand {k k' : pu_K} (h : pu_le k k') : pu_le (s_iand k) (s_iand k') := by
  intro ls st M o ho
  unfold s_iand at ho ⊢
  split at ho
  · exact h _ _ _ _ ho
  · cases ho
theorem w_iand {k k' : pu_K} (h : pu_V k k') : pu_V (s_iand k) (s_iand k') := ⟨y_iand h.1, x_iand h.2⟩
theorem x_ishr {k k' : pu_K} (h : pu_le k k') : pu_le (s_ishr k) (s_ishr k') := by
  intro ls st M o ho
  unfold s_ishr at ho ⊢
  split at ho
  · exact h _ _ _ _ ho
  · cases ho
theorem w_ishr {k k' : pu_K} (h : pu_V k k') : pu_V (s_ishr k) (s_ishr k') := ⟨y_ishr h.1, x_ishr h.2⟩
theorem x_ishl {k k' : pu_K} (h : pu_le k k') : pu_le (s_ishl k) (s_ishl k') := by
  intro ls st M o ho
  unfold s_ishl at ho ⊢
  split at ho
  · exact h _ _ _ _ ho
  · cases ho
theorem w_ishl {k k' : pu_K} (h : pu_V k k') : pu_V (s_ishl k) (s_ishl k') := ⟨y_ishl h.1, x_ishl h.2⟩
theorem x_ior {k k' : pu_K} (h : pu_le k k') : pu_le (s_ior k) (s_ior k') := by
  intro ls st M o ho
  unfold s_ior at ho ⊢
  split at ho
  · exact h _ _ _ _ ho
  · cases ho
theorem w_ior {k k' : pu_K} (h : pu_V k k') : pu_V (s_ior k) (s_ior k') := ⟨y_ior h.1, x_ior h.2⟩
theorem x_ladd {k k' : pu_K} (h : pu_le k k') : pu_le (s_ladd k) (s_ladd k') := by
  intro ls st M o ho
  unfold s_ladd at ho ⊢
  split at ho
  · exact h _ _ _ _ ho
  · cases ho
theorem w_ladd {k k' : pu_K} (h : pu_V k k') : pu_V (s_ladd k) (s_ladd k') := ⟨y_ladd h.1, x_ladd h.2⟩
theorem x_lsub {k k' : pu_K} (h : pu_le k k') : pu_le (s_lsub k) (s_lsub k') := by
  intro ls st M o ho
  unfold s_lsub at ho ⊢
  split at ho
  · exact h _ _ _ _ ho
  · cases ho
theorem w_lsub {k k' : pu_K} (h : pu_V k k') : pu_V (s_lsub k) (s_lsub k') := ⟨y_lsub h.1, x_lsub h.2⟩
theorem x_lmul {k k' : pu_K} (h : pu_le k k') : pu_le (s_lmul k) (s_lmul k') := by
  intro ls st M o ho
  unfold s_lmul at ho ⊢
  split at ho
  · exact h _ _ _ _ ho
  · cases ho
theorem w_lmul {k k' : pu_K} (h : pu_V k k') : pu_V (s_lmul k) (s_lmul k') := ⟨y_lmul h.1, x_lmul h.2⟩
theorem x_lcmp {k k' : pu_K} (h : pu_le k k') : pu_le (s_lcmp k) (s_lcmp k') := by
  intro ls st M o ho
  unfold s_lcmp at ho ⊢
  split at ho
  · exact h _ _ _ _ ho
  · cases ho
theorem w_lcmp {k k' : pu_K} (h : pu_V k k') : pu_V (s_lcmp k) (s_lcmp k') := ⟨y_lcmp h.1, x_lcmp h.2⟩
theorem x_i2l {k k' : pu_K} (h : pu_le k k') : pu_le (s_i2l k) (s_i2l k') := by
  intro ls st M o ho
  unfold s_i2l at ho ⊢
  split at ho
  · exact h _ _ _ _ ho
  · cases ho
theorem w_i2l {k k' : pu_K} (h : pu_V k k') : pu_V (s_i2l k) (s_i2l k') := ⟨y_i2l h.1, x_i2l h.2⟩
theorem x_l2i {k k' : pu_K} (h : pu_le k k') : pu_le (s_l2i k) (s_l2i k') := by
  intro ls st M o ho
  unfold s_l2i at ho ⊢
  split at ho
  · exact h _ _ _ _ ho
  · cases ho
theorem w_l2i {k k' : pu_K} (h : pu_V k k') : pu_V (s_l2i k) (s_l2i k') := ⟨y_l2i h.1, x_l2i h.2⟩
theorem x_i2b {k k' : pu_K} (h : pu_le k k') : pu_le (s_i2b k) (s_i2b k') := by
  intro ls st M o ho
  unfold s_i2b at ho ⊢
  split at ho
  · exact h _ _ _ _ ho
  · cases ho
theorem w_i2b {k k' : pu_K} (h : pu_V k k') : pu_V (s_i2b k) (s_i2b k') := ⟨y_i2b h.1, x_i2b h.2⟩
theorem x_ineg {k k' : pu_K} (h : pu_le k k') : pu_le (s_ineg k) (s_ineg k') := by
  intro ls st M o ho
  unfold s_ineg at ho ⊢
  split at ho
  · exact h _ _ _ _ ho
  · cases ho
theorem w_ineg {k k' : pu_K} (h : pu_V k k') : pu_V (s_ineg k) (s_ineg k') := ⟨y_ineg h.1, x_ineg h.2⟩
theorem x_idiv {k k' : pu_K} (h : pu_le k k') : pu_le (s_idiv k) (s_idiv k') := by
  intro ls st M o ho
  unfold s_idiv at ho ⊢
  split at ho
  · split at ho
    · rename_i hc
      exact (if_pos hc).trans (h _ _ _ _ ho)
    · cases ho
  · cases ho
theorem w_idiv {k k' : pu_K} (h : pu_V k k') : pu_V (s_idiv k) (s_idiv k') := ⟨y_idiv h.1, x_idiv h.2⟩
theorem x_irem {k k' : pu_K} (h : pu_le k k') : pu_le (s_irem k) (s_irem k') := by
  intro ls st M o ho
  unfold s_irem at ho ⊢
  split at ho
  · split at ho
    · rename_i hc
      exact (if_pos hc).trans (h _ _ _ _ ho)
    · cases ho
  · cases ho
theorem w_irem {k k' : pu_K} (h : pu_V k k') : pu_V (s_irem k) (s_irem k') := ⟨y_irem h.1, x_irem h.2⟩
theorem x_ldiv {k k' : pu_K} (h : pu_le k k') : pu_le (s_ldiv k) (s_ldiv k') := by
  intro ls st M o ho
  unfold s_ldiv at ho ⊢
  split at ho
  · split at ho
    · rename_i hc
      exact (if_pos hc).trans (h _ _ _ _ ho)
    · cases ho
  · cases ho
theorem w_ldiv {k k' : pu_K} (h : pu_V k k') : pu_V (s_ldiv k) (s_ldiv k') := ⟨y_ldiv h.1, x_ldiv h.2⟩
theorem x_max {k k' : pu_K} (h : pu_le k k') : pu_le (s_max k) (s_max k') := by
  intro ls st M o ho
  unfold s_max at ho ⊢
  split at ho
  · split at ho
    · rename_i hc
      exact (if_pos hc).trans (h _ _ _ _ ho)
    · cases ho
  · cases ho
theorem w_max {k k' : pu_K} (h : pu_V k k') : pu_V (s_max k) (s_max k') := ⟨y_max h.1, x_max h.2⟩
theorem x_min {k k' : pu_K} (h : pu_le k k') : pu_le (s_min k) (s_min k') := by
  intro ls st M o ho
  unfold s_min at ho ⊢
  split at ho
  · split at ho
    · rename_i hc
      exact (if_pos hc).trans (h _ _ _ _ ho)
    · cases ho
  · cases ho
theorem w_min {k k' : pu_K} (h : pu_V k k') : pu_V (s_min k) (s_min k') := ⟨y_min h.1, x_min h.2⟩
theorem x_abs {k k' : pu_K} (h : pu_le k k') : pu_le (s_abs k) (s_abs k') := by
  intro ls st M o ho
  unfold s_abs at ho ⊢
  split at ho
  · split at ho
    · rename_i hc
      exact (if_pos hc).trans (h _ _ _ _ ho)
    · cases ho
  · cases ho
theorem w_abs {k k' : pu_K} (h : pu_V k k') : pu_V (s_abs k) (s_abs k') := ⟨y_abs h.1, x_abs h.2⟩
theorem x_dup {k k' : pu_K} (h : pu_le k k') : pu_le (s_dup k) (s_dup k') := by
  intro ls st M o ho
  unfold s_dup at ho ⊢
  split at ho
  · split at ho
    · rename_i hc
      exact (if_pos hc).trans (h _ _ _ _ ho)
    · cases ho
  · cases ho
theorem w_dup {k k' : pu_K} (h : pu_V k k') : pu_V (s_dup k) (s_dup k') := ⟨y_dup h.1, x_dup h.2⟩
theorem x_dup2 {k k' : pu_K} (h : pu_le k k') : pu_le (s_dup2 k) (s_dup2 k') := by
  intro ls st M o ho
  unfold s_dup2 at ho ⊢
  split at ho
  · split at ho
    · rename_i hc
      exact (if_pos hc).trans (h _ _ _ _ ho)
    · cases ho
  · cases ho
theorem w_dup2 {k k' : pu_K} (h : pu_V k k') : pu_V (s_dup2 k) (s_dup2 k') := ⟨y_dup2 h.1, x_dup2 h.2⟩
theorem x_pop {k k' : pu_K} (h : pu_le k k') : pu_le (s_pop k) (s_pop k') := by
  intro ls st M o ho
  unfold s_pop at ho ⊢
  split at ho
  · split at ho
    · rename_i hc
      exact (if_pos hc).trans (h _ _ _ _ ho)
    · cases ho
  · cases ho
theorem w_pop {k k' : pu_K} (h : pu_V k k') : pu_V (s_pop k) (s_pop k') := ⟨y_pop h.1, x_pop h.2⟩
theorem x_obj {k k' : pu_K} (h : pu_le k k') : pu_le (s_obj k) (s_obj k') := by
  intro ls st M o ho
  unfold s_obj at ho ⊢
  split at ho
  · split at ho
    · rename_i hc
      exact (if_pos hc).trans (h _ _ _ _ ho)
    · cases ho
  · cases ho
theorem w_obj {k k' : pu_K} (h : pu_V k k') : pu_V (s_obj k) (s_obj k') := ⟨y_obj h.1, x_obj h.2⟩
theorem x_len {k k' : pu_K} (h : pu_le k k') : pu_le (s_len k) (s_len k') := by
  intro ls st M o ho
  unfold s_len at ho ⊢
  split at ho
  · split at ho
    · rename_i hc
      exact (if_pos hc).trans (h _ _ _ _ ho)
    · cases ho
  · cases ho
theorem w_len {k k' : pu_K} (h : pu_V k k') : pu_V (s_len k) (s_len k') := ⟨y_len h.1, x_len h.2⟩
theorem x_al {k k' : pu_K} (h : pu_le k k') : pu_le (s_al k) (s_al k') := by
  intro ls st M o ho
  unfold s_al at ho ⊢
  split at ho
  · split at ho
    · rename_i hc
      exact (if_pos hc).trans (h _ _ _ _ ho)
    · cases ho
  · cases ho
theorem w_al {k k' : pu_K} (h : pu_V k k') : pu_V (s_al k) (s_al k') := ⟨y_al h.1, x_al h.2⟩
theorem x_ar {k k' : pu_K} (h : pu_le k k') : pu_le (s_ar k) (s_ar k') := by
  intro ls st M o ho
  unfold s_ar at ho ⊢
  split at ho
  · split at ho
    · rename_i hc
      exact (if_pos hc).trans (h _ _ _ _ ho)
    · cases ho
  · cases ho
theorem w_ar {k k' : pu_K} (h : pu_V k k') : pu_V (s_ar k) (s_ar k') := ⟨y_ar h.1, x_ar h.2⟩
theorem x_wb {k k' : pu_K} (h : pu_le k k') : pu_le (s_wb k) (s_wb k') := by
  intro ls st M o ho
  unfold s_wb at ho ⊢
  split at ho
  · split at ho
    · rename_i hc
      exact (if_pos hc).trans (h _ _ _ _ ho)
    · cases ho
  · cases ho
theorem w_wb {k k' : pu_K} (h : pu_V k k') : pu_V (s_wb k) (s_wb k') := ⟨y_wb h.1, x_wb h.2⟩
theorem x_wz {k k' : pu_K} (h : pu_le k k') : pu_le (s_wz k) (s_wz k') := by
  intro ls st M o ho
  unfold s_wz at ho ⊢
  split at ho
  · split at ho
    · rename_i hc
      exact (if_pos hc).trans (h _ _ _ _ ho)
    · cases ho
  · cases ho
theorem w_wz {k k' : pu_K} (h : pu_V k k') : pu_V (s_wz k) (s_wz k') := ⟨y_wz h.1, x_wz h.2⟩
theorem x_wl {k k' : pu_K} (h : pu_le k k') : pu_le (s_wl k) (s_wl k') := by
  intro ls st M o ho
  unfold s_wl at ho ⊢
  split at ho
  · split at ho
    · rename_i hc
      exact (if_pos hc).trans (h _ _ _ _ ho)
    · cases ho
  · cases ho
theorem w_wl {k k' : pu_K} (h : pu_V k k') : pu_V (s_wl k) (s_wl k') := ⟨y_wl h.1, x_wl h.2⟩
theorem x_wr {k k' : pu_K} (h : pu_le k k') : pu_le (s_wr k) (s_wr k') := by
  intro ls st M o ho
  unfold s_wr at ho ⊢
  split at ho
  · split at ho
    · rename_i hc
      exact (if_pos hc).trans (h _ _ _ _ ho)
    · cases ho
  · cases ho
theorem w_wr {k k' : pu_K} (h : pu_V k k') : pu_V (s_wr k) (s_wr k') := ⟨y_wr h.1, x_wr h.2⟩
theorem x_cp1 {k k' : pu_K} (h : pu_le k k') : pu_le (s_cp1 k) (s_cp1 k') := by
  intro ls st M o ho
  unfold s_cp1 at ho ⊢
  split at ho
  · split at ho
    · rename_i hc
      exact (if_pos hc).trans (h _ _ _ _ ho)
    · cases ho
  · cases ho
theorem w_cp1 {k k' : pu_K} (h : pu_V k k') : pu_V (s_cp1 k) (s_cp1 k') := ⟨y_cp1 h.1, x_cp1 h.2⟩
theorem x_cp3 {k k' : pu_K} (h : pu_le k k') : pu_le (s_cp3 k) (s_cp3 k') := by
  intro ls st M o ho
  unfold s_cp3 at ho ⊢
  split at ho
  · split at ho
    · rename_i hc
      exact (if_pos hc).trans (h _ _ _ _ ho)
    · cases ho
  · cases ho
theorem w_cp3 {k k' : pu_K} (h : pu_V k k') : pu_V (s_cp3 k) (s_cp3 k') := ⟨y_cp3 h.1, x_cp3 h.2⟩
theorem x_ai {k k' : pu_K} {kd : Nat} (h : pu_le k k') : pu_le (s_ai kd k) (s_ai kd k') := by
  intro ls st M o ho
  unfold s_ai at ho ⊢
  split at ho
  · split at ho
    · rename_i hc
      exact (if_pos hc).trans (h _ _ _ _ ho)
    · cases ho
  · cases ho
theorem w_ai {k k' : pu_K} {kd : Nat} (h : pu_V k k') : pu_V (s_ai kd k) (s_ai kd k') := ⟨y_ai h.1, x_ai h.2⟩
theorem x_wi {k k' : pu_K} {kd : Nat} (h : pu_le k k') : pu_le (s_wi kd k) (s_wi kd k') := by
  intro ls st M o ho
  unfold s_wi at ho ⊢
  split at ho
  · split at ho
    · rename_i hc
      exact (if_pos hc).trans (h _ _ _ _ ho)
    · cases ho
  · cases ho
theorem w_wi {k k' : pu_K} {kd : Nat} (h : pu_V k k') : pu_V (s_wi kd k) (s_wi kd k') := ⟨y_wi h.1, x_wi h.2⟩
theorem x_na {k k' : pu_K} {kd : Nat} (h : pu_le k k') : pu_le (s_na kd k) (s_na kd k') := by
  intro ls st M o ho
  unfold s_na at ho ⊢
  split at ho
  · split at ho
    · rename_i hc
      exact (if_pos hc).trans (h _ _ _ _ ho)
    · cases ho
  · cases ho
theorem w_na {k k' : pu_K} {kd : Nat} (h : pu_V k k') : pu_V (s_na kd k) (s_na kd k') := ⟨y_na h.1, x_na h.2⟩
theorem x_gi {k k' : pu_K} {c : Nat} {j : Nat} (h : pu_le k k') : pu_le (s_gi c j k) (s_gi c j k') := by
  intro ls st M o ho
  unfold s_gi at ho ⊢
  split at ho
  · split at ho
    · rename_i hc
      exact (if_pos hc).trans (h _ _ _ _ ho)
    · cases ho
  · cases ho
theorem w_gi {k k' : pu_K} {c : Nat} {j : Nat} (h : pu_V k k') : pu_V (s_gi c j k) (s_gi c j k') := ⟨y_gi h.1, x_gi h.2⟩
theorem x_gr {k k' : pu_K} {c : Nat} {j : Nat} (h : pu_le k k') : pu_le (s_gr c j k) (s_gr c j k') := by
  intro ls st M o ho
  unfold s_gr at ho ⊢
  split at ho
  · split at ho
    · rename_i hc
      exact (if_pos hc).trans (h _ _ _ _ ho)
    · cases ho
  · cases ho
theorem w_gr {k k' : pu_K} {c : Nat} {j : Nat} (h : pu_V k k') : pu_V (s_gr c j k) (s_gr c j k') := ⟨y_gr h.1, x_gr h.2⟩
theorem x_pi {k k' : pu_K} {c : Nat} {j : Nat} (h : pu_le k k') : pu_le (s_pi c j k) (s_pi c j k') := by
  intro ls st M o ho
  unfold s_pi at ho ⊢
  split at ho
  · split at ho
    · rename_i hc
      exact (if_pos hc).trans (h _ _ _ _ ho)
    · cases ho
  · cases ho
theorem w_pi {k k' : pu_K} {c : Nat} {j : Nat} (h : pu_V k k') : pu_V (s_pi c j k) (s_pi c j k') := ⟨y_puti h.1, x_pi h.2⟩
theorem x_pz {k k' : pu_K} {c : Nat} {j : Nat} (h : pu_le k k') : pu_le (s_pz c j k) (s_pz c j k') := by
  intro ls st M o ho
  unfold s_pz at ho ⊢
  split at ho
  · split at ho
    · rename_i hc
      exact (if_pos hc).trans (h _ _ _ _ ho)
    · cases ho
  · cases ho
theorem w_pz {k k' : pu_K} {c : Nat} {j : Nat} (h : pu_V k k') : pu_V (s_pz c j k) (s_pz c j k') := ⟨y_pz h.1, x_pz h.2⟩
theorem x_pr {k k' : pu_K} {c : Nat} {j : Nat} (h : pu_le k k') : pu_le (s_pr c j k) (s_pr c j k') := by
  intro ls st M o ho
  unfold s_pr at ho ⊢
  split at ho
  · split at ho
    · rename_i hc
      exact (if_pos hc).trans (h _ _ _ _ ho)
    · cases ho
  · cases ho
theorem w_pr {k k' : pu_K} {c : Nat} {j : Nat} (h : pu_V k k') : pu_V (s_pr c j k) (s_pr c j k') := ⟨y_pr h.1, x_pr h.2⟩
theorem x_ist {k k' : pu_K} {i : Nat} (h : pu_le k k') : pu_le (s_ist i k) (s_ist i k') := by
  intro ls st M o ho
  unfold s_ist at ho ⊢
  split at ho
  · split at ho
    · rename_i hc
      exact (if_pos hc).trans (h _ _ _ _ ho)
    · cases ho
  · cases ho
theorem w_ist {k k' : pu_K} {i : Nat} (h : pu_V k k') : pu_V (s_ist i k) (s_ist i k') := ⟨y_ist h.1, x_ist h.2⟩
theorem x_lst {k k' : pu_K} {i : Nat} (h : pu_le k k') : pu_le (s_lst i k) (s_lst i k') := by
  intro ls st M o ho
  unfold s_lst at ho ⊢
  split at ho
  · split at ho
    · rename_i hc
      exact (if_pos hc).trans (h _ _ _ _ ho)
    · cases ho
  · cases ho
theorem w_lst {k k' : pu_K} {i : Nat} (h : pu_V k k') : pu_V (s_lst i k) (s_lst i k') := ⟨y_lst h.1, x_lst h.2⟩
theorem x_ast {k k' : pu_K} {i : Nat} (h : pu_le k k') : pu_le (s_ast i k) (s_ast i k') := by
  intro ls st M o ho
  unfold s_ast at ho ⊢
  split at ho
  · split at ho
    · rename_i hc
      exact (if_pos hc).trans (h _ _ _ _ ho)
    · cases ho
  · cases ho
theorem w_ast {k k' : pu_K} {i : Nat} (h : pu_V k k') : pu_V (s_ast i k) (s_ast i k') := ⟨y_ast h.1, x_ast h.2⟩
theorem x_sld {k k' : pu_K} {L : Nat} {xs : Nat → Int32} (h : pu_le k k') : pu_le (s_sld L xs k) (s_sld L xs k') := by
  intro ls st M o ho
  unfold s_sld at ho ⊢
  split at ho
  · split at ho
    · rename_i hc
      exact (if_pos hc).trans (h _ _ _ _ ho)
    · cases ho
  · cases ho
theorem w_sld {k k' : pu_K} {L : Nat} {xs : Nat → Int32} (h : pu_V k k') : pu_V (s_sld L xs k) (s_sld L xs k') := ⟨y_sld h.1, x_sld h.2⟩
theorem x_sln {k k' : pu_K} {L : Nat} (h : pu_le k k') : pu_le (s_sln L k) (s_sln L k') := by
  intro ls st M o ho
  unfold s_sln at ho ⊢
  split at ho
  · exact h _ _ _ _ ho
  · cases ho
theorem w_sln {k k' : pu_K} {L : Nat} (h : pu_V k k') : pu_V (s_sln L k) (s_sln L k') := ⟨y_sln h.1, x_sln h.2⟩
theorem w_new {k k' : pu_K} {c : Nat} (h : pu_V k k') : pu_V (s_new c k) (s_new c k') := by
  refine ⟨y_new h.1, fun ls st M o ho => ?_⟩
  unfold s_new at ho ⊢
  split at ho
  · rename_i hc
    exact (if_pos hc).trans (h.2 _ _ _ _ ho)
  · cases ho
theorem w_ent {k k' : pu_K} {n : Nat} (h : pu_V k k') : pu_V (s_ent n k) (s_ent n k') := by
  refine ⟨y_ent h.1, fun ls st M o ho => ?_⟩
  unfold s_ent at ho ⊢
  split at ho
  · rename_i hc
    exact (if_pos hc).trans (h.2 _ _ _ _ ho)
  · cases ho
theorem w_iret : pu_V s_iret s_iret := ⟨y_iret, fun _ _ _ _ h => h⟩
theorem w_zret : pu_V s_zret s_zret := ⟨y_zret, fun _ _ _ _ h => h⟩
theorem w_lret : pu_V s_lret s_lret := ⟨y_lret, fun _ _ _ _ h => h⟩
theorem w_vret : pu_V s_vret s_vret := ⟨y_vret, fun _ _ _ _ h => h⟩
theorem w_ifeq {kt kf kt' kf' : pu_K} (h1 : pu_V kt kt') (h2 : pu_V kf kf') : pu_V (s_ifeq kt kf) (s_ifeq kt' kf') := by
  refine ⟨y_ifeq h1.1 h2.1, fun ls st M o ho => ?_⟩
  unfold s_ifeq at ho ⊢
  split at ho
  · split at ho
    · rename_i hc
      exact (if_pos hc).trans (h1.2 _ _ _ _ ho)
    · rename_i hc
      exact (if_neg hc).trans (h2.2 _ _ _ _ ho)
  · cases ho
theorem w_iceq {kt kf kt' kf' : pu_K} (h1 : pu_V kt kt') (h2 : pu_V kf kf') : pu_V (s_iceq kt kf) (s_iceq kt' kf') := by
  refine ⟨y_iceq h1.1 h2.1, fun ls st M o ho => ?_⟩
  unfold s_iceq at ho ⊢
  split at ho
  · split at ho
    · rename_i hc
      exact (if_pos hc).trans (h1.2 _ _ _ _ ho)
    · rename_i hc
      exact (if_neg hc).trans (h2.2 _ _ _ _ ho)
  · cases ho
theorem w_ifne {kt kf kt' kf' : pu_K} (h1 : pu_V kt kt') (h2 : pu_V kf kf') : pu_V (s_ifne kt kf) (s_ifne kt' kf') := by
  refine ⟨y_ifne h1.1 h2.1, fun ls st M o ho => ?_⟩
  unfold s_ifne at ho ⊢
  split at ho
  · split at ho
    · rename_i hc
      exact (if_pos hc).trans (h2.2 _ _ _ _ ho)
    · rename_i hc
      exact (if_neg hc).trans (h1.2 _ _ _ _ ho)
  · cases ho
theorem w_icne {kt kf kt' kf' : pu_K} (h1 : pu_V kt kt') (h2 : pu_V kf kf') : pu_V (s_icne kt kf) (s_icne kt' kf') := by
  refine ⟨y_icne h1.1 h2.1, fun ls st M o ho => ?_⟩
  unfold s_icne at ho ⊢
  split at ho
  · split at ho
    · rename_i hc
      exact (if_pos hc).trans (h2.2 _ _ _ _ ho)
    · rename_i hc
      exact (if_neg hc).trans (h1.2 _ _ _ _ ho)
  · cases ho
theorem w_iflt {kt kf kt' kf' : pu_K} (h1 : pu_V kt kt') (h2 : pu_V kf kf') : pu_V (s_iflt kt kf) (s_iflt kt' kf') := by
  refine ⟨y_iflt h1.1 h2.1, fun ls st M o ho => ?_⟩
  unfold s_iflt at ho ⊢
  split at ho
  · split at ho
    · rename_i hc
      exact (if_pos hc).trans (h1.2 _ _ _ _ ho)
    · rename_i hc
      exact (if_neg hc).trans (h2.2 _ _ _ _ ho)
  · cases ho
theorem w_iclt {kt kf kt' kf' : pu_K} (h1 : pu_V kt kt') (h2 : pu_V kf kf') : pu_V (s_iclt kt kf) (s_iclt kt' kf') := by
  refine ⟨y_iclt h1.1 h2.1, fun ls st M o ho => ?_⟩
  unfold s_iclt at ho ⊢
  split at ho
  · split at ho
    · rename_i hc
      exact (if_pos hc).trans (h1.2 _ _ _ _ ho)
    · rename_i hc
      exact (if_neg hc).trans (h2.2 _ _ _ _ ho)
  · cases ho
theorem w_ifge {kt kf kt' kf' : pu_K} (h1 : pu_V kt kt') (h2 : pu_V kf kf') : pu_V (s_ifge kt kf) (s_ifge kt' kf') := by
  refine ⟨y_ifge h1.1 h2.1, fun ls st M o ho => ?_⟩
  unfold s_ifge at ho ⊢
  split at ho
  · split at ho
    · rename_i hc
      exact (if_pos hc).trans (h1.2 _ _ _ _ ho)
    · rename_i hc
      exact (if_neg hc).trans (h2.2 _ _ _ _ ho)
  · cases ho
theorem w_icge {kt kf kt' kf' : pu_K} (h1 : pu_V kt kt') (h2 : pu_V kf kf') : pu_V (s_icge kt kf) (s_icge kt' kf') := by
  refine ⟨y_icge h1.1 h2.1, fun ls st M o ho => ?_⟩
  unfold s_icge at ho ⊢
  split at ho
  · split at ho
    · rename_i hc
      exact (if_pos hc).trans (h1.2 _ _ _ _ ho)
    · rename_i hc
      exact (if_neg hc).trans (h2.2 _ _ _ _ ho)
  · cases ho
theorem w_ifgt {kt kf kt' kf' : pu_K} (h1 : pu_V kt kt') (h2 : pu_V kf kf') : pu_V (s_ifgt kt kf) (s_ifgt kt' kf') := by
  refine ⟨y_ifgt h1.1 h2.1, fun ls st M o ho => ?_⟩
  unfold s_ifgt at ho ⊢
  split at ho
  · split at ho
    · rename_i hc
      exact (if_pos hc).trans (h1.2 _ _ _ _ ho)
    · rename_i hc
      exact (if_neg hc).trans (h2.2 _ _ _ _ ho)
  · cases ho
theorem w_icgt {kt kf kt' kf' : pu_K} (h1 : pu_V kt kt') (h2 : pu_V kf kf') : pu_V (s_icgt kt kf) (s_icgt kt' kf') := by
  refine ⟨y_icgt h1.1 h2.1, fun ls st M o ho => ?_⟩
  unfold s_icgt at ho ⊢
  split at ho
  · split at ho
    · rename_i hc
      exact (if_pos hc).trans (h1.2 _ _ _ _ ho)
    · rename_i hc
      exact (if_neg hc).trans (h2.2 _ _ _ _ ho)
  · cases ho
theorem w_ifle {kt kf kt' kf' : pu_K} (h1 : pu_V kt kt') (h2 : pu_V kf kf') : pu_V (s_ifle kt kf) (s_ifle kt' kf') := by
  refine ⟨y_ifle h1.1 h2.1, fun ls st M o ho => ?_⟩
  unfold s_ifle at ho ⊢
  split at ho
  · split at ho
    · rename_i hc
      exact (if_pos hc).trans (h1.2 _ _ _ _ ho)
    · rename_i hc
      exact (if_neg hc).trans (h2.2 _ _ _ _ ho)
  · cases ho
theorem w_icle {kt kf kt' kf' : pu_K} (h1 : pu_V kt kt') (h2 : pu_V kf kf') : pu_V (s_icle kt kf) (s_icle kt' kf') := by
  refine ⟨y_icle h1.1 h2.1, fun ls st M o ho => ?_⟩
  unfold s_icle at ho ⊢
  split at ho
  · split at ho
    · rename_i hc
      exact (if_pos hc).trans (h1.2 _ _ _ _ ho)
    · rename_i hc
      exact (if_neg hc).trans (h2.2 _ _ _ _ ho)
  · cases ho
theorem w_nn {kt kf kt' kf' : pu_K} (h1 : pu_V kt kt') (h2 : pu_V kf kf') : pu_V (s_nn kt kf) (s_nn kt' kf') := by
  refine ⟨y_nn h1.1 h2.1, fun ls st M o ho => ?_⟩
  unfold s_nn at ho ⊢
  split at ho
  · exact h1.2 _ _ _ _ ho
  · exact h2.2 _ _ _ _ ho
  · cases ho
theorem pu_bkm {k k' : pu_K} {ls : pu_L} {rest : List Value} {q q' : Option pu_O} {o : pu_O} (h : pu_le k k') (hq : ∀ x, q = some x → q' = some x) (ho : pu_bk k ls rest q = some o) : pu_bk k' ls rest q' = some o := by
  cases q with
  | none => cases ho
  | some x => rw [hq x rfl]; exact h _ _ _ _ ho
theorem w_cv {k k' : pu_K} {r r' : pu_R} {j n c : Nat} (hr : ∀ i, pu_V (r i) (r' i)) (h : pu_V k k') : pu_V (s_cv r j n c k) (s_cv r' j n c k') := by
  refine ⟨y_cv (fun i => (hr i).1) h.1, fun ls st M o ho => ?_⟩
  unfold s_cv at ho ⊢
  split at ho
  · rename_i a rest hdr
    try rw [hdr]
    split at ho
    · rename_i hc
      exact (if_pos hc).trans (pu_bkm h.2 (fun x hx => (hr j).2 _ _ _ _ hx) ho)
    · cases ho
  · cases ho
theorem w_ci {k k' : pu_K} {r r' : pu_R} {j n : Nat} (hr : ∀ i, pu_V (r i) (r' i)) (h : pu_V k k') : pu_V (s_ci r j n k) (s_ci r' j n k') := by
  refine ⟨y_ci (fun i => (hr i).1) h.1, fun ls st M o ho => ?_⟩
  unfold s_ci at ho ⊢
  split at ho
  · rename_i a rest hdr
    try rw [hdr]
    split at ho
    · rename_i hc
      exact (if_pos hc).trans (pu_bkm h.2 (fun x hx => (hr j).2 _ _ _ _ hx) ho)
    · cases ho
  · cases ho
theorem w_cs {k k' : pu_K} {r r' : pu_R} {j n : Nat} (hr : ∀ i, pu_V (r i) (r' i)) (h : pu_V k k') : pu_V (s_cs r j n k) (s_cs r' j n k') := by
  refine ⟨y_cs (fun i => (hr i).1) h.1, fun ls st M o ho => ?_⟩
  unfold s_cs at ho ⊢
  split at ho
  · rename_i hc
    exact (if_pos hc).trans (pu_bkm h.2 (fun x hx => (hr j).2 _ _ _ _ hx) ho)
  · cases ho
/-! a run with fuel, and its limit -/
def pu_run (cd : Nat → Option (pu_R → pu_K)) : Nat → pu_R
  | 0 => fun _ _ _ _ => none
  | f + 1 => fun i => match cd i with
    | some c => c (pu_run cd f)
    | none => fun _ _ _ => none
/-- each code word list is monotone, and its memory only grows -/
def pu_cok (cd : Nat → Option (pu_R → pu_K)) : Prop := ∀ (i : Nat) (c : pu_R → pu_K), cd i = some c → ∀ (r r' : pu_R), (∀ i, pu_V (r i) (r' i)) → pu_V (c r) (c r')
theorem pu_run_V {cd : Nat → Option (pu_R → pu_K)} (h : pu_cok cd) : ∀ (f i : Nat), pu_V (pu_run cd f i) (pu_run cd (f + 1) i)
  | 0, i => ⟨fun _ _ _ _ ho => (by cases ho), fun _ _ _ _ ho => (by cases ho)⟩
  | f + 1, i => by
    have ih := pu_run_V h f
    show pu_V (match cd i with
      | some c => c (pu_run cd f)
      | none => fun _ _ _ => none) (match cd i with
      | some c => c (pu_run cd (f + 1))
      | none => fun _ _ _ => none)
    cases hc : cd i with
    | none => exact ⟨fun _ _ _ _ ho => (by cases ho), fun _ _ _ _ ho => (by cases ho)⟩
    | some c => exact h i c hc _ _ ih
theorem pu_run_le {cd : Nat → Option (pu_R → pu_K)} (h : pu_cok cd) {f f' : Nat} (hf : f ≤ f') (i : Nat) : pu_le (pu_run cd f i) (pu_run cd f' i) := by
  induction f' with
  | zero => rw [Nat.le_zero.mp hf]; exact fun _ _ _ _ h => h
  | succ n ih =>
    rcases Nat.lt_or_ge f (n + 1) with q | q
    · exact fun ls st M o ho => (pu_run_V h n i).2 _ _ _ _ (ih (by omega) ls st M o ho)
    · rw [show f = n + 1 by omega]; exact fun _ _ _ _ h => h
/-- the limit: the answer that some fuel gives -/
noncomputable def pu_lim (cd : Nat → Option (pu_R → pu_K)) : pu_R := fun i ls st M => Classical.epsilon (fun q : Option pu_O => (∃ f, pu_run cd f i ls st M = q ∧ q ≠ none) ∨ ((∀ f, pu_run cd f i ls st M = none) ∧ q = none))
theorem pu_lim_spec (cd : Nat → Option (pu_R → pu_K)) (i : Nat) (ls : pu_L) (st : List Value) (M : pu_M) : (∃ f, pu_run cd f i ls st M = pu_lim cd i ls st M ∧ pu_lim cd i ls st M ≠ none) ∨ ((∀ f, pu_run cd f i ls st M = none) ∧ pu_lim cd i ls st M = none) := by
  refine Classical.epsilon_spec (p := fun q : Option pu_O => (∃ f, pu_run cd f i ls st M = q ∧ q ≠ none) ∨ ((∀ f, pu_run cd f i ls st M = none) ∧ q = none)) ?_
  by_cases h : ∃ f, pu_run cd f i ls st M ≠ none
  · obtain ⟨f, hf⟩ := h
    exact ⟨_, Or.inl ⟨f, rfl, hf⟩⟩
  · refine ⟨none, Or.inr ⟨fun f => ?_, rfl⟩⟩
    by_cases q : pu_run cd f i ls st M = none
    · exact q
    · exact absurd ⟨f, q⟩ h
theorem pu_lim_of {cd : Nat → Option (pu_R → pu_K)} (h : pu_cok cd) {f i : Nat} {ls : pu_L} {st : List Value} {M : pu_M} {o : pu_O} (ho : pu_run cd f i ls st M = some o) : pu_lim cd i ls st M = some o := by
  rcases pu_lim_spec cd i ls st M with ⟨f', h1, h2⟩ | ⟨h1, -⟩
  · cases hq : pu_lim cd i ls st M with
    | none => exact absurd hq h2
    | some o' =>
      rw [hq] at h1
      have e1 := pu_run_le h (Nat.le_max_left f f') i _ _ _ _ ho
      have e2 := pu_run_le h (Nat.le_max_right f f') i _ _ _ _ h1
      rw [e1] at e2
      exact e2.symm
  · rw [h1 f] at ho; cases ho
theorem pu_lim_to {cd : Nat → Option (pu_R → pu_K)} {i : Nat} {ls : pu_L} {st : List Value} {M : pu_M} {o : pu_O} (ho : pu_lim cd i ls st M = some o) : ∃ f, pu_run cd f i ls st M = some o := by
  rcases pu_lim_spec cd i ls st M with ⟨f', h1, -⟩ | ⟨-, h1⟩
  · exact ⟨f', h1.trans ho⟩
  · rw [h1] at ho; cases ho
theorem pu_run_lim {cd : Nat → Option (pu_R → pu_K)} (h : pu_cok cd) (f i : Nat) : pu_V (pu_run cd f i) (pu_lim cd i) := ⟨(pu_run_V h f i).1, fun _ _ _ _ ho => pu_lim_of h ho⟩
