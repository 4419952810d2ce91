/-! memory only grows, references stay in it -/
def pu_Z (k : pu_K) : Prop := ∀ (ls : pu_L) (st : List Value) (M : pu_M) (o : pu_O), k ls st M = some o → pu_okS ls st M → M.2.2.2 ≤ o.2.2.2.2 ∧ pu_okO o
theorem y_push {k : pu_K} {v : Value} (hv : ∀ n, pu_ok n v) (h : pu_Z k) : pu_Z (s_push v k) := fun ls st M o ho hS => h ls _ M o ho ⟨fun w hw => by
  rcases List.mem_cons.mp hw with rfl | hw
  · exact hv _
  · exact hS.1 w hw, hS.2⟩
theorem pu_oki (n : Nat) (x : Int32) : pu_ok n (.int x) := trivial
theorem y_pi {k : pu_K} {x : Int32} (h : pu_Z k) : pu_Z (s_push (.int x) k) := y_push (fun _ => trivial) h
theorem y_pl {k : pu_K} {x : Int64} (h : pu_Z k) : pu_Z (s_push (.long x) k) := y_push (fun _ => trivial) h
theorem y_pf {k : pu_K} {x : UInt32} (h : pu_Z k) : pu_Z (s_push (.float x) k) := y_push (fun _ => trivial) h
theorem y_ild {k : pu_K} {i : Nat} (h : pu_Z k) : pu_Z (s_ild i k) := by
  intro ls st M o ho hS
  unfold s_ild at ho
  split at ho
  · rename_i x hi2
    exact h ls _ M o ho ⟨fun v hv => by
      rcases List.mem_cons.mp hv with rfl | hv
      · exact hS.2.1 _ (List.mem_of_getElem? hi2)
      · exact hS.1 v hv, hS.2⟩
  · cases ho
theorem y_lld {k : pu_K} {i : Nat} (h : pu_Z k) : pu_Z (s_lld i k) := by
  intro ls st M o ho hS
  unfold s_lld at ho
  split at ho
  · rename_i x hi2
    exact h ls _ M o ho ⟨fun v hv => by
      rcases List.mem_cons.mp hv with rfl | hv
      · exact hS.2.1 _ (List.mem_of_getElem? hi2)
      · exact hS.1 v hv, hS.2⟩
  · cases ho
theorem y_ald {k : pu_K} {i : Nat} (h : pu_Z k) : pu_Z (s_ald i k) := by
  intro ls st M o ho hS
  unfold s_ald at ho
  split at ho
  · rename_i x hi2
    exact h ls _ M o ho ⟨fun v hv => by
      rcases List.mem_cons.mp hv with rfl | hv
      · exact hS.2.1 _ (List.mem_of_getElem? hi2)
      · exact hS.1 v hv, hS.2⟩
  · rename_i x hi2
    exact h ls _ M o ho ⟨fun v hv => by
      rcases List.mem_cons.mp hv with rfl | hv
      · exact hS.2.1 _ (List.mem_of_getElem? hi2)
      · exact hS.1 v hv, hS.2⟩
  · cases ho
theorem y_iadd {k : pu_K} (h : pu_Z k) : pu_Z (s_iadd k) := by
  intro ls st M o ho hS
  unfold s_iadd at ho
  split at ho
  · exact h ls _ M o ho ⟨fun v hv => by
        have q1 := hS.1
        simp only [List.mem_cons, forall_eq_or_imp] at hv q1
        rcases hv with rfl | hv
        · trivial
        · exact q1.2.2 v hv, hS.2⟩
  · cases ho
theorem y_isub {k : pu_K} (h : pu_Z k) : pu_Z (s_isub k) := by
  intro ls st M o ho hS
  unfold s_isub at ho
  split at ho
  · exact h ls _ M o ho ⟨fun v hv => by
        have q1 := hS.1
        simp only [List.mem_cons, forall_eq_or_imp] at hv q1
        rcases hv with rfl | hv
        · trivial
        · exact q1.2.2 v hv, hS.2⟩
  · cases ho
theorem y_imul {k : pu_K} (h : pu_Z k) : pu_Z (s_imul k) := by
  intro ls st M o ho hS
  unfold s_imul at ho
  split at ho
  · exact h ls _ M o ho ⟨fun v hv => by
        have q1 := hS.1
        simp only [List.mem_cons, forall_eq_or_imp] at hv q1
        rcases hv with rfl | hv
        · trivial
        · exact q1.2.2 v hv, hS.2⟩
  · cases ho
theorem y_iand {k : pu_K} (h : pu_Z k) : pu_Z (s_iand k) := by
  intro ls st M o ho hS
  unfold s_iand at ho
  split at ho
  · exact h ls _ M o ho ⟨fun v hv => by
        have q1 := hS.1
        simp only [List.mem_cons, forall_eq_or_imp] at hv q1
        rcases hv with rfl | hv
        · trivial
        · exact q1.2.2 v hv, hS.2⟩
  · cases ho
theorem y_ishr {k : pu_K} (h : pu_Z k) : pu_Z (s_ishr k) := by
  intro ls st M o ho hS
  unfold s_ishr at ho
  split at ho
  · exact h ls _ M o ho ⟨fun v hv => by
        have q1 := hS.1
        simp only [List.mem_cons, forall_eq_or_imp] at hv q1
        rcases hv with rfl | hv
        · trivial
        · exact q1.2.2 v hv, hS.2⟩
  · cases ho
theorem y_ishl {k : pu_K} (h : pu_Z k) : pu_Z (s_ishl k) := by
  intro ls st M o ho hS
  unfold s_ishl at ho
  split at ho
  · exact h ls _ M o ho ⟨fun v hv => by
        have q1 := hS.1
        simp only [List.mem_cons, forall_eq_or_imp] at hv q1
        rcases hv with rfl | hv
        · trivial
        · exact q1.2.2 v hv, hS.2⟩
  · cases ho
theorem y_ior {k : pu_K} (h : pu_Z k) : pu_Z (s_ior k) := by
  intro ls st M o ho hS
  unfold s_ior at ho
  split at ho
  · exact h ls _ M o ho ⟨fun v hv => by
        have q1 := hS.1
        simp only [List.mem_cons, forall_eq_or_imp] at hv q1
        rcases hv with rfl | hv
        · trivial
        · exact q1.2.2 v hv, hS.2⟩
  · cases ho
theorem y_ladd {k : pu_K} (h : pu_Z k) : pu_Z (s_ladd k) := by
  intro ls st M o ho hS
  unfold s_ladd at ho
  split at ho
  · exact h ls _ M o ho ⟨fun v hv => by
        have q1 := hS.1
        simp only [List.mem_cons, forall_eq_or_imp] at hv q1
        rcases hv with rfl | hv
        · trivial
        · exact q1.2.2 v hv, hS.2⟩
  · cases ho
theorem y_lsub {k : pu_K} (h : pu_Z k) : pu_Z (s_lsub k) := by
  intro ls st M o ho hS
  unfold s_lsub at ho
  split at ho
  · exact h ls _ M o ho ⟨fun v hv => by
        have q1 := hS.1
        simp only [List.mem_cons, forall_eq_or_imp] at hv q1
        rcases hv with rfl | hv
        · trivial
        · exact q1.2.2 v hv, hS.2⟩
  · cases ho
theorem y_lmul {k : pu_K} (h : pu_Z k) : pu_Z (s_lmul k) := by
  intro ls st M o ho hS
  unfold s_lmul at ho
  split at ho
  · exact h ls _ M o ho ⟨fun v hv => by
        have q1 := hS.1
        simp only [List.mem_cons, forall_eq_or_imp] at hv q1
        rcases hv with rfl | hv
        · trivial
        · exact q1.2.2 v hv, hS.2⟩
  · cases ho
theorem y_lcmp {k : pu_K} (h : pu_Z k) : pu_Z (s_lcmp k) := by
  intro ls st M o ho hS
  unfold s_lcmp at ho
  split at ho
  · exact h ls _ M o ho ⟨fun v hv => by
        have q1 := hS.1
        simp only [List.mem_cons, forall_eq_or_imp] at hv q1
        rcases hv with rfl | hv
        · trivial
        · exact q1.2.2 v hv, hS.2⟩
  · cases ho
theorem y_idiv {k : pu_K} (h : pu_Z k) : pu_Z (s_idiv k) := by
  intro ls st M o ho hS
  unfold s_idiv at ho
  split at ho
  · split at ho
    · exact h ls _ M o ho ⟨fun v hv => by
        have q1 := hS.1
        simp only [List.mem_cons, forall_eq_or_imp] at hv q1
        rcases hv with rfl | hv
        · trivial
        · exact q1.2.2 v hv, hS.2⟩
    · cases ho
  · cases ho
theorem y_irem {k : pu_K} (h : pu_Z k) : pu_Z (s_irem k) := by
  intro ls st M o ho hS
  unfold s_irem at ho
  split at ho
  · split at ho
    · exact h ls _ M o ho ⟨fun v hv => by
        have q1 := hS.1
        simp only [List.mem_cons, forall_eq_or_imp] at hv q1
        rcases hv with rfl | hv
        · trivial
        · exact q1.2.2 v hv, hS.2⟩
    · cases ho
  · cases ho
theorem y_ldiv {k : pu_K} (h : pu_Z k) : pu_Z (s_ldiv k) := by
  intro ls st M o ho hS
  unfold s_ldiv at ho
  split at ho
  · split at ho
    · exact h ls _ M o ho ⟨fun v hv => by
        have q1 := hS.1
        simp only [List.mem_cons, forall_eq_or_imp] at hv q1
        rcases hv with rfl | hv
        · trivial
        · exact q1.2.2 v hv, hS.2⟩
    · cases ho
  · cases ho
theorem y_max {k : pu_K} (h : pu_Z k) : pu_Z (s_max k) := by
  intro ls st M o ho hS
  unfold s_max at ho
  split at ho
  · split at ho
    · exact h ls _ M o ho ⟨fun v hv => by
        have q1 := hS.1
        simp only [List.mem_cons, forall_eq_or_imp] at hv q1
        rcases hv with rfl | hv
        · trivial
        · exact q1.2.2 v hv, hS.2⟩
    · cases ho
  · cases ho
theorem y_min {k : pu_K} (h : pu_Z k) : pu_Z (s_min k) := by
  intro ls st M o ho hS
  unfold s_min at ho
  split at ho
  · split at ho
    · exact h ls _ M o ho ⟨fun v hv => by
        have q1 := hS.1
        simp only [List.mem_cons, forall_eq_or_imp] at hv q1
        rcases hv with rfl | hv
        · trivial
        · exact q1.2.2 v hv, hS.2⟩
    · cases ho
  · cases ho
theorem y_i2l {k : pu_K} (h : pu_Z k) : pu_Z (s_i2l k) := by
  intro ls st M o ho hS
  unfold s_i2l at ho
  split at ho
  · exact h ls _ M o ho ⟨fun v hv => by
        have q1 := hS.1
        simp only [List.mem_cons, forall_eq_or_imp] at hv q1
        rcases hv with rfl | hv
        · trivial
        · exact q1.2 v hv, hS.2⟩
  · cases ho
theorem y_l2i {k : pu_K} (h : pu_Z k) : pu_Z (s_l2i k) := by
  intro ls st M o ho hS
  unfold s_l2i at ho
  split at ho
  · exact h ls _ M o ho ⟨fun v hv => by
        have q1 := hS.1
        simp only [List.mem_cons, forall_eq_or_imp] at hv q1
        rcases hv with rfl | hv
        · trivial
        · exact q1.2 v hv, hS.2⟩
  · cases ho
theorem y_i2b {k : pu_K} (h : pu_Z k) : pu_Z (s_i2b k) := by
  intro ls st M o ho hS
  unfold s_i2b at ho
  split at ho
  · exact h ls _ M o ho ⟨fun v hv => by
        have q1 := hS.1
        simp only [List.mem_cons, forall_eq_or_imp] at hv q1
        rcases hv with rfl | hv
        · trivial
        · exact q1.2 v hv, hS.2⟩
  · cases ho
theorem y_ineg {k : pu_K} (h : pu_Z k) : pu_Z (s_ineg k) := by
  intro ls st M o ho hS
  unfold s_ineg at ho
  split at ho
  · exact h ls _ M o ho ⟨fun v hv => by
        have q1 := hS.1
        simp only [List.mem_cons, forall_eq_or_imp] at hv q1
        rcases hv with rfl | hv
        · trivial
        · exact q1.2 v hv, hS.2⟩
  · cases ho
theorem y_abs {k : pu_K} (h : pu_Z k) : pu_Z (s_abs k) := by
  intro ls st M o ho hS
  unfold s_abs at ho
  split at ho
  · split at ho
    · exact h ls _ M o ho ⟨fun v hv => by
        have q1 := hS.1
        simp only [List.mem_cons, forall_eq_or_imp] at hv q1
        rcases hv with rfl | hv
        · trivial
        · exact q1.2 v hv, hS.2⟩
    · cases ho
  · cases ho
theorem y_dup {k : pu_K} (h : pu_Z k) : pu_Z (s_dup k) := by
  intro ls st M o ho hS
  unfold s_dup at ho
  split at ho
  · split at ho
    · exact h ls _ M o ho ⟨fun v hv => by
        have q1 := hS.1
        simp only [List.mem_cons, forall_eq_or_imp] at hv q1
        rcases hv with rfl | rfl | hv
        · exact q1.1
        · exact q1.1
        · exact q1.2 v hv, hS.2⟩
    · cases ho
  · cases ho
theorem y_dup2 {k : pu_K} (h : pu_Z k) : pu_Z (s_dup2 k) := by
  intro ls st M o ho hS
  unfold s_dup2 at ho
  split at ho
  · split at ho
    · exact h ls _ M o ho ⟨fun v hv => by
        have q1 := hS.1
        simp only [List.mem_cons, forall_eq_or_imp] at hv q1
        rcases hv with rfl | rfl | rfl | rfl | hv
        · exact q1.1
        · exact q1.2.1
        · exact q1.1
        · exact q1.2.1
        · exact q1.2.2 v hv, hS.2⟩
    · cases ho
  · cases ho
theorem y_pop {k : pu_K} (h : pu_Z k) : pu_Z (s_pop k) := by
  intro ls st M o ho hS
  unfold s_pop at ho
  split at ho
  · split at ho
    · exact h ls _ M o ho ⟨fun v hv => by
        have q1 := hS.1
        simp only [List.mem_cons, forall_eq_or_imp] at hv q1
        exact q1.2 v hv, hS.2⟩
    · cases ho
  · cases ho
theorem y_obj {k : pu_K} (h : pu_Z k) : pu_Z (s_obj k) := by
  intro ls st M o ho hS
  unfold s_obj at ho
  split at ho
  · split at ho
    · exact h ls _ M o ho ⟨fun v hv => by
        have q1 := hS.1
        simp only [List.mem_cons, forall_eq_or_imp] at hv q1
        exact q1.2 v hv, hS.2⟩
    · cases ho
  · cases ho
theorem y_gi {k : pu_K} {c : Nat} {j : Nat} (h : pu_Z k) : pu_Z (s_gi c j k) := by
  intro ls st M o ho hS
  unfold s_gi at ho
  split at ho
  · split at ho
    · exact h ls _ M o ho ⟨fun v hv => by
        have q1 := hS.1
        simp only [List.mem_cons, forall_eq_or_imp] at hv q1
        rcases hv with rfl | hv
        · trivial
        · exact q1.2 v hv, hS.2⟩
    · cases ho
  · cases ho
theorem y_len {k : pu_K} (h : pu_Z k) : pu_Z (s_len k) := by
  intro ls st M o ho hS
  unfold s_len at ho
  split at ho
  · split at ho
    · exact h ls _ M o ho ⟨fun v hv => by
        have q1 := hS.1
        simp only [List.mem_cons, forall_eq_or_imp] at hv q1
        rcases hv with rfl | hv
        · trivial
        · exact q1.2 v hv, hS.2⟩
    · cases ho
  · cases ho
theorem y_ai {k : pu_K} {kd : Nat} (h : pu_Z k) : pu_Z (s_ai kd k) := by
  intro ls st M o ho hS
  unfold s_ai at ho
  split at ho
  · split at ho
    · exact h ls _ M o ho ⟨fun v hv => by
        have q1 := hS.1
        simp only [List.mem_cons, forall_eq_or_imp] at hv q1
        rcases hv with rfl | hv
        · trivial
        · exact q1.2.2 v hv, hS.2⟩
    · cases ho
  · cases ho
theorem y_al {k : pu_K} (h : pu_Z k) : pu_Z (s_al k) := by
  intro ls st M o ho hS
  unfold s_al at ho
  split at ho
  · split at ho
    · exact h ls _ M o ho ⟨fun v hv => by
        have q1 := hS.1
        simp only [List.mem_cons, forall_eq_or_imp] at hv q1
        rcases hv with rfl | hv
        · trivial
        · exact q1.2.2 v hv, hS.2⟩
    · cases ho
  · cases ho
theorem y_sld {k : pu_K} {L : Nat} {xs : Nat → Int32} (h : pu_Z k) : pu_Z (s_sld L xs k) := by
  intro ls st M o ho hS
  unfold s_sld at ho
  split at ho
  · split at ho
    · exact h ls _ M o ho ⟨fun v hv => by
        have q1 := hS.1
        simp only [List.mem_cons, forall_eq_or_imp] at hv q1
        rcases hv with rfl | hv
        · trivial
        · exact q1.2.2 v hv, hS.2⟩
    · cases ho
  · cases ho
theorem y_sln {k : pu_K} {L : Nat} (h : pu_Z k) : pu_Z (s_sln L k) := by
  intro ls st M o ho hS
  unfold s_sln at ho
  split at ho
  · exact h ls _ M o ho ⟨fun v hv => by
        have q1 := hS.1
        simp only [List.mem_cons, forall_eq_or_imp] at hv q1
        rcases hv with rfl | hv
        · trivial
        · exact q1.2 v hv, hS.2⟩
  · cases ho
theorem y_gr {k : pu_K} {c j : Nat} (h : pu_Z k) : pu_Z (s_gr c j k) := by
  intro ls st M o ho hS
  unfold s_gr at ho
  split at ho
  · rename_i a st
    split at ho
    · exact h ls _ M o ho ⟨fun v hv => by
        have q1 := hS.1
        simp only [List.mem_cons, forall_eq_or_imp] at hv q1
        rcases hv with rfl | hv
        · cases hr : M.2.2.1 a j with
          | none => trivial
          | some r => exact hS.2.2 a j r q1.1 hr
        · exact q1.2 v hv, hS.2⟩
    · cases ho
  · cases ho
theorem y_ar {k : pu_K} (h : pu_Z k) : pu_Z (s_ar k) := by
  intro ls st M o ho hS
  unfold s_ar at ho
  split at ho
  · rename_i i a st
    split at ho
    · exact h ls _ M o ho ⟨fun v hv => by
        have q1 := hS.1
        simp only [List.mem_cons, forall_eq_or_imp] at hv q1
        rcases hv with rfl | hv
        · cases hr : M.2.2.1 a i.toNatClampNeg with
          | none => trivial
          | some r => exact hS.2.2 a _ r q1.2.1 hr
        · exact q1.2.2 v hv, hS.2⟩
    · cases ho
  · cases ho
theorem y_ifeq {kt kf : pu_K} (h1 : pu_Z kt) (h2 : pu_Z kf) : pu_Z (s_ifeq kt kf) := by
  intro ls st M o ho hS
  unfold s_ifeq at ho
  split at ho
  · have hS1 := hS.1
    simp only [List.mem_cons, forall_eq_or_imp] at hS1
    split at ho
    · first | exact h1 ls _ M o ho ⟨hS1.2, hS.2⟩ | exact h2 ls _ M o ho ⟨hS1.2, hS.2⟩
    · first | exact h2 ls _ M o ho ⟨hS1.2, hS.2⟩ | exact h1 ls _ M o ho ⟨hS1.2, hS.2⟩
  · cases ho
theorem y_iceq {kt kf : pu_K} (h1 : pu_Z kt) (h2 : pu_Z kf) : pu_Z (s_iceq kt kf) := by
  intro ls st M o ho hS
  unfold s_iceq at ho
  split at ho
  · have hS1 := hS.1
    simp only [List.mem_cons, forall_eq_or_imp] at hS1
    split at ho
    · first | exact h1 ls _ M o ho ⟨hS1.2.2, hS.2⟩ | exact h2 ls _ M o ho ⟨hS1.2.2, hS.2⟩
    · first | exact h2 ls _ M o ho ⟨hS1.2.2, hS.2⟩ | exact h1 ls _ M o ho ⟨hS1.2.2, hS.2⟩
  · cases ho
theorem y_ifne {kt kf : pu_K} (h1 : pu_Z kt) (h2 : pu_Z kf) : pu_Z (s_ifne kt kf) := by
  intro ls st M o ho hS
  unfold s_ifne at ho
  split at ho
  · have hS1 := hS.1
    simp only [List.mem_cons, forall_eq_or_imp] at hS1
    split at ho
    · first | exact h1 ls _ M o ho ⟨hS1.2, hS.2⟩ | exact h2 ls _ M o ho ⟨hS1.2, hS.2⟩
    · first | exact h2 ls _ M o ho ⟨hS1.2, hS.2⟩ | exact h1 ls _ M o ho ⟨hS1.2, hS.2⟩
  · cases ho
theorem y_icne {kt kf : pu_K} (h1 : pu_Z kt) (h2 : pu_Z kf) : pu_Z (s_icne kt kf) := by
  intro ls st M o ho hS
  unfold s_icne at ho
  split at ho
  · have hS1 := hS.1
    simp only [List.mem_cons, forall_eq_or_imp] at hS1
    split at ho
    · first | exact h1 ls _ M o ho ⟨hS1.2.2, hS.2⟩ | exact h2 ls _ M o ho ⟨hS1.2.2, hS.2⟩
    · first | exact h2 ls _ M o ho ⟨hS1.2.2, hS.2⟩ | exact h1 ls _ M o ho ⟨hS1.2.2, hS.2⟩
  · cases ho
theorem y_iflt {kt kf : pu_K} (h1 : pu_Z kt) (h2 : pu_Z kf) : pu_Z (s_iflt kt kf) := by
  intro ls st M o ho hS
  unfold s_iflt at ho
  split at ho
  · have hS1 := hS.1
    simp only [List.mem_cons, forall_eq_or_imp] at hS1
    split at ho
    · first | exact h1 ls _ M o ho ⟨hS1.2, hS.2⟩ | exact h2 ls _ M o ho ⟨hS1.2, hS.2⟩
    · first | exact h2 ls _ M o ho ⟨hS1.2, hS.2⟩ | exact h1 ls _ M o ho ⟨hS1.2, hS.2⟩
  · cases ho
theorem y_iclt {kt kf : pu_K} (h1 : pu_Z kt) (h2 : pu_Z kf) : pu_Z (s_iclt kt kf) := by
  intro ls st M o ho hS
  unfold s_iclt at ho
  split at ho
  · have hS1 := hS.1
    simp only [List.mem_cons, forall_eq_or_imp] at hS1
    split at ho
    · first | exact h1 ls _ M o ho ⟨hS1.2.2, hS.2⟩ | exact h2 ls _ M o ho ⟨hS1.2.2, hS.2⟩
    · first | exact h2 ls _ M o ho ⟨hS1.2.2, hS.2⟩ | exact h1 ls _ M o ho ⟨hS1.2.2, hS.2⟩
  · cases ho
theorem y_ifge {kt kf : pu_K} (h1 : pu_Z kt) (h2 : pu_Z kf) : pu_Z (s_ifge kt kf) := by
  intro ls st M o ho hS
  unfold s_ifge at ho
  split at ho
  · have hS1 := hS.1
    simp only [List.mem_cons, forall_eq_or_imp] at hS1
    split at ho
    · first | exact h1 ls _ M o ho ⟨hS1.2, hS.2⟩ | exact h2 ls _ M o ho ⟨hS1.2, hS.2⟩
    · first | exact h2 ls _ M o ho ⟨hS1.2, hS.2⟩ | exact h1 ls _ M o ho ⟨hS1.2, hS.2⟩
  · cases ho
theorem y_icge {kt kf : pu_K} (h1 : pu_Z kt) (h2 : pu_Z kf) : pu_Z (s_icge kt kf) := by
  intro ls st M o ho hS
  unfold s_icge at ho
  split at ho
  · have hS1 := hS.1
    simp only [List.mem_cons, forall_eq_or_imp] at hS1
    split at ho
    · first | exact h1 ls _ M o ho ⟨hS1.2.2, hS.2⟩ | exact h2 ls _ M o ho ⟨hS1.2.2, hS.2⟩
    · first | exact h2 ls _ M o ho ⟨hS1.2.2, hS.2⟩ | exact h1 ls _ M o ho ⟨hS1.2.2, hS.2⟩
  · cases ho
theorem y_ifgt {kt kf : pu_K} (h1 : pu_Z kt) (h2 : pu_Z kf) : pu_Z (s_ifgt kt kf) := by
  intro ls st M o ho hS
  unfold s_ifgt at ho
  split at ho
  · have hS1 := hS.1
    simp only [List.mem_cons, forall_eq_or_imp] at hS1
    split at ho
    · first | exact h1 ls _ M o ho ⟨hS1.2, hS.2⟩ | exact h2 ls _ M o ho ⟨hS1.2, hS.2⟩
    · first | exact h2 ls _ M o ho ⟨hS1.2, hS.2⟩ | exact h1 ls _ M o ho ⟨hS1.2, hS.2⟩
  · cases ho
theorem y_icgt {kt kf : pu_K} (h1 : pu_Z kt) (h2 : pu_Z kf) : pu_Z (s_icgt kt kf) := by
  intro ls st M o ho hS
  unfold s_icgt at ho
  split at ho
  · have hS1 := hS.1
    simp only [List.mem_cons, forall_eq_or_imp] at hS1
    split at ho
    · first | exact h1 ls _ M o ho ⟨hS1.2.2, hS.2⟩ | exact h2 ls _ M o ho ⟨hS1.2.2, hS.2⟩
    · first | exact h2 ls _ M o ho ⟨hS1.2.2, hS.2⟩ | exact h1 ls _ M o ho ⟨hS1.2.2, hS.2⟩
  · cases ho
theorem y_ifle {kt kf : pu_K} (h1 : pu_Z kt) (h2 : pu_Z kf) : pu_Z (s_ifle kt kf) := by
  intro ls st M o ho hS
  unfold s_ifle at ho
  split at ho
  · have hS1 := hS.1
    simp only [List.mem_cons, forall_eq_or_imp] at hS1
    split at ho
    · first | exact h1 ls _ M o ho ⟨hS1.2, hS.2⟩ | exact h2 ls _ M o ho ⟨hS1.2, hS.2⟩
    · first | exact h2 ls _ M o ho ⟨hS1.2, hS.2⟩ | exact h1 ls _ M o ho ⟨hS1.2, hS.2⟩
  · cases ho
theorem y_icle {kt kf : pu_K} (h1 : pu_Z kt) (h2 : pu_Z kf) : pu_Z (s_icle kt kf) := by
  intro ls st M o ho hS
  unfold s_icle at ho
  split at ho
  · have hS1 := hS.1
    simp only [List.mem_cons, forall_eq_or_imp] at hS1
    split at ho
    · first | exact h1 ls _ M o ho ⟨hS1.2.2, hS.2⟩ | exact h2 ls _ M o ho ⟨hS1.2.2, hS.2⟩
    · first | exact h2 ls _ M o ho ⟨hS1.2.2, hS.2⟩ | exact h1 ls _ M o ho ⟨hS1.2.2, hS.2⟩
  · cases ho
theorem y_nn {kt kf : pu_K} (h1 : pu_Z kt) (h2 : pu_Z kf) : pu_Z (s_nn kt kf) := by
  intro ls st M o ho hS
  unfold s_nn at ho
  have hS1 := hS.1
  split at ho
  · simp only [List.mem_cons, forall_eq_or_imp] at hS1
    exact h1 ls _ M o ho ⟨hS1.2, hS.2⟩
  · simp only [List.mem_cons, forall_eq_or_imp] at hS1
    exact h2 ls _ M o ho ⟨hS1.2, hS.2⟩
  · cases ho
theorem y_iret : pu_Z s_iret := by
  intro ls st M o ho hS
  unfold s_iret at ho
  split at ho
  · cases ho
    exact ⟨Nat.le_refl _, fun v hv => (by cases hv; trivial), hS.2.2⟩
  · cases ho
theorem y_zret : pu_Z s_zret := by
  intro ls st M o ho hS
  unfold s_zret at ho
  split at ho
  · split at ho
    · cases ho
      exact ⟨Nat.le_refl _, fun v hv => (by cases hv; trivial), hS.2.2⟩
    · cases ho
  · cases ho
theorem y_lret : pu_Z s_lret := by
  intro ls st M o ho hS
  unfold s_lret at ho
  split at ho
  · cases ho
    exact ⟨Nat.le_refl _, fun v hv => (by cases hv; trivial), hS.2.2⟩
  · cases ho
theorem y_vret : pu_Z s_vret := by
  intro ls st M o ho hS
  unfold s_vret at ho
  split at ho
  · cases ho
    exact ⟨Nat.le_refl _, fun v hv => (by cases hv), hS.2.2⟩
  · cases ho
theorem y_ist {k : pu_K} {i : Nat} (h : pu_Z k) : pu_Z (s_ist i k) := by
  intro ls st M o ho hS
  unfold s_ist at ho
  have hS1 := hS.1
  split at ho
  · split at ho
    · simp only [List.mem_cons, forall_eq_or_imp] at hS1
      exact h _ _ M o ho ⟨hS1.2, fun v hv => by
        rcases pu_set_mem hv with hv | hv
        · exact hS.2.1 v (pu_kl_mem hv)
        · cases hv; exact hS1.1, hS.2.2⟩
    · cases ho
  · cases ho
theorem y_lst {k : pu_K} {i : Nat} (h : pu_Z k) : pu_Z (s_lst i k) := by
  intro ls st M o ho hS
  unfold s_lst at ho
  have hS1 := hS.1
  split at ho
  · split at ho
    · simp only [List.mem_cons, forall_eq_or_imp] at hS1
      exact h _ _ M o ho ⟨hS1.2, fun v hv => by
        rcases pu_set_mem hv with hv | hv
        · rcases pu_set_mem hv with hv | hv
          · exact hS.2.1 v (pu_kl_mem hv)
          · cases hv; exact hS1.1
        · exact absurd hv (by simp), hS.2.2⟩
    · cases ho
  · cases ho
theorem y_ast {k : pu_K} {i : Nat} (h : pu_Z k) : pu_Z (s_ast i k) := by
  intro ls st M o ho hS
  unfold s_ast at ho
  have hS1 := hS.1
  split at ho
  · split at ho
    · simp only [List.mem_cons, forall_eq_or_imp] at hS1
      exact h _ _ M o ho ⟨hS1.2, fun v hv => by
        rcases pu_set_mem hv with hv | hv
        · exact hS.2.1 v (pu_kl_mem hv)
        · cases hv; exact hS1.1, hS.2.2⟩
    · cases ho
  · cases ho
theorem y_inc {k : pu_K} {i : Nat} {n : Int32} (h : pu_Z k) : pu_Z (s_inc i n k) := by
  intro ls st M o ho hS
  unfold s_inc at ho
  split at ho
  · exact h _ _ M o ho ⟨hS.1, fun v hv => by
      rcases pu_set_mem hv with hv | hv
      · exact hS.2.1 v (pu_kl_mem hv)
      · cases hv; trivial, hS.2.2⟩
  · cases ho
theorem y_puti {k : pu_K} {c : Nat} {j : Nat} (h : pu_Z k) : pu_Z (s_pi c j k) := by
  intro ls st M o ho hS
  unfold s_pi at ho
  split at ho
  · split at ho
    · have hS1 := hS.1
      simp only [List.mem_cons, forall_eq_or_imp] at hS1
      have hq := h ls _ _ o ho ⟨fun v hv => hS1.2.2 v hv, fun v hv => hS.2.1 v hv, fun b q r h1 h2 => hS.2.2 b q r h1 h2⟩
      exact hq
    · cases ho
  · cases ho
theorem y_pz {k : pu_K} {c : Nat} {j : Nat} (h : pu_Z k) : pu_Z (s_pz c j k) := by
  intro ls st M o ho hS
  unfold s_pz at ho
  split at ho
  · split at ho
    · have hS1 := hS.1
      simp only [List.mem_cons, forall_eq_or_imp] at hS1
      have hq := h ls _ _ o ho ⟨fun v hv => hS1.2.2 v hv, fun v hv => hS.2.1 v hv, fun b q r h1 h2 => hS.2.2 b q r h1 h2⟩
      exact hq
    · cases ho
  · cases ho
theorem y_pr {k : pu_K} {c : Nat} {j : Nat} (h : pu_Z k) : pu_Z (s_pr c j k) := by
  intro ls st M o ho hS
  unfold s_pr at ho
  split at ho
  · split at ho
    · have hS1 := hS.1
      simp only [List.mem_cons, forall_eq_or_imp] at hS1
      have hq := h ls _ _ o ho ⟨fun v hv => hS1.2.2 v hv, fun v hv => hS.2.1 v hv, fun b q r h1 h2 => by
        unfold pu_wr at h1 h2 ⊢
        dsimp only at h1 h2 ⊢
        split at h2
        · split at h2
          · cases h2; exact hS1.1
          · exact hS.2.2 b q r h1 h2
        · exact hS.2.2 b q r h1 h2⟩
      exact hq
    · cases ho
  · cases ho
theorem y_wi {k : pu_K} {kd : Nat} (h : pu_Z k) : pu_Z (s_wi kd k) := by
  intro ls st M o ho hS
  unfold s_wi at ho
  split at ho
  · split at ho
    · have hS1 := hS.1
      simp only [List.mem_cons, forall_eq_or_imp] at hS1
      have hq := h ls _ _ o ho ⟨fun v hv => hS1.2.2.2 v hv, fun v hv => hS.2.1 v hv, fun b q r h1 h2 => hS.2.2 b q r h1 h2⟩
      exact hq
    · cases ho
  · cases ho
theorem y_wb {k : pu_K} (h : pu_Z k) : pu_Z (s_wb k) := by
  intro ls st M o ho hS
  unfold s_wb at ho
  split at ho
  · split at ho
    · have hS1 := hS.1
      simp only [List.mem_cons, forall_eq_or_imp] at hS1
      have hq := h ls _ _ o ho ⟨fun v hv => hS1.2.2.2 v hv, fun v hv => hS.2.1 v hv, fun b q r h1 h2 => hS.2.2 b q r h1 h2⟩
      exact hq
    · cases ho
  · cases ho
theorem y_wz {k : pu_K} (h : pu_Z k) : pu_Z (s_wz k) := by
  intro ls st M o ho hS
  unfold s_wz at ho
  split at ho
  · split at ho
    · have hS1 := hS.1
      simp only [List.mem_cons, forall_eq_or_imp] at hS1
      have hq := h ls _ _ o ho ⟨fun v hv => hS1.2.2.2 v hv, fun v hv => hS.2.1 v hv, fun b q r h1 h2 => hS.2.2 b q r h1 h2⟩
      exact hq
    · cases ho
  · cases ho
theorem y_wl {k : pu_K} (h : pu_Z k) : pu_Z (s_wl k) := by
  intro ls st M o ho hS
  unfold s_wl at ho
  split at ho
  · split at ho
    · have hS1 := hS.1
      simp only [List.mem_cons, forall_eq_or_imp] at hS1
      have hq := h ls _ _ o ho ⟨fun v hv => hS1.2.2.2 v hv, fun v hv => hS.2.1 v hv, fun b q r h1 h2 => hS.2.2 b q r h1 h2⟩
      exact hq
    · cases ho
  · cases ho
theorem y_wr {k : pu_K} (h : pu_Z k) : pu_Z (s_wr k) := by
  intro ls st M o ho hS
  unfold s_wr at ho
  split at ho
  · split at ho
    · have hS1 := hS.1
      simp only [List.mem_cons, forall_eq_or_imp] at hS1
      have hq := h ls _ _ o ho ⟨fun v hv => hS1.2.2.2 v hv, fun v hv => hS.2.1 v hv, fun b q r h1 h2 => by
        unfold pu_wr at h1 h2 ⊢
        dsimp only at h1 h2 ⊢
        split at h2
        · split at h2
          · cases h2; exact hS1.1
          · exact hS.2.2 b q r h1 h2
        · exact hS.2.2 b q r h1 h2⟩
      exact hq
    · cases ho
  · cases ho
theorem y_cp1 {k : pu_K} (h : pu_Z k) : pu_Z (s_cp1 k) := by
  intro ls st M o ho hS
  unfold s_cp1 at ho
  split at ho
  · split at ho
    · have hS1 := hS.1
      simp only [List.mem_cons, forall_eq_or_imp] at hS1
      have hq := h ls _ _ o ho ⟨fun v hv => hS1.2.2.2.2.2 v hv, fun v hv => hS.2.1 v hv, fun b q r h1 h2 => hS.2.2 b q r h1 h2⟩
      exact hq
    · cases ho
  · cases ho
theorem y_cp3 {k : pu_K} (h : pu_Z k) : pu_Z (s_cp3 k) := by
  intro ls st M o ho hS
  unfold s_cp3 at ho
  split at ho
  · split at ho
    · have hS1 := hS.1
      simp only [List.mem_cons, forall_eq_or_imp] at hS1
      have hq := h ls _ _ o ho ⟨fun v hv => hS1.2.2.2.2.2 v hv, fun v hv => hS.2.1 v hv, fun b q r h1 h2 => hS.2.2 b q r h1 h2⟩
      exact hq
    · cases ho
  · cases ho
theorem y_new {k : pu_K} {c : Nat} (h : pu_Z k) : pu_Z (s_new c k) := by
  intro ls st M o ho hS
  unfold s_new at ho
  split at ho
  · obtain ⟨a1, a2⟩ := h ls _ (pu_nw M) o ho ⟨fun v hv => by
      rcases List.mem_cons.mp hv with rfl | hv
      · exact Nat.lt_succ_self _
      · exact pu_ok_mono (Nat.le_succ _) (hS.1 v hv), fun v hv => pu_ok_mono (Nat.le_succ _) (hS.2.1 v hv), pu_nw_okM hS.2.2⟩
    exact ⟨Nat.le_of_succ_le a1, a2⟩
  · cases ho
theorem y_na {k : pu_K} {kd : Nat} (h : pu_Z k) : pu_Z (s_na kd k) := by
  intro ls st M o ho hS
  unfold s_na at ho
  split at ho
  · split at ho
    · obtain ⟨a1, a2⟩ := h ls _ (pu_nw M) o ho ⟨fun v hv => by
        rcases List.mem_cons.mp hv with rfl | hv
        · exact Nat.lt_succ_self _
        · exact pu_ok_mono (Nat.le_succ _) (hS.1 v (List.mem_cons_of_mem _ hv)), fun v hv => pu_ok_mono (Nat.le_succ _) (hS.2.1 v hv), pu_nw_okM hS.2.2⟩
      exact ⟨Nat.le_of_succ_le a1, a2⟩
    · cases ho
  · cases ho
theorem pu_as_mem {vs : List Value} {v : Value} (h : some v ∈ pu_as vs) : v ∈ vs := by
  unfold pu_as at h
  obtain ⟨w, hw, h2⟩ := List.mem_flatMap.mp h
  split at h2
  · simp at h2; rw [h2]; exact hw
  · simp at h2; rw [h2]; exact hw
theorem pu_bkz {k : pu_K} {r : pu_R} {j : Nat} {ls : pu_L} {st vs rest : List Value} {M : pu_M} {o : pu_O} (hr : ∀ i, pu_Z (r i)) (h : pu_Z k) (hS : pu_okS ls st M) (hvs : ∀ v ∈ vs, v ∈ st) (hre : ∀ v ∈ rest, v ∈ st) (ho : pu_bk k ls rest (r j (pu_as vs) [] M) = some o) : M.2.2.2 ≤ o.2.2.2.2 ∧ pu_okO o := by
  cases hq : r j (pu_as vs) [] M with
  | none => rw [hq] at ho; cases ho
  | some q =>
    rw [hq] at ho
    obtain ⟨hm, hok⟩ := hr j _ _ _ _ hq ⟨fun v hv => by simp at hv, fun v hv => hS.1 v (hvs v (pu_as_mem hv)), hS.2.2⟩
    obtain ⟨a1, a2⟩ := h ls (q.1.toList ++ rest) q.2 o ho ⟨fun v hv => by
      rcases List.mem_append.mp hv with hv | hv
      · exact hok.1 v (by cases h1 : q.1 with
          | none => rw [h1] at hv; simp at hv
          | some w => rw [h1] at hv; simp at hv; rw [hv])
      · exact pu_ok_mono hm (hS.1 v (hre v hv)), fun v hv => pu_ok_mono hm (hS.2.1 v hv), hok.2⟩
    exact ⟨Nat.le_trans hm a1, a2⟩
theorem y_cv {k : pu_K} {r : pu_R} {j n c : Nat} (hr : ∀ i, pu_Z (r i)) (h : pu_Z k) : pu_Z (s_cv r j n c k) := by
  intro ls st M o ho hS
  unfold s_cv at ho
  split at ho
  · rename_i a rest hdr
    have hst : st = st.take n ++ .ref a :: rest := by rw [← hdr, List.take_append_drop]
    split at ho
    · exact pu_bkz hr h hS (fun v hv => by
        rw [hst]
        rcases List.mem_cons.mp hv with rfl | hv
        · simp
        · exact List.mem_append_left _ (List.mem_reverse.mp hv)) (fun v hv => by rw [hst]; simp [hv]) ho
    · cases ho
  · cases ho
theorem y_ci {k : pu_K} {r : pu_R} {j n : Nat} (hr : ∀ i, pu_Z (r i)) (h : pu_Z k) : pu_Z (s_ci r j n k) := by
  intro ls st M o ho hS
  unfold s_ci at ho
  split at ho
  · rename_i a rest hdr
    have hst : st = st.take n ++ .ref a :: rest := by rw [← hdr, List.take_append_drop]
    split at ho
    · exact pu_bkz hr h hS (fun v hv => by
        rw [hst]
        rcases List.mem_cons.mp hv with rfl | hv
        · simp
        · exact List.mem_append_left _ (List.mem_reverse.mp hv)) (fun v hv => by rw [hst]; simp [hv]) ho
    · cases ho
  · cases ho
theorem y_cs {k : pu_K} {r : pu_R} {j n : Nat} (hr : ∀ i, pu_Z (r i)) (h : pu_Z k) : pu_Z (s_cs r j n k) := by
  intro ls st M o ho hS
  unfold s_cs at ho
  split at ho
  · exact pu_bkz hr h hS (fun v hv => List.mem_of_mem_take (List.mem_reverse.mp hv)) (fun v hv => List.mem_of_mem_drop hv) ho
  · cases ho
/-- a method's entry: its other locals are unset -/
def s_ent (n : Nat) (k : pu_K) : pu_K := fun ls _ M => if ls.length ≤ n then k (ls ++ List.replicate (n - ls.length) none) [] M else none
theorem y_ent {k : pu_K} {n : Nat} (h : pu_Z k) : pu_Z (s_ent n k) := by
  intro ls st M o ho hS
  unfold s_ent at ho
  split at ho
  · exact h _ _ M o ho ⟨fun v hv => (by simp at hv), fun v hv => by
      rcases List.mem_append.mp hv with hv | hv
      · exact hS.2.1 v hv
      · exact absurd (List.eq_of_mem_replicate hv) (by simp), hS.2.2⟩
  · cases ho
