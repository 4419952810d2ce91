/-! words as numbers and as rows of letters -/
def py_wr : List Nat → Nat
  | [] => 0
  | d :: rs => py_wr rs * 27 + (d + 1)
theorem py_wv_r (ds : List Nat) : pu_wv ds = py_wr ds.reverse := by
  unfold pu_wv
  have e : ∀ l : List Nat, l.foldr (fun d v => v * 27 + (d + 1)) 0 = py_wr l := by
    intro l
    induction l with
    | nil => rfl
    | cons d l ih =>
      show List.foldr (fun d v => v * 27 + (d + 1)) 0 l * 27 + (d + 1) = _
      rw [ih]
      rfl
  rw [← e, List.foldr_reverse]
theorem py_wr_inj : ∀ a b : List Nat, (∀ d ∈ a, d < 26) → (∀ d ∈ b, d < 26) → py_wr a = py_wr b → a = b
  | [], [], _, _, _ => rfl
  | [], d :: b, _, _, h => by
    have : 0 = py_wr b * 27 + (d + 1) := h
    omega
  | d :: a, [], _, _, h => by
    have : py_wr a * 27 + (d + 1) = 0 := h
    omega
  | d :: a, e :: b, h1, h2, h => by
    have h3 : py_wr a * 27 + (d + 1) = py_wr b * 27 + (e + 1) := h
    have d1 := h1 d List.mem_cons_self
    have e1 := h2 e List.mem_cons_self
    have q : d = e ∧ py_wr a = py_wr b := by omega
    rw [q.1, py_wr_inj a b (fun x hx => h1 x (List.mem_cons_of_mem _ hx)) (fun x hx => h2 x (List.mem_cons_of_mem _ hx)) q.2]
theorem py_wr_b : ∀ a : List Nat, (∀ d ∈ a, d < 26) → py_wr a + 1 ≤ 27 ^ a.length
  | [], _ => by simp [py_wr]
  | d :: a, h => by
    have ih := py_wr_b a (fun x hx => h x (List.mem_cons_of_mem _ hx))
    have d1 := h d List.mem_cons_self
    have e : 27 ^ (d :: a).length = 27 ^ a.length * 27 := by
      rw [List.length_cons, Nat.pow_succ]
    rw [e]
    show py_wr a * 27 + (d + 1) + 1 ≤ _
    omega
theorem py_wv_b {ds : List Nat} (hl : ds.length ≤ 12) (h : ∀ d ∈ ds, d < 26) : pu_wv ds < 2 ^ 63 := by
  rw [py_wv_r]
  have q := py_wr_b ds.reverse (fun d hd => h d (List.mem_reverse.mp hd))
  rw [List.length_reverse] at q
  have : 27 ^ ds.length ≤ 27 ^ 12 := Nat.pow_le_pow_right (by omega) hl
  have e : (27 : Nat) ^ 12 < 2 ^ 63 := by decide
  omega
theorem py_wv_inj {a b : List Nat} (h1 : ∀ d ∈ a, d < 26) (h2 : ∀ d ∈ b, d < 26) (h : pu_wv a = pu_wv b) : a = b := by
  rw [py_wv_r, py_wv_r] at h
  have := py_wr_inj _ _ (fun d hd => h1 d (List.mem_reverse.mp hd)) (fun d hd => h2 d (List.mem_reverse.mp hd)) h
  have := congrArg List.reverse this
  rw [List.reverse_reverse, List.reverse_reverse] at this
  exact this
theorem py_lt_inj {a b : List Nat} (la : a.length ≤ 12) (lb : b.length ≤ 12) (h1 : ∀ d ∈ a, d < 26) (h2 : ∀ d ∈ b, d < 26) (h : ∀ i, i < 12 → pu_lt a i = pu_lt b i) : a = b := by
  apply List.ext_getElem?
  intro i
  by_cases c : i < 12
  · have q := h i c
    unfold pu_lt at q
    cases ea : a[i]? with
    | none =>
      cases eb : b[i]? with
      | none => rfl
      | some e =>
        rw [ea, eb] at q
        have e1 := h2 e (List.mem_of_getElem? eb)
        rw [show (0 : Int32) = nI 0 from rfl] at q
        have := (nI_eq (by omega) (by omega)).mp q
        omega
    | some d =>
      have d1 := h1 d (List.mem_of_getElem? ea)
      cases eb : b[i]? with
      | none =>
        rw [ea, eb] at q
        rw [show (0 : Int32) = nI 0 from rfl] at q
        have := (nI_eq (by omega) (by omega)).mp q
        omega
      | some e =>
        rw [ea, eb] at q
        have e1 := h2 e (List.mem_of_getElem? eb)
        have := (nI_eq (by omega) (by omega)).mp q
        congr 1
        omega
  · rw [List.getElem?_eq_none (by omega), List.getElem?_eq_none (by omega)]
theorem py_wd_eq {s s' : Nat → Int32} {a a' : Nat} {x x' : Int64} (h : pu_Wd s a x) (h' : pu_Wd s' a' x') : (∀ i, i < 12 → s (a + i) = s' (a' + i)) ↔ x = x' := by
  obtain ⟨ds, l1, d1, r1, e1⟩ := h
  obtain ⟨es, l2, d2, r2, e2⟩ := h'
  constructor
  · intro q
    have := py_lt_inj l1 l2 d1 d2 (fun i hi => by rw [← r1 i hi, ← r2 i hi]; exact q i hi)
    rw [e1, e2, this]
  · intro q i hi
    rw [e1, e2, pk_lEQ (py_wv_b l1 d1) (py_wv_b l2 d2)] at q
    rw [r1 i hi, r2 i hi, py_wv_inj d1 d2 q]
theorem py_wd_0 {s : Nat → Int32} {a : Nat} {x : Int64} (h : pu_Wd s a x) : (s a = 0) ↔ x = 0 := by
  obtain ⟨ds, l1, d1, r1, e1⟩ := h
  have q := r1 0 (by omega)
  rw [Nat.add_zero] at q
  rw [q, e1]
  cases ds with
  | nil => exact ⟨fun _ => rfl, fun _ => rfl⟩
  | cons d ds =>
    have dd := d1 d List.mem_cons_self
    constructor
    · intro z
      have z2 : nI (97 + d) = nI 0 := z
      have := (nI_eq (by omega) (by omega)).mp z2
      omega
    · intro z
      have z2 : lN (pu_wv (d :: ds)) = lN 0 := z
      rw [pk_lEQ (py_wv_b l1 d1) (by decide)] at z2
      have : pu_wv (d :: ds) = pu_wv [] := z2
      have := py_wv_inj d1 (fun _ h => by cases h) this
      cases this
theorem py_cmp (x y : Int64) : (lg_cmp x y = 0) = (x = y) := by
  unfold lg_cmp
  apply propext
  by_cases c : x > y
  · rw [if_pos c]
    constructor
    · intro z
      exact absurd z (by decide)
    · intro z
      rw [z] at c
      exact absurd c Int64.lt_irrefl
  · rw [if_neg c]
    by_cases d : x = y
    · simp [d]
    · simp [d]
def py_lk (f g : Nat → Int64) (a b : Nat) : Prop := ∀ w, w < 3 → f (a + w) = g (b + w)
theorem py_lk3 (f g : Nat → Int64) (a b : Nat) : py_lk f g a b ↔ (f a = g b ∧ f (a + 1) = g (b + 1) ∧ f (a + 2) = g (b + 2)) := by
  unfold py_lk
  constructor
  · intro h
    exact ⟨h 0 (by omega), h 1 (by omega), h 2 (by omega)⟩
  · rintro ⟨h0, h1, h2⟩ w hw
    match w, hw with
    | 0, _ => exact h0
    | 1, _ => exact h1
    | 2, _ => exact h2
    | w + 3, hw => omega
theorem c_areLike {M : pu_M} (ra rb la lb a b : Nat) (sa : pu_sh ra = (3, la)) (sb : pu_sh rb = (3, lb)) (ha : a + 3 ≤ la) (hb : b + 3 ≤ lb) (hla : la < 5000) (hlb : lb < 5000) : pu_r 32 [some (.ref ra), some (.int (nI a)), some (.ref rb), some (.int (nI b))] [] M = some (some (.int (pu_q (py_lk (M.2.1 ra) (M.2.1 rb) a b))), M) := by
  have hl : la ≤ la := Nat.le_refl _
  have k := py_lk3 (M.2.1 ra) (M.2.1 rb) a b
  have L3 : pu_r 362 [some (.ref ra), some (.int (nI a)), some (.ref rb), some (.int (nI b)), some (.int 3)] [] M = some (some (.int 1), M) := by
    rw [qX3_areLike_3]
    simp [bX3_areLike_3, bX3_areLike_33, bX3_areLike_27, a_al, a_ald, a_iadd, a_icge, a_ifeq, a_ild, a_inc, a_lcmp, a_push, a_zret, pu_rv, pu_as, Value.category, pu_bk, pu_kl, List.replicate, pu_wi_1, pu_wi_2, nl_add, nl_ladd, nl_aa, nl_mul, nl_rmul, nl_mm, pu_qe0, pu_qe1]
    all_goals try simp (maxSteps := 400000) (disch := omega) [nl_tle, nl_fle, nl_tlt, nl_flt, nl_teq, nl_feq, nl_sub, nl_ss, nl_lt, nl_llt, nl_ltt, nl_le, nl_lle, nl_lee, nl_eq, nl_leq, nl_ee, nl_div, nl_rem, nl_cl, nl_n1, nl_n2, nl_n3, nl_n4, nl_add, nl_ladd, nl_aa, nl_mul, nl_rmul, nl_mm, pu_wi_1, pu_wi_2, bX3_areLike_3, bX3_areLike_33, bX3_areLike_27, a_al, a_ald, a_iadd, a_icge, a_ifeq, a_ild, a_inc, a_lcmp, a_push, a_zret, pu_rv, pu_as, Value.category, pu_bk, pu_kl, pu_qe0, pu_qe1]
    all_goals try simp [bX3_areLike_3, bX3_areLike_33, bX3_areLike_27, a_al, a_ald, a_iadd, a_icge, a_ifeq, a_ild, a_inc, a_lcmp, a_push, a_zret, pu_rv, pu_as, Value.category, pu_bk, pu_kl, List.replicate, pu_wi_1, pu_wi_2, nl_add, nl_ladd, nl_aa, nl_mul, nl_rmul, nl_mm, pu_qe0, pu_qe1]
    all_goals try simp (maxSteps := 400000) (disch := omega) [nl_tle, nl_fle, nl_tlt, nl_flt, nl_teq, nl_feq, nl_sub, nl_ss, nl_lt, nl_llt, nl_ltt, nl_le, nl_lle, nl_lee, nl_eq, nl_leq, nl_ee, nl_div, nl_rem, nl_cl, nl_n1, nl_n2, nl_n3, nl_n4, nl_add, nl_ladd, nl_aa, nl_mul, nl_rmul, nl_mm, pu_wi_1, pu_wi_2, bX3_areLike_3, bX3_areLike_33, bX3_areLike_27, a_al, a_ald, a_iadd, a_icge, a_ifeq, a_ild, a_inc, a_lcmp, a_push, a_zret, pu_rv, pu_as, Value.category, pu_bk, pu_kl, pu_qe0, pu_qe1]
  have i0 : a < la ∧ b < lb := by omega
  have i1 : a + 1 < la ∧ b + 1 < lb := by omega
  have i2 : a + 2 < la ∧ b + 2 < lb := by omega
  by_cases c0 : M.2.1 ra a = M.2.1 rb b
  · by_cases c1 : M.2.1 ra (a + 1) = M.2.1 rb (b + 1)
    · by_cases c2 : M.2.1 ra (a + 2) = M.2.1 rb (b + 2)
      · rw [pu_q1 (k.mpr ⟨c0, c1, c2⟩)]
        have L2 : pu_r 362 [some (.ref ra), some (.int (nI a)), some (.ref rb), some (.int (nI b)), some (.int 2)] [] M = some (some (.int 1), M) := by
          rw [qX3_areLike_3]
          simp [bX3_areLike_3, bX3_areLike_33, bX3_areLike_27, a_al, a_ald, a_iadd, a_icge, a_ifeq, a_ild, a_inc, a_lcmp, a_push, a_zret, pu_rv, pu_as, Value.category, pu_bk, pu_kl, List.replicate, pu_wi_1, pu_wi_2, nl_add, nl_ladd, nl_aa, nl_mul, nl_rmul, nl_mm, pu_qe0, pu_qe1, sa, sb, c2, i2.1, i2.2, py_cmp, L3]
          all_goals try simp (maxSteps := 400000) (disch := omega) [nl_tle, nl_fle, nl_tlt, nl_flt, nl_teq, nl_feq, nl_sub, nl_ss, nl_lt, nl_llt, nl_ltt, nl_le, nl_lle, nl_lee, nl_eq, nl_leq, nl_ee, nl_div, nl_rem, nl_cl, nl_n1, nl_n2, nl_n3, nl_n4, nl_add, nl_ladd, nl_aa, nl_mul, nl_rmul, nl_mm, pu_wi_1, pu_wi_2, bX3_areLike_3, bX3_areLike_33, bX3_areLike_27, a_al, a_ald, a_iadd, a_icge, a_ifeq, a_ild, a_inc, a_lcmp, a_push, a_zret, pu_rv, pu_as, Value.category, pu_bk, pu_kl, pu_qe0, pu_qe1, sa, sb, c2, i2.1, i2.2, py_cmp, L3]
          all_goals try simp [bX3_areLike_3, bX3_areLike_33, bX3_areLike_27, a_al, a_ald, a_iadd, a_icge, a_ifeq, a_ild, a_inc, a_lcmp, a_push, a_zret, pu_rv, pu_as, Value.category, pu_bk, pu_kl, List.replicate, pu_wi_1, pu_wi_2, nl_add, nl_ladd, nl_aa, nl_mul, nl_rmul, nl_mm, pu_qe0, pu_qe1, sa, sb, c2, i2.1, i2.2, py_cmp, L3]
          all_goals try simp (maxSteps := 400000) (disch := omega) [nl_tle, nl_fle, nl_tlt, nl_flt, nl_teq, nl_feq, nl_sub, nl_ss, nl_lt, nl_llt, nl_ltt, nl_le, nl_lle, nl_lee, nl_eq, nl_leq, nl_ee, nl_div, nl_rem, nl_cl, nl_n1, nl_n2, nl_n3, nl_n4, nl_add, nl_ladd, nl_aa, nl_mul, nl_rmul, nl_mm, pu_wi_1, pu_wi_2, bX3_areLike_3, bX3_areLike_33, bX3_areLike_27, a_al, a_ald, a_iadd, a_icge, a_ifeq, a_ild, a_inc, a_lcmp, a_push, a_zret, pu_rv, pu_as, Value.category, pu_bk, pu_kl, pu_qe0, pu_qe1, sa, sb, c2, i2.1, i2.2, py_cmp, L3]
        have L1 : pu_r 362 [some (.ref ra), some (.int (nI a)), some (.ref rb), some (.int (nI b)), some (.int 1)] [] M = some (some (.int 1), M) := by
          rw [qX3_areLike_3]
          simp [bX3_areLike_3, bX3_areLike_33, bX3_areLike_27, a_al, a_ald, a_iadd, a_icge, a_ifeq, a_ild, a_inc, a_lcmp, a_push, a_zret, pu_rv, pu_as, Value.category, pu_bk, pu_kl, List.replicate, pu_wi_1, pu_wi_2, nl_add, nl_ladd, nl_aa, nl_mul, nl_rmul, nl_mm, pu_qe0, pu_qe1, sa, sb, c1, i1.1, i1.2, py_cmp, L2]
          all_goals try simp (maxSteps := 400000) (disch := omega) [nl_tle, nl_fle, nl_tlt, nl_flt, nl_teq, nl_feq, nl_sub, nl_ss, nl_lt, nl_llt, nl_ltt, nl_le, nl_lle, nl_lee, nl_eq, nl_leq, nl_ee, nl_div, nl_rem, nl_cl, nl_n1, nl_n2, nl_n3, nl_n4, nl_add, nl_ladd, nl_aa, nl_mul, nl_rmul, nl_mm, pu_wi_1, pu_wi_2, bX3_areLike_3, bX3_areLike_33, bX3_areLike_27, a_al, a_ald, a_iadd, a_icge, a_ifeq, a_ild, a_inc, a_lcmp, a_push, a_zret, pu_rv, pu_as, Value.category, pu_bk, pu_kl, pu_qe0, pu_qe1, sa, sb, c1, i1.1, i1.2, py_cmp, L2]
          all_goals try simp [bX3_areLike_3, bX3_areLike_33, bX3_areLike_27, a_al, a_ald, a_iadd, a_icge, a_ifeq, a_ild, a_inc, a_lcmp, a_push, a_zret, pu_rv, pu_as, Value.category, pu_bk, pu_kl, List.replicate, pu_wi_1, pu_wi_2, nl_add, nl_ladd, nl_aa, nl_mul, nl_rmul, nl_mm, pu_qe0, pu_qe1, sa, sb, c1, i1.1, i1.2, py_cmp, L2]
          all_goals try simp (maxSteps := 400000) (disch := omega) [nl_tle, nl_fle, nl_tlt, nl_flt, nl_teq, nl_feq, nl_sub, nl_ss, nl_lt, nl_llt, nl_ltt, nl_le, nl_lle, nl_lee, nl_eq, nl_leq, nl_ee, nl_div, nl_rem, nl_cl, nl_n1, nl_n2, nl_n3, nl_n4, nl_add, nl_ladd, nl_aa, nl_mul, nl_rmul, nl_mm, pu_wi_1, pu_wi_2, bX3_areLike_3, bX3_areLike_33, bX3_areLike_27, a_al, a_ald, a_iadd, a_icge, a_ifeq, a_ild, a_inc, a_lcmp, a_push, a_zret, pu_rv, pu_as, Value.category, pu_bk, pu_kl, pu_qe0, pu_qe1, sa, sb, c1, i1.1, i1.2, py_cmp, L2]
        have L0 : pu_r 362 [some (.ref ra), some (.int (nI a)), some (.ref rb), some (.int (nI b)), some (.int 0)] [] M = some (some (.int 1), M) := by
          rw [qX3_areLike_3]
          simp [bX3_areLike_3, bX3_areLike_33, bX3_areLike_27, a_al, a_ald, a_iadd, a_icge, a_ifeq, a_ild, a_inc, a_lcmp, a_push, a_zret, pu_rv, pu_as, Value.category, pu_bk, pu_kl, List.replicate, pu_wi_1, pu_wi_2, nl_add, nl_ladd, nl_aa, nl_mul, nl_rmul, nl_mm, pu_qe0, pu_qe1, sa, sb, c0, i0.1, i0.2, py_cmp, L1]
          all_goals try simp (maxSteps := 400000) (disch := omega) [nl_tle, nl_fle, nl_tlt, nl_flt, nl_teq, nl_feq, nl_sub, nl_ss, nl_lt, nl_llt, nl_ltt, nl_le, nl_lle, nl_lee, nl_eq, nl_leq, nl_ee, nl_div, nl_rem, nl_cl, nl_n1, nl_n2, nl_n3, nl_n4, nl_add, nl_ladd, nl_aa, nl_mul, nl_rmul, nl_mm, pu_wi_1, pu_wi_2, bX3_areLike_3, bX3_areLike_33, bX3_areLike_27, a_al, a_ald, a_iadd, a_icge, a_ifeq, a_ild, a_inc, a_lcmp, a_push, a_zret, pu_rv, pu_as, Value.category, pu_bk, pu_kl, pu_qe0, pu_qe1, sa, sb, c0, i0.1, i0.2, py_cmp, L1]
          all_goals try simp [bX3_areLike_3, bX3_areLike_33, bX3_areLike_27, a_al, a_ald, a_iadd, a_icge, a_ifeq, a_ild, a_inc, a_lcmp, a_push, a_zret, pu_rv, pu_as, Value.category, pu_bk, pu_kl, List.replicate, pu_wi_1, pu_wi_2, nl_add, nl_ladd, nl_aa, nl_mul, nl_rmul, nl_mm, pu_qe0, pu_qe1, sa, sb, c0, i0.1, i0.2, py_cmp, L1]
          all_goals try simp (maxSteps := 400000) (disch := omega) [nl_tle, nl_fle, nl_tlt, nl_flt, nl_teq, nl_feq, nl_sub, nl_ss, nl_lt, nl_llt, nl_ltt, nl_le, nl_lle, nl_lee, nl_eq, nl_leq, nl_ee, nl_div, nl_rem, nl_cl, nl_n1, nl_n2, nl_n3, nl_n4, nl_add, nl_ladd, nl_aa, nl_mul, nl_rmul, nl_mm, pu_wi_1, pu_wi_2, bX3_areLike_3, bX3_areLike_33, bX3_areLike_27, a_al, a_ald, a_iadd, a_icge, a_ifeq, a_ild, a_inc, a_lcmp, a_push, a_zret, pu_rv, pu_as, Value.category, pu_bk, pu_kl, pu_qe0, pu_qe1, sa, sb, c0, i0.1, i0.2, py_cmp, L1]
        rw [qX3_areLike]
        simp [a_ent, bX3_areLike_0, a_ist, a_push, pu_rv, pu_as, Value.category, pu_bk, pu_kl, List.replicate, pu_wi_1, pu_wi_2, nl_add, nl_ladd, nl_aa, nl_mul, nl_rmul, nl_mm, pu_qe0, pu_qe1, L0]
        all_goals try simp (maxSteps := 400000) (disch := omega) [nl_tle, nl_fle, nl_tlt, nl_flt, nl_teq, nl_feq, nl_sub, nl_ss, nl_lt, nl_llt, nl_ltt, nl_le, nl_lle, nl_lee, nl_eq, nl_leq, nl_ee, nl_div, nl_rem, nl_cl, nl_n1, nl_n2, nl_n3, nl_n4, nl_add, nl_ladd, nl_aa, nl_mul, nl_rmul, nl_mm, pu_wi_1, pu_wi_2, bX3_areLike_0, a_ist, a_push, pu_rv, pu_as, Value.category, pu_bk, pu_kl, pu_qe0, pu_qe1, L0]
        all_goals try simp [bX3_areLike_0, a_ist, a_push, pu_rv, pu_as, Value.category, pu_bk, pu_kl, List.replicate, pu_wi_1, pu_wi_2, nl_add, nl_ladd, nl_aa, nl_mul, nl_rmul, nl_mm, pu_qe0, pu_qe1, L0]
        all_goals try simp (maxSteps := 400000) (disch := omega) [nl_tle, nl_fle, nl_tlt, nl_flt, nl_teq, nl_feq, nl_sub, nl_ss, nl_lt, nl_llt, nl_ltt, nl_le, nl_lle, nl_lee, nl_eq, nl_leq, nl_ee, nl_div, nl_rem, nl_cl, nl_n1, nl_n2, nl_n3, nl_n4, nl_add, nl_ladd, nl_aa, nl_mul, nl_rmul, nl_mm, pu_wi_1, pu_wi_2, bX3_areLike_0, a_ist, a_push, pu_rv, pu_as, Value.category, pu_bk, pu_kl, pu_qe0, pu_qe1, L0]
      · rw [pu_q0 (fun z => c2 (k.mp z).2.2)]
        have L2 : pu_r 362 [some (.ref ra), some (.int (nI a)), some (.ref rb), some (.int (nI b)), some (.int 2)] [] M = some (some (.int 0), M) := by
          rw [qX3_areLike_3]
          simp [bX3_areLike_3, bX3_areLike_33, bX3_areLike_27, a_al, a_ald, a_iadd, a_icge, a_ifeq, a_ild, a_inc, a_lcmp, a_push, a_zret, pu_rv, pu_as, Value.category, pu_bk, pu_kl, List.replicate, pu_wi_1, pu_wi_2, nl_add, nl_ladd, nl_aa, nl_mul, nl_rmul, nl_mm, pu_qe0, pu_qe1, sa, sb, c2, i2.1, i2.2, py_cmp]
          all_goals try simp (maxSteps := 400000) (disch := omega) [nl_tle, nl_fle, nl_tlt, nl_flt, nl_teq, nl_feq, nl_sub, nl_ss, nl_lt, nl_llt, nl_ltt, nl_le, nl_lle, nl_lee, nl_eq, nl_leq, nl_ee, nl_div, nl_rem, nl_cl, nl_n1, nl_n2, nl_n3, nl_n4, nl_add, nl_ladd, nl_aa, nl_mul, nl_rmul, nl_mm, pu_wi_1, pu_wi_2, bX3_areLike_3, bX3_areLike_33, bX3_areLike_27, a_al, a_ald, a_iadd, a_icge, a_ifeq, a_ild, a_inc, a_lcmp, a_push, a_zret, pu_rv, pu_as, Value.category, pu_bk, pu_kl, pu_qe0, pu_qe1, sa, sb, c2, i2.1, i2.2, py_cmp]
          all_goals try simp [bX3_areLike_3, bX3_areLike_33, bX3_areLike_27, a_al, a_ald, a_iadd, a_icge, a_ifeq, a_ild, a_inc, a_lcmp, a_push, a_zret, pu_rv, pu_as, Value.category, pu_bk, pu_kl, List.replicate, pu_wi_1, pu_wi_2, nl_add, nl_ladd, nl_aa, nl_mul, nl_rmul, nl_mm, pu_qe0, pu_qe1, sa, sb, c2, i2.1, i2.2, py_cmp]
          all_goals try simp (maxSteps := 400000) (disch := omega) [nl_tle, nl_fle, nl_tlt, nl_flt, nl_teq, nl_feq, nl_sub, nl_ss, nl_lt, nl_llt, nl_ltt, nl_le, nl_lle, nl_lee, nl_eq, nl_leq, nl_ee, nl_div, nl_rem, nl_cl, nl_n1, nl_n2, nl_n3, nl_n4, nl_add, nl_ladd, nl_aa, nl_mul, nl_rmul, nl_mm, pu_wi_1, pu_wi_2, bX3_areLike_3, bX3_areLike_33, bX3_areLike_27, a_al, a_ald, a_iadd, a_icge, a_ifeq, a_ild, a_inc, a_lcmp, a_push, a_zret, pu_rv, pu_as, Value.category, pu_bk, pu_kl, pu_qe0, pu_qe1, sa, sb, c2, i2.1, i2.2, py_cmp]
        have L1 : pu_r 362 [some (.ref ra), some (.int (nI a)), some (.ref rb), some (.int (nI b)), some (.int 1)] [] M = some (some (.int 0), M) := by
          rw [qX3_areLike_3]
          simp [bX3_areLike_3, bX3_areLike_33, bX3_areLike_27, a_al, a_ald, a_iadd, a_icge, a_ifeq, a_ild, a_inc, a_lcmp, a_push, a_zret, pu_rv, pu_as, Value.category, pu_bk, pu_kl, List.replicate, pu_wi_1, pu_wi_2, nl_add, nl_ladd, nl_aa, nl_mul, nl_rmul, nl_mm, pu_qe0, pu_qe1, sa, sb, c1, i1.1, i1.2, py_cmp, L2]
          all_goals try simp (maxSteps := 400000) (disch := omega) [nl_tle, nl_fle, nl_tlt, nl_flt, nl_teq, nl_feq, nl_sub, nl_ss, nl_lt, nl_llt, nl_ltt, nl_le, nl_lle, nl_lee, nl_eq, nl_leq, nl_ee, nl_div, nl_rem, nl_cl, nl_n1, nl_n2, nl_n3, nl_n4, nl_add, nl_ladd, nl_aa, nl_mul, nl_rmul, nl_mm, pu_wi_1, pu_wi_2, bX3_areLike_3, bX3_areLike_33, bX3_areLike_27, a_al, a_ald, a_iadd, a_icge, a_ifeq, a_ild, a_inc, a_lcmp, a_push, a_zret, pu_rv, pu_as, Value.category, pu_bk, pu_kl, pu_qe0, pu_qe1, sa, sb, c1, i1.1, i1.2, py_cmp, L2]
          all_goals try simp [bX3_areLike_3, bX3_areLike_33, bX3_areLike_27, a_al, a_ald, a_iadd, a_icge, a_ifeq, a_ild, a_inc, a_lcmp, a_push, a_zret, pu_rv, pu_as, Value.category, pu_bk, pu_kl, List.replicate, pu_wi_1, pu_wi_2, nl_add, nl_ladd, nl_aa, nl_mul, nl_rmul, nl_mm, pu_qe0, pu_qe1, sa, sb, c1, i1.1, i1.2, py_cmp, L2]
          all_goals try simp (maxSteps := 400000) (disch := omega) [nl_tle, nl_fle, nl_tlt, nl_flt, nl_teq, nl_feq, nl_sub, nl_ss, nl_lt, nl_llt, nl_ltt, nl_le, nl_lle, nl_lee, nl_eq, nl_leq, nl_ee, nl_div, nl_rem, nl_cl, nl_n1, nl_n2, nl_n3, nl_n4, nl_add, nl_ladd, nl_aa, nl_mul, nl_rmul, nl_mm, pu_wi_1, pu_wi_2, bX3_areLike_3, bX3_areLike_33, bX3_areLike_27, a_al, a_ald, a_iadd, a_icge, a_ifeq, a_ild, a_inc, a_lcmp, a_push, a_zret, pu_rv, pu_as, Value.category, pu_bk, pu_kl, pu_qe0, pu_qe1, sa, sb, c1, i1.1, i1.2, py_cmp, L2]
        have L0 : pu_r 362 [some (.ref ra), some (.int (nI a)), some (.ref rb), some (.int (nI b)), some (.int 0)] [] M = some (some (.int 0), M) := by
          rw [qX3_areLike_3]
          simp [bX3_areLike_3, bX3_areLike_33, bX3_areLike_27, a_al, a_ald, a_iadd, a_icge, a_ifeq, a_ild, a_inc, a_lcmp, a_push, a_zret, pu_rv, pu_as, Value.category, pu_bk, pu_kl, List.replicate, pu_wi_1, pu_wi_2, nl_add, nl_ladd, nl_aa, nl_mul, nl_rmul, nl_mm, pu_qe0, pu_qe1, sa, sb, c0, i0.1, i0.2, py_cmp, L1]
          all_goals try simp (maxSteps := 400000) (disch := omega) [nl_tle, nl_fle, nl_tlt, nl_flt, nl_teq, nl_feq, nl_sub, nl_ss, nl_lt, nl_llt, nl_ltt, nl_le, nl_lle, nl_lee, nl_eq, nl_leq, nl_ee, nl_div, nl_rem, nl_cl, nl_n1, nl_n2, nl_n3, nl_n4, nl_add, nl_ladd, nl_aa, nl_mul, nl_rmul, nl_mm, pu_wi_1, pu_wi_2, bX3_areLike_3, bX3_areLike_33, bX3_areLike_27, a_al, a_ald, a_iadd, a_icge, a_ifeq, a_ild, a_inc, a_lcmp, a_push, a_zret, pu_rv, pu_as, Value.category, pu_bk, pu_kl, pu_qe0, pu_qe1, sa, sb, c0, i0.1, i0.2, py_cmp, L1]
          all_goals try simp [bX3_areLike_3, bX3_areLike_33, bX3_areLike_27, a_al, a_ald, a_iadd, a_icge, a_ifeq, a_ild, a_inc, a_lcmp, a_push, a_zret, pu_rv, pu_as, Value.category, pu_bk, pu_kl, List.replicate, pu_wi_1, pu_wi_2, nl_add, nl_ladd, nl_aa, nl_mul, nl_rmul, nl_mm, pu_qe0, pu_qe1, sa, sb, c0, i0.1, i0.2, py_cmp, L1]
          all_goals try simp (maxSteps := 400000) (disch := omega) [nl_tle, nl_fle, nl_tlt, nl_flt, nl_teq, nl_feq, nl_sub, nl_ss, nl_lt, nl_llt, nl_ltt, nl_le, nl_lle, nl_lee, nl_eq, nl_leq, nl_ee, nl_div, nl_rem, nl_cl, nl_n1, nl_n2, nl_n3, nl_n4, nl_add, nl_ladd, nl_aa, nl_mul, nl_rmul, nl_mm, pu_wi_1, pu_wi_2, bX3_areLike_3, bX3_areLike_33, bX3_areLike_27, a_al, a_ald, a_iadd, a_icge, a_ifeq, a_ild, a_inc, a_lcmp, a_push, a_zret, pu_rv, pu_as, Value.category, pu_bk, pu_kl, pu_qe0, pu_qe1, sa, sb, c0, i0.1, i0.2, py_cmp, L1]
        rw [qX3_areLike]
        simp [a_ent, bX3_areLike_0, a_ist, a_push, pu_rv, pu_as, Value.category, pu_bk, pu_kl, List.replicate, pu_wi_1, pu_wi_2, nl_add, nl_ladd, nl_aa, nl_mul, nl_rmul, nl_mm, pu_qe0, pu_qe1, L0]
        all_goals try simp (maxSteps := 400000) (disch := omega) [nl_tle, nl_fle, nl_tlt, nl_flt, nl_teq, nl_feq, nl_sub, nl_ss, nl_lt, nl_llt, nl_ltt, nl_le, nl_lle, nl_lee, nl_eq, nl_leq, nl_ee, nl_div, nl_rem, nl_cl, nl_n1, nl_n2, nl_n3, nl_n4, nl_add, nl_ladd, nl_aa, nl_mul, nl_rmul, nl_mm, pu_wi_1, pu_wi_2, bX3_areLike_0, a_ist, a_push, pu_rv, pu_as, Value.category, pu_bk, pu_kl, pu_qe0, pu_qe1, L0]
        all_goals try simp [bX3_areLike_0, a_ist, a_push, pu_rv, pu_as, Value.category, pu_bk, pu_kl, List.replicate, pu_wi_1, pu_wi_2, nl_add, nl_ladd, nl_aa, nl_mul, nl_rmul, nl_mm, pu_qe0, pu_qe1, L0]
        all_goals try simp (maxSteps := 400000) (disch := omega) [nl_tle, nl_fle, nl_tlt, nl_flt, nl_teq, nl_feq, nl_sub, nl_ss, nl_lt, nl_llt, nl_ltt, nl_le, nl_lle, nl_lee, nl_eq, nl_leq, nl_ee, nl_div, nl_rem, nl_cl, nl_n1, nl_n2, nl_n3, nl_n4, nl_add, nl_ladd, nl_aa, nl_mul, nl_rmul, nl_mm, pu_wi_1, pu_wi_2, bX3_areLike_0, a_ist, a_push, pu_rv, pu_as, Value.category, pu_bk, pu_kl, pu_qe0, pu_qe1, L0]
    · rw [pu_q0 (fun z => c1 (k.mp z).2.1)]
      have L1 : pu_r 362 [some (.ref ra), some (.int (nI a)), some (.ref rb), some (.int (nI b)), some (.int 1)] [] M = some (some (.int 0), M) := by
        rw [qX3_areLike_3]
        simp [bX3_areLike_3, bX3_areLike_33, bX3_areLike_27, a_al, a_ald, a_iadd, a_icge, a_ifeq, a_ild, a_inc, a_lcmp, a_push, a_zret, pu_rv, pu_as, Value.category, pu_bk, pu_kl, List.replicate, pu_wi_1, pu_wi_2, nl_add, nl_ladd, nl_aa, nl_mul, nl_rmul, nl_mm, pu_qe0, pu_qe1, sa, sb, c1, i1.1, i1.2, py_cmp]
        all_goals try simp (maxSteps := 400000) (disch := omega) [nl_tle, nl_fle, nl_tlt, nl_flt, nl_teq, nl_feq, nl_sub, nl_ss, nl_lt, nl_llt, nl_ltt, nl_le, nl_lle, nl_lee, nl_eq, nl_leq, nl_ee, nl_div, nl_rem, nl_cl, nl_n1, nl_n2, nl_n3, nl_n4, nl_add, nl_ladd, nl_aa, nl_mul, nl_rmul, nl_mm, pu_wi_1, pu_wi_2, bX3_areLike_3, bX3_areLike_33, bX3_areLike_27, a_al, a_ald, a_iadd, a_icge, a_ifeq, a_ild, a_inc, a_lcmp, a_push, a_zret, pu_rv, pu_as, Value.category, pu_bk, pu_kl, pu_qe0, pu_qe1, sa, sb, c1, i1.1, i1.2, py_cmp]
        all_goals try simp [bX3_areLike_3, bX3_areLike_33, bX3_areLike_27, a_al, a_ald, a_iadd, a_icge, a_ifeq, a_ild, a_inc, a_lcmp, a_push, a_zret, pu_rv, pu_as, Value.category, pu_bk, pu_kl, List.replicate, pu_wi_1, pu_wi_2, nl_add, nl_ladd, nl_aa, nl_mul, nl_rmul, nl_mm, pu_qe0, pu_qe1, sa, sb, c1, i1.1, i1.2, py_cmp]
        all_goals try simp (maxSteps := 400000) (disch := omega) [nl_tle, nl_fle, nl_tlt, nl_flt, nl_teq, nl_feq, nl_sub, nl_ss, nl_lt, nl_llt, nl_ltt, nl_le, nl_lle, nl_lee, nl_eq, nl_leq, nl_ee, nl_div, nl_rem, nl_cl, nl_n1, nl_n2, nl_n3, nl_n4, nl_add, nl_ladd, nl_aa, nl_mul, nl_rmul, nl_mm, pu_wi_1, pu_wi_2, bX3_areLike_3, bX3_areLike_33, bX3_areLike_27, a_al, a_ald, a_iadd, a_icge, a_ifeq, a_ild, a_inc, a_lcmp, a_push, a_zret, pu_rv, pu_as, Value.category, pu_bk, pu_kl, pu_qe0, pu_qe1, sa, sb, c1, i1.1, i1.2, py_cmp]
      have L0 : pu_r 362 [some (.ref ra), some (.int (nI a)), some (.ref rb), some (.int (nI b)), some (.int 0)] [] M = some (some (.int 0), M) := by
        rw [qX3_areLike_3]
        simp [bX3_areLike_3, bX3_areLike_33, bX3_areLike_27, a_al, a_ald, a_iadd, a_icge, a_ifeq, a_ild, a_inc, a_lcmp, a_push, a_zret, pu_rv, pu_as, Value.category, pu_bk, pu_kl, List.replicate, pu_wi_1, pu_wi_2, nl_add, nl_ladd, nl_aa, nl_mul, nl_rmul, nl_mm, pu_qe0, pu_qe1, sa, sb, c0, i0.1, i0.2, py_cmp, L1]
        all_goals try simp (maxSteps := 400000) (disch := omega) [nl_tle, nl_fle, nl_tlt, nl_flt, nl_teq, nl_feq, nl_sub, nl_ss, nl_lt, nl_llt, nl_ltt, nl_le, nl_lle, nl_lee, nl_eq, nl_leq, nl_ee, nl_div, nl_rem, nl_cl, nl_n1, nl_n2, nl_n3, nl_n4, nl_add, nl_ladd, nl_aa, nl_mul, nl_rmul, nl_mm, pu_wi_1, pu_wi_2, bX3_areLike_3, bX3_areLike_33, bX3_areLike_27, a_al, a_ald, a_iadd, a_icge, a_ifeq, a_ild, a_inc, a_lcmp, a_push, a_zret, pu_rv, pu_as, Value.category, pu_bk, pu_kl, pu_qe0, pu_qe1, sa, sb, c0, i0.1, i0.2, py_cmp, L1]
        all_goals try simp [bX3_areLike_3, bX3_areLike_33, bX3_areLike_27, a_al, a_ald, a_iadd, a_icge, a_ifeq, a_ild, a_inc, a_lcmp, a_push, a_zret, pu_rv, pu_as, Value.category, pu_bk, pu_kl, List.replicate, pu_wi_1, pu_wi_2, nl_add, nl_ladd, nl_aa, nl_mul, nl_rmul, nl_mm, pu_qe0, pu_qe1, sa, sb, c0, i0.1, i0.2, py_cmp, L1]
        all_goals try simp (maxSteps := 400000) (disch := omega) [nl_tle, nl_fle, nl_tlt, nl_flt, nl_teq, nl_feq, nl_sub, nl_ss, nl_lt, nl_llt, nl_ltt, nl_le, nl_lle, nl_lee, nl_eq, nl_leq, nl_ee, nl_div, nl_rem, nl_cl, nl_n1, nl_n2, nl_n3, nl_n4, nl_add, nl_ladd, nl_aa, nl_mul, nl_rmul, nl_mm, pu_wi_1, pu_wi_2, bX3_areLike_3, bX3_areLike_33, bX3_areLike_27, a_al, a_ald, a_iadd, a_icge, a_ifeq, a_ild, a_inc, a_lcmp, a_push, a_zret, pu_rv, pu_as, Value.category, pu_bk, pu_kl, pu_qe0, pu_qe1, sa, sb, c0, i0.1, i0.2, py_cmp, L1]
      rw [qX3_areLike]
      simp [a_ent, bX3_areLike_0, a_ist, a_push, pu_rv, pu_as, Value.category, pu_bk, pu_kl, List.replicate, pu_wi_1, pu_wi_2, nl_add, nl_ladd, nl_aa, nl_mul, nl_rmul, nl_mm, pu_qe0, pu_qe1, L0]
      all_goals try simp (maxSteps := 400000) (disch := omega) [nl_tle, nl_fle, nl_tlt, nl_flt, nl_teq, nl_feq, nl_sub, nl_ss, nl_lt, nl_llt, nl_ltt, nl_le, nl_lle, nl_lee, nl_eq, nl_leq, nl_ee, nl_div, nl_rem, nl_cl, nl_n1, nl_n2, nl_n3, nl_n4, nl_add, nl_ladd, nl_aa, nl_mul, nl_rmul, nl_mm, pu_wi_1, pu_wi_2, bX3_areLike_0, a_ist, a_push, pu_rv, pu_as, Value.category, pu_bk, pu_kl, pu_qe0, pu_qe1, L0]
      all_goals try simp [bX3_areLike_0, a_ist, a_push, pu_rv, pu_as, Value.category, pu_bk, pu_kl, List.replicate, pu_wi_1, pu_wi_2, nl_add, nl_ladd, nl_aa, nl_mul, nl_rmul, nl_mm, pu_qe0, pu_qe1, L0]
      all_goals try simp (maxSteps := 400000) (disch := omega) [nl_tle, nl_fle, nl_tlt, nl_flt, nl_teq, nl_feq, nl_sub, nl_ss, nl_lt, nl_llt, nl_ltt, nl_le, nl_lle, nl_lee, nl_eq, nl_leq, nl_ee, nl_div, nl_rem, nl_cl, nl_n1, nl_n2, nl_n3, nl_n4, nl_add, nl_ladd, nl_aa, nl_mul, nl_rmul, nl_mm, pu_wi_1, pu_wi_2, bX3_areLike_0, a_ist, a_push, pu_rv, pu_as, Value.category, pu_bk, pu_kl, pu_qe0, pu_qe1, L0]
  · rw [pu_q0 (fun z => c0 (k.mp z).1)]
    have L0 : pu_r 362 [some (.ref ra), some (.int (nI a)), some (.ref rb), some (.int (nI b)), some (.int 0)] [] M = some (some (.int 0), M) := by
      rw [qX3_areLike_3]
      simp [bX3_areLike_3, bX3_areLike_33, bX3_areLike_27, a_al, a_ald, a_iadd, a_icge, a_ifeq, a_ild, a_inc, a_lcmp, a_push, a_zret, pu_rv, pu_as, Value.category, pu_bk, pu_kl, List.replicate, pu_wi_1, pu_wi_2, nl_add, nl_ladd, nl_aa, nl_mul, nl_rmul, nl_mm, pu_qe0, pu_qe1, sa, sb, c0, i0.1, i0.2, py_cmp]
      all_goals try simp (maxSteps := 400000) (disch := omega) [nl_tle, nl_fle, nl_tlt, nl_flt, nl_teq, nl_feq, nl_sub, nl_ss, nl_lt, nl_llt, nl_ltt, nl_le, nl_lle, nl_lee, nl_eq, nl_leq, nl_ee, nl_div, nl_rem, nl_cl, nl_n1, nl_n2, nl_n3, nl_n4, nl_add, nl_ladd, nl_aa, nl_mul, nl_rmul, nl_mm, pu_wi_1, pu_wi_2, bX3_areLike_3, bX3_areLike_33, bX3_areLike_27, a_al, a_ald, a_iadd, a_icge, a_ifeq, a_ild, a_inc, a_lcmp, a_push, a_zret, pu_rv, pu_as, Value.category, pu_bk, pu_kl, pu_qe0, pu_qe1, sa, sb, c0, i0.1, i0.2, py_cmp]
      all_goals try simp [bX3_areLike_3, bX3_areLike_33, bX3_areLike_27, a_al, a_ald, a_iadd, a_icge, a_ifeq, a_ild, a_inc, a_lcmp, a_push, a_zret, pu_rv, pu_as, Value.category, pu_bk, pu_kl, List.replicate, pu_wi_1, pu_wi_2, nl_add, nl_ladd, nl_aa, nl_mul, nl_rmul, nl_mm, pu_qe0, pu_qe1, sa, sb, c0, i0.1, i0.2, py_cmp]
      all_goals try simp (maxSteps := 400000) (disch := omega) [nl_tle, nl_fle, nl_tlt, nl_flt, nl_teq, nl_feq, nl_sub, nl_ss, nl_lt, nl_llt, nl_ltt, nl_le, nl_lle, nl_lee, nl_eq, nl_leq, nl_ee, nl_div, nl_rem, nl_cl, nl_n1, nl_n2, nl_n3, nl_n4, nl_add, nl_ladd, nl_aa, nl_mul, nl_rmul, nl_mm, pu_wi_1, pu_wi_2, bX3_areLike_3, bX3_areLike_33, bX3_areLike_27, a_al, a_ald, a_iadd, a_icge, a_ifeq, a_ild, a_inc, a_lcmp, a_push, a_zret, pu_rv, pu_as, Value.category, pu_bk, pu_kl, pu_qe0, pu_qe1, sa, sb, c0, i0.1, i0.2, py_cmp]
    rw [qX3_areLike]
    simp [a_ent, bX3_areLike_0, a_ist, a_push, pu_rv, pu_as, Value.category, pu_bk, pu_kl, List.replicate, pu_wi_1, pu_wi_2, nl_add, nl_ladd, nl_aa, nl_mul, nl_rmul, nl_mm, pu_qe0, pu_qe1, L0]
    all_goals try simp (maxSteps := 400000) (disch := omega) [nl_tle, nl_fle, nl_tlt, nl_flt, nl_teq, nl_feq, nl_sub, nl_ss, nl_lt, nl_llt, nl_ltt, nl_le, nl_lle, nl_lee, nl_eq, nl_leq, nl_ee, nl_div, nl_rem, nl_cl, nl_n1, nl_n2, nl_n3, nl_n4, nl_add, nl_ladd, nl_aa, nl_mul, nl_rmul, nl_mm, pu_wi_1, pu_wi_2, bX3_areLike_0, a_ist, a_push, pu_rv, pu_as, Value.category, pu_bk, pu_kl, pu_qe0, pu_qe1, L0]
    all_goals try simp [bX3_areLike_0, a_ist, a_push, pu_rv, pu_as, Value.category, pu_bk, pu_kl, List.replicate, pu_wi_1, pu_wi_2, nl_add, nl_ladd, nl_aa, nl_mul, nl_rmul, nl_mm, pu_qe0, pu_qe1, L0]
    all_goals try simp (maxSteps := 400000) (disch := omega) [nl_tle, nl_fle, nl_tlt, nl_flt, nl_teq, nl_feq, nl_sub, nl_ss, nl_lt, nl_llt, nl_ltt, nl_le, nl_lle, nl_lee, nl_eq, nl_leq, nl_ee, nl_div, nl_rem, nl_cl, nl_n1, nl_n2, nl_n3, nl_n4, nl_add, nl_ladd, nl_aa, nl_mul, nl_rmul, nl_mm, pu_wi_1, pu_wi_2, bX3_areLike_0, a_ist, a_push, pu_rv, pu_as, Value.category, pu_bk, pu_kl, pu_qe0, pu_qe1, L0]
/-- the reference's row rr is the name at place k -/
theorem r_isName_l {M : pu_M} (hx : pu_fx M) (rr lr : Nat) (sr : pu_sh rr = (1, lr)) (hlr : 36 ≤ lr) (hr2 : lr < 5000) (k : Nat) (hk : k < 208) : ∀ m i, i + m = 36 → (∀ j, j < i → M.1 rr j = M.1 72 (32 + 36 * k + j)) → pu_r 439 [some (.ref 71), some (.ref rr), some (.int (nI k)), some (.int 1), some (.int (nI i))] [] M = some (some (.int (pu_q (∀ j, j < 36 → M.1 rr j = M.1 72 (32 + 36 * k + j)))), M)
  | 0, i, h, g => by
    have e : i = 36 := by omega
    subst e
    rw [pu_q1 g]
    have hc : 36 ≤ nI 36 := by decide
    rw [qX12_isName_5]
    simp [bX12_isName_5, bX12_isName_50, bX12_isName_42, bX12_isName_43, a_ai, a_ald, a_gr, a_iadd, a_icge, a_icne, a_ifeq, a_ild, a_imul, a_inc, a_ist, a_push, a_zret, sh_71, sh_72, pu_rv, pu_as, Value.category, pu_bk, pu_kl, List.replicate, pu_wi_1, pu_wi_2, nl_add, nl_ladd, nl_aa, nl_mul, nl_rmul, nl_mm, pu_qe0, pu_qe1, hc]
    all_goals try simp (maxSteps := 400000) (disch := omega) [nl_tle, nl_fle, nl_tlt, nl_flt, nl_teq, nl_feq, nl_sub, nl_ss, nl_lt, nl_llt, nl_ltt, nl_le, nl_lle, nl_lee, nl_eq, nl_leq, nl_ee, nl_div, nl_rem, nl_cl, nl_n1, nl_n2, nl_n3, nl_n4, nl_add, nl_ladd, nl_aa, nl_mul, nl_rmul, nl_mm, pu_wi_1, pu_wi_2, bX12_isName_5, bX12_isName_50, bX12_isName_42, bX12_isName_43, a_ai, a_ald, a_gr, a_iadd, a_icge, a_icne, a_ifeq, a_ild, a_imul, a_inc, a_ist, a_push, a_zret, sh_71, sh_72, pu_rv, pu_as, Value.category, pu_bk, pu_kl, pu_qe0, pu_qe1, hc]
    all_goals try simp [bX12_isName_5, bX12_isName_50, bX12_isName_42, bX12_isName_43, a_ai, a_ald, a_gr, a_iadd, a_icge, a_icne, a_ifeq, a_ild, a_imul, a_inc, a_ist, a_push, a_zret, sh_71, sh_72, pu_rv, pu_as, Value.category, pu_bk, pu_kl, List.replicate, pu_wi_1, pu_wi_2, nl_add, nl_ladd, nl_aa, nl_mul, nl_rmul, nl_mm, pu_qe0, pu_qe1, hc]
    all_goals try simp (maxSteps := 400000) (disch := omega) [nl_tle, nl_fle, nl_tlt, nl_flt, nl_teq, nl_feq, nl_sub, nl_ss, nl_lt, nl_llt, nl_ltt, nl_le, nl_lle, nl_lee, nl_eq, nl_leq, nl_ee, nl_div, nl_rem, nl_cl, nl_n1, nl_n2, nl_n3, nl_n4, nl_add, nl_ladd, nl_aa, nl_mul, nl_rmul, nl_mm, pu_wi_1, pu_wi_2, bX12_isName_5, bX12_isName_50, bX12_isName_42, bX12_isName_43, a_ai, a_ald, a_gr, a_iadd, a_icge, a_icne, a_ifeq, a_ild, a_imul, a_inc, a_ist, a_push, a_zret, sh_71, sh_72, pu_rv, pu_as, Value.category, pu_bk, pu_kl, pu_qe0, pu_qe1, hc]
  | m + 1, i, h, g => by
    have f := fx_71_0 hx
    have hc : ¬ 36 ≤ nI i := nI_ge (b := 36) (by omega) (by omega)
    have il : i < lr := by omega
    by_cases c : M.1 rr i = M.1 72 (32 + 36 * k + i)
    · have ih := r_isName_l hx rr lr sr hlr hr2 k hk m (i + 1) (by omega) (fun j hj => by
        by_cases z : j = i
        · rw [z]; exact c
        · exact g j (by omega))
      rw [qX12_isName_5]
      simp [bX12_isName_5, bX12_isName_50, bX12_isName_42, bX12_isName_43, a_ai, a_ald, a_gr, a_iadd, a_icge, a_icne, a_ifeq, a_ild, a_imul, a_inc, a_ist, a_push, a_zret, sh_71, sh_72, pu_rv, pu_as, Value.category, pu_bk, pu_kl, List.replicate, pu_wi_1, pu_wi_2, nl_add, nl_ladd, nl_aa, nl_mul, nl_rmul, nl_mm, pu_qe0, pu_qe1, f, hc, sr, il, c, ih]
      all_goals try simp (maxSteps := 400000) (disch := omega) [nl_tle, nl_fle, nl_tlt, nl_flt, nl_teq, nl_feq, nl_sub, nl_ss, nl_lt, nl_llt, nl_ltt, nl_le, nl_lle, nl_lee, nl_eq, nl_leq, nl_ee, nl_div, nl_rem, nl_cl, nl_n1, nl_n2, nl_n3, nl_n4, nl_add, nl_ladd, nl_aa, nl_mul, nl_rmul, nl_mm, pu_wi_1, pu_wi_2, bX12_isName_5, bX12_isName_50, bX12_isName_42, bX12_isName_43, a_ai, a_ald, a_gr, a_iadd, a_icge, a_icne, a_ifeq, a_ild, a_imul, a_inc, a_ist, a_push, a_zret, sh_71, sh_72, pu_rv, pu_as, Value.category, pu_bk, pu_kl, pu_qe0, pu_qe1, f, hc, sr, il, c, ih]
      all_goals try simp [bX12_isName_5, bX12_isName_50, bX12_isName_42, bX12_isName_43, a_ai, a_ald, a_gr, a_iadd, a_icge, a_icne, a_ifeq, a_ild, a_imul, a_inc, a_ist, a_push, a_zret, sh_71, sh_72, pu_rv, pu_as, Value.category, pu_bk, pu_kl, List.replicate, pu_wi_1, pu_wi_2, nl_add, nl_ladd, nl_aa, nl_mul, nl_rmul, nl_mm, pu_qe0, pu_qe1, f, hc, sr, il, c, ih]
      all_goals try simp (maxSteps := 400000) (disch := omega) [nl_tle, nl_fle, nl_tlt, nl_flt, nl_teq, nl_feq, nl_sub, nl_ss, nl_lt, nl_llt, nl_ltt, nl_le, nl_lle, nl_lee, nl_eq, nl_leq, nl_ee, nl_div, nl_rem, nl_cl, nl_n1, nl_n2, nl_n3, nl_n4, nl_add, nl_ladd, nl_aa, nl_mul, nl_rmul, nl_mm, pu_wi_1, pu_wi_2, bX12_isName_5, bX12_isName_50, bX12_isName_42, bX12_isName_43, a_ai, a_ald, a_gr, a_iadd, a_icge, a_icne, a_ifeq, a_ild, a_imul, a_inc, a_ist, a_push, a_zret, sh_71, sh_72, pu_rv, pu_as, Value.category, pu_bk, pu_kl, pu_qe0, pu_qe1, f, hc, sr, il, c, ih]
    · rw [pu_q0 (fun z => c (z i (by omega)))]
      have L0 : pu_r 439 [some (.ref 71), some (.ref rr), some (.int (nI k)), some (.int 0), some (.int (nI (i + 1)))] [] M = some (some (.int 0), M) := by
        by_cases z : i + 1 = 36
        · have hc2 : 36 ≤ nI (i + 1) := by rw [z]; decide
          rw [qX12_isName_5]
          simp [bX12_isName_5, bX12_isName_50, bX12_isName_42, bX12_isName_43, a_ai, a_ald, a_gr, a_iadd, a_icge, a_icne, a_ifeq, a_ild, a_imul, a_inc, a_ist, a_push, a_zret, sh_71, sh_72, pu_rv, pu_as, Value.category, pu_bk, pu_kl, List.replicate, pu_wi_1, pu_wi_2, nl_add, nl_ladd, nl_aa, nl_mul, nl_rmul, nl_mm, pu_qe0, pu_qe1, hc2]
          all_goals try simp (maxSteps := 400000) (disch := omega) [nl_tle, nl_fle, nl_tlt, nl_flt, nl_teq, nl_feq, nl_sub, nl_ss, nl_lt, nl_llt, nl_ltt, nl_le, nl_lle, nl_lee, nl_eq, nl_leq, nl_ee, nl_div, nl_rem, nl_cl, nl_n1, nl_n2, nl_n3, nl_n4, nl_add, nl_ladd, nl_aa, nl_mul, nl_rmul, nl_mm, pu_wi_1, pu_wi_2, bX12_isName_5, bX12_isName_50, bX12_isName_42, bX12_isName_43, a_ai, a_ald, a_gr, a_iadd, a_icge, a_icne, a_ifeq, a_ild, a_imul, a_inc, a_ist, a_push, a_zret, sh_71, sh_72, pu_rv, pu_as, Value.category, pu_bk, pu_kl, pu_qe0, pu_qe1, hc2]
          all_goals try simp [bX12_isName_5, bX12_isName_50, bX12_isName_42, bX12_isName_43, a_ai, a_ald, a_gr, a_iadd, a_icge, a_icne, a_ifeq, a_ild, a_imul, a_inc, a_ist, a_push, a_zret, sh_71, sh_72, pu_rv, pu_as, Value.category, pu_bk, pu_kl, List.replicate, pu_wi_1, pu_wi_2, nl_add, nl_ladd, nl_aa, nl_mul, nl_rmul, nl_mm, pu_qe0, pu_qe1, hc2]
          all_goals try simp (maxSteps := 400000) (disch := omega) [nl_tle, nl_fle, nl_tlt, nl_flt, nl_teq, nl_feq, nl_sub, nl_ss, nl_lt, nl_llt, nl_ltt, nl_le, nl_lle, nl_lee, nl_eq, nl_leq, nl_ee, nl_div, nl_rem, nl_cl, nl_n1, nl_n2, nl_n3, nl_n4, nl_add, nl_ladd, nl_aa, nl_mul, nl_rmul, nl_mm, pu_wi_1, pu_wi_2, bX12_isName_5, bX12_isName_50, bX12_isName_42, bX12_isName_43, a_ai, a_ald, a_gr, a_iadd, a_icge, a_icne, a_ifeq, a_ild, a_imul, a_inc, a_ist, a_push, a_zret, sh_71, sh_72, pu_rv, pu_as, Value.category, pu_bk, pu_kl, pu_qe0, pu_qe1, hc2]
        · have hc2 : ¬ 36 ≤ nI (i + 1) := nI_ge (b := 36) (by omega) (by omega)
          rw [qX12_isName_5]
          simp [bX12_isName_5, bX12_isName_50, bX12_isName_42, bX12_isName_43, a_ai, a_ald, a_gr, a_iadd, a_icge, a_icne, a_ifeq, a_ild, a_imul, a_inc, a_ist, a_push, a_zret, sh_71, sh_72, pu_rv, pu_as, Value.category, pu_bk, pu_kl, List.replicate, pu_wi_1, pu_wi_2, nl_add, nl_ladd, nl_aa, nl_mul, nl_rmul, nl_mm, pu_qe0, pu_qe1, hc2]
          all_goals try simp (maxSteps := 400000) (disch := omega) [nl_tle, nl_fle, nl_tlt, nl_flt, nl_teq, nl_feq, nl_sub, nl_ss, nl_lt, nl_llt, nl_ltt, nl_le, nl_lle, nl_lee, nl_eq, nl_leq, nl_ee, nl_div, nl_rem, nl_cl, nl_n1, nl_n2, nl_n3, nl_n4, nl_add, nl_ladd, nl_aa, nl_mul, nl_rmul, nl_mm, pu_wi_1, pu_wi_2, bX12_isName_5, bX12_isName_50, bX12_isName_42, bX12_isName_43, a_ai, a_ald, a_gr, a_iadd, a_icge, a_icne, a_ifeq, a_ild, a_imul, a_inc, a_ist, a_push, a_zret, sh_71, sh_72, pu_rv, pu_as, Value.category, pu_bk, pu_kl, pu_qe0, pu_qe1, hc2]
          all_goals try simp [bX12_isName_5, bX12_isName_50, bX12_isName_42, bX12_isName_43, a_ai, a_ald, a_gr, a_iadd, a_icge, a_icne, a_ifeq, a_ild, a_imul, a_inc, a_ist, a_push, a_zret, sh_71, sh_72, pu_rv, pu_as, Value.category, pu_bk, pu_kl, List.replicate, pu_wi_1, pu_wi_2, nl_add, nl_ladd, nl_aa, nl_mul, nl_rmul, nl_mm, pu_qe0, pu_qe1, hc2]
          all_goals try simp (maxSteps := 400000) (disch := omega) [nl_tle, nl_fle, nl_tlt, nl_flt, nl_teq, nl_feq, nl_sub, nl_ss, nl_lt, nl_llt, nl_ltt, nl_le, nl_lle, nl_lee, nl_eq, nl_leq, nl_ee, nl_div, nl_rem, nl_cl, nl_n1, nl_n2, nl_n3, nl_n4, nl_add, nl_ladd, nl_aa, nl_mul, nl_rmul, nl_mm, pu_wi_1, pu_wi_2, bX12_isName_5, bX12_isName_50, bX12_isName_42, bX12_isName_43, a_ai, a_ald, a_gr, a_iadd, a_icge, a_icne, a_ifeq, a_ild, a_imul, a_inc, a_ist, a_push, a_zret, sh_71, sh_72, pu_rv, pu_as, Value.category, pu_bk, pu_kl, pu_qe0, pu_qe1, hc2]
      rw [qX12_isName_5]
      simp [bX12_isName_5, bX12_isName_50, bX12_isName_42, bX12_isName_43, a_ai, a_ald, a_gr, a_iadd, a_icge, a_icne, a_ifeq, a_ild, a_imul, a_inc, a_ist, a_push, a_zret, sh_71, sh_72, pu_rv, pu_as, Value.category, pu_bk, pu_kl, List.replicate, pu_wi_1, pu_wi_2, nl_add, nl_ladd, nl_aa, nl_mul, nl_rmul, nl_mm, pu_qe0, pu_qe1, f, hc, sr, il, c, L0]
      all_goals try simp (maxSteps := 400000) (disch := omega) [nl_tle, nl_fle, nl_tlt, nl_flt, nl_teq, nl_feq, nl_sub, nl_ss, nl_lt, nl_llt, nl_ltt, nl_le, nl_lle, nl_lee, nl_eq, nl_leq, nl_ee, nl_div, nl_rem, nl_cl, nl_n1, nl_n2, nl_n3, nl_n4, nl_add, nl_ladd, nl_aa, nl_mul, nl_rmul, nl_mm, pu_wi_1, pu_wi_2, bX12_isName_5, bX12_isName_50, bX12_isName_42, bX12_isName_43, a_ai, a_ald, a_gr, a_iadd, a_icge, a_icne, a_ifeq, a_ild, a_imul, a_inc, a_ist, a_push, a_zret, sh_71, sh_72, pu_rv, pu_as, Value.category, pu_bk, pu_kl, pu_qe0, pu_qe1, f, hc, sr, il, c, L0]
      all_goals try simp [bX12_isName_5, bX12_isName_50, bX12_isName_42, bX12_isName_43, a_ai, a_ald, a_gr, a_iadd, a_icge, a_icne, a_ifeq, a_ild, a_imul, a_inc, a_ist, a_push, a_zret, sh_71, sh_72, pu_rv, pu_as, Value.category, pu_bk, pu_kl, List.replicate, pu_wi_1, pu_wi_2, nl_add, nl_ladd, nl_aa, nl_mul, nl_rmul, nl_mm, pu_qe0, pu_qe1, f, hc, sr, il, c, L0]
      all_goals try simp (maxSteps := 400000) (disch := omega) [nl_tle, nl_fle, nl_tlt, nl_flt, nl_teq, nl_feq, nl_sub, nl_ss, nl_lt, nl_llt, nl_ltt, nl_le, nl_lle, nl_lee, nl_eq, nl_leq, nl_ee, nl_div, nl_rem, nl_cl, nl_n1, nl_n2, nl_n3, nl_n4, nl_add, nl_ladd, nl_aa, nl_mul, nl_rmul, nl_mm, pu_wi_1, pu_wi_2, bX12_isName_5, bX12_isName_50, bX12_isName_42, bX12_isName_43, a_ai, a_ald, a_gr, a_iadd, a_icge, a_icne, a_ifeq, a_ild, a_imul, a_inc, a_ist, a_push, a_zret, sh_71, sh_72, pu_rv, pu_as, Value.category, pu_bk, pu_kl, pu_qe0, pu_qe1, f, hc, sr, il, c, L0]
theorem r_isName {M : pu_M} (hx : pu_fx M) (rr lr : Nat) (sr : pu_sh rr = (1, lr)) (hlr : 36 ≤ lr) (hr2 : lr < 5000) (k : Nat) (hk : k < 208) : pu_r 245 [some (.ref 71), some (.ref rr), some (.int (nI k))] [] M = some (some (.int (pu_q (∀ j, j < 36 → M.1 rr j = M.1 72 (32 + 36 * k + j)))), M) := by
  have e := r_isName_l hx rr lr sr hlr hr2 k hk 36 0 (by omega) (fun j hj => by omega)
  rw [nI_0] at e
  rw [qX12_isName]
  simp [a_ent, bX12_isName_0, a_ist, a_push, pu_rv, pu_as, Value.category, pu_bk, pu_kl, List.replicate, pu_wi_1, pu_wi_2, nl_add, nl_ladd, nl_aa, nl_mul, nl_rmul, nl_mm, pu_qe0, pu_qe1, e]
  all_goals try simp (maxSteps := 400000) (disch := omega) [nl_tle, nl_fle, nl_tlt, nl_flt, nl_teq, nl_feq, nl_sub, nl_ss, nl_lt, nl_llt, nl_ltt, nl_le, nl_lle, nl_lee, nl_eq, nl_leq, nl_ee, nl_div, nl_rem, nl_cl, nl_n1, nl_n2, nl_n3, nl_n4, nl_add, nl_ladd, nl_aa, nl_mul, nl_rmul, nl_mm, pu_wi_1, pu_wi_2, bX12_isName_0, a_ist, a_push, pu_rv, pu_as, Value.category, pu_bk, pu_kl, pu_qe0, pu_qe1, e]
  all_goals try simp [bX12_isName_0, a_ist, a_push, pu_rv, pu_as, Value.category, pu_bk, pu_kl, List.replicate, pu_wi_1, pu_wi_2, nl_add, nl_ladd, nl_aa, nl_mul, nl_rmul, nl_mm, pu_qe0, pu_qe1, e]
  all_goals try simp (maxSteps := 400000) (disch := omega) [nl_tle, nl_fle, nl_tlt, nl_flt, nl_teq, nl_feq, nl_sub, nl_ss, nl_lt, nl_llt, nl_ltt, nl_le, nl_lle, nl_lee, nl_eq, nl_leq, nl_ee, nl_div, nl_rem, nl_cl, nl_n1, nl_n2, nl_n3, nl_n4, nl_add, nl_ladd, nl_aa, nl_mul, nl_rmul, nl_mm, pu_wi_1, pu_wi_2, bX12_isName_0, a_ist, a_push, pu_rv, pu_as, Value.category, pu_bk, pu_kl, pu_qe0, pu_qe1, e]
theorem r_areAlike_l {M : pu_M} (hx : pu_fx M) (a k : Nat) (ha : a < 208) (hk : k < 208) : ∀ m i, i + m = 36 → (∀ j, j < i → M.1 72 (32 + 36 * a + j) = M.1 72 (32 + 36 * k + j)) → pu_r 440 [some (.ref 71), some (.int (nI a)), some (.int (nI k)), some (.int 1), some (.int (nI i))] [] M = some (some (.int (pu_q (∀ j, j < 36 → M.1 72 (32 + 36 * a + j) = M.1 72 (32 + 36 * k + j)))), M)
  | 0, i, h, g => by
    have e : i = 36 := by omega
    subst e
    rw [pu_q1 g]
    have hc : 36 ≤ nI 36 := by decide
    rw [qX12_areAlike_5]
    simp [bX12_areAlike_5, bX12_areAlike_61, bX12_areAlike_45, bX12_areAlike_53, bX12_areAlike_54, a_ai, a_ald, a_gr, a_iadd, a_icge, a_icne, a_ifeq, a_ild, a_imul, a_inc, a_ist, a_push, a_zret, sh_71, sh_72, pu_rv, pu_as, Value.category, pu_bk, pu_kl, List.replicate, pu_wi_1, pu_wi_2, nl_add, nl_ladd, nl_aa, nl_mul, nl_rmul, nl_mm, pu_qe0, pu_qe1, hc]
    all_goals try simp (maxSteps := 400000) (disch := omega) [nl_tle, nl_fle, nl_tlt, nl_flt, nl_teq, nl_feq, nl_sub, nl_ss, nl_lt, nl_llt, nl_ltt, nl_le, nl_lle, nl_lee, nl_eq, nl_leq, nl_ee, nl_div, nl_rem, nl_cl, nl_n1, nl_n2, nl_n3, nl_n4, nl_add, nl_ladd, nl_aa, nl_mul, nl_rmul, nl_mm, pu_wi_1, pu_wi_2, bX12_areAlike_5, bX12_areAlike_61, bX12_areAlike_45, bX12_areAlike_53, bX12_areAlike_54, a_ai, a_ald, a_gr, a_iadd, a_icge, a_icne, a_ifeq, a_ild, a_imul, a_inc, a_ist, a_push, a_zret, sh_71, sh_72, pu_rv, pu_as, Value.category, pu_bk, pu_kl, pu_qe0, pu_qe1, hc]
    all_goals try simp [bX12_areAlike_5, bX12_areAlike_61, bX12_areAlike_45, bX12_areAlike_53, bX12_areAlike_54, a_ai, a_ald, a_gr, a_iadd, a_icge, a_icne, a_ifeq, a_ild, a_imul, a_inc, a_ist, a_push, a_zret, sh_71, sh_72, pu_rv, pu_as, Value.category, pu_bk, pu_kl, List.replicate, pu_wi_1, pu_wi_2, nl_add, nl_ladd, nl_aa, nl_mul, nl_rmul, nl_mm, pu_qe0, pu_qe1, hc]
    all_goals try simp (maxSteps := 400000) (disch := omega) [nl_tle, nl_fle, nl_tlt, nl_flt, nl_teq, nl_feq, nl_sub, nl_ss, nl_lt, nl_llt, nl_ltt, nl_le, nl_lle, nl_lee, nl_eq, nl_leq, nl_ee, nl_div, nl_rem, nl_cl, nl_n1, nl_n2, nl_n3, nl_n4, nl_add, nl_ladd, nl_aa, nl_mul, nl_rmul, nl_mm, pu_wi_1, pu_wi_2, bX12_areAlike_5, bX12_areAlike_61, bX12_areAlike_45, bX12_areAlike_53, bX12_areAlike_54, a_ai, a_ald, a_gr, a_iadd, a_icge, a_icne, a_ifeq, a_ild, a_imul, a_inc, a_ist, a_push, a_zret, sh_71, sh_72, pu_rv, pu_as, Value.category, pu_bk, pu_kl, pu_qe0, pu_qe1, hc]
  | m + 1, i, h, g => by
    have f := fx_71_0 hx
    have hc : ¬ 36 ≤ nI i := nI_ge (b := 36) (by omega) (by omega)
    by_cases c : M.1 72 (32 + 36 * a + i) = M.1 72 (32 + 36 * k + i)
    · have ih := r_areAlike_l hx a k ha hk m (i + 1) (by omega) (fun j hj => by
        by_cases z : j = i
        · rw [z]; exact c
        · exact g j (by omega))
      rw [qX12_areAlike_5]
      simp [bX12_areAlike_5, bX12_areAlike_61, bX12_areAlike_45, bX12_areAlike_53, bX12_areAlike_54, a_ai, a_ald, a_gr, a_iadd, a_icge, a_icne, a_ifeq, a_ild, a_imul, a_inc, a_ist, a_push, a_zret, sh_71, sh_72, pu_rv, pu_as, Value.category, pu_bk, pu_kl, List.replicate, pu_wi_1, pu_wi_2, nl_add, nl_ladd, nl_aa, nl_mul, nl_rmul, nl_mm, pu_qe0, pu_qe1, f, hc, c, ih]
      all_goals try simp (maxSteps := 400000) (disch := omega) [nl_tle, nl_fle, nl_tlt, nl_flt, nl_teq, nl_feq, nl_sub, nl_ss, nl_lt, nl_llt, nl_ltt, nl_le, nl_lle, nl_lee, nl_eq, nl_leq, nl_ee, nl_div, nl_rem, nl_cl, nl_n1, nl_n2, nl_n3, nl_n4, nl_add, nl_ladd, nl_aa, nl_mul, nl_rmul, nl_mm, pu_wi_1, pu_wi_2, bX12_areAlike_5, bX12_areAlike_61, bX12_areAlike_45, bX12_areAlike_53, bX12_areAlike_54, a_ai, a_ald, a_gr, a_iadd, a_icge, a_icne, a_ifeq, a_ild, a_imul, a_inc, a_ist, a_push, a_zret, sh_71, sh_72, pu_rv, pu_as, Value.category, pu_bk, pu_kl, pu_qe0, pu_qe1, f, hc, c, ih]
      all_goals try simp [bX12_areAlike_5, bX12_areAlike_61, bX12_areAlike_45, bX12_areAlike_53, bX12_areAlike_54, a_ai, a_ald, a_gr, a_iadd, a_icge, a_icne, a_ifeq, a_ild, a_imul, a_inc, a_ist, a_push, a_zret, sh_71, sh_72, pu_rv, pu_as, Value.category, pu_bk, pu_kl, List.replicate, pu_wi_1, pu_wi_2, nl_add, nl_ladd, nl_aa, nl_mul, nl_rmul, nl_mm, pu_qe0, pu_qe1, f, hc, c, ih]
      all_goals try simp (maxSteps := 400000) (disch := omega) [nl_tle, nl_fle, nl_tlt, nl_flt, nl_teq, nl_feq, nl_sub, nl_ss, nl_lt, nl_llt, nl_ltt, nl_le, nl_lle, nl_lee, nl_eq, nl_leq, nl_ee, nl_div, nl_rem, nl_cl, nl_n1, nl_n2, nl_n3, nl_n4, nl_add, nl_ladd, nl_aa, nl_mul, nl_rmul, nl_mm, pu_wi_1, pu_wi_2, bX12_areAlike_5, bX12_areAlike_61, bX12_areAlike_45, bX12_areAlike_53, bX12_areAlike_54, a_ai, a_ald, a_gr, a_iadd, a_icge, a_icne, a_ifeq, a_ild, a_imul, a_inc, a_ist, a_push, a_zret, sh_71, sh_72, pu_rv, pu_as, Value.category, pu_bk, pu_kl, pu_qe0, pu_qe1, f, hc, c, ih]
    · rw [pu_q0 (fun z => c (z i (by omega)))]
      have L0 : pu_r 440 [some (.ref 71), some (.int (nI a)), some (.int (nI k)), some (.int 0), some (.int (nI (i + 1)))] [] M = some (some (.int 0), M) := by
        by_cases z : i + 1 = 36
        · have hc2 : 36 ≤ nI (i + 1) := by rw [z]; decide
          rw [qX12_areAlike_5]
          simp [bX12_areAlike_5, bX12_areAlike_61, bX12_areAlike_45, bX12_areAlike_53, bX12_areAlike_54, a_ai, a_ald, a_gr, a_iadd, a_icge, a_icne, a_ifeq, a_ild, a_imul, a_inc, a_ist, a_push, a_zret, sh_71, sh_72, pu_rv, pu_as, Value.category, pu_bk, pu_kl, List.replicate, pu_wi_1, pu_wi_2, nl_add, nl_ladd, nl_aa, nl_mul, nl_rmul, nl_mm, pu_qe0, pu_qe1, hc2]
          all_goals try simp (maxSteps := 400000) (disch := omega) [nl_tle, nl_fle, nl_tlt, nl_flt, nl_teq, nl_feq, nl_sub, nl_ss, nl_lt, nl_llt, nl_ltt, nl_le, nl_lle, nl_lee, nl_eq, nl_leq, nl_ee, nl_div, nl_rem, nl_cl, nl_n1, nl_n2, nl_n3, nl_n4, nl_add, nl_ladd, nl_aa, nl_mul, nl_rmul, nl_mm, pu_wi_1, pu_wi_2, bX12_areAlike_5, bX12_areAlike_61, bX12_areAlike_45, bX12_areAlike_53, bX12_areAlike_54, a_ai, a_ald, a_gr, a_iadd, a_icge, a_icne, a_ifeq, a_ild, a_imul, a_inc, a_ist, a_push, a_zret, sh_71, sh_72, pu_rv, pu_as, Value.category, pu_bk, pu_kl, pu_qe0, pu_qe1, hc2]
          all_goals try simp [bX12_areAlike_5, bX12_areAlike_61, bX12_areAlike_45, bX12_areAlike_53, bX12_areAlike_54, a_ai, a_ald, a_gr, a_iadd, a_icge, a_icne, a_ifeq, a_ild, a_imul, a_inc, a_ist, a_push, a_zret, sh_71, sh_72, pu_rv, pu_as, Value.category, pu_bk, pu_kl, List.replicate, pu_wi_1, pu_wi_2, nl_add, nl_ladd, nl_aa, nl_mul, nl_rmul, nl_mm, pu_qe0, pu_qe1, hc2]
          all_goals try simp (maxSteps := 400000) (disch := omega) [nl_tle, nl_fle, nl_tlt, nl_flt, nl_teq, nl_feq, nl_sub, nl_ss, nl_lt, nl_llt, nl_ltt, nl_le, nl_lle, nl_lee, nl_eq, nl_leq, nl_ee, nl_div, nl_rem, nl_cl, nl_n1, nl_n2, nl_n3, nl_n4, nl_add, nl_ladd, nl_aa, nl_mul, nl_rmul, nl_mm, pu_wi_1, pu_wi_2, bX12_areAlike_5, bX12_areAlike_61, bX12_areAlike_45, bX12_areAlike_53, bX12_areAlike_54, a_ai, a_ald, a_gr, a_iadd, a_icge, a_icne, a_ifeq, a_ild, a_imul, a_inc, a_ist, a_push, a_zret, sh_71, sh_72, pu_rv, pu_as, Value.category, pu_bk, pu_kl, pu_qe0, pu_qe1, hc2]
        · have hc2 : ¬ 36 ≤ nI (i + 1) := nI_ge (b := 36) (by omega) (by omega)
          rw [qX12_areAlike_5]
          simp [bX12_areAlike_5, bX12_areAlike_61, bX12_areAlike_45, bX12_areAlike_53, bX12_areAlike_54, a_ai, a_ald, a_gr, a_iadd, a_icge, a_icne, a_ifeq, a_ild, a_imul, a_inc, a_ist, a_push, a_zret, sh_71, sh_72, pu_rv, pu_as, Value.category, pu_bk, pu_kl, List.replicate, pu_wi_1, pu_wi_2, nl_add, nl_ladd, nl_aa, nl_mul, nl_rmul, nl_mm, pu_qe0, pu_qe1, hc2]
          all_goals try simp (maxSteps := 400000) (disch := omega) [nl_tle, nl_fle, nl_tlt, nl_flt, nl_teq, nl_feq, nl_sub, nl_ss, nl_lt, nl_llt, nl_ltt, nl_le, nl_lle, nl_lee, nl_eq, nl_leq, nl_ee, nl_div, nl_rem, nl_cl, nl_n1, nl_n2, nl_n3, nl_n4, nl_add, nl_ladd, nl_aa, nl_mul, nl_rmul, nl_mm, pu_wi_1, pu_wi_2, bX12_areAlike_5, bX12_areAlike_61, bX12_areAlike_45, bX12_areAlike_53, bX12_areAlike_54, a_ai, a_ald, a_gr, a_iadd, a_icge, a_icne, a_ifeq, a_ild, a_imul, a_inc, a_ist, a_push, a_zret, sh_71, sh_72, pu_rv, pu_as, Value.category, pu_bk, pu_kl, pu_qe0, pu_qe1, hc2]
          all_goals try simp [bX12_areAlike_5, bX12_areAlike_61, bX12_areAlike_45, bX12_areAlike_53, bX12_areAlike_54, a_ai, a_ald, a_gr, a_iadd, a_icge, a_icne, a_ifeq, a_ild, a_imul, a_inc, a_ist, a_push, a_zret, sh_71, sh_72, pu_rv, pu_as, Value.category, pu_bk, pu_kl, List.replicate, pu_wi_1, pu_wi_2, nl_add, nl_ladd, nl_aa, nl_mul, nl_rmul, nl_mm, pu_qe0, pu_qe1, hc2]
          all_goals try simp (maxSteps := 400000) (disch := omega) [nl_tle, nl_fle, nl_tlt, nl_flt, nl_teq, nl_feq, nl_sub, nl_ss, nl_lt, nl_llt, nl_ltt, nl_le, nl_lle, nl_lee, nl_eq, nl_leq, nl_ee, nl_div, nl_rem, nl_cl, nl_n1, nl_n2, nl_n3, nl_n4, nl_add, nl_ladd, nl_aa, nl_mul, nl_rmul, nl_mm, pu_wi_1, pu_wi_2, bX12_areAlike_5, bX12_areAlike_61, bX12_areAlike_45, bX12_areAlike_53, bX12_areAlike_54, a_ai, a_ald, a_gr, a_iadd, a_icge, a_icne, a_ifeq, a_ild, a_imul, a_inc, a_ist, a_push, a_zret, sh_71, sh_72, pu_rv, pu_as, Value.category, pu_bk, pu_kl, pu_qe0, pu_qe1, hc2]
      rw [qX12_areAlike_5]
      simp [bX12_areAlike_5, bX12_areAlike_61, bX12_areAlike_45, bX12_areAlike_53, bX12_areAlike_54, a_ai, a_ald, a_gr, a_iadd, a_icge, a_icne, a_ifeq, a_ild, a_imul, a_inc, a_ist, a_push, a_zret, sh_71, sh_72, pu_rv, pu_as, Value.category, pu_bk, pu_kl, List.replicate, pu_wi_1, pu_wi_2, nl_add, nl_ladd, nl_aa, nl_mul, nl_rmul, nl_mm, pu_qe0, pu_qe1, f, hc, c, L0]
      all_goals try simp (maxSteps := 400000) (disch := omega) [nl_tle, nl_fle, nl_tlt, nl_flt, nl_teq, nl_feq, nl_sub, nl_ss, nl_lt, nl_llt, nl_ltt, nl_le, nl_lle, nl_lee, nl_eq, nl_leq, nl_ee, nl_div, nl_rem, nl_cl, nl_n1, nl_n2, nl_n3, nl_n4, nl_add, nl_ladd, nl_aa, nl_mul, nl_rmul, nl_mm, pu_wi_1, pu_wi_2, bX12_areAlike_5, bX12_areAlike_61, bX12_areAlike_45, bX12_areAlike_53, bX12_areAlike_54, a_ai, a_ald, a_gr, a_iadd, a_icge, a_icne, a_ifeq, a_ild, a_imul, a_inc, a_ist, a_push, a_zret, sh_71, sh_72, pu_rv, pu_as, Value.category, pu_bk, pu_kl, pu_qe0, pu_qe1, f, hc, c, L0]
      all_goals try simp [bX12_areAlike_5, bX12_areAlike_61, bX12_areAlike_45, bX12_areAlike_53, bX12_areAlike_54, a_ai, a_ald, a_gr, a_iadd, a_icge, a_icne, a_ifeq, a_ild, a_imul, a_inc, a_ist, a_push, a_zret, sh_71, sh_72, pu_rv, pu_as, Value.category, pu_bk, pu_kl, List.replicate, pu_wi_1, pu_wi_2, nl_add, nl_ladd, nl_aa, nl_mul, nl_rmul, nl_mm, pu_qe0, pu_qe1, f, hc, c, L0]
      all_goals try simp (maxSteps := 400000) (disch := omega) [nl_tle, nl_fle, nl_tlt, nl_flt, nl_teq, nl_feq, nl_sub, nl_ss, nl_lt, nl_llt, nl_ltt, nl_le, nl_lle, nl_lee, nl_eq, nl_leq, nl_ee, nl_div, nl_rem, nl_cl, nl_n1, nl_n2, nl_n3, nl_n4, nl_add, nl_ladd, nl_aa, nl_mul, nl_rmul, nl_mm, pu_wi_1, pu_wi_2, bX12_areAlike_5, bX12_areAlike_61, bX12_areAlike_45, bX12_areAlike_53, bX12_areAlike_54, a_ai, a_ald, a_gr, a_iadd, a_icge, a_icne, a_ifeq, a_ild, a_imul, a_inc, a_ist, a_push, a_zret, sh_71, sh_72, pu_rv, pu_as, Value.category, pu_bk, pu_kl, pu_qe0, pu_qe1, f, hc, c, L0]
theorem r_areAlike {M : pu_M} (hx : pu_fx M) (a k : Nat) (ha : a < 208) (hk : k < 208) : pu_r 246 [some (.ref 71), some (.int (nI a)), some (.int (nI k))] [] M = some (some (.int (pu_q (∀ j, j < 36 → M.1 72 (32 + 36 * a + j) = M.1 72 (32 + 36 * k + j)))), M) := by
  have e := r_areAlike_l hx a k ha hk 36 0 (by omega) (fun j hj => by omega)
  rw [nI_0] at e
  rw [qX12_areAlike]
  simp [a_ent, bX12_areAlike_0, a_ist, a_push, pu_rv, pu_as, Value.category, pu_bk, pu_kl, List.replicate, pu_wi_1, pu_wi_2, nl_add, nl_ladd, nl_aa, nl_mul, nl_rmul, nl_mm, pu_qe0, pu_qe1, e]
  all_goals try simp (maxSteps := 400000) (disch := omega) [nl_tle, nl_fle, nl_tlt, nl_flt, nl_teq, nl_feq, nl_sub, nl_ss, nl_lt, nl_llt, nl_ltt, nl_le, nl_lle, nl_lee, nl_eq, nl_leq, nl_ee, nl_div, nl_rem, nl_cl, nl_n1, nl_n2, nl_n3, nl_n4, nl_add, nl_ladd, nl_aa, nl_mul, nl_rmul, nl_mm, pu_wi_1, pu_wi_2, bX12_areAlike_0, a_ist, a_push, pu_rv, pu_as, Value.category, pu_bk, pu_kl, pu_qe0, pu_qe1, e]
  all_goals try simp [bX12_areAlike_0, a_ist, a_push, pu_rv, pu_as, Value.category, pu_bk, pu_kl, List.replicate, pu_wi_1, pu_wi_2, nl_add, nl_ladd, nl_aa, nl_mul, nl_rmul, nl_mm, pu_qe0, pu_qe1, e]
  all_goals try simp (maxSteps := 400000) (disch := omega) [nl_tle, nl_fle, nl_tlt, nl_flt, nl_teq, nl_feq, nl_sub, nl_ss, nl_lt, nl_llt, nl_ltt, nl_le, nl_lle, nl_lee, nl_eq, nl_leq, nl_ee, nl_div, nl_rem, nl_cl, nl_n1, nl_n2, nl_n3, nl_n4, nl_add, nl_ladd, nl_aa, nl_mul, nl_rmul, nl_mm, pu_wi_1, pu_wi_2, bX12_areAlike_0, a_ist, a_push, pu_rv, pu_as, Value.category, pu_bk, pu_kl, pu_qe0, pu_qe1, e]
/-- rows of three words and their numbers -/
theorem py_row3 {r r' : Nat → Int32} {a a' : Nat} {f g : Nat → Int64} {x y : Nat} (h : ∀ w, w < 3 → pu_Wd r (a + 12 * w) (f (x + w))) (h' : ∀ w, w < 3 → pu_Wd r' (a' + 12 * w) (g (y + w))) : (∀ j, j < 36 → r (a + j) = r' (a' + j)) ↔ py_lk f g x y := by
  constructor
  · intro q w hw
    exact (py_wd_eq (h w hw) (h' w hw)).mp (fun i hi => by rw [Nat.add_assoc, Nat.add_assoc]; exact q (12 * w + i) (by omega))
  · intro q j hj
    have e := (py_wd_eq (h (j / 12) (by omega)) (h' (j / 12) (by omega))).mpr (q (j / 12) (by omega)) (j % 12) (by omega)
    rw [Nat.add_assoc, Nat.add_assoc, show 12 * (j / 12) + j % 12 = j by omega] at e
    exact e
