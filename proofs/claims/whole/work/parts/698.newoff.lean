/-! a new office: where its references lie, and what it leaves alone -/
theorem py_mk_o (a x : Nat) (hx : x ≠ a) : ∀ (js : List Nat) (M : pu_M), x < M.2.2.2 → (∀ j, (pu_mk M a js).1 x j = M.1 x j) ∧ (∀ j, (pu_mk M a js).2.1 x j = M.2.1 x j) ∧ (∀ j, (pu_mk M a js).2.2.1 x j = M.2.2.1 x j)
  | [], M, h => ⟨fun _ => rfl, fun _ => rfl, fun _ => rfl⟩
  | i :: js, M, h => by
    have ih := py_mk_o a x hx js (pu_wr (pu_nw M) a i (some M.2.2.2)) (by show x < M.2.2.2 + 1; omega)
    have n : ¬ x = M.2.2.2 := by omega
    refine ⟨fun j => (ih.1 j).trans (if_neg n), fun j => (ih.2.1 j).trans (if_neg n), fun j => (ih.2.2 j).trans ?_⟩
    show (if x = a then _ else (if x = M.2.2.2 then none else M.2.2.1 x j)) = _
    rw [if_neg hx, if_neg n]
theorem py_mk_n (a : Nat) {j : Nat} : ∀ (js : List Nat) (M : pu_M), a < M.2.2.2 → j ∉ js → (pu_mk M a js).2.2.1 a j = M.2.2.1 a j
  | [], M, h, hj => rfl
  | i :: js, M, h, hj => by
    have h1 : j ≠ i := fun q => hj (by rw [q]; exact List.mem_cons_self)
    have ih := py_mk_n a (j := j) js (pu_wr (pu_nw M) a i (some M.2.2.2)) (by show a < M.2.2.2 + 1; omega) (fun q => hj (List.mem_cons_of_mem _ q))
    refine ih.trans ?_
    show (if a = a then (if j = i then _ else (if a = M.2.2.2 then none else M.2.2.1 a j)) else _) = _
    rw [if_pos rfl, if_neg h1, if_neg (by omega)]
theorem py_mk_i (a : Nat) {j : Nat} : ∀ (js : List Nat) (k : Nat) (M : pu_M), a < M.2.2.2 → js[k]? = some j → js.Nodup → (pu_mk M a js).2.2.1 a j = some (M.2.2.2 + k)
  | [], k, M, h, hk, hn => by simp at hk
  | i :: js, 0, M, h, hk, hn => by
    have e : i = j := by simpa using hk
    subst e
    have q := (List.nodup_cons.mp hn).1
    refine (py_mk_n a js (pu_wr (pu_nw M) a i (some M.2.2.2)) (by show a < M.2.2.2 + 1; omega) q).trans ?_
    show (if a = a then (if i = i then some M.2.2.2 else _) else _) = _
    rw [if_pos rfl, if_pos rfl]
    rfl
  | i :: js, k + 1, M, h, hk, hn => by
    have e : js[k]? = some j := by simpa using hk
    have q := (List.nodup_cons.mp hn).2
    refine (py_mk_i a js k (pu_wr (pu_nw M) a i (some M.2.2.2)) (by show a < M.2.2.2 + 1; omega) e q).trans ?_
    show some (M.2.2.2 + 1 + k) = some (M.2.2.2 + (k + 1))
    congr 1
    omega
def py_ff (f : pu_M → Nat → pu_M) : Prop := ∀ (M : pu_M) (p x : Nat), x < M.2.2.2 → x ≠ p → (∀ j, (f M p).1 x j = M.1 x j) ∧ (∀ j, (f M p).2.1 x j = M.2.1 x j) ∧ (∀ j, (f M p).2.2.1 x j = M.2.2.1 x j)
theorem py_pt1_o {f : pu_M → Nat → pu_M} (hf : py_ff f) (M : pu_M) (a j x : Nat) (hx : x < M.2.2.2) : (∀ i, (pu_pt1 M a j f).1 x i = M.1 x i) ∧ (∀ i, (pu_pt1 M a j f).2.1 x i = M.2.1 x i) ∧ (∀ i, ¬ (x = a ∧ i = j) → (pu_pt1 M a j f).2.2.1 x i = M.2.2.1 x i) := by
  have n : ¬ x = M.2.2.2 := by omega
  have q := hf (pu_nw M) M.2.2.2 x (by show x < M.2.2.2 + 1; omega) n
  refine ⟨fun i => (q.1 i).trans (if_neg n), fun i => (q.2.1 i).trans (if_neg n), fun i hi => ?_⟩
  show (if x = a then (if i = j then _ else (f (pu_nw M) M.2.2.2).2.2.1 x i) else (f (pu_nw M) M.2.2.2).2.2.1 x i) = _
  have e : (f (pu_nw M) M.2.2.2).2.2.1 x i = M.2.2.1 x i := (q.2.2 i).trans (if_neg n)
  by_cases c : x = a
  · rw [if_pos c, if_neg (fun z => hi ⟨c, z⟩), e]
  · rw [if_neg c, e]
theorem py_pt1_a (f : pu_M → Nat → pu_M) (M : pu_M) (a j : Nat) : (pu_pt1 M a j f).2.2.1 a j = some M.2.2.2 := by
  show (if a = a then (if j = j then some M.2.2.2 else _) else _) = _
  rw [if_pos rfl, if_pos rfl]
theorem py_pt1_p (f : pu_M → Nat → pu_M) (M : pu_M) (a j i : Nat) (h : a < M.2.2.2) : (pu_pt1 M a j f).2.2.1 M.2.2.2 i = (f (pu_nw M) M.2.2.2).2.2.1 M.2.2.2 i := by
  show (if M.2.2.2 = a then _ else (f (pu_nw M) M.2.2.2).2.2.1 M.2.2.2 i) = _
  rw [if_neg (by omega)]
theorem py_ff_iP : py_ff pu_iP := by
  intro M p x h1 h2
  have q := py_mk_o p x h2 [3, 4, 5, 6, 7, 8, 9] (pu_wi M p 1 (-1)) h1
  exact ⟨fun j => (q.1 j).trans (by rw [py_wi_o (by omega)]), q.2.1, q.2.2⟩
theorem py_fi_iP (M : pu_M) (a k j : Nat) (h : a < M.2.2.2) (hk : ([3, 4, 5, 6, 7, 8, 9] : List Nat)[k]? = some j) : (pu_iP M a).2.2.1 a j = some (M.2.2.2 + k) :=
  py_mk_i a [3, 4, 5, 6, 7, 8, 9] k (pu_wi M a 1 (-1)) h hk (by decide)
theorem py_ff_iNu : py_ff pu_iNu := by
  intro M p x h1 h2
  have q := py_mk_o p x h2 [1, 2, 3, 4] (M) h1
  exact q
theorem py_fi_iNu (M : pu_M) (a k j : Nat) (h : a < M.2.2.2) (hk : ([1, 2, 3, 4] : List Nat)[k]? = some j) : (pu_iNu M a).2.2.1 a j = some (M.2.2.2 + k) :=
  py_mk_i a [1, 2, 3, 4] k (M) h hk (by decide)
theorem py_ff_iNa : py_ff pu_iNa := by
  intro M p x h1 h2
  have q := py_mk_o p x h2 [1, 2, 3, 4, 5] (M) h1
  exact q
theorem py_fi_iNa (M : pu_M) (a k j : Nat) (h : a < M.2.2.2) (hk : ([1, 2, 3, 4, 5] : List Nat)[k]? = some j) : (pu_iNa M a).2.2.1 a j = some (M.2.2.2 + k) :=
  py_mk_i a [1, 2, 3, 4, 5] k (M) h hk (by decide)
theorem py_ff_iS : py_ff pu_iS := by
  intro M p x h1 h2
  have q := py_mk_o p x h2 [2, 3, 4, 5, 6] (M) h1
  exact q
theorem py_fi_iS (M : pu_M) (a k j : Nat) (h : a < M.2.2.2) (hk : ([2, 3, 4, 5, 6] : List Nat)[k]? = some j) : (pu_iS M a).2.2.1 a j = some (M.2.2.2 + k) :=
  py_mk_i a [2, 3, 4, 5, 6] k (M) h hk (by decide)
theorem py_ff_iD : py_ff pu_iD := by
  intro M p x h1 h2
  have q := py_mk_o p x h2 [1, 2, 3, 4, 5, 6, 7, 8, 9, 10] (M) h1
  exact q
theorem py_fi_iD (M : pu_M) (a k j : Nat) (h : a < M.2.2.2) (hk : ([1, 2, 3, 4, 5, 6, 7, 8, 9, 10] : List Nat)[k]? = some j) : (pu_iD M a).2.2.1 a j = some (M.2.2.2 + k) :=
  py_mk_i a [1, 2, 3, 4, 5, 6, 7, 8, 9, 10] k (M) h hk (by decide)
theorem py_ff_iF : py_ff pu_iF := by
  intro M p x h1 h2
  have q := py_mk_o p x h2 [1, 2] (M) h1
  exact q
theorem py_fi_iF (M : pu_M) (a k j : Nat) (h : a < M.2.2.2) (hk : ([1, 2] : List Nat)[k]? = some j) : (pu_iF M a).2.2.1 a j = some (M.2.2.2 + k) :=
  py_mk_i a [1, 2] k (M) h hk (by decide)
theorem py_ff_iK : py_ff pu_iK := by
  intro M p x h1 h2
  have q := py_mk_o p x h2 [8, 9, 10, 11, 12, 13, 14, 15, 16, 17, 18, 19] (pu_wi (pu_wi M p 0 (-1)) p 1 (-1)) h1
  exact ⟨fun j => (q.1 j).trans (by rw [py_wi_o (by omega), py_wi_o (by omega)]), q.2.1, q.2.2⟩
theorem py_fi_iK (M : pu_M) (a k j : Nat) (h : a < M.2.2.2) (hk : ([8, 9, 10, 11, 12, 13, 14, 15, 16, 17, 18, 19] : List Nat)[k]? = some j) : (pu_iK M a).2.2.1 a j = some (M.2.2.2 + k) :=
  py_mk_i a [8, 9, 10, 11, 12, 13, 14, 15, 16, 17, 18, 19] k (pu_wi (pu_wi M a 0 (-1)) a 1 (-1)) h hk (by decide)
theorem py_newoff (M : pu_M) (b : Nat) (hb : M.2.2.2 = b) : (pu_off (pu_nw M) b).2.2.2 = b + 53 ∧ (∀ x, x < b → (∀ j, (pu_off (pu_nw M) b).1 x j = M.1 x j) ∧ (∀ j, (pu_off (pu_nw M) b).2.1 x j = M.2.1 x j) ∧ (∀ j, (pu_off (pu_nw M) b).2.2.1 x j = M.2.2.1 x j)) ∧ pz_or (pu_off (pu_nw M) b) b := by
  have n0 : (pu_nw M).2.2.2 = b + 1 := by rw [pu_nw_n, hb]
  have z0 : ∀ x, x < b → (∀ j, (pu_nw M).1 x j = M.1 x j) ∧ (∀ j, (pu_nw M).2.1 x j = M.2.1 x j) ∧ (∀ j, (pu_nw M).2.2.1 x j = M.2.2.1 x j) := fun x hx => ⟨fun j => if_neg (by omega), fun j => if_neg (by omega), fun j => if_neg (by omega)⟩
  unfold pu_off
  have n1 : (pu_pt1 (pu_nw M) b 0 pu_iP).2.2.2 = b + 9 := by
    rw [pu_pt1_n (pu_nw M) b 0 pu_iP 7 pu_iP_n, n0]
  have o1 := fun x (hx : x < b + 1) => py_pt1_o py_ff_iP (pu_nw M) b 0 x (by rw [n0]; exact hx)
  have a1 := py_pt1_a pu_iP (pu_nw M) b 0
  rw [n0] at a1
  have p1 : ∀ j k, ([3, 4, 5, 6, 7, 8, 9] : List Nat)[k]? = some j → (pu_pt1 (pu_nw M) b 0 pu_iP).2.2.1 (b + 1) j = some (b + 1 + 1 + k) := fun j k hk => by
    have q := py_pt1_p pu_iP (pu_nw M) b 0 j (by rw [n0]; omega)
    rw [n0] at q
    rw [q, py_fi_iP (pu_nw (pu_nw M)) (b + 1) k j (by rw [pu_nw_n, n0]; omega) hk, pu_nw_n, n0]
  generalize hm1 : pu_pt1 (pu_nw M) b 0 pu_iP = M1 at *
  have n2 : (pu_pt1 M1 b 1 pu_iNu).2.2.2 = b + 14 := by
    rw [pu_pt1_n M1 b 1 pu_iNu 4 pu_iNu_n, n1]
  have o2 := fun x (hx : x < b + 9) => py_pt1_o py_ff_iNu M1 b 1 x (by rw [n1]; exact hx)
  have a2 := py_pt1_a pu_iNu M1 b 1
  rw [n1] at a2
  have p2 : ∀ j k, ([1, 2, 3, 4] : List Nat)[k]? = some j → (pu_pt1 M1 b 1 pu_iNu).2.2.1 (b + 9) j = some (b + 9 + 1 + k) := fun j k hk => by
    have q := py_pt1_p pu_iNu M1 b 1 j (by rw [n1]; omega)
    rw [n1] at q
    rw [q, py_fi_iNu (pu_nw M1) (b + 9) k j (by rw [pu_nw_n, n1]; omega) hk, pu_nw_n, n1]
  generalize hm2 : pu_pt1 M1 b 1 pu_iNu = M2 at *
  have n3 : (pu_pt1 M2 b 2 pu_iNa).2.2.2 = b + 20 := by
    rw [pu_pt1_n M2 b 2 pu_iNa 5 pu_iNa_n, n2]
  have o3 := fun x (hx : x < b + 14) => py_pt1_o py_ff_iNa M2 b 2 x (by rw [n2]; exact hx)
  have a3 := py_pt1_a pu_iNa M2 b 2
  rw [n2] at a3
  have p3 : ∀ j k, ([1, 2, 3, 4, 5] : List Nat)[k]? = some j → (pu_pt1 M2 b 2 pu_iNa).2.2.1 (b + 14) j = some (b + 14 + 1 + k) := fun j k hk => by
    have q := py_pt1_p pu_iNa M2 b 2 j (by rw [n2]; omega)
    rw [n2] at q
    rw [q, py_fi_iNa (pu_nw M2) (b + 14) k j (by rw [pu_nw_n, n2]; omega) hk, pu_nw_n, n2]
  generalize hm3 : pu_pt1 M2 b 2 pu_iNa = M3 at *
  have n4 : (pu_pt1 M3 b 3 pu_iS).2.2.2 = b + 26 := by
    rw [pu_pt1_n M3 b 3 pu_iS 5 pu_iS_n, n3]
  have o4 := fun x (hx : x < b + 20) => py_pt1_o py_ff_iS M3 b 3 x (by rw [n3]; exact hx)
  have a4 := py_pt1_a pu_iS M3 b 3
  rw [n3] at a4
  have p4 : ∀ j k, ([2, 3, 4, 5, 6] : List Nat)[k]? = some j → (pu_pt1 M3 b 3 pu_iS).2.2.1 (b + 20) j = some (b + 20 + 1 + k) := fun j k hk => by
    have q := py_pt1_p pu_iS M3 b 3 j (by rw [n3]; omega)
    rw [n3] at q
    rw [q, py_fi_iS (pu_nw M3) (b + 20) k j (by rw [pu_nw_n, n3]; omega) hk, pu_nw_n, n3]
  generalize hm4 : pu_pt1 M3 b 3 pu_iS = M4 at *
  have n5 : (pu_pt1 M4 b 4 pu_iD).2.2.2 = b + 37 := by
    rw [pu_pt1_n M4 b 4 pu_iD 10 pu_iD_n, n4]
  have o5 := fun x (hx : x < b + 26) => py_pt1_o py_ff_iD M4 b 4 x (by rw [n4]; exact hx)
  have a5 := py_pt1_a pu_iD M4 b 4
  rw [n4] at a5
  have p5 : ∀ j k, ([1, 2, 3, 4, 5, 6, 7, 8, 9, 10] : List Nat)[k]? = some j → (pu_pt1 M4 b 4 pu_iD).2.2.1 (b + 26) j = some (b + 26 + 1 + k) := fun j k hk => by
    have q := py_pt1_p pu_iD M4 b 4 j (by rw [n4]; omega)
    rw [n4] at q
    rw [q, py_fi_iD (pu_nw M4) (b + 26) k j (by rw [pu_nw_n, n4]; omega) hk, pu_nw_n, n4]
  generalize hm5 : pu_pt1 M4 b 4 pu_iD = M5 at *
  have n6 : (pu_pt1 M5 b 5 pu_iF).2.2.2 = b + 40 := by
    rw [pu_pt1_n M5 b 5 pu_iF 2 pu_iF_n, n5]
  have o6 := fun x (hx : x < b + 37) => py_pt1_o py_ff_iF M5 b 5 x (by rw [n5]; exact hx)
  have a6 := py_pt1_a pu_iF M5 b 5
  rw [n5] at a6
  have p6 : ∀ j k, ([1, 2] : List Nat)[k]? = some j → (pu_pt1 M5 b 5 pu_iF).2.2.1 (b + 37) j = some (b + 37 + 1 + k) := fun j k hk => by
    have q := py_pt1_p pu_iF M5 b 5 j (by rw [n5]; omega)
    rw [n5] at q
    rw [q, py_fi_iF (pu_nw M5) (b + 37) k j (by rw [pu_nw_n, n5]; omega) hk, pu_nw_n, n5]
  generalize hm6 : pu_pt1 M5 b 5 pu_iF = M6 at *
  have n7 : (pu_pt1 M6 b 6 pu_iK).2.2.2 = b + 53 := by
    rw [pu_pt1_n M6 b 6 pu_iK 12 pu_iK_n, n6]
  have o7 := fun x (hx : x < b + 40) => py_pt1_o py_ff_iK M6 b 6 x (by rw [n6]; exact hx)
  have a7 := py_pt1_a pu_iK M6 b 6
  rw [n6] at a7
  have p7 : ∀ j k, ([8, 9, 10, 11, 12, 13, 14, 15, 16, 17, 18, 19] : List Nat)[k]? = some j → (pu_pt1 M6 b 6 pu_iK).2.2.1 (b + 40) j = some (b + 40 + 1 + k) := fun j k hk => by
    have q := py_pt1_p pu_iK M6 b 6 j (by rw [n6]; omega)
    rw [n6] at q
    rw [q, py_fi_iK (pu_nw M6) (b + 40) k j (by rw [pu_nw_n, n6]; omega) hk, pu_nw_n, n6]
  generalize hm7 : pu_pt1 M6 b 6 pu_iK = M7 at *
  refine ⟨n7, fun x hx => ?_, ?_⟩
  · have y1 := o1 x (by omega)
    have y2 := o2 x (by omega)
    have y3 := o3 x (by omega)
    have y4 := o4 x (by omega)
    have y5 := o5 x (by omega)
    have y6 := o6 x (by omega)
    have y7 := o7 x (by omega)
    have y0 := z0 x hx
    exact ⟨fun j => ((((((y7.1 j).trans (y6.1 j)).trans (y5.1 j)).trans (y4.1 j)).trans (y3.1 j)).trans (y2.1 j)).trans ((y1.1 j).trans (y0.1 j)), fun j => ((((((y7.2.1 j).trans (y6.2.1 j)).trans (y5.2.1 j)).trans (y4.2.1 j)).trans (y3.2.1 j)).trans (y2.2.1 j)).trans ((y1.2.1 j).trans (y0.2.1 j)), fun j => ((((((y7.2.2 j (by omega)).trans (y6.2.2 j (by omega))).trans (y5.2.2 j (by omega))).trans (y4.2.2 j (by omega))).trans (y3.2.2 j (by omega))).trans (y2.2.2 j (by omega))).trans ((y1.2.2 j (by omega)).trans (y0.2.2 j))⟩
  · intro a j r hq ha
    have hm := pu_RTm hq
    simp only [pu_RTl, List.mem_cons, Prod.mk.injEq, List.not_mem_nil, or_false] at hm
    rcases hm with ⟨h1, h2, h3⟩ | ⟨h1, h2, h3⟩ | ⟨h1, h2, h3⟩ | ⟨h1, h2, h3⟩ | ⟨h1, h2, h3⟩ | ⟨h1, h2, h3⟩ | ⟨h1, h2, h3⟩ | ⟨h1, h2, h3⟩ | ⟨h1, h2, h3⟩ | ⟨h1, h2, h3⟩ | ⟨h1, h2, h3⟩ | ⟨h1, h2, h3⟩ | ⟨h1, h2, h3⟩ | ⟨h1, h2, h3⟩ | ⟨h1, h2, h3⟩ | ⟨h1, h2, h3⟩ | ⟨h1, h2, h3⟩ | ⟨h1, h2, h3⟩ | ⟨h1, h2, h3⟩ | ⟨h1, h2, h3⟩ | ⟨h1, h2, h3⟩ | ⟨h1, h2, h3⟩ | ⟨h1, h2, h3⟩ | ⟨h1, h2, h3⟩ | ⟨h1, h2, h3⟩ | ⟨h1, h2, h3⟩ | ⟨h1, h2, h3⟩ | ⟨h1, h2, h3⟩ | ⟨h1, h2, h3⟩ | ⟨h1, h2, h3⟩ | ⟨h1, h2, h3⟩ | ⟨h1, h2, h3⟩ | ⟨h1, h2, h3⟩ | ⟨h1, h2, h3⟩ | ⟨h1, h2, h3⟩ | ⟨h1, h2, h3⟩ | ⟨h1, h2, h3⟩ | ⟨h1, h2, h3⟩ | ⟨h1, h2, h3⟩ | ⟨h1, h2, h3⟩ | ⟨h1, h2, h3⟩ | ⟨h1, h2, h3⟩ | ⟨h1, h2, h3⟩ | ⟨h1, h2, h3⟩ | ⟨h1, h2, h3⟩ | ⟨h1, h2, h3⟩ | ⟨h1, h2, h3⟩ | ⟨h1, h2, h3⟩ | ⟨h1, h2, h3⟩ | ⟨h1, h2, h3⟩ | ⟨h1, h2, h3⟩ | ⟨h1, h2, h3⟩ | ⟨h1, h2, h3⟩ | ⟨h1, h2, h3⟩ | ⟨h1, h2, h3⟩ | ⟨h1, h2, h3⟩ | ⟨h1, h2, h3⟩ | ⟨h1, h2, h3⟩ | ⟨h1, h2, h3⟩ | ⟨h1, h2, h3⟩ | ⟨h1, h2, h3⟩ | ⟨h1, h2, h3⟩ | ⟨h1, h2, h3⟩ | ⟨h1, h2, h3⟩ | ⟨h1, h2, h3⟩ | ⟨h1, h2, h3⟩ | ⟨h1, h2, h3⟩ | ⟨h1, h2, h3⟩ | ⟨h1, h2, h3⟩ | ⟨h1, h2, h3⟩ | ⟨h1, h2, h3⟩ | ⟨h1, h2, h3⟩ | ⟨h1, h2, h3⟩ | ⟨h1, h2, h3⟩ | ⟨h1, h2, h3⟩ | ⟨h1, h2, h3⟩ | ⟨h1, h2, h3⟩ | ⟨h1, h2, h3⟩ | ⟨h1, h2, h3⟩ | ⟨h1, h2, h3⟩ | ⟨h1, h2, h3⟩ | ⟨h1, h2, h3⟩ | ⟨h1, h2, h3⟩ | ⟨h1, h2, h3⟩
    · omega
    · omega
    · omega
    · omega
    · omega
    · omega
    · omega
    · omega
    · omega
    · omega
    · rw [show a = 0 by omega, h2, show r = 1 by omega, (o7 (b + 0) (by omega)).2.2 0 (by omega), (o6 (b + 0) (by omega)).2.2 0 (by omega), (o5 (b + 0) (by omega)).2.2 0 (by omega), (o4 (b + 0) (by omega)).2.2 0 (by omega), (o3 (b + 0) (by omega)).2.2 0 (by omega), (o2 (b + 0) (by omega)).2.2 0 (by omega), Nat.add_zero, a1]
    · rw [show a = 0 by omega, h2, show r = 9 by omega, (o7 (b + 0) (by omega)).2.2 1 (by omega), (o6 (b + 0) (by omega)).2.2 1 (by omega), (o5 (b + 0) (by omega)).2.2 1 (by omega), (o4 (b + 0) (by omega)).2.2 1 (by omega), (o3 (b + 0) (by omega)).2.2 1 (by omega), Nat.add_zero, a2]
    · rw [show a = 0 by omega, h2, show r = 14 by omega, (o7 (b + 0) (by omega)).2.2 2 (by omega), (o6 (b + 0) (by omega)).2.2 2 (by omega), (o5 (b + 0) (by omega)).2.2 2 (by omega), (o4 (b + 0) (by omega)).2.2 2 (by omega), Nat.add_zero, a3]
    · rw [show a = 0 by omega, h2, show r = 20 by omega, (o7 (b + 0) (by omega)).2.2 3 (by omega), (o6 (b + 0) (by omega)).2.2 3 (by omega), (o5 (b + 0) (by omega)).2.2 3 (by omega), Nat.add_zero, a4]
    · rw [show a = 0 by omega, h2, show r = 26 by omega, (o7 (b + 0) (by omega)).2.2 4 (by omega), (o6 (b + 0) (by omega)).2.2 4 (by omega), Nat.add_zero, a5]
    · rw [show a = 0 by omega, h2, show r = 37 by omega, (o7 (b + 0) (by omega)).2.2 5 (by omega), Nat.add_zero, a6]
    · rw [show a = 0 by omega, h2, show r = 40 by omega, Nat.add_zero, a7]
    · rw [show a = 1 by omega, h2, show r = 2 by omega, (o7 (b + 1) (by omega)).2.2 3 (by omega), (o6 (b + 1) (by omega)).2.2 3 (by omega), (o5 (b + 1) (by omega)).2.2 3 (by omega), (o4 (b + 1) (by omega)).2.2 3 (by omega), (o3 (b + 1) (by omega)).2.2 3 (by omega), (o2 (b + 1) (by omega)).2.2 3 (by omega), p1 3 0 rfl]
    · rw [show a = 1 by omega, h2, show r = 3 by omega, (o7 (b + 1) (by omega)).2.2 4 (by omega), (o6 (b + 1) (by omega)).2.2 4 (by omega), (o5 (b + 1) (by omega)).2.2 4 (by omega), (o4 (b + 1) (by omega)).2.2 4 (by omega), (o3 (b + 1) (by omega)).2.2 4 (by omega), (o2 (b + 1) (by omega)).2.2 4 (by omega), p1 4 1 rfl]
    · rw [show a = 1 by omega, h2, show r = 4 by omega, (o7 (b + 1) (by omega)).2.2 5 (by omega), (o6 (b + 1) (by omega)).2.2 5 (by omega), (o5 (b + 1) (by omega)).2.2 5 (by omega), (o4 (b + 1) (by omega)).2.2 5 (by omega), (o3 (b + 1) (by omega)).2.2 5 (by omega), (o2 (b + 1) (by omega)).2.2 5 (by omega), p1 5 2 rfl]
    · rw [show a = 1 by omega, h2, show r = 5 by omega, (o7 (b + 1) (by omega)).2.2 6 (by omega), (o6 (b + 1) (by omega)).2.2 6 (by omega), (o5 (b + 1) (by omega)).2.2 6 (by omega), (o4 (b + 1) (by omega)).2.2 6 (by omega), (o3 (b + 1) (by omega)).2.2 6 (by omega), (o2 (b + 1) (by omega)).2.2 6 (by omega), p1 6 3 rfl]
    · rw [show a = 1 by omega, h2, show r = 6 by omega, (o7 (b + 1) (by omega)).2.2 7 (by omega), (o6 (b + 1) (by omega)).2.2 7 (by omega), (o5 (b + 1) (by omega)).2.2 7 (by omega), (o4 (b + 1) (by omega)).2.2 7 (by omega), (o3 (b + 1) (by omega)).2.2 7 (by omega), (o2 (b + 1) (by omega)).2.2 7 (by omega), p1 7 4 rfl]
    · rw [show a = 1 by omega, h2, show r = 7 by omega, (o7 (b + 1) (by omega)).2.2 8 (by omega), (o6 (b + 1) (by omega)).2.2 8 (by omega), (o5 (b + 1) (by omega)).2.2 8 (by omega), (o4 (b + 1) (by omega)).2.2 8 (by omega), (o3 (b + 1) (by omega)).2.2 8 (by omega), (o2 (b + 1) (by omega)).2.2 8 (by omega), p1 8 5 rfl]
    · rw [show a = 1 by omega, h2, show r = 8 by omega, (o7 (b + 1) (by omega)).2.2 9 (by omega), (o6 (b + 1) (by omega)).2.2 9 (by omega), (o5 (b + 1) (by omega)).2.2 9 (by omega), (o4 (b + 1) (by omega)).2.2 9 (by omega), (o3 (b + 1) (by omega)).2.2 9 (by omega), (o2 (b + 1) (by omega)).2.2 9 (by omega), p1 9 6 rfl]
    · rw [show a = 9 by omega, h2, show r = 10 by omega, (o7 (b + 9) (by omega)).2.2 1 (by omega), (o6 (b + 9) (by omega)).2.2 1 (by omega), (o5 (b + 9) (by omega)).2.2 1 (by omega), (o4 (b + 9) (by omega)).2.2 1 (by omega), (o3 (b + 9) (by omega)).2.2 1 (by omega), p2 1 0 rfl]
    · rw [show a = 9 by omega, h2, show r = 11 by omega, (o7 (b + 9) (by omega)).2.2 2 (by omega), (o6 (b + 9) (by omega)).2.2 2 (by omega), (o5 (b + 9) (by omega)).2.2 2 (by omega), (o4 (b + 9) (by omega)).2.2 2 (by omega), (o3 (b + 9) (by omega)).2.2 2 (by omega), p2 2 1 rfl]
    · rw [show a = 9 by omega, h2, show r = 12 by omega, (o7 (b + 9) (by omega)).2.2 3 (by omega), (o6 (b + 9) (by omega)).2.2 3 (by omega), (o5 (b + 9) (by omega)).2.2 3 (by omega), (o4 (b + 9) (by omega)).2.2 3 (by omega), (o3 (b + 9) (by omega)).2.2 3 (by omega), p2 3 2 rfl]
    · rw [show a = 9 by omega, h2, show r = 13 by omega, (o7 (b + 9) (by omega)).2.2 4 (by omega), (o6 (b + 9) (by omega)).2.2 4 (by omega), (o5 (b + 9) (by omega)).2.2 4 (by omega), (o4 (b + 9) (by omega)).2.2 4 (by omega), (o3 (b + 9) (by omega)).2.2 4 (by omega), p2 4 3 rfl]
    · rw [show a = 14 by omega, h2, show r = 15 by omega, (o7 (b + 14) (by omega)).2.2 1 (by omega), (o6 (b + 14) (by omega)).2.2 1 (by omega), (o5 (b + 14) (by omega)).2.2 1 (by omega), (o4 (b + 14) (by omega)).2.2 1 (by omega), p3 1 0 rfl]
    · rw [show a = 14 by omega, h2, show r = 16 by omega, (o7 (b + 14) (by omega)).2.2 2 (by omega), (o6 (b + 14) (by omega)).2.2 2 (by omega), (o5 (b + 14) (by omega)).2.2 2 (by omega), (o4 (b + 14) (by omega)).2.2 2 (by omega), p3 2 1 rfl]
    · rw [show a = 14 by omega, h2, show r = 17 by omega, (o7 (b + 14) (by omega)).2.2 3 (by omega), (o6 (b + 14) (by omega)).2.2 3 (by omega), (o5 (b + 14) (by omega)).2.2 3 (by omega), (o4 (b + 14) (by omega)).2.2 3 (by omega), p3 3 2 rfl]
    · rw [show a = 14 by omega, h2, show r = 18 by omega, (o7 (b + 14) (by omega)).2.2 4 (by omega), (o6 (b + 14) (by omega)).2.2 4 (by omega), (o5 (b + 14) (by omega)).2.2 4 (by omega), (o4 (b + 14) (by omega)).2.2 4 (by omega), p3 4 3 rfl]
    · rw [show a = 14 by omega, h2, show r = 19 by omega, (o7 (b + 14) (by omega)).2.2 5 (by omega), (o6 (b + 14) (by omega)).2.2 5 (by omega), (o5 (b + 14) (by omega)).2.2 5 (by omega), (o4 (b + 14) (by omega)).2.2 5 (by omega), p3 5 4 rfl]
    · rw [show a = 20 by omega, h2, show r = 21 by omega, (o7 (b + 20) (by omega)).2.2 2 (by omega), (o6 (b + 20) (by omega)).2.2 2 (by omega), (o5 (b + 20) (by omega)).2.2 2 (by omega), p4 2 0 rfl]
    · rw [show a = 20 by omega, h2, show r = 22 by omega, (o7 (b + 20) (by omega)).2.2 3 (by omega), (o6 (b + 20) (by omega)).2.2 3 (by omega), (o5 (b + 20) (by omega)).2.2 3 (by omega), p4 3 1 rfl]
    · rw [show a = 20 by omega, h2, show r = 23 by omega, (o7 (b + 20) (by omega)).2.2 4 (by omega), (o6 (b + 20) (by omega)).2.2 4 (by omega), (o5 (b + 20) (by omega)).2.2 4 (by omega), p4 4 2 rfl]
    · rw [show a = 20 by omega, h2, show r = 24 by omega, (o7 (b + 20) (by omega)).2.2 5 (by omega), (o6 (b + 20) (by omega)).2.2 5 (by omega), (o5 (b + 20) (by omega)).2.2 5 (by omega), p4 5 3 rfl]
    · rw [show a = 20 by omega, h2, show r = 25 by omega, (o7 (b + 20) (by omega)).2.2 6 (by omega), (o6 (b + 20) (by omega)).2.2 6 (by omega), (o5 (b + 20) (by omega)).2.2 6 (by omega), p4 6 4 rfl]
    · rw [show a = 26 by omega, h2, show r = 27 by omega, (o7 (b + 26) (by omega)).2.2 1 (by omega), (o6 (b + 26) (by omega)).2.2 1 (by omega), p5 1 0 rfl]
    · rw [show a = 26 by omega, h2, show r = 28 by omega, (o7 (b + 26) (by omega)).2.2 2 (by omega), (o6 (b + 26) (by omega)).2.2 2 (by omega), p5 2 1 rfl]
    · rw [show a = 26 by omega, h2, show r = 29 by omega, (o7 (b + 26) (by omega)).2.2 3 (by omega), (o6 (b + 26) (by omega)).2.2 3 (by omega), p5 3 2 rfl]
    · rw [show a = 26 by omega, h2, show r = 30 by omega, (o7 (b + 26) (by omega)).2.2 4 (by omega), (o6 (b + 26) (by omega)).2.2 4 (by omega), p5 4 3 rfl]
    · rw [show a = 26 by omega, h2, show r = 31 by omega, (o7 (b + 26) (by omega)).2.2 5 (by omega), (o6 (b + 26) (by omega)).2.2 5 (by omega), p5 5 4 rfl]
    · rw [show a = 26 by omega, h2, show r = 32 by omega, (o7 (b + 26) (by omega)).2.2 6 (by omega), (o6 (b + 26) (by omega)).2.2 6 (by omega), p5 6 5 rfl]
    · rw [show a = 26 by omega, h2, show r = 33 by omega, (o7 (b + 26) (by omega)).2.2 7 (by omega), (o6 (b + 26) (by omega)).2.2 7 (by omega), p5 7 6 rfl]
    · rw [show a = 26 by omega, h2, show r = 34 by omega, (o7 (b + 26) (by omega)).2.2 8 (by omega), (o6 (b + 26) (by omega)).2.2 8 (by omega), p5 8 7 rfl]
    · rw [show a = 26 by omega, h2, show r = 35 by omega, (o7 (b + 26) (by omega)).2.2 9 (by omega), (o6 (b + 26) (by omega)).2.2 9 (by omega), p5 9 8 rfl]
    · rw [show a = 26 by omega, h2, show r = 36 by omega, (o7 (b + 26) (by omega)).2.2 10 (by omega), (o6 (b + 26) (by omega)).2.2 10 (by omega), p5 10 9 rfl]
    · rw [show a = 37 by omega, h2, show r = 38 by omega, (o7 (b + 37) (by omega)).2.2 1 (by omega), p6 1 0 rfl]
    · rw [show a = 37 by omega, h2, show r = 39 by omega, (o7 (b + 37) (by omega)).2.2 2 (by omega), p6 2 1 rfl]
    · rw [show a = 40 by omega, h2, show r = 41 by omega, p7 8 0 rfl]
    · rw [show a = 40 by omega, h2, show r = 42 by omega, p7 9 1 rfl]
    · rw [show a = 40 by omega, h2, show r = 43 by omega, p7 10 2 rfl]
    · rw [show a = 40 by omega, h2, show r = 44 by omega, p7 11 3 rfl]
    · rw [show a = 40 by omega, h2, show r = 45 by omega, p7 12 4 rfl]
    · rw [show a = 40 by omega, h2, show r = 46 by omega, p7 13 5 rfl]
    · rw [show a = 40 by omega, h2, show r = 47 by omega, p7 14 6 rfl]
    · rw [show a = 40 by omega, h2, show r = 48 by omega, p7 15 7 rfl]
    · rw [show a = 40 by omega, h2, show r = 49 by omega, p7 16 8 rfl]
    · rw [show a = 40 by omega, h2, show r = 50 by omega, p7 17 9 rfl]
    · rw [show a = 40 by omega, h2, show r = 51 by omega, p7 18 10 rfl]
    · rw [show a = 40 by omega, h2, show r = 52 by omega, p7 19 11 rfl]
    · omega
    · omega
    · omega
    · omega
    · omega
    · omega
    · omega
    · omega
    · omega
    · omega
    · omega
    · omega
    · omega
    · omega
    · omega
    · omega
    · omega
    · omega
    · omega
    · omega
    · omega
    · omega
