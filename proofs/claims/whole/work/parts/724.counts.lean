/-! counts of two sides -/
theorem py_mc_c {P Q : Nat → Prop} : ∀ n, (∀ i, i < n → (P i ↔ Q i)) → py_mc P n = py_mc Q n
  | 0, _ => rfl
  | n + 1, h => by
    have ih := py_mc_c (P := P) (Q := Q) n (fun i hi => h i (by omega))
    by_cases c : P n
    · rw [py_mc_t c, py_mc_t ((h n (by omega)).mp c), ih]
    · rw [py_mc_f c, py_mc_f (fun z => c ((h n (by omega)).mpr z)), ih]
theorem py_mc_rm {Q : Nat → Prop} {j : Nat} (hq : Q j) : ∀ m, j < m → py_mc Q m = py_mc (fun x => Q x ∧ x ≠ j) m + 1
  | 0, h => absurd h (Nat.not_lt_zero _)
  | m + 1, h => by
    by_cases z : j = m
    · subst z
      rw [py_mc_t hq, py_mc_f (P := fun x => Q x ∧ x ≠ j) (i := j) (fun y => y.2 rfl), py_mc_c (P := Q) (Q := fun x => Q x ∧ x ≠ j) j (fun i hi => ⟨fun y => ⟨y, by omega⟩, fun y => y.1⟩)]
    · have ih := py_mc_rm (Q := Q) hq m (by omega)
      by_cases c : Q m
      · rw [py_mc_t c, py_mc_t (P := fun x => Q x ∧ x ≠ j) (i := m) ⟨c, by omega⟩, ih]
      · rw [py_mc_f c, py_mc_f (P := fun x => Q x ∧ x ≠ j) (i := m) (fun y => c y.1), ih]
theorem py_mc_le {f : Nat → Nat} {m : Nat} : ∀ n (P Q : Nat → Prop), (∀ i, i < n → P i → f i < m ∧ Q (f i)) → (∀ i j, i < n → j < n → P i → P j → f i = f j → i = j) → py_mc P n ≤ py_mc Q m
  | 0, P, Q, _, _ => Nat.zero_le _
  | n + 1, P, Q, h1, h2 => by
    by_cases c : P n
    · obtain ⟨a, b⟩ := h1 n (by omega) c
      have ih := py_mc_le (f := f) (m := m) n P (fun x => Q x ∧ x ≠ f n) (fun i hi p => ⟨(h1 i (by omega) p).1, (h1 i (by omega) p).2, fun e => by
        have := h2 i n (by omega) (by omega) p c e
        omega⟩) (fun i j hi hj => h2 i j (by omega) (by omega))
      rw [py_mc_t c, py_mc_rm b m a]
      omega
    · rw [py_mc_f c]
      exact py_mc_le (f := f) (m := m) n P Q (fun i hi => h1 i (by omega)) (fun i j hi hj => h2 i j (by omega) (by omega))
theorem py_mc_n {P : Nat → Prop} : ∀ n, py_mc P n ≤ n
  | 0 => Nat.le_refl _
  | n + 1 => by
    have ih := py_mc_n (P := P) n
    by_cases c : P n
    · rw [py_mc_t c]; omega
    · rw [py_mc_f c]; omega
section
variable {I : Nat → Nat → Int32} {L : Nat → Nat → Int64}
theorem py_mcs (hw : pu_WF I L) (b : Int32) : py_mc (py_in I b) (cK I) = py_mc (fun i => I 23 i = -1 ∧ I 21 i = b) (cN I) := by
  have bK := wx_bK hw
  apply Nat.le_antisymm
  · refine py_mc_le (f := fun s => (pu_f1 (fun k => I 20 k = nI s ∧ I 23 k = -1) (cN I) 0).toNatClampNeg) _ _ _ (fun s hs p => ?_) (fun s t hs ht p q e => ?_)
    · obtain ⟨l, l1, l2⟩ := p
      have bN := wx_bN hw
      have ln := l1.1
      rw [pu_f1_no hw l1, nl_cl _ (by omega)]
      exact ⟨l1.1, l1.2.2, l2⟩
    · obtain ⟨l, l1, l2⟩ := p
      obtain ⟨k, k1, k2⟩ := q
      have bN := wx_bN hw
      have ln := l1.1
      have kn := k1.1
      have e2 : (pu_f1 (fun k => I 20 k = nI s ∧ I 23 k = -1) (cN I) 0).toNatClampNeg = (pu_f1 (fun k => I 20 k = nI t ∧ I 23 k = -1) (cN I) 0).toNatClampNeg := e
      rw [pu_f1_no hw l1, pu_f1_no hw k1, nl_cl _ (by omega), nl_cl _ (by omega)] at e2
      have e3 := l1.2.1
      rw [e2, k1.2.1, nI_eq (by omega) (by omega)] at e3
      exact e3.symm
  · refine py_mc_le (f := fun i => (I 20 i).toNatClampNeg) _ _ _ (fun i hi p => ?_) (fun i j hi hj p q e => ?_)
    · have s := pu_on (x := I 20 i) (n := cK I) ⟨(wx_ns hw i hi).1, (wx_ns hw i hi).2⟩
      exact ⟨s.2, i, ⟨hi, s.1, p.1⟩, p.2⟩
    · have s := pu_on (x := I 20 i) (n := cK I) ⟨(wx_ns hw i hi).1, (wx_ns hw i hi).2⟩
      have t := pu_on (x := I 20 j) (n := cK I) ⟨(wx_ns hw j hj).1, (wx_ns hw j hj).2⟩
      have e2 : (I 20 i).toNatClampNeg = (I 20 j).toNatClampNeg := e
      exact pu_no_un hw (st := (I 20 i).toNatClampNeg) ⟨hi, s.1, p.1⟩ ⟨hj, by rw [e2]; exact t.1, q.1⟩
theorem py_mcs_b (hw : pu_WF I L) (b : Int32) : py_mc (fun i => I 23 i = -1 ∧ I 21 i = b) (cN I) ≤ 24 := by
  rw [← py_mcs hw b]
  have := py_mc_n (P := py_in I b) (cK I)
  have bK := wx_bK hw
  omega
end
