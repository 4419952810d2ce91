/-! join: the two sides' questions are one -/
section
variable {I : Nat → Nat → Int32} {L : Nat → Nat → Int64}
theorem py_et_er (a b f : Int32) : (py_et I a f ∨ py_et I b f) = ((pu_ey I (-1) a f ∨ pu_ey I (-1) b f) ∨ ∃ s, 0 ≤ s ∧ s < cK I ∧ py_er I a b f s) := by
  apply propext
  constructor
  · rintro ((z | ⟨s, s1, s2, s3⟩) | (z | ⟨s, s1, s2, s3⟩))
    · exact Or.inl (Or.inl z)
    · exact Or.inr ⟨s, Nat.zero_le _, s1, Or.inl s2, s3⟩
    · exact Or.inl (Or.inr z)
    · exact Or.inr ⟨s, Nat.zero_le _, s1, Or.inr s2, s3⟩
  · rintro ((z | z) | ⟨s, _, s1, s2 | s2, s3⟩)
    · exact Or.inl (Or.inl z)
    · exact Or.inr (Or.inl z)
    · exact Or.inl (Or.inr ⟨s, s1, s2, s3⟩)
    · exact Or.inr (Or.inr ⟨s, s1, s2, s3⟩)
theorem py_nl_sm (hw : pu_WF I L) (a b : Int32) : (∃ k, k < cN I ∧ (I 23 k = -1 ∧ I 21 k = a) ∧ ∃ l, l < cN I ∧ py_nl I L b k l) = (∃ s, 0 ≤ s ∧ s < cK I ∧ py_sm I L a b s) := by
  have S : ∀ k, k < cN I → I 20 k = nI (I 20 k).toNatClampNeg ∧ (I 20 k).toNatClampNeg < cK I := fun k hk => pu_on (x := I 20 k) (n := cK I) ⟨(wx_ns hw k hk).1, (wx_ns hw k hk).2⟩
  apply propext
  constructor
  · rintro ⟨k, k1, ⟨k2, k3⟩, l, l1, ⟨l2, l3⟩, l4⟩
    refine ⟨(I 20 l).toNatClampNeg, Nat.zero_le _, (S l l1).2, l, ⟨l1, (S l l1).1, l2⟩, l3, (I 20 k).toNatClampNeg, (S k k1).2, k, ⟨k1, (S k k1).1, k2⟩, k3, fun w hw2 => (l4 w hw2).symm⟩
  · rintro ⟨s, _, s1, k, k1, k2, t, t1, l, l1, l2, l3⟩
    exact ⟨l, l1.1, ⟨l1.2.2, l2⟩, k, k1.1, ⟨k1.2.2, k2⟩, fun w hw2 => (l3 w hw2).symm⟩
end
