/-! gaps; rows by keys -/
theorem py_cnt_bij {P : Nat → Prop} : ∀ (m i c : Nat) (f : Nat → Nat), (∀ a, a < c → i ≤ f a ∧ f a < i + m ∧ P (f a)) → (∀ a b, a < b → b < c → f a ≠ f b) → (∀ k, i ≤ k → k < i + m → P k → ∃ a, a < c ∧ f a = k) → py_cnt P m i = c
  | 0, i, c, f, h1, _, _ => by
    cases c with
    | zero => rfl
    | succ c =>
      have := h1 0 (by omega)
      omega
  | m + 1, i, c, f, h1, h2, h3 => by
    by_cases p : P i
    · obtain ⟨a0, a1, a2⟩ := h3 i (by omega) (by omega) p
      rw [py_cnt_t p]
      have ih := py_cnt_bij (P := P) m (i + 1) (c - 1) (fun a => f (if a < a0 then a else a + 1)) (fun a ha => by
        have q := h1 (if a < a0 then a else a + 1) (by split <;> omega)
        have ne : f (if a < a0 then a else a + 1) ≠ i := by
          rw [← a2]
          by_cases z : a < a0
          · rw [if_pos z]; exact h2 a a0 z a1
          · rw [if_neg z]; exact fun e => h2 a0 (a + 1) (by omega) (by omega) e.symm
        show i + 1 ≤ f (if a < a0 then a else a + 1) ∧ f (if a < a0 then a else a + 1) < i + 1 + m ∧ P (f (if a < a0 then a else a + 1))
        exact ⟨by omega, by omega, q.2.2⟩) (fun a b hab hb => h2 _ _ (by split <;> split <;> omega) (by split <;> omega)) (fun k hk1 hk2 hp => by
        obtain ⟨b, b1, b2⟩ := h3 k (by omega) (by omega) hp
        have bne : b ≠ a0 := fun e => by rw [e, a2] at b2; omega
        by_cases z : b < a0
        · exact ⟨b, by omega, by show f (if b < a0 then b else b + 1) = k; rw [if_pos z]; exact b2⟩
        · refine ⟨b - 1, by omega, ?_⟩
          show f (if b - 1 < a0 then b - 1 else b - 1 + 1) = k
          rw [if_neg (by omega), Nat.sub_add_cancel (by omega)]
          exact b2)
      rw [ih]
      omega
    · rw [py_cnt_f p]
      exact py_cnt_bij (P := P) m (i + 1) c f (fun a ha => by
        have q := h1 a ha
        have : f a ≠ i := fun e => by rw [e] at q; exact p q.2.2
        exact ⟨by omega, by omega, q.2.2⟩) h2 (fun k hk1 hk2 hp => h3 k (by omega) (by omega) hp)
theorem py_cnt_c {c d : Nat → Prop} : ∀ m i, (∀ k, i ≤ k → k < i + m → (c k ↔ d k)) → py_cnt c m i = py_cnt d m i
  | 0, i, _ => rfl
  | m + 1, i, h => by
    have ih := py_cnt_c (c := c) (d := d) m (i + 1) (fun k h1 h2 => h k (by omega) (by omega))
    by_cases z : c i
    · rw [py_cnt_t z, py_cnt_t ((h i (by omega) (by omega)).mp z), ih]
    · rw [py_cnt_f z, py_cnt_f (fun y => z ((h i (by omega) (by omega)).mpr y)), ih]
/-- a row W of the n elements of S, rising by a key -/
def py_SL (key : Nat → Nat) (S : Nat → Prop) (W : Nat → Nat) (n : Nat) : Prop := (∀ a, a < n → S (W a)) ∧ (∀ k, S k → ∃ a, a < n ∧ W a = k) ∧ (∀ a b, a < b → b < n → key (W a) < key (W b))
theorem py_SL_c {key : Nat → Nat} {S T : Nat → Prop} {W : Nat → Nat} {n : Nat} (h : py_SL key S W n) (e : ∀ k, S k ↔ T k) : py_SL key T W n := ⟨fun a ha => (e _).mp (h.1 a ha), fun k hk => h.2.1 k ((e k).mpr hk), h.2.2⟩
theorem py_SL_add {key : Nat → Nat} {S : Nat → Prop} {W : Nat → Nat} {n b k : Nat} (h : py_SL key S W n) (hb : b ≤ n) (h1 : ∀ j, b ≤ j → j < n → key k < key (W j)) (h2 : b = 0 ∨ key (W (b - 1)) < key k) : py_SL key (fun l => S l ∨ l = k) (pu_vi W b k) (n + 1) := by
  obtain ⟨g1, g2, g3⟩ := h
  have lo : ∀ j, j < b → key (W j) < key k := fun j hj => by
    rcases h2 with h2 | h2
    · omega
    · by_cases z : j = b - 1
      · rw [z]; exact h2
      · exact Nat.lt_trans (g3 j (b - 1) (by omega) (by omega)) h2
  refine ⟨fun a ha => ?_, fun l hl => ?_, fun a d had hd => ?_⟩
  · unfold pu_vi
    by_cases q : a < b
    · rw [if_pos q]
      exact Or.inl (g1 a (by omega))
    · rw [if_neg q]
      by_cases q2 : a = b
      · rw [if_pos q2]
        exact Or.inr rfl
      · rw [if_neg q2]
        exact Or.inl (g1 (a - 1) (by omega))
  · rcases hl with hl | hl
    · obtain ⟨a, a1, a2⟩ := g2 l hl
      by_cases q : a < b
      · refine ⟨a, by omega, ?_⟩
        unfold pu_vi
        rw [if_pos q, a2]
      · refine ⟨a + 1, by omega, ?_⟩
        unfold pu_vi
        rw [if_neg (by omega), if_neg (by omega)]
        exact a2
    · refine ⟨b, by omega, ?_⟩
      unfold pu_vi
      rw [if_neg (by omega), if_pos rfl, hl]
  · unfold pu_vi
    by_cases q : d < b
    · rw [if_pos q, if_pos (by omega)]
      exact g3 a d had (by omega)
    · rw [if_neg q]
      by_cases q2 : d = b
      · rw [if_pos q2, if_pos (by omega)]
        exact lo a (by omega)
      · rw [if_neg q2]
        by_cases q3 : a < b
        · rw [if_pos q3]
          exact g3 a (d - 1) (by omega) (by omega)
        · rw [if_neg q3]
          by_cases q4 : a = b
          · rw [if_pos q4]
            exact h1 (d - 1) (by omega) (by omega)
          · rw [if_neg q4]
            exact g3 (a - 1) (d - 1) (by omega) (by omega)
theorem py_SL_i {key : Nat → Nat} {S : Nat → Prop} {W : Nat → Nat} {n a b : Nat} (h : py_SL key S W n) (ha : a < n) (hb : b < n) (e : W a = W b) : a = b := by
  rcases Nat.lt_trichotomy a b with z | z | z
  · have := h.2.2 a b z hb
    rw [e] at this
    omega
  · exact z
  · have := h.2.2 b a z ha
    rw [e] at this
    omega
theorem py_SL_un {key : Nat → Nat} {S : Nat → Prop} {W X : Nat → Nat} {n m : Nat} (h : py_SL key S W n) (g : py_SL key S X m) : n = m ∧ ∀ a, a < n → W a = X a := by
  have E : ∀ N a, a < N → a < n → a < m ∧ W a = X a := fun N => by
    induction N with
    | zero => intro a h1; omega
    | succ N ih =>
      intro a h1 h2
      obtain ⟨b, b1, b2⟩ := g.2.1 (W a) (h.1 a h2)
      rcases Nat.lt_trichotomy b a with z | z | z
      · have q := ih b (by omega) (by omega)
        have := py_SL_i h h2 (by omega) (show W a = W b by rw [q.2, b2])
        omega
      · rw [z] at b1 b2
        exact ⟨b1, b2.symm⟩
      · have am : a < m := by omega
        obtain ⟨c, c1, c2⟩ := h.2.1 (X a) (g.1 a am)
        rcases Nat.lt_trichotomy c a with y | y | y
        · have q := ih c (by omega) c1
          have := py_SL_i g am q.1 (show X a = X c by rw [← q.2, c2])
          omega
        · rw [y] at c2
          exact ⟨am, c2⟩
        · have k1 := h.2.2 a c y c1
          have k2 := g.2.2 a b z b1
          rw [b2] at k2
          rw [c2] at k1
          omega
  have E2 : ∀ a, a < n → a < m ∧ W a = X a := fun a ha => E (a + 1) a (by omega) ha
  refine ⟨?_, fun a ha => (E2 a ha).2⟩
  rcases Nat.lt_trichotomy n m with z | z | z
  · obtain ⟨c, c1, c2⟩ := h.2.1 (X n) (g.1 n z)
    have q := E2 c c1
    have := py_SL_i g z q.1 (show X n = X c by rw [← q.2, c2])
    omega
  · exact z
  · have q := E2 m z
    omega
section
variable {M : pu_M} {I : Nat → Nat → Int32} {L : Nat → Nat → Int64} {st o n : Nat} {y : Int32} {V : Nat → Nat}
/-- span l is unknown, in line with span k, and no known number lies between them -/
def py_g2 (I : Nat → Nat → Int32) (st : Nat) (y : Int32) (k l : Nat) : Prop := I 16 l = 0 ∧ (I 39 (pu_sl0 I l) = nI st ∧ pu_sh1 I y l) ∧ ((I 27 st).toInt = 1 ∨ (I 40 (pu_sl0 I l)).toInt = (I 40 (pu_sl0 I k)).toInt) ∧ ∀ e, py_eo I st y (I 40 (pu_sl0 I k)).toInt e → ¬ (pz_ak I st l < pz_ak I st e ∧ pz_ak I st e < pz_ak I st k) ∧ ¬ (pz_ak I st k < pz_ak I st e ∧ pz_ak I st e < pz_ak I st l)
noncomputable def py_gp (I : Nat → Nat → Int32) (st : Nat) (y : Int32) (k : Nat) : Nat := py_cnt (py_g2 I st y k) (cU I) 0
def py_mh (I : Nat → Nat → Int32) (st w : Nat) (y : Int32) (k : Nat) : Prop := (I 27 st = 0 → w / 16 % 2 + (I 40 (pu_sl0 I k)).toNatClampNeg = 1) ∧ ∃ be ah : Int, ∃ lo hh : Int32, py_lo I st y (I 40 (pu_sl0 I k)).toInt (pz_ak I st k) (cU I) be lo ∧ py_hi I st y (I 40 (pu_sl0 I k)).toInt (pz_ak I st k) (cU I) ah hh ∧ lo < nI w ∧ nI w < hh
noncomputable def py_ky (I : Nat → Nat → Int32) (st : Nat) (y : Int32) (k : Nat) : Nat := (2 * py_gp I st y k + (I 40 (pu_sl0 I k)).toNatClampNeg) * 20000 + (I 41 (pu_sl0 I k)).toNatClampNeg
theorem py_gc_e (hw : pu_WF I L) (hst : st < 2147483648) (hy : ¬ y < 0) {k : Nat} {be ah : Int} {lo hh : Int32} (h1 : py_lo I st y (I 40 (pu_sl0 I k)).toInt (pz_ak I st k) (cU I) be lo) (h2 : py_hi I st y (I 40 (pu_sl0 I k)).toInt (pz_ak I st k) (cU I) ah hh) (l : Nat) (hl : l < cU I) : py_gc I st y (I 40 (pu_sl0 I k)).toInt be ah l ↔ py_g2 I st y k l := by
  have NE : ∀ e, py_eo I st y (I 40 (pu_sl0 I k)).toInt e → I 16 l = 0 → I 39 (pu_sl0 I l) = nI st → pu_sh1 I y l → ((I 27 st).toInt = 1 ∨ (I 40 (pu_sl0 I l)).toInt = (I 40 (pu_sl0 I k)).toInt) → pz_ak I st e ≠ pz_ak I st l := fun e he a b c d z => by
    have := py_injB hw hst he.1 he.2.1 he.2.2.1 he.2.2.2.1 hl b (by rw [py_tn_e hy]; exact c) d z
    have w := he.2.2.2.2
    rw [this, a] at w
    have t0 : (0 : Int32).toInt = 0 := by decide
    omega
  constructor
  · rintro ⟨a, b, c, d, e⟩
    refine ⟨a, b, c, fun f hf => ⟨fun z => ?_, fun z => ?_⟩⟩
    · rcases h1 with ⟨_, _, q⟩ | ⟨_, _, _, _, _, _, q⟩
      · exact q f hf hf.1 z.2
      · have := q f hf hf.1 z.2
        omega
    · rcases h2 with ⟨_, _, q⟩ | ⟨_, _, _, _, _, _, q⟩
      · exact q f hf hf.1 z.1
      · have := q f hf hf.1 z.1
        omega
  · rintro ⟨a, b, c, d⟩
    have r := py_ak_r hw hst hl b.1 (y := y) (by rw [py_tn_e hy]; exact b.2)
    refine ⟨a, b, c, ?_, ?_⟩
    · rcases h1 with ⟨q, _, _⟩ | ⟨f, f1, _, f3, f4, _, _⟩
      · omega
      · have := NE f f1 a b.1 b.2 c
        have := (d f f1).1
        omega
    · rcases h2 with ⟨q, _, _⟩ | ⟨f, f1, _, f3, f4, _, _⟩
      · omega
      · have := NE f f1 a b.1 b.2 c
        have := (d f f1).2
        omega
theorem py_mh_e (hw : pu_WF I L) (hst : st < 2147483648) {w k : Nat} {be ah : Int} {lo hh : Int32} (h1 : py_lo I st y (I 40 (pu_sl0 I k)).toInt (pz_ak I st k) (cU I) be lo) (h2 : py_hi I st y (I 40 (pu_sl0 I k)).toInt (pz_ak I st k) (cU I) ah hh) : py_mh I st w y k ↔ ((I 27 st = 0 → w / 16 % 2 + (I 40 (pu_sl0 I k)).toNatClampNeg = 1) ∧ lo < nI w ∧ nI w < hh) := by
  constructor
  · rintro ⟨a, be2, ah2, lo2, hh2, g1, g2, g3, g4⟩
    refine ⟨a, ?_, ?_⟩
    · rw [(py_lo_un hw hst h1 g1).2]; exact g3
    · rw [(py_hi_un hw hst h2 g2).2]; exact g4
  · rintro ⟨a, g3, g4⟩
    exact ⟨a, be, ah, lo, hh, h1, h2, g3, g4⟩
theorem r_may (hx : pu_fx M) (hr : pu_Rel I L (M.1 72)) (hw : pu_WF I L) (st w : Nat) (hst : st < cK I) (hwl : w < 160000) (hy : ¬ y < 0) (h17 : M.1 71 17 = nI w) (k : Nat) (hk : k < cU I) (h39 : I 39 (pu_sl0 I k) = nI st) (hsh : pu_sh1 I y k) : ∃ v, (py_mh I st w y k → v = nI (py_gp I st y k)) ∧ pu_r 322 [some (.ref 71), some (.int (nI k)), some (.int (nI st)), some (.int y)] [] M = some (some (.int (pu_q (py_mh I st w y k))), pu_wi M 71 22 v) := by
  have bK := wx_bK hw
  have hstL : st < 2147483648 := by omega
  rcases r_mayHave hx hr hw st w hst hwl hy h17 k hk h39 hsh with ⟨e, no⟩ | ⟨be, ah, lo, hh, a, b, e⟩
  · have nm : ¬ py_mh I st w y k := fun z => by
      obtain ⟨z1, be, ah, lo, hh, g1, g2, g3, g4⟩ := z
      exact no be ah ⟨z1, lo, hh, g1, g2, g3, g4⟩
    refine ⟨M.1 71 22, fun z => absurd z nm, ?_⟩
    rw [pu_q0 nm, py_wi_id]
    exact e
  · refine ⟨nI (py_gp I st y k), fun _ => rfl, ?_⟩
    have E : py_may I st w y k be ah = py_mh I st w y k := propext ⟨fun z => by
      obtain ⟨z1, lo, hh, g1, g2, g3, g4⟩ := z
      exact ⟨z1, be, ah, lo, hh, g1, g2, g3, g4⟩, fun z => by
      have q := (py_mh_e hw hstL a b).mp z
      exact ⟨q.1, lo, hh, a, b, q.2.1, q.2.2⟩⟩
    have G : py_cnt (py_gc I st y (I 40 (pu_sl0 I k)).toInt be ah) (cU I) 0 = py_gp I st y k := py_cnt_c (cU I) 0 (fun l _ hl => py_gc_e hw hstL hy a b l (by omega))
    rw [E, G] at e
    exact e
theorem py_ky_i (hw : pu_WF I L) (hst : st < 2147483648) {k l : Nat} (h1 : k < cU I) (h2 : I 39 (pu_sl0 I k) = nI st) (h3 : pu_tn I y k) (g1 : l < cU I) (g2 : I 39 (pu_sl0 I l) = nI st) (g3 : pu_tn I y l) (e : py_ky I st y k = py_ky I st y l) : k = l := by
  have p := py_pl0 hw hst h1 h2 h3
  have q := py_pl0 hw hst g1 g2 g3
  have a1 := pu_nnT p.1
  have a2 := pu_nnT p.2.2.1
  have b1 := pu_nnT q.1
  have b2 := pu_nnT q.2.2.1
  unfold py_ky at e
  refine py_injA hw hst h1 h2 h3 g1 g2 g3 ?_ ?_
  · omega
  · omega
theorem py_ky_b (hw : pu_WF I L) (hst : st < 2147483648) {k : Nat} (h1 : k < cU I) (h2 : I 39 (pu_sl0 I k) = nI st) (h3 : pu_tn I y k) : py_gp I st y k ≤ 3000 ∧ ∃ s p, s < 2 ∧ p < 10000 ∧ I 40 (pu_sl0 I k) = nI s ∧ I 41 (pu_sl0 I k) = nI p ∧ py_ky I st y k = (2 * py_gp I st y k + s) * 20000 + p := by
  have bU := wx_bU hw
  have p := py_pl0 hw hst h1 h2 h3
  have a1 := pu_on (x := I 40 (pu_sl0 I k)) (n := 2) ⟨p.1, by omega⟩
  have a2 := pu_on (x := I 41 (pu_sl0 I k)) (n := 10000) ⟨p.2.2.1, by omega⟩
  have := py_cnt_le (py_g2 I st y k) (cU I) 0
  refine ⟨?_, _, _, a1.2, a2.2, a1.1, a2.1, rfl⟩
  unfold py_gp
  omega
end
