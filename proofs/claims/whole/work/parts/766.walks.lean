/-! walks: what they are -/
section
variable {I K J : Nat → Nat → Int32} {L : Nat → Nat → Int64} {s s' : Nat → Int32}
theorem St_desk17 (h : pu_St I L s) (hs : ∀ j, j < 9 ∨ (18 ≤ j ∧ j < 59480) → s' j = s j) (hk : w_dk K) (hh : h_dk K s') (he : rl_e K s') : pu_St (pu_dk I K) L s' := by
  obtain ⟨hw, hr⟩ := h
  obtain ⟨k1, k2, k3⟩ := hk
  obtain ⟨h9, h10, h11, h12, h13, h14, h15, h16⟩ := hh
  have q : ∀ j, j < 9 → s' j = s j := fun j hj => hs j (Or.inl hj)
  have E : ∀ j, 18 ≤ j → j < 59480 → s' j = s j := fun j h1 h2 => hs j (Or.inr ⟨h1, h2⟩)
  refine ⟨⟨⟨(wx_cP hw :), (wx_cU hw :), (wx_cN hw :), (wx_cT hw :), (wx_cK hw :), (wx_cD hw :), (wx_cF hw :), (k1.1 :), (k1.2.1 :), (k1.2.2.1 :), (k1.2.2.2.1 :), (k1.2.2.2.2.1 :), (k1.2.2.2.2.2 :)⟩, ⟨(wx_bP hw :), (wx_bU hw :), (wx_bN hw :), (wx_bT hw :), (wx_bK hw :), (wx_bD hw :), (wx_bF hw :), (k2.1 :), (k2.2.1 :), (k2.2.2.1 :), (k2.2.2.2.1 :), (k2.2.2.2.2.1 :), (k2.2.2.2.2.2 :)⟩, (wg_p hw :), (wg_u hw :), (wg_n hw :), (wg_k hw :), (wg_d hw :), ⟨(k3.1 :), (wx_ef hw :), (k3.2 :)⟩⟩, ⟨?_, ?_, ?_, ?_, ?_, ?_, ?_, ?_, ?_, (h9 :), (h10 :), (h11 :), (h12 :), (h13 :), (h14 :), (h15 :), (h16 :)⟩, ?_, ?_, ?_, ?_, ?_, ?_, ?_, (he :)⟩
  · rw [q _ (by omega)]; exact (rl_h0 hr :)
  · rw [q _ (by omega)]; exact (rl_h1 hr :)
  · rw [q _ (by omega)]; exact (rl_h2 hr :)
  · rw [q _ (by omega)]; exact (rl_h3 hr :)
  · rw [q _ (by omega)]; exact (rl_h4 hr :)
  · rw [q _ (by omega)]; exact (rl_h5 hr :)
  · rw [q _ (by omega)]; exact (rl_h6 hr :)
  · rw [q _ (by omega)]; exact (rl_h7 hr :)
  · rw [q _ (by omega)]; exact (rl_h8 hr :)
  · have T := rf_p (rg_p hr) (wx_bP hw) (s' := s') (fun j _ _ => E j (by omega) (by omega))
    exact (T :)
  · have T := rf_u (rg_u hr) (wx_bU hw) (s' := s') (fun j _ _ => E j (by omega) (by omega))
    exact (T :)
  · have T := rf_n (rg_n hr) ⟨wx_bN hw, wx_bP hw⟩ (s' := s') (fun j _ _ => E j (by omega) (by omega)) (fun j _ _ => E j (by omega) (by omega))
    exact (T :)
  · have T := rf_t (rg_t hr) (wx_bT hw) (s' := s') (fun j _ _ => E j (by omega) (by omega)) (fun j _ _ => E j (by omega) (by omega))
    exact (T :)
  · have T := rf_k (rg_k hr) (wx_bK hw) (s' := s') (fun j _ _ => E j (by omega) (by omega)) (fun j _ _ => E j (by omega) (by omega))
    exact (T :)
  · have T := rf_d (rg_d hr) (wx_bD hw) (s' := s') (fun j _ _ => E j (by omega) (by omega))
    exact (T :)
  · have T := rf_f (rg_f hr) (wx_bF hw) (s' := s') (fun j _ _ => E j (by omega) (by omega))
    exact (T :)
theorem St_walk (h : pu_St I L s) {c : Nat} (hc : c ≤ 100) (F : ∀ x j, x ≠ 54 → ¬ (x = 45 ∧ j = 5) → J x j = I x j) (v2 : J 45 5 = nI c) (ne : ∀ k l, k < l → l < c → J 54 k ≠ J 54 l) (G : ∀ j, j ≠ 12 → j ≠ 17 → ¬ (59788 ≤ j ∧ j < 59888) → s' j = s j) (g12 : s' 12 = nI c) (g : ∀ k, k < c → s' (59788 + k) = J 54 k) : pu_St J L s' := by
  have hw := h.1
  have hr := h.2
  have bQ := wx_bQ hw
  have bS := wx_bS hw
  have bR := wx_bR hw
  have bO := wx_bO hw
  have bE := wx_bE hw
  have cW' : cW J = c := pz_cc v2 (by omega)
  have cE' : cE J = cE I := by unfold cE; rw [F 45 6 (by omega) (by omega)]
  have cQ' : cQ J = cQ I := by unfold cQ; rw [F 45 2 (by omega) (by omega)]
  have cS' : cS J = cS I := by unfold cS; rw [F 45 4 (by omega) (by omega)]
  have cR' : cR J = cR I := by unfold cR; rw [F 45 3 (by omega) (by omega)]
  have cO' : cO J = cO I := by unfold cO; rw [F 45 7 (by omega) (by omega)]
  rw [pu_dk_e (I := I) (I' := J) (fun a j ha => F a j (by omega) (by omega))]
  refine St_desk17 h (fun j hj => G j (by omega) (by omega) (by omega)) ⟨⟨?_, ?_, ?_, ?_, ?_, ?_⟩, ⟨by omega, by omega, by omega, by omega, by omega, by omega⟩, fun k hk => ?_, fun a b hab hb => ?_⟩ ⟨?_, ?_, ?_, ?_, ?_, ?_, ?_, ?_⟩ ⟨fun k hk => ?_, fun k hk => ?_, fun k hk => ?_, fun k hk => ?_, fun k hk => ?_, fun k hk => ?_, fun k hk => ?_, fun k hk => ?_, fun k hk => ?_, fun k hk => ?_⟩
  · rw [F 45 2 (by omega) (by omega), cQ']; exact wx_cQ hw
  · rw [F 45 3 (by omega) (by omega), cR']; exact wx_cR hw
  · rw [F 45 4 (by omega) (by omega), cS']; exact wx_cS hw
  · rw [cW']; exact v2
  · rw [F 45 6 (by omega) (by omega), cE']; exact wx_cE hw
  · rw [F 45 7 (by omega) (by omega), cO']; exact wx_cO hw
  · rw [cS'] at hk
    rw [F 53 k (by omega) (by omega)]; exact wx_es hw k hk
  · rw [cW'] at hb
    exact ne a b hab hb
  · rw [G 9 (by omega) (by omega) (by omega), cS']; exact rl_h9 hr
  · rw [G 10 (by omega) (by omega) (by omega), cE']; exact rl_h10 hr
  · rw [G 11 (by omega) (by omega) (by omega), cQ']; exact rl_h11 hr
  · rw [cW']; exact g12
  · rw [G 13 (by omega) (by omega) (by omega), cO']; exact rl_h13 hr
  · rw [G 14 (by omega) (by omega) (by omega), cR']; exact rl_h14 hr
  · rw [G 15 (by omega) (by omega) (by omega), F 45 0 (by omega) (by omega)]; exact rl_h15 hr
  · rw [G 16 (by omega) (by omega) (by omega), F 45 1 (by omega) (by omega)]; exact rl_h16 hr
  · rw [cS'] at hk
    rw [G _ (by omega) (by omega) (by omega), F 52 k (by omega) (by omega)]; exact rl_eS0 hr k hk
  · rw [cS'] at hk
    rw [G _ (by omega) (by omega) (by omega), F 53 k (by omega) (by omega)]; exact rl_eS1 hr k hk
  · rw [cE'] at hk
    rw [G _ (by omega) (by omega) (by omega), F 55 k (by omega) (by omega)]; exact rl_eE hr k hk
  · rw [cQ'] at hk
    rw [G _ (by omega) (by omega) (by omega), F 46 k (by omega) (by omega)]; exact rl_eQ0 hr k hk
  · rw [cQ'] at hk
    rw [G _ (by omega) (by omega) (by omega), F 47 k (by omega) (by omega)]; exact rl_eQ1 hr k hk
  · rw [cW'] at hk
    exact g k hk
  · rw [cO'] at hk
    rw [G _ (by omega) (by omega) (by omega), F 56 k (by omega) (by omega)]; exact rl_eO0 hr k hk
  · rw [cO'] at hk
    rw [G _ (by omega) (by omega) (by omega), F 57 k (by omega) (by omega)]; exact rl_eO1 hr k hk
  · rw [cR'] at hk
    rw [G _ (by omega) (by omega) (by omega), F 49 k (by omega) (by omega)]; exact rl_eR0 hr k hk
  · rw [cR'] at hk
    rw [G _ (by omega) (by omega) (by omega), F 50 k (by omega) (by omega)]; exact rl_eR1 hr k hk
end
/-- an office with c walked doors, as the reference's row has them -/
def py_JW (I : Nat → Nat → Int32) (s : Nat → Int32) (c : Nat) : Nat → Nat → Int32 := pu_dk I (fun a j => if a = 45 ∧ j = 5 then nI c else if a = 54 then s (59788 + j) else I a j)
theorem St_JW {I : Nat → Nat → Int32} {L : Nat → Nat → Int64} {s s' : Nat → Int32} (h : pu_St I L s) {c : Nat} (hc : c ≤ 100) (ne : ∀ k l, k < l → l < c → s' (59788 + k) ≠ s' (59788 + l)) (G : ∀ j, j ≠ 12 → j ≠ 17 → ¬ (59788 ≤ j ∧ j < 59888) → s' j = s j) (g12 : s' 12 = nI c) : pu_St (py_JW I s' c) L s' := by
  refine St_walk h hc (fun x j z1 z2 => ?_) rfl ne G g12 (fun k hk => rfl)
  unfold py_JW pu_dk
  by_cases z : x < 45
  · rw [if_pos z]
  · rw [if_neg z]
    show (if x = 45 ∧ j = 5 then _ else if x = 54 then _ else I x j) = I x j
    rw [if_neg z2, if_neg z1]
def py_isS (I : Nat → Nat → Int32) (x : Int32) : Prop := ¬ x < 0 ∧ x < nI (cK I)
/-- the doors under a front on a day -/
def py_us (I : Nat → Nat → Int32) (y : Int32) (f d : Nat) : Prop := d < cD I ∧ d ≠ f ∧ I 34 d = nI f ∧ pu_sd I d y
def py_uk (I : Nat → Nat → Int32) (d : Nat) : Nat := ((I 32 d).toNatClampNeg * 100 + (I 35 d).toNatClampNeg) * 128 + d
/-- the walked doors are doors, no two are one, and each one's front is there -/
def py_GD (I : Nat → Nat → Int32) (E : Nat → Int32) (c : Nat) : Prop := ∃ Z : Nat → Nat, (∀ t, t < c → E t = nI (Z t) ∧ Z t < cD I ∧ ∃ t', t' < c ∧ Z t' = (I 34 (Z t)).toNatClampNeg) ∧ ∀ s t, s < t → t < c → Z s ≠ Z t
/-- the first a numbers of a view are walked: c0 before, c behind -/
def py_VW (I : Nat → Nat → Int32) (y : Int32) (V : Nat → Nat) (E : Nat → Int32) (c0 : Nat) : Nat → Nat → Prop
  | 0, c => c = c0
  | a + 1, c => ∃ c1, py_VW I y V E c0 a c1 ∧ (((∃ t, t < c1 ∧ E t = nI (pu_sl0 I (V a) / 2)) ∧ c = c1) ∨ ((∀ t, t < c1 → E t ≠ nI (pu_sl0 I (V a) / 2)) ∧ E c1 = nI (pu_sl0 I (V a) / 2) ∧ ∃ (U : Nat → Nat) (m : Nat), py_SL (py_uk I) (py_us I y (pu_sl0 I (V a) / 2)) U m ∧ c = c1 + 1 + m ∧ ∀ t, t < m → E (c1 + 1 + t) = nI (U t)))
/-- the order of a walk -/
def py_wk (o s p : Nat) : Nat := if o = 0 then (if s = 0 then p else 20000 - p) else if o = 1 then 2 * p + s else 30000 - 2 * p - s
def py_wq (I : Nat → Nat → Int32) (o k : Nat) : Nat := py_wk o (I 40 (pu_sl0 I k)).toNatClampNeg (I 41 (pu_sl0 I k)).toNatClampNeg
def py_WS (I : Nat → Nat → Int32) (y : Int32) (E : Nat → Int32) : Nat → Nat → Prop
  | 0, c => c = 0
  | i + 1, c => ∃ c0, py_WS I y E i c0 ∧ ((¬ py_isS I (I 52 i) ∧ c = c0) ∨ ∃ (st : Nat) (V : Nat → Nat) (n : Nat), st < cK I ∧ I 52 i = nI st ∧ py_SL (py_wq I (I 53 i).toNatClampNeg) (fun k => k < cU I ∧ I 39 (pu_sl0 I k) = nI st ∧ pu_sh1 I y k) V n ∧ py_VW I y V E c0 n c)
section
variable {I : Nat → Nat → Int32} {L : Nat → Nat → Int64} {y : Int32}
theorem py_GD_le (hw : pu_WF I L) {E : Nat → Int32} {c : Nat} (h : py_GD I E c) : c ≤ 100 := by
  obtain ⟨Z, z1, z2⟩ := h
  have bD := wx_bD hw
  have := pu_pig (cD I) c Z (fun t ht => (z1 t ht).2.1) z2
  omega
theorem py_GD_ne (hw : pu_WF I L) {E : Nat → Int32} {c : Nat} (h : py_GD I E c) : ∀ k l, k < l → l < c → E k ≠ E l := by
  obtain ⟨Z, z1, z2⟩ := h
  have bD := wx_bD hw
  intro k l h1 h2 e
  have a := z1 k (by omega)
  have b := z1 l h2
  rw [a.1, b.1, nI_eq (by omega) (by omega)] at e
  exact z2 k l h1 h2 e
theorem py_GD_c {E E' : Nat → Int32} {c : Nat} (e : ∀ t, t < c → E' t = E t) (h : py_GD I E c) : py_GD I E' c := by
  obtain ⟨Z, z1, z2⟩ := h
  exact ⟨Z, fun t ht => ⟨by rw [e t ht]; exact (z1 t ht).1, (z1 t ht).2⟩, z2⟩
theorem py_GD_0 (E : Nat → Int32) : py_GD I E 0 := ⟨fun _ => 0, fun t ht => by omega, fun s t _ ht => by omega⟩
theorem py_GD_add (hw : pu_WF I L) {E : Nat → Int32} {c f m : Nat} {U : Nat → Nat} (h : py_GD I E c) (hf : f < cD I) (h32 : I 32 f = 0) (no : ∀ t, t < c → E t ≠ nI f) (ef : E c = nI f) (hU : ∀ t, t < m → py_us I y f (U t)) (iU : ∀ s t, s < t → t < m → U s ≠ U t) (eU : ∀ t, t < m → E (c + 1 + t) = nI (U t)) : py_GD I E (c + 1 + m) := by
  obtain ⟨Z, z1, z2⟩ := h
  have bD := wx_bD hw
  have f34 := (wx_d0 hw f hf h32).2.2.1
  have nZ : ∀ t, t < c → Z t ≠ f := fun t ht e => no t ht (by rw [(z1 t ht).1, e])
  have nU : ∀ t u, t < c → u < m → Z t ≠ U u := fun t u ht hu e => by
    obtain ⟨t', q1, q2⟩ := (z1 t ht).2.2
    rw [e, (hU u hu).2.2.1, nl_cl _ (by omega)] at q2
    exact nZ t' q1 q2
  refine ⟨fun t => if t < c then Z t else if t = c then f else U (t - (c + 1)), fun t ht => ?_, fun s t hst ht => ?_⟩
  · show E t = nI (if t < c then Z t else if t = c then f else U (t - (c + 1))) ∧ (if t < c then Z t else if t = c then f else U (t - (c + 1))) < cD I ∧ ∃ t', t' < c + 1 + m ∧ (if t' < c then Z t' else if t' = c then f else U (t' - (c + 1))) = (I 34 (if t < c then Z t else if t = c then f else U (t - (c + 1)))).toNatClampNeg
    by_cases q : t < c
    · rw [if_pos q]
      obtain ⟨x1, x2, t', x3, x4⟩ := z1 t q
      exact ⟨x1, x2, t', by omega, by rw [if_pos x3]; exact x4⟩
    · rw [if_neg q]
      by_cases q2 : t = c
      · rw [if_pos q2]
        exact ⟨by rw [q2]; exact ef, hf, c, by omega, by rw [if_neg (by omega), if_pos rfl, f34, nl_cl _ (by omega)]⟩
      · rw [if_neg q2]
        have u := hU (t - (c + 1)) (by omega)
        have e := eU (t - (c + 1)) (by omega)
        rw [show c + 1 + (t - (c + 1)) = t by omega] at e
        exact ⟨e, u.1, c, by omega, by rw [if_neg (by omega), if_pos rfl, u.2.2.1, nl_cl _ (by omega)]⟩
  · show (if s < c then Z s else if s = c then f else U (s - (c + 1))) ≠ (if t < c then Z t else if t = c then f else U (t - (c + 1)))
    by_cases q : t < c
    · rw [if_pos q, if_pos (by omega)]
      exact z2 s t hst q
    · rw [if_neg q]
      by_cases q2 : t = c
      · rw [if_pos q2, if_pos (by omega)]
        exact nZ s (by omega)
      · rw [if_neg q2]
        by_cases q3 : s < c
        · rw [if_pos q3]
          exact nU s _ q3 (by omega)
        · rw [if_neg q3]
          by_cases q4 : s = c
          · rw [if_pos q4]
            exact fun e => (hU (t - (c + 1)) (by omega)).2.1 e.symm
          · rw [if_neg q4]
            exact iU _ _ (by omega) (by omega)
theorem py_VW_le {V : Nat → Nat} {E : Nat → Int32} {c0 : Nat} : ∀ a c, py_VW I y V E c0 a c → c0 ≤ c
  | 0, c, h => by
    have : c = c0 := h
    omega
  | a + 1, c, ⟨c1, h, g⟩ => by
    have := py_VW_le a c1 h
    rcases g with ⟨_, g⟩ | ⟨_, _, _, _, _, g, _⟩
    · omega
    · omega
theorem py_VW_c {V : Nat → Nat} {E E' : Nat → Int32} {c0 : Nat} : ∀ a c, (∀ t, t < c → E' t = E t) → py_VW I y V E c0 a c → py_VW I y V E' c0 a c
  | 0, c, _, h => h
  | a + 1, c, e, ⟨c1, h, g⟩ => by
    rcases g with ⟨⟨t, t1, t2⟩, g⟩ | ⟨g1, g2, U, m, g3, g4, g5⟩
    · exact ⟨c1, py_VW_c a c1 (fun t ht => e t (by omega)) h, Or.inl ⟨⟨t, t1, by rw [e t (by omega)]; exact t2⟩, g⟩⟩
    · exact ⟨c1, py_VW_c a c1 (fun t ht => e t (by omega)) h, Or.inr ⟨fun t ht => by rw [e t (by omega)]; exact g1 t ht, by rw [e c1 (by omega)]; exact g2, U, m, g3, g4, fun t ht => by rw [e _ (by omega)]; exact g5 t ht⟩⟩
theorem py_VW_un {V V' : Nat → Nat} {E E' : Nat → Int32} {c0 : Nat} (e0 : ∀ t, t < c0 → E t = E' t) : ∀ a c c', (∀ b, b < a → V b = V' b) → py_VW I y V E c0 a c → py_VW I y V' E' c0 a c' → c = c' ∧ ∀ t, t < c → E t = E' t
  | 0, c, c', _, h, g => by
    have h1 : c = c0 := h
    have g1 : c' = c0 := g
    exact ⟨by omega, fun t ht => e0 t (by omega)⟩
  | a + 1, c, c', hV, ⟨c1, h, h2⟩, ⟨d1, g, g2⟩ => by
    obtain ⟨e1, e2⟩ := py_VW_un e0 a c1 d1 (fun b hb => hV b (by omega)) h g
    rw [← hV a (by omega)] at g2
    rw [← e1] at g2
    rcases h2 with ⟨⟨t, t1, t2⟩, h3⟩ | ⟨h3, h4, U, m, h5, h6, h7⟩
    · rcases g2 with ⟨_, g3⟩ | ⟨g3, _⟩
      · exact ⟨by omega, fun t ht => e2 t (by omega)⟩
      · exact absurd (by rw [← e2 t t1]; exact t2) (g3 t t1)
    · rcases g2 with ⟨⟨t, t1, t2⟩, _⟩ | ⟨g3, g4, U', m', g5, g6, g7⟩
      · exact absurd (by rw [e2 t t1]; exact t2) (h3 t t1)
      · obtain ⟨u1, u2⟩ := py_SL_un h5 g5
        refine ⟨by omega, fun t ht => ?_⟩
        by_cases q : t < c1
        · exact e2 t q
        · by_cases q2 : t = c1
          · rw [q2, h4, g4]
          · have x := h7 (t - (c1 + 1)) (by omega)
            have z := g7 (t - (c1 + 1)) (by omega)
            rw [show c1 + 1 + (t - (c1 + 1)) = t by omega] at x z
            rw [x, z, u2 _ (by omega)]
theorem py_VW_gd (hw : pu_WF I L) {V : Nat → Nat} {E : Nat → Int32} {c0 : Nat} (g0 : py_GD I E c0) : ∀ a c, (∀ b, b < a → pu_sl0 I (V b) / 2 < cD I ∧ I 32 (pu_sl0 I (V b) / 2) = 0) → py_VW I y V E c0 a c → py_GD I E c
  | 0, c, _, h => by
    have h1 : c = c0 := h
    rw [h1]
    exact g0
  | a + 1, c, hV, ⟨c1, h, h2⟩ => by
    have ih := py_VW_gd hw g0 a c1 (fun b hb => hV b (by omega)) h
    rcases h2 with ⟨_, h3⟩ | ⟨h3, h4, U, m, h5, h6, h7⟩
    · rw [h3]
      exact ih
    · rw [h6]
      exact py_GD_add (y := y) hw ih (hV a (by omega)).1 (hV a (by omega)).2 h3 h4 h5.1 (fun s t hst ht e => by have := py_SL_i h5 (by omega) ht e; omega) h7
theorem py_WS_c {E E' : Nat → Int32} : ∀ i c, (∀ t, t < c → E' t = E t) → py_WS I y E i c → py_WS I y E' i c
  | 0, c, _, h => h
  | i + 1, c, e, ⟨c0, h, g⟩ => by
    rcases g with ⟨g1, g2⟩ | ⟨st, V, n, g1, g2, g3, g4⟩
    · exact ⟨c0, py_WS_c i c0 (fun t ht => e t (by omega)) h, Or.inl ⟨g1, g2⟩⟩
    · have le := py_VW_le n c g4
      exact ⟨c0, py_WS_c i c0 (fun t ht => e t (by omega)) h, Or.inr ⟨st, V, n, g1, g2, g3, py_VW_c n c e g4⟩⟩
theorem py_WS_un (hw : pu_WF I L) {E E' : Nat → Int32} : ∀ i c c', py_WS I y E i c → py_WS I y E' i c' → c = c' ∧ ∀ t, t < c → E t = E' t
  | 0, c, c', h, g => by
    have h1 : c = 0 := h
    have g1 : c' = 0 := g
    exact ⟨by omega, fun t ht => by omega⟩
  | i + 1, c, c', ⟨c0, h, h2⟩, ⟨d0, g, g2⟩ => by
    have bK := wx_bK hw
    obtain ⟨e1, e2⟩ := py_WS_un hw i c0 d0 h g
    have IS : ∀ st, st < cK I → I 52 i = nI st → py_isS I (I 52 i) := fun st s1 s2 => by
      rw [s2]
      exact ⟨nI_pos (by omega), nI_lt (by omega) (by omega)⟩
    rcases h2 with ⟨h3, h4⟩ | ⟨st, V, n, h3, h4, h5, h6⟩
    · rcases g2 with ⟨_, g4⟩ | ⟨st', V', n', g3, g4, _⟩
      · exact ⟨by omega, fun t ht => e2 t (by omega)⟩
      · exact absurd (IS st' g3 g4) h3
    · rcases g2 with ⟨g3, g4⟩ | ⟨st', V', n', g3, g4, g5, g6⟩
      · exact absurd (IS st h3 h4) g3
      · have es : st = st' := by
          rw [h4] at g4
          exact (nI_eq (by omega) (by omega)).mp g4
        rw [← es] at g5
        obtain ⟨u1, u2⟩ := py_SL_un h5 g5
        rw [← u1, ← e1] at g6
        exact py_VW_un (fun t ht => e2 t ht) n c c' u2 h6 g6
theorem py_fr_p (hw : pu_WF I L) {k : Nat} (hk : k < cU I) (h : pu_sh1 I y k) : pu_sl0 I k / 2 < cD I ∧ I 32 (pu_sl0 I k / 2) = 0 := by
  have := (pu_sl_lt hw hk).1
  exact ⟨by omega, (pu_sd_of hw hk h).2.1⟩
theorem py_WS_gd (hw : pu_WF I L) {E : Nat → Int32} : ∀ i c, py_WS I y E i c → py_GD I E c
  | 0, c, h => by
    have h1 : c = 0 := h
    rw [h1]
    exact py_GD_0 E
  | i + 1, c, ⟨c0, h, h2⟩ => by
    have ih := py_WS_gd hw i c0 h
    rcases h2 with ⟨_, h4⟩ | ⟨st, V, n, h3, h4, h5, h6⟩
    · rw [h4]
      exact ih
    · exact py_VW_gd hw ih n c (fun b hb => py_fr_p hw (h5.1 b hb).1 (h5.1 b hb).2.2) h6
theorem py_rkx0 (s p : Int32) : pu_rkx 0 s p = if s = 0 then p else 20000 - p := by simp [pu_rkx]
theorem py_rkx1 (s p : Int32) : pu_rkx 1 s p = 2 * p + s := by simp [pu_rkx]
theorem py_rkx2 (s p : Int32) : pu_rkx 2 s p = -2 * p - s := by simp [pu_rkx]
theorem py_wk0 (s p : Nat) : py_wk 0 s p = if s = 0 then p else 20000 - p := by simp [py_wk]
theorem py_wk1 (s p : Nat) : py_wk 1 s p = 2 * p + s := by simp [py_wk]
theorem py_wk2 (s p : Nat) : py_wk 2 s p = 30000 - 2 * p - s := by simp [py_wk]
theorem py_rk2T {s p : Nat} (hs : s < 2) (hp : p < 10000) : (-2 * nI p - nI s).toInt = -(2 * (p : Int) + s) := by
  have e2 := nl_n0 (a := 2 * p + s) (by omega)
  have e3 : nI (2 * p + s) = 2 * nI p + nI s := by
    rw [← nI_add, ← pk_mul]
    rfl
  rw [e3] at e2
  generalize nI p = x at *
  generalize nI s = z at *
  have z0 : (0 : Int32).toInt = 0 := by decide
  have e1 : -2 * x - z = 0 - (2 * x + z) := by grind
  rw [e1, pz_sub (by omega) (by omega) (by omega) (by omega), e2, z0]
  omega
/-- ranks of a view and the order of a walk -/
theorem py_wk_b {st : Nat} (hw : pu_WF I L) (hst : st < 2147483648) {o k : Nat} (ho : o < 3) (hk : k < cU I) (h39 : I 39 (pu_sl0 I k) = nI st) (ht : pu_tn I y k) : (pu_rk I o k).toInt = (py_wq I o k : Int) - (if o = 2 then 30000 else 0) := by
  have p := py_pl0 hw hst hk h39 ht
  have a1 := pu_on (x := I 40 (pu_sl0 I k)) (n := 2) ⟨p.1, by omega⟩
  have a2 := pu_on (x := I 41 (pu_sl0 I k)) (n := 10000) ⟨p.2.2.1, by omega⟩
  unfold pu_rk py_wq
  rw [a1.1, a2.1, nl_cl _ (by have := a1.2; omega), nl_cl _ (by have := a2.2; omega)]
  have b1 := a1.2
  have b2 := a2.2
  generalize (I 40 (pu_sl0 I k)).toNatClampNeg = s at *
  generalize (I 41 (pu_sl0 I k)).toNatClampNeg = p at *
  match o, ho with
  | 0, _ =>
    rw [py_rkx0, py_wk0, if_neg (show ¬ 0 = 2 by omega)]
    by_cases z : s = 0
    · have z2 : nI s = 0 := by rw [z]; rfl
      rw [if_pos z, if_pos z2, nl_n0 (a := p) (by omega)]
      omega
    · have z2 : ¬ nI s = 0 := fun q => by
        rw [show (0 : Int32) = nI 0 from rfl, nI_eq (by omega) (by omega)] at q
        exact z q
      rw [if_neg z2, if_neg z, show (20000 : Int32) - nI p = nI (20000 - p) from pk_sub (a := 20000) (by omega), nl_n0 (a := 20000 - p) (by omega)]
      omega
  | 1, _ =>
    rw [py_rkx1, py_wk1, if_neg (show ¬ 1 = 2 by omega)]
    rw [show (2 : Int32) = nI 2 from rfl, pk_mul, nI_add, nl_n0 (a := 2 * p + s) (by omega)]
    omega
  | 2, _ =>
    rw [py_rkx2, py_wk2, if_pos rfl, py_rk2T b1 b2]
    omega
theorem py_view_SL {st : Nat} (hw : pu_WF I L) (hst : st < 2147483648) (hy : ¬ y < 0) {o n : Nat} (ho : o < 3) {V : Nat → Nat} (h : pu_VI I o (pu_cf I st y) (cU I) V n) : py_SL (py_wq I o) (fun k => k < cU I ∧ I 39 (pu_sl0 I k) = nI st ∧ pu_sh1 I y k) V n := by
  have C : ∀ a, a < n → V a < cU I ∧ I 39 (pu_sl0 I (V a)) = nI st ∧ pu_sh1 I y (V a) := fun a ha => by
    have := h.1 a ha
    exact ⟨this.1, (py_cf_sh hy (V a)).mp this.2⟩
  refine ⟨C, fun k hk => h.2.1 k hk.1 ((py_cf_sh hy k).mpr hk.2), fun a b hab hb => ?_⟩
  have q := h.2.2 a b hab hb
  have ca := C a (by omega)
  have cb := C b hb
  have ta : pu_tn I y (V a) := by rw [py_tn_e hy]; exact ca.2.2
  have tb : pu_tn I y (V b) := by rw [py_tn_e hy]; exact cb.2.2
  have ra := py_wk_b hw hst ho ca.1 ca.2.1 ta
  have rb := py_wk_b hw hst ho cb.1 cb.2.1 tb
  have le := Int32.le_iff_toInt_le.mp q.2
  rw [ra, rb] at le
  have ne : py_wq I o (V a) ≠ py_wq I o (V b) := fun e => q.1 (by
    have pa := py_pl0 hw hst ca.1 ca.2.1 ta
    have pb := py_pl0 hw hst cb.1 cb.2.1 tb
    have x1 := pu_nnT pa.1
    have x2 := pu_nnT pa.2.2.1
    have z1 := pu_nnT pb.1
    have z2 := pu_nnT pb.2.2.1
    unfold py_wq py_wk at e
    have o3 : o = 0 ∨ o = 1 ∨ o = 2 := by omega
    refine py_injA hw hst ca.1 ca.2.1 ta cb.1 cb.2.1 tb ?_ ?_
    · rcases o3 with o3 | o3 | o3
      · rw [if_pos o3, if_pos o3] at e
        split at e <;> split at e <;> omega
      · rw [if_neg (by omega), if_pos o3, if_neg (by omega), if_pos o3] at e
        omega
      · rw [if_neg (by omega), if_neg (by omega), if_neg (by omega), if_neg (by omega)] at e
        omega
    · rcases o3 with o3 | o3 | o3
      · rw [if_pos o3, if_pos o3] at e
        split at e <;> split at e <;> omega
      · rw [if_neg (by omega), if_pos o3, if_neg (by omega), if_pos o3] at e
        omega
      · rw [if_neg (by omega), if_neg (by omega), if_neg (by omega), if_neg (by omega)] at e
        omega)
  omega
end
