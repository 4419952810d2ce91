/-! the law out of its 43 calls -/
def pu_op (Inv : pu_M → Prop) (jx jm : Nat) (vs : List Value) : Prop := ∀ M, Inv M → ∃ (v : Int32) (M1 M2 : pu_M), pu_r jx (pu_as (.ref 0 :: vs)) [] M = some (some (.int v), M1) ∧ pu_r jm (pu_as (.ref 71 :: vs)) [] M1 = some (some (.int v), M2) ∧ Inv M2
theorem pu_lix {L i k : Nat} (h : i + 7 ≤ L) (hL : L ≤ 3584) (hk : k < 7) : ¬ nI (i + k) < 0 ∧ (nI (i + k)).toNatClampNeg = i + k ∧ ¬ L ≤ i + k := ⟨nI_pos (by omega), nI_clamp (by omega), by omega⟩
theorem nI_k1 (i : Nat) : nI i + 1 = nI (i + 1) := nI_add i 1
theorem nI_k2 (i : Nat) : nI i + 2 = nI (i + 2) := nI_add i 2
theorem nI_k3 (i : Nat) : nI i + 3 = nI (i + 3) := nI_add i 3
theorem nI_k4 (i : Nat) : nI i + 4 = nI (i + 4) := nI_add i 4
theorem nI_k5 (i : Nat) : nI i + 5 = nI (i + 5) := nI_add i 5
theorem nI_k6 (i : Nat) : nI i + 6 = nI (i + 6) := nI_add i 6
theorem nI_k7 (i : Nat) : nI i + 7 = nI (i + 7) := nI_add i 7
theorem cL_0 {Inv : pu_M → Prop} {L i : Nat} {xs : Nat → Int32} {M : pu_M} (hi : i + 7 ≤ L) (hL : L ≤ 3584) (h : pu_op Inv 14 229 [.int (xs (i + 1)), .int (xs (i + 2)), .int (xs (i + 3)), .int (xs (i + 4)), .int (xs (i + 5))]) (hM : Inv M) : ∃ M2, Inv M2 ∧ ∀ rl : pu_K, kL_law_220 L xs pu_r rl [some (.float 0), some (.ref 0), some (.ref 71), some (.int (nI i))] [] M = rl [some (.float 0), some (.ref 0), some (.ref 71), some (.int (nI (i + 7)))] [] M2 := by
  obtain ⟨v, M1, M2, h1, h2, h3⟩ := h M hM
  refine ⟨M2, h3, fun rl => ?_⟩
  obtain ⟨a1, a2, a3⟩ := pu_lix (k := 1) hi hL (by omega)
  obtain ⟨b1, b2, b3⟩ := pu_lix (k := 2) hi hL (by omega)
  obtain ⟨c1, c2, c3⟩ := pu_lix (k := 3) hi hL (by omega)
  obtain ⟨d1, d2, d3⟩ := pu_lix (k := 4) hi hL (by omega)
  obtain ⟨e1, e2, e3⟩ := pu_lix (k := 5) hi hL (by omega)
  obtain ⟨f1, f2, f3⟩ := pu_lix (k := 6) hi hL (by omega)
  simp [pu_as, Value.category] at h1 h2
  simp only [kL_law_220, kL_law_244, kL_law_270, kL_law_1591, s_ald, s_cv, s_iadd, s_iceq, s_ild, s_inc, s_push, s_sld, s_zret]
  simp [nI_k1, nI_k2, nI_k3, nI_k4, nI_k5, nI_k6, nI_k7, a1, a2, a3, b1, b2, b3, c1, c2, c3, d1, d2, d3, e1, e2, e3, f1, f2, f3, sh_0, sh_71, pu_as, Value.category, pu_bk, pu_kl, h1, h2]
  simp only [s_ald, s_cv, s_iadd, s_iceq, s_ild, s_inc, s_push, s_sld, s_zret]
  simp [nI_k1, nI_k2, nI_k3, nI_k4, nI_k5, nI_k6, nI_k7, a1, a2, a3, b1, b2, b3, c1, c2, c3, d1, d2, d3, e1, e2, e3, f1, f2, f3, sh_0, sh_71, pu_as, Value.category, pu_bk, pu_kl, h1, h2]
  try simp only [s_ald, s_cv, s_iadd, s_iceq, s_ild, s_inc, s_push, s_sld, s_zret]
  try simp [nI_k1, nI_k2, nI_k3, nI_k4, nI_k5, nI_k6, nI_k7, a1, a2, a3, b1, b2, b3, c1, c2, c3, d1, d2, d3, e1, e2, e3, f1, f2, f3, sh_0, sh_71, pu_as, Value.category, pu_bk, pu_kl, h1, h2]
theorem cL_1 {Inv : pu_M → Prop} {L i : Nat} {xs : Nat → Int32} {M : pu_M} (hi : i + 7 ≤ L) (hL : L ≤ 3584) (h : pu_op Inv 15 230 [.int (xs (i + 1))]) (hM : Inv M) : ∃ M2, Inv M2 ∧ ∀ rl : pu_K, kL_law_283 L xs pu_r rl [some (.float 0), some (.ref 0), some (.ref 71), some (.int (nI i))] [] M = rl [some (.float 0), some (.ref 0), some (.ref 71), some (.int (nI (i + 7)))] [] M2 := by
  obtain ⟨v, M1, M2, h1, h2, h3⟩ := h M hM
  refine ⟨M2, h3, fun rl => ?_⟩
  obtain ⟨a1, a2, a3⟩ := pu_lix (k := 1) hi hL (by omega)
  obtain ⟨b1, b2, b3⟩ := pu_lix (k := 2) hi hL (by omega)
  obtain ⟨c1, c2, c3⟩ := pu_lix (k := 3) hi hL (by omega)
  obtain ⟨d1, d2, d3⟩ := pu_lix (k := 4) hi hL (by omega)
  obtain ⟨e1, e2, e3⟩ := pu_lix (k := 5) hi hL (by omega)
  obtain ⟨f1, f2, f3⟩ := pu_lix (k := 6) hi hL (by omega)
  simp [pu_as, Value.category] at h1 h2
  simp only [kL_law_283, kL_law_1591, s_ald, s_cv, s_iadd, s_iceq, s_ild, s_inc, s_push, s_sld, s_zret]
  simp [nI_k1, nI_k2, nI_k3, nI_k4, nI_k5, nI_k6, nI_k7, a1, a2, a3, b1, b2, b3, c1, c2, c3, d1, d2, d3, e1, e2, e3, f1, f2, f3, sh_0, sh_71, pu_as, Value.category, pu_bk, pu_kl, h1, h2]
  simp only [s_ald, s_cv, s_iadd, s_iceq, s_ild, s_inc, s_push, s_sld, s_zret]
  simp [nI_k1, nI_k2, nI_k3, nI_k4, nI_k5, nI_k6, nI_k7, a1, a2, a3, b1, b2, b3, c1, c2, c3, d1, d2, d3, e1, e2, e3, f1, f2, f3, sh_0, sh_71, pu_as, Value.category, pu_bk, pu_kl, h1, h2]
  try simp only [s_ald, s_cv, s_iadd, s_iceq, s_ild, s_inc, s_push, s_sld, s_zret]
  try simp [nI_k1, nI_k2, nI_k3, nI_k4, nI_k5, nI_k6, nI_k7, a1, a2, a3, b1, b2, b3, c1, c2, c3, d1, d2, d3, e1, e2, e3, f1, f2, f3, sh_0, sh_71, pu_as, Value.category, pu_bk, pu_kl, h1, h2]
theorem cL_2 {Inv : pu_M → Prop} {L i : Nat} {xs : Nat → Int32} {M : pu_M} (hi : i + 7 ≤ L) (hL : L ≤ 3584) (h : pu_op Inv 17 231 []) (hM : Inv M) : ∃ M2, Inv M2 ∧ ∀ rl : pu_K, kL_law_306 L xs pu_r rl [some (.float 0), some (.ref 0), some (.ref 71), some (.int (nI i))] [] M = rl [some (.float 0), some (.ref 0), some (.ref 71), some (.int (nI (i + 7)))] [] M2 := by
  obtain ⟨v, M1, M2, h1, h2, h3⟩ := h M hM
  refine ⟨M2, h3, fun rl => ?_⟩
  obtain ⟨a1, a2, a3⟩ := pu_lix (k := 1) hi hL (by omega)
  obtain ⟨b1, b2, b3⟩ := pu_lix (k := 2) hi hL (by omega)
  obtain ⟨c1, c2, c3⟩ := pu_lix (k := 3) hi hL (by omega)
  obtain ⟨d1, d2, d3⟩ := pu_lix (k := 4) hi hL (by omega)
  obtain ⟨e1, e2, e3⟩ := pu_lix (k := 5) hi hL (by omega)
  obtain ⟨f1, f2, f3⟩ := pu_lix (k := 6) hi hL (by omega)
  simp [pu_as, Value.category] at h1 h2
  simp only [kL_law_306, kL_law_1591, s_ald, s_cv, s_iceq, s_inc, s_push, s_zret]
  simp [nI_k1, nI_k2, nI_k3, nI_k4, nI_k5, nI_k6, nI_k7, a1, a2, a3, b1, b2, b3, c1, c2, c3, d1, d2, d3, e1, e2, e3, f1, f2, f3, sh_0, sh_71, pu_as, Value.category, pu_bk, pu_kl, h1, h2]
  simp only [s_ald, s_cv, s_iceq, s_inc, s_push, s_zret]
  simp [nI_k1, nI_k2, nI_k3, nI_k4, nI_k5, nI_k6, nI_k7, a1, a2, a3, b1, b2, b3, c1, c2, c3, d1, d2, d3, e1, e2, e3, f1, f2, f3, sh_0, sh_71, pu_as, Value.category, pu_bk, pu_kl, h1, h2]
  try simp only [s_ald, s_cv, s_iceq, s_inc, s_push, s_zret]
  try simp [nI_k1, nI_k2, nI_k3, nI_k4, nI_k5, nI_k6, nI_k7, a1, a2, a3, b1, b2, b3, c1, c2, c3, d1, d2, d3, e1, e2, e3, f1, f2, f3, sh_0, sh_71, pu_as, Value.category, pu_bk, pu_kl, h1, h2]
theorem cL_3 {Inv : pu_M → Prop} {L i : Nat} {xs : Nat → Int32} {M : pu_M} (hi : i + 7 ≤ L) (hL : L ≤ 3584) (h : pu_op Inv 19 235 [.int (xs (i + 1))]) (hM : Inv M) : ∃ M2, Inv M2 ∧ ∀ rl : pu_K, kL_law_319 L xs pu_r rl [some (.float 0), some (.ref 0), some (.ref 71), some (.int (nI i))] [] M = rl [some (.float 0), some (.ref 0), some (.ref 71), some (.int (nI (i + 7)))] [] M2 := by
  obtain ⟨v, M1, M2, h1, h2, h3⟩ := h M hM
  refine ⟨M2, h3, fun rl => ?_⟩
  obtain ⟨a1, a2, a3⟩ := pu_lix (k := 1) hi hL (by omega)
  obtain ⟨b1, b2, b3⟩ := pu_lix (k := 2) hi hL (by omega)
  obtain ⟨c1, c2, c3⟩ := pu_lix (k := 3) hi hL (by omega)
  obtain ⟨d1, d2, d3⟩ := pu_lix (k := 4) hi hL (by omega)
  obtain ⟨e1, e2, e3⟩ := pu_lix (k := 5) hi hL (by omega)
  obtain ⟨f1, f2, f3⟩ := pu_lix (k := 6) hi hL (by omega)
  simp [pu_as, Value.category] at h1 h2
  simp only [kL_law_319, kL_law_1591, s_ald, s_cv, s_iadd, s_iceq, s_ild, s_inc, s_push, s_sld, s_zret]
  simp [nI_k1, nI_k2, nI_k3, nI_k4, nI_k5, nI_k6, nI_k7, a1, a2, a3, b1, b2, b3, c1, c2, c3, d1, d2, d3, e1, e2, e3, f1, f2, f3, sh_0, sh_71, pu_as, Value.category, pu_bk, pu_kl, h1, h2]
  simp only [s_ald, s_cv, s_iadd, s_iceq, s_ild, s_inc, s_push, s_sld, s_zret]
  simp [nI_k1, nI_k2, nI_k3, nI_k4, nI_k5, nI_k6, nI_k7, a1, a2, a3, b1, b2, b3, c1, c2, c3, d1, d2, d3, e1, e2, e3, f1, f2, f3, sh_0, sh_71, pu_as, Value.category, pu_bk, pu_kl, h1, h2]
  try simp only [s_ald, s_cv, s_iadd, s_iceq, s_ild, s_inc, s_push, s_sld, s_zret]
  try simp [nI_k1, nI_k2, nI_k3, nI_k4, nI_k5, nI_k6, nI_k7, a1, a2, a3, b1, b2, b3, c1, c2, c3, d1, d2, d3, e1, e2, e3, f1, f2, f3, sh_0, sh_71, pu_as, Value.category, pu_bk, pu_kl, h1, h2]
theorem cL_4 {Inv : pu_M → Prop} {L i : Nat} {xs : Nat → Int32} {M : pu_M} (hi : i + 7 ≤ L) (hL : L ≤ 3584) (h : pu_op Inv 20 236 [.int (xs (i + 1))]) (hM : Inv M) : ∃ M2, Inv M2 ∧ ∀ rl : pu_K, kL_law_342 L xs pu_r rl [some (.float 0), some (.ref 0), some (.ref 71), some (.int (nI i))] [] M = rl [some (.float 0), some (.ref 0), some (.ref 71), some (.int (nI (i + 7)))] [] M2 := by
  obtain ⟨v, M1, M2, h1, h2, h3⟩ := h M hM
  refine ⟨M2, h3, fun rl => ?_⟩
  obtain ⟨a1, a2, a3⟩ := pu_lix (k := 1) hi hL (by omega)
  obtain ⟨b1, b2, b3⟩ := pu_lix (k := 2) hi hL (by omega)
  obtain ⟨c1, c2, c3⟩ := pu_lix (k := 3) hi hL (by omega)
  obtain ⟨d1, d2, d3⟩ := pu_lix (k := 4) hi hL (by omega)
  obtain ⟨e1, e2, e3⟩ := pu_lix (k := 5) hi hL (by omega)
  obtain ⟨f1, f2, f3⟩ := pu_lix (k := 6) hi hL (by omega)
  simp [pu_as, Value.category] at h1 h2
  simp only [kL_law_342, kL_law_1591, s_ald, s_cv, s_iadd, s_iceq, s_ild, s_inc, s_push, s_sld, s_zret]
  simp [nI_k1, nI_k2, nI_k3, nI_k4, nI_k5, nI_k6, nI_k7, a1, a2, a3, b1, b2, b3, c1, c2, c3, d1, d2, d3, e1, e2, e3, f1, f2, f3, sh_0, sh_71, pu_as, Value.category, pu_bk, pu_kl, h1, h2]
  simp only [s_ald, s_cv, s_iadd, s_iceq, s_ild, s_inc, s_push, s_sld, s_zret]
  simp [nI_k1, nI_k2, nI_k3, nI_k4, nI_k5, nI_k6, nI_k7, a1, a2, a3, b1, b2, b3, c1, c2, c3, d1, d2, d3, e1, e2, e3, f1, f2, f3, sh_0, sh_71, pu_as, Value.category, pu_bk, pu_kl, h1, h2]
  try simp only [s_ald, s_cv, s_iadd, s_iceq, s_ild, s_inc, s_push, s_sld, s_zret]
  try simp [nI_k1, nI_k2, nI_k3, nI_k4, nI_k5, nI_k6, nI_k7, a1, a2, a3, b1, b2, b3, c1, c2, c3, d1, d2, d3, e1, e2, e3, f1, f2, f3, sh_0, sh_71, pu_as, Value.category, pu_bk, pu_kl, h1, h2]
theorem cL_5 {Inv : pu_M → Prop} {L i : Nat} {xs : Nat → Int32} {M : pu_M} (hi : i + 7 ≤ L) (hL : L ≤ 3584) (h : pu_op Inv 35 248 []) (hM : Inv M) : ∃ M2, Inv M2 ∧ ∀ rl : pu_K, kL_law_365 L xs pu_r rl [some (.float 0), some (.ref 0), some (.ref 71), some (.int (nI i))] [] M = rl [some (.float 0), some (.ref 0), some (.ref 71), some (.int (nI (i + 7)))] [] M2 := by
  obtain ⟨v, M1, M2, h1, h2, h3⟩ := h M hM
  refine ⟨M2, h3, fun rl => ?_⟩
  obtain ⟨a1, a2, a3⟩ := pu_lix (k := 1) hi hL (by omega)
  obtain ⟨b1, b2, b3⟩ := pu_lix (k := 2) hi hL (by omega)
  obtain ⟨c1, c2, c3⟩ := pu_lix (k := 3) hi hL (by omega)
  obtain ⟨d1, d2, d3⟩ := pu_lix (k := 4) hi hL (by omega)
  obtain ⟨e1, e2, e3⟩ := pu_lix (k := 5) hi hL (by omega)
  obtain ⟨f1, f2, f3⟩ := pu_lix (k := 6) hi hL (by omega)
  simp [pu_as, Value.category] at h1 h2
  simp only [kL_law_365, kL_law_1591, s_ald, s_cv, s_iceq, s_inc, s_push, s_zret]
  simp [nI_k1, nI_k2, nI_k3, nI_k4, nI_k5, nI_k6, nI_k7, a1, a2, a3, b1, b2, b3, c1, c2, c3, d1, d2, d3, e1, e2, e3, f1, f2, f3, sh_0, sh_71, pu_as, Value.category, pu_bk, pu_kl, h1, h2]
  simp only [s_ald, s_cv, s_iceq, s_inc, s_push, s_zret]
  simp [nI_k1, nI_k2, nI_k3, nI_k4, nI_k5, nI_k6, nI_k7, a1, a2, a3, b1, b2, b3, c1, c2, c3, d1, d2, d3, e1, e2, e3, f1, f2, f3, sh_0, sh_71, pu_as, Value.category, pu_bk, pu_kl, h1, h2]
  try simp only [s_ald, s_cv, s_iceq, s_inc, s_push, s_zret]
  try simp [nI_k1, nI_k2, nI_k3, nI_k4, nI_k5, nI_k6, nI_k7, a1, a2, a3, b1, b2, b3, c1, c2, c3, d1, d2, d3, e1, e2, e3, f1, f2, f3, sh_0, sh_71, pu_as, Value.category, pu_bk, pu_kl, h1, h2]
theorem cL_6 {Inv : pu_M → Prop} {L i : Nat} {xs : Nat → Int32} {M : pu_M} (hi : i + 7 ≤ L) (hL : L ≤ 3584) (h : pu_op Inv 40 250 []) (hM : Inv M) : ∃ M2, Inv M2 ∧ ∀ rl : pu_K, kL_law_378 L xs pu_r rl [some (.float 0), some (.ref 0), some (.ref 71), some (.int (nI i))] [] M = rl [some (.float 0), some (.ref 0), some (.ref 71), some (.int (nI (i + 7)))] [] M2 := by
  obtain ⟨v, M1, M2, h1, h2, h3⟩ := h M hM
  refine ⟨M2, h3, fun rl => ?_⟩
  obtain ⟨a1, a2, a3⟩ := pu_lix (k := 1) hi hL (by omega)
  obtain ⟨b1, b2, b3⟩ := pu_lix (k := 2) hi hL (by omega)
  obtain ⟨c1, c2, c3⟩ := pu_lix (k := 3) hi hL (by omega)
  obtain ⟨d1, d2, d3⟩ := pu_lix (k := 4) hi hL (by omega)
  obtain ⟨e1, e2, e3⟩ := pu_lix (k := 5) hi hL (by omega)
  obtain ⟨f1, f2, f3⟩ := pu_lix (k := 6) hi hL (by omega)
  simp [pu_as, Value.category] at h1 h2
  simp only [kL_law_378, kL_law_1591, s_ald, s_cv, s_iceq, s_inc, s_push, s_zret]
  simp [nI_k1, nI_k2, nI_k3, nI_k4, nI_k5, nI_k6, nI_k7, a1, a2, a3, b1, b2, b3, c1, c2, c3, d1, d2, d3, e1, e2, e3, f1, f2, f3, sh_0, sh_71, pu_as, Value.category, pu_bk, pu_kl, h1, h2]
  simp only [s_ald, s_cv, s_iceq, s_inc, s_push, s_zret]
  simp [nI_k1, nI_k2, nI_k3, nI_k4, nI_k5, nI_k6, nI_k7, a1, a2, a3, b1, b2, b3, c1, c2, c3, d1, d2, d3, e1, e2, e3, f1, f2, f3, sh_0, sh_71, pu_as, Value.category, pu_bk, pu_kl, h1, h2]
  try simp only [s_ald, s_cv, s_iceq, s_inc, s_push, s_zret]
  try simp [nI_k1, nI_k2, nI_k3, nI_k4, nI_k5, nI_k6, nI_k7, a1, a2, a3, b1, b2, b3, c1, c2, c3, d1, d2, d3, e1, e2, e3, f1, f2, f3, sh_0, sh_71, pu_as, Value.category, pu_bk, pu_kl, h1, h2]
theorem cL_7 {Inv : pu_M → Prop} {L i : Nat} {xs : Nat → Int32} {M : pu_M} (hi : i + 7 ≤ L) (hL : L ≤ 3584) (h : pu_op Inv 55 260 [.int (xs (i + 1)), .int (xs (i + 2)), .int (xs (i + 3))]) (hM : Inv M) : ∃ M2, Inv M2 ∧ ∀ rl : pu_K, kL_law_391 L xs pu_r rl [some (.float 0), some (.ref 0), some (.ref 71), some (.int (nI i))] [] M = rl [some (.float 0), some (.ref 0), some (.ref 71), some (.int (nI (i + 7)))] [] M2 := by
  obtain ⟨v, M1, M2, h1, h2, h3⟩ := h M hM
  refine ⟨M2, h3, fun rl => ?_⟩
  obtain ⟨a1, a2, a3⟩ := pu_lix (k := 1) hi hL (by omega)
  obtain ⟨b1, b2, b3⟩ := pu_lix (k := 2) hi hL (by omega)
  obtain ⟨c1, c2, c3⟩ := pu_lix (k := 3) hi hL (by omega)
  obtain ⟨d1, d2, d3⟩ := pu_lix (k := 4) hi hL (by omega)
  obtain ⟨e1, e2, e3⟩ := pu_lix (k := 5) hi hL (by omega)
  obtain ⟨f1, f2, f3⟩ := pu_lix (k := 6) hi hL (by omega)
  simp [pu_as, Value.category] at h1 h2
  simp only [kL_law_391, kL_law_417, kL_law_1591, s_ald, s_cv, s_iadd, s_iceq, s_ild, s_inc, s_push, s_sld, s_zret]
  simp [nI_k1, nI_k2, nI_k3, nI_k4, nI_k5, nI_k6, nI_k7, a1, a2, a3, b1, b2, b3, c1, c2, c3, d1, d2, d3, e1, e2, e3, f1, f2, f3, sh_0, sh_71, pu_as, Value.category, pu_bk, pu_kl, h1, h2]
  simp only [s_ald, s_cv, s_iadd, s_iceq, s_ild, s_inc, s_push, s_sld, s_zret]
  simp [nI_k1, nI_k2, nI_k3, nI_k4, nI_k5, nI_k6, nI_k7, a1, a2, a3, b1, b2, b3, c1, c2, c3, d1, d2, d3, e1, e2, e3, f1, f2, f3, sh_0, sh_71, pu_as, Value.category, pu_bk, pu_kl, h1, h2]
  try simp only [s_ald, s_cv, s_iadd, s_iceq, s_ild, s_inc, s_push, s_sld, s_zret]
  try simp [nI_k1, nI_k2, nI_k3, nI_k4, nI_k5, nI_k6, nI_k7, a1, a2, a3, b1, b2, b3, c1, c2, c3, d1, d2, d3, e1, e2, e3, f1, f2, f3, sh_0, sh_71, pu_as, Value.category, pu_bk, pu_kl, h1, h2]
theorem cL_8 {Inv : pu_M → Prop} {L i : Nat} {xs : Nat → Int32} {M : pu_M} (hi : i + 7 ≤ L) (hL : L ≤ 3584) (h : pu_op Inv 89 285 [.int (xs (i + 1)), .int (xs (i + 2)), .int (xs (i + 3)), .int (xs (i + 4)), .int (xs (i + 5))]) (hM : Inv M) : ∃ M2, Inv M2 ∧ ∀ rl : pu_K, kL_law_434 L xs pu_r rl [some (.float 0), some (.ref 0), some (.ref 71), some (.int (nI i))] [] M = rl [some (.float 0), some (.ref 0), some (.ref 71), some (.int (nI (i + 7)))] [] M2 := by
  obtain ⟨v, M1, M2, h1, h2, h3⟩ := h M hM
  refine ⟨M2, h3, fun rl => ?_⟩
  obtain ⟨a1, a2, a3⟩ := pu_lix (k := 1) hi hL (by omega)
  obtain ⟨b1, b2, b3⟩ := pu_lix (k := 2) hi hL (by omega)
  obtain ⟨c1, c2, c3⟩ := pu_lix (k := 3) hi hL (by omega)
  obtain ⟨d1, d2, d3⟩ := pu_lix (k := 4) hi hL (by omega)
  obtain ⟨e1, e2, e3⟩ := pu_lix (k := 5) hi hL (by omega)
  obtain ⟨f1, f2, f3⟩ := pu_lix (k := 6) hi hL (by omega)
  simp [pu_as, Value.category] at h1 h2
  simp only [kL_law_434, kL_law_458, kL_law_484, kL_law_1591, s_ald, s_cv, s_iadd, s_iceq, s_ild, s_inc, s_push, s_sld, s_zret]
  simp [nI_k1, nI_k2, nI_k3, nI_k4, nI_k5, nI_k6, nI_k7, a1, a2, a3, b1, b2, b3, c1, c2, c3, d1, d2, d3, e1, e2, e3, f1, f2, f3, sh_0, sh_71, pu_as, Value.category, pu_bk, pu_kl, h1, h2]
  simp only [s_ald, s_cv, s_iadd, s_iceq, s_ild, s_inc, s_push, s_sld, s_zret]
  simp [nI_k1, nI_k2, nI_k3, nI_k4, nI_k5, nI_k6, nI_k7, a1, a2, a3, b1, b2, b3, c1, c2, c3, d1, d2, d3, e1, e2, e3, f1, f2, f3, sh_0, sh_71, pu_as, Value.category, pu_bk, pu_kl, h1, h2]
  try simp only [s_ald, s_cv, s_iadd, s_iceq, s_ild, s_inc, s_push, s_sld, s_zret]
  try simp [nI_k1, nI_k2, nI_k3, nI_k4, nI_k5, nI_k6, nI_k7, a1, a2, a3, b1, b2, b3, c1, c2, c3, d1, d2, d3, e1, e2, e3, f1, f2, f3, sh_0, sh_71, pu_as, Value.category, pu_bk, pu_kl, h1, h2]
theorem cL_9 {Inv : pu_M → Prop} {L i : Nat} {xs : Nat → Int32} {M : pu_M} (hi : i + 7 ≤ L) (hL : L ≤ 3584) (h : pu_op Inv 93 287 [.int (xs (i + 1)), .int (xs (i + 2)), .int (xs (i + 3)), .int (xs (i + 4)), .int (xs (i + 5)), .int (xs (i + 6))]) (hM : Inv M) : ∃ M2, Inv M2 ∧ ∀ rl : pu_K, kL_law_497 L xs pu_r rl [some (.float 0), some (.ref 0), some (.ref 71), some (.int (nI i))] [] M = rl [some (.float 0), some (.ref 0), some (.ref 71), some (.int (nI (i + 7)))] [] M2 := by
  obtain ⟨v, M1, M2, h1, h2, h3⟩ := h M hM
  refine ⟨M2, h3, fun rl => ?_⟩
  obtain ⟨a1, a2, a3⟩ := pu_lix (k := 1) hi hL (by omega)
  obtain ⟨b1, b2, b3⟩ := pu_lix (k := 2) hi hL (by omega)
  obtain ⟨c1, c2, c3⟩ := pu_lix (k := 3) hi hL (by omega)
  obtain ⟨d1, d2, d3⟩ := pu_lix (k := 4) hi hL (by omega)
  obtain ⟨e1, e2, e3⟩ := pu_lix (k := 5) hi hL (by omega)
  obtain ⟨f1, f2, f3⟩ := pu_lix (k := 6) hi hL (by omega)
  simp [pu_as, Value.category] at h1 h2
  simp only [kL_law_497, kL_law_521, kL_law_548, kL_law_1591, s_ald, s_cv, s_iadd, s_iceq, s_ild, s_inc, s_push, s_sld, s_zret]
  simp [nI_k1, nI_k2, nI_k3, nI_k4, nI_k5, nI_k6, nI_k7, a1, a2, a3, b1, b2, b3, c1, c2, c3, d1, d2, d3, e1, e2, e3, f1, f2, f3, sh_0, sh_71, pu_as, Value.category, pu_bk, pu_kl, h1, h2]
  simp only [s_ald, s_cv, s_iadd, s_iceq, s_ild, s_inc, s_push, s_sld, s_zret]
  simp [nI_k1, nI_k2, nI_k3, nI_k4, nI_k5, nI_k6, nI_k7, a1, a2, a3, b1, b2, b3, c1, c2, c3, d1, d2, d3, e1, e2, e3, f1, f2, f3, sh_0, sh_71, pu_as, Value.category, pu_bk, pu_kl, h1, h2]
  try simp only [s_ald, s_cv, s_iadd, s_iceq, s_ild, s_inc, s_push, s_sld, s_zret]
  try simp [nI_k1, nI_k2, nI_k3, nI_k4, nI_k5, nI_k6, nI_k7, a1, a2, a3, b1, b2, b3, c1, c2, c3, d1, d2, d3, e1, e2, e3, f1, f2, f3, sh_0, sh_71, pu_as, Value.category, pu_bk, pu_kl, h1, h2]
theorem cL_10 {Inv : pu_M → Prop} {L i : Nat} {xs : Nat → Int32} {M : pu_M} (hi : i + 7 ≤ L) (hL : L ≤ 3584) (h : pu_op Inv 101 291 [.int (xs (i + 1)), .int (xs (i + 2)), .int (xs (i + 3)), .int (xs (i + 4))]) (hM : Inv M) : ∃ M2, Inv M2 ∧ ∀ rl : pu_K, kL_law_572 L xs pu_r rl [some (.float 0), some (.ref 0), some (.ref 71), some (.int (nI i))] [] M = rl [some (.float 0), some (.ref 0), some (.ref 71), some (.int (nI (i + 7)))] [] M2 := by
  obtain ⟨v, M1, M2, h1, h2, h3⟩ := h M hM
  refine ⟨M2, h3, fun rl => ?_⟩
  obtain ⟨a1, a2, a3⟩ := pu_lix (k := 1) hi hL (by omega)
  obtain ⟨b1, b2, b3⟩ := pu_lix (k := 2) hi hL (by omega)
  obtain ⟨c1, c2, c3⟩ := pu_lix (k := 3) hi hL (by omega)
  obtain ⟨d1, d2, d3⟩ := pu_lix (k := 4) hi hL (by omega)
  obtain ⟨e1, e2, e3⟩ := pu_lix (k := 5) hi hL (by omega)
  obtain ⟨f1, f2, f3⟩ := pu_lix (k := 6) hi hL (by omega)
  simp [pu_as, Value.category] at h1 h2
  simp only [kL_law_572, kL_law_598, kL_law_1591, s_ald, s_cv, s_iadd, s_iceq, s_ild, s_inc, s_push, s_sld, s_zret]
  simp [nI_k1, nI_k2, nI_k3, nI_k4, nI_k5, nI_k6, nI_k7, a1, a2, a3, b1, b2, b3, c1, c2, c3, d1, d2, d3, e1, e2, e3, f1, f2, f3, sh_0, sh_71, pu_as, Value.category, pu_bk, pu_kl, h1, h2]
  simp only [s_ald, s_cv, s_iadd, s_iceq, s_ild, s_inc, s_push, s_sld, s_zret]
  simp [nI_k1, nI_k2, nI_k3, nI_k4, nI_k5, nI_k6, nI_k7, a1, a2, a3, b1, b2, b3, c1, c2, c3, d1, d2, d3, e1, e2, e3, f1, f2, f3, sh_0, sh_71, pu_as, Value.category, pu_bk, pu_kl, h1, h2]
  try simp only [s_ald, s_cv, s_iadd, s_iceq, s_ild, s_inc, s_push, s_sld, s_zret]
  try simp [nI_k1, nI_k2, nI_k3, nI_k4, nI_k5, nI_k6, nI_k7, a1, a2, a3, b1, b2, b3, c1, c2, c3, d1, d2, d3, e1, e2, e3, f1, f2, f3, sh_0, sh_71, pu_as, Value.category, pu_bk, pu_kl, h1, h2]
theorem cL_11 {Inv : pu_M → Prop} {L i : Nat} {xs : Nat → Int32} {M : pu_M} (hi : i + 7 ≤ L) (hL : L ≤ 3584) (h : pu_op Inv 104 293 [.int (xs (i + 1)), .int (xs (i + 2))]) (hM : Inv M) : ∃ M2, Inv M2 ∧ ∀ rl : pu_K, kL_law_625 L xs pu_r rl [some (.float 0), some (.ref 0), some (.ref 71), some (.int (nI i))] [] M = rl [some (.float 0), some (.ref 0), some (.ref 71), some (.int (nI (i + 7)))] [] M2 := by
  obtain ⟨v, M1, M2, h1, h2, h3⟩ := h M hM
  refine ⟨M2, h3, fun rl => ?_⟩
  obtain ⟨a1, a2, a3⟩ := pu_lix (k := 1) hi hL (by omega)
  obtain ⟨b1, b2, b3⟩ := pu_lix (k := 2) hi hL (by omega)
  obtain ⟨c1, c2, c3⟩ := pu_lix (k := 3) hi hL (by omega)
  obtain ⟨d1, d2, d3⟩ := pu_lix (k := 4) hi hL (by omega)
  obtain ⟨e1, e2, e3⟩ := pu_lix (k := 5) hi hL (by omega)
  obtain ⟨f1, f2, f3⟩ := pu_lix (k := 6) hi hL (by omega)
  simp [pu_as, Value.category] at h1 h2
  simp only [kL_law_625, kL_law_653, kL_law_1591, s_ald, s_cv, s_iadd, s_iceq, s_ild, s_inc, s_push, s_sld, s_zret]
  simp [nI_k1, nI_k2, nI_k3, nI_k4, nI_k5, nI_k6, nI_k7, a1, a2, a3, b1, b2, b3, c1, c2, c3, d1, d2, d3, e1, e2, e3, f1, f2, f3, sh_0, sh_71, pu_as, Value.category, pu_bk, pu_kl, h1, h2]
  simp only [s_ald, s_cv, s_iadd, s_iceq, s_ild, s_inc, s_push, s_sld, s_zret]
  simp [nI_k1, nI_k2, nI_k3, nI_k4, nI_k5, nI_k6, nI_k7, a1, a2, a3, b1, b2, b3, c1, c2, c3, d1, d2, d3, e1, e2, e3, f1, f2, f3, sh_0, sh_71, pu_as, Value.category, pu_bk, pu_kl, h1, h2]
  try simp only [s_ald, s_cv, s_iadd, s_iceq, s_ild, s_inc, s_push, s_sld, s_zret]
  try simp [nI_k1, nI_k2, nI_k3, nI_k4, nI_k5, nI_k6, nI_k7, a1, a2, a3, b1, b2, b3, c1, c2, c3, d1, d2, d3, e1, e2, e3, f1, f2, f3, sh_0, sh_71, pu_as, Value.category, pu_bk, pu_kl, h1, h2]
theorem cL_12 {Inv : pu_M → Prop} {L i : Nat} {xs : Nat → Int32} {M : pu_M} (hi : i + 7 ≤ L) (hL : L ≤ 3584) (h : pu_op Inv 114 297 [.int (xs (i + 1)), .int (xs (i + 2)), .int (xs (i + 3))]) (hM : Inv M) : ∃ M2, Inv M2 ∧ ∀ rl : pu_K, kL_law_658 L xs pu_r rl [some (.float 0), some (.ref 0), some (.ref 71), some (.int (nI i))] [] M = rl [some (.float 0), some (.ref 0), some (.ref 71), some (.int (nI (i + 7)))] [] M2 := by
  obtain ⟨v, M1, M2, h1, h2, h3⟩ := h M hM
  refine ⟨M2, h3, fun rl => ?_⟩
  obtain ⟨a1, a2, a3⟩ := pu_lix (k := 1) hi hL (by omega)
  obtain ⟨b1, b2, b3⟩ := pu_lix (k := 2) hi hL (by omega)
  obtain ⟨c1, c2, c3⟩ := pu_lix (k := 3) hi hL (by omega)
  obtain ⟨d1, d2, d3⟩ := pu_lix (k := 4) hi hL (by omega)
  obtain ⟨e1, e2, e3⟩ := pu_lix (k := 5) hi hL (by omega)
  obtain ⟨f1, f2, f3⟩ := pu_lix (k := 6) hi hL (by omega)
  simp [pu_as, Value.category] at h1 h2
  simp only [kL_law_658, kL_law_684, kL_law_1591, s_ald, s_cv, s_iadd, s_iceq, s_ild, s_inc, s_push, s_sld, s_zret]
  simp [nI_k1, nI_k2, nI_k3, nI_k4, nI_k5, nI_k6, nI_k7, a1, a2, a3, b1, b2, b3, c1, c2, c3, d1, d2, d3, e1, e2, e3, f1, f2, f3, sh_0, sh_71, pu_as, Value.category, pu_bk, pu_kl, h1, h2]
  simp only [s_ald, s_cv, s_iadd, s_iceq, s_ild, s_inc, s_push, s_sld, s_zret]
  simp [nI_k1, nI_k2, nI_k3, nI_k4, nI_k5, nI_k6, nI_k7, a1, a2, a3, b1, b2, b3, c1, c2, c3, d1, d2, d3, e1, e2, e3, f1, f2, f3, sh_0, sh_71, pu_as, Value.category, pu_bk, pu_kl, h1, h2]
  try simp only [s_ald, s_cv, s_iadd, s_iceq, s_ild, s_inc, s_push, s_sld, s_zret]
  try simp [nI_k1, nI_k2, nI_k3, nI_k4, nI_k5, nI_k6, nI_k7, a1, a2, a3, b1, b2, b3, c1, c2, c3, d1, d2, d3, e1, e2, e3, f1, f2, f3, sh_0, sh_71, pu_as, Value.category, pu_bk, pu_kl, h1, h2]
theorem cL_13 {Inv : pu_M → Prop} {L i : Nat} {xs : Nat → Int32} {M : pu_M} (hi : i + 7 ≤ L) (hL : L ≤ 3584) (h : pu_op Inv 115 261 [.int (xs (i + 1)), .int (xs (i + 2))]) (hM : Inv M) : ∃ M2, Inv M2 ∧ ∀ rl : pu_K, kL_law_701 L xs pu_r rl [some (.float 0), some (.ref 0), some (.ref 71), some (.int (nI i))] [] M = rl [some (.float 0), some (.ref 0), some (.ref 71), some (.int (nI (i + 7)))] [] M2 := by
  obtain ⟨v, M1, M2, h1, h2, h3⟩ := h M hM
  refine ⟨M2, h3, fun rl => ?_⟩
  obtain ⟨a1, a2, a3⟩ := pu_lix (k := 1) hi hL (by omega)
  obtain ⟨b1, b2, b3⟩ := pu_lix (k := 2) hi hL (by omega)
  obtain ⟨c1, c2, c3⟩ := pu_lix (k := 3) hi hL (by omega)
  obtain ⟨d1, d2, d3⟩ := pu_lix (k := 4) hi hL (by omega)
  obtain ⟨e1, e2, e3⟩ := pu_lix (k := 5) hi hL (by omega)
  obtain ⟨f1, f2, f3⟩ := pu_lix (k := 6) hi hL (by omega)
  simp [pu_as, Value.category] at h1 h2
  simp only [kL_law_701, kL_law_729, kL_law_1591, s_ald, s_cv, s_iadd, s_iceq, s_ild, s_inc, s_push, s_sld, s_zret]
  simp [nI_k1, nI_k2, nI_k3, nI_k4, nI_k5, nI_k6, nI_k7, a1, a2, a3, b1, b2, b3, c1, c2, c3, d1, d2, d3, e1, e2, e3, f1, f2, f3, sh_0, sh_71, pu_as, Value.category, pu_bk, pu_kl, h1, h2]
  simp only [s_ald, s_cv, s_iadd, s_iceq, s_ild, s_inc, s_push, s_sld, s_zret]
  simp [nI_k1, nI_k2, nI_k3, nI_k4, nI_k5, nI_k6, nI_k7, a1, a2, a3, b1, b2, b3, c1, c2, c3, d1, d2, d3, e1, e2, e3, f1, f2, f3, sh_0, sh_71, pu_as, Value.category, pu_bk, pu_kl, h1, h2]
  try simp only [s_ald, s_cv, s_iadd, s_iceq, s_ild, s_inc, s_push, s_sld, s_zret]
  try simp [nI_k1, nI_k2, nI_k3, nI_k4, nI_k5, nI_k6, nI_k7, a1, a2, a3, b1, b2, b3, c1, c2, c3, d1, d2, d3, e1, e2, e3, f1, f2, f3, sh_0, sh_71, pu_as, Value.category, pu_bk, pu_kl, h1, h2]
theorem cL_14 {Inv : pu_M → Prop} {L i : Nat} {xs : Nat → Int32} {M : pu_M} (hi : i + 7 ≤ L) (hL : L ≤ 3584) (h : pu_op Inv 120 262 [.int (xs (i + 1)), .int (xs (i + 2)), .int (xs (i + 3))]) (hM : Inv M) : ∃ M2, Inv M2 ∧ ∀ rl : pu_K, kL_law_734 L xs pu_r rl [some (.float 0), some (.ref 0), some (.ref 71), some (.int (nI i))] [] M = rl [some (.float 0), some (.ref 0), some (.ref 71), some (.int (nI (i + 7)))] [] M2 := by
  obtain ⟨v, M1, M2, h1, h2, h3⟩ := h M hM
  refine ⟨M2, h3, fun rl => ?_⟩
  obtain ⟨a1, a2, a3⟩ := pu_lix (k := 1) hi hL (by omega)
  obtain ⟨b1, b2, b3⟩ := pu_lix (k := 2) hi hL (by omega)
  obtain ⟨c1, c2, c3⟩ := pu_lix (k := 3) hi hL (by omega)
  obtain ⟨d1, d2, d3⟩ := pu_lix (k := 4) hi hL (by omega)
  obtain ⟨e1, e2, e3⟩ := pu_lix (k := 5) hi hL (by omega)
  obtain ⟨f1, f2, f3⟩ := pu_lix (k := 6) hi hL (by omega)
  simp [pu_as, Value.category] at h1 h2
  simp only [kL_law_734, kL_law_760, kL_law_1591, s_ald, s_cv, s_iadd, s_iceq, s_ild, s_inc, s_push, s_sld, s_zret]
  simp [nI_k1, nI_k2, nI_k3, nI_k4, nI_k5, nI_k6, nI_k7, a1, a2, a3, b1, b2, b3, c1, c2, c3, d1, d2, d3, e1, e2, e3, f1, f2, f3, sh_0, sh_71, pu_as, Value.category, pu_bk, pu_kl, h1, h2]
  simp only [s_ald, s_cv, s_iadd, s_iceq, s_ild, s_inc, s_push, s_sld, s_zret]
  simp [nI_k1, nI_k2, nI_k3, nI_k4, nI_k5, nI_k6, nI_k7, a1, a2, a3, b1, b2, b3, c1, c2, c3, d1, d2, d3, e1, e2, e3, f1, f2, f3, sh_0, sh_71, pu_as, Value.category, pu_bk, pu_kl, h1, h2]
  try simp only [s_ald, s_cv, s_iadd, s_iceq, s_ild, s_inc, s_push, s_sld, s_zret]
  try simp [nI_k1, nI_k2, nI_k3, nI_k4, nI_k5, nI_k6, nI_k7, a1, a2, a3, b1, b2, b3, c1, c2, c3, d1, d2, d3, e1, e2, e3, f1, f2, f3, sh_0, sh_71, pu_as, Value.category, pu_bk, pu_kl, h1, h2]
theorem cL_15 {Inv : pu_M → Prop} {L i : Nat} {xs : Nat → Int32} {M : pu_M} (hi : i + 7 ≤ L) (hL : L ≤ 3584) (h : pu_op Inv 124 298 [.int (xs (i + 1)), .int (xs (i + 2))]) (hM : Inv M) : ∃ M2, Inv M2 ∧ ∀ rl : pu_K, kL_law_777 L xs pu_r rl [some (.float 0), some (.ref 0), some (.ref 71), some (.int (nI i))] [] M = rl [some (.float 0), some (.ref 0), some (.ref 71), some (.int (nI (i + 7)))] [] M2 := by
  obtain ⟨v, M1, M2, h1, h2, h3⟩ := h M hM
  refine ⟨M2, h3, fun rl => ?_⟩
  obtain ⟨a1, a2, a3⟩ := pu_lix (k := 1) hi hL (by omega)
  obtain ⟨b1, b2, b3⟩ := pu_lix (k := 2) hi hL (by omega)
  obtain ⟨c1, c2, c3⟩ := pu_lix (k := 3) hi hL (by omega)
  obtain ⟨d1, d2, d3⟩ := pu_lix (k := 4) hi hL (by omega)
  obtain ⟨e1, e2, e3⟩ := pu_lix (k := 5) hi hL (by omega)
  obtain ⟨f1, f2, f3⟩ := pu_lix (k := 6) hi hL (by omega)
  simp [pu_as, Value.category] at h1 h2
  simp only [kL_law_777, kL_law_805, kL_law_1591, s_ald, s_cv, s_iadd, s_iceq, s_ild, s_inc, s_push, s_sld, s_zret]
  simp [nI_k1, nI_k2, nI_k3, nI_k4, nI_k5, nI_k6, nI_k7, a1, a2, a3, b1, b2, b3, c1, c2, c3, d1, d2, d3, e1, e2, e3, f1, f2, f3, sh_0, sh_71, pu_as, Value.category, pu_bk, pu_kl, h1, h2]
  simp only [s_ald, s_cv, s_iadd, s_iceq, s_ild, s_inc, s_push, s_sld, s_zret]
  simp [nI_k1, nI_k2, nI_k3, nI_k4, nI_k5, nI_k6, nI_k7, a1, a2, a3, b1, b2, b3, c1, c2, c3, d1, d2, d3, e1, e2, e3, f1, f2, f3, sh_0, sh_71, pu_as, Value.category, pu_bk, pu_kl, h1, h2]
  try simp only [s_ald, s_cv, s_iadd, s_iceq, s_ild, s_inc, s_push, s_sld, s_zret]
  try simp [nI_k1, nI_k2, nI_k3, nI_k4, nI_k5, nI_k6, nI_k7, a1, a2, a3, b1, b2, b3, c1, c2, c3, d1, d2, d3, e1, e2, e3, f1, f2, f3, sh_0, sh_71, pu_as, Value.category, pu_bk, pu_kl, h1, h2]
theorem cL_16 {Inv : pu_M → Prop} {L i : Nat} {xs : Nat → Int32} {M : pu_M} (hi : i + 7 ≤ L) (hL : L ≤ 3584) (h : pu_op Inv 126 299 [.int (xs (i + 1)), .int (xs (i + 2)), .int (xs (i + 3))]) (hM : Inv M) : ∃ M2, Inv M2 ∧ ∀ rl : pu_K, kL_law_810 L xs pu_r rl [some (.float 0), some (.ref 0), some (.ref 71), some (.int (nI i))] [] M = rl [some (.float 0), some (.ref 0), some (.ref 71), some (.int (nI (i + 7)))] [] M2 := by
  obtain ⟨v, M1, M2, h1, h2, h3⟩ := h M hM
  refine ⟨M2, h3, fun rl => ?_⟩
  obtain ⟨a1, a2, a3⟩ := pu_lix (k := 1) hi hL (by omega)
  obtain ⟨b1, b2, b3⟩ := pu_lix (k := 2) hi hL (by omega)
  obtain ⟨c1, c2, c3⟩ := pu_lix (k := 3) hi hL (by omega)
  obtain ⟨d1, d2, d3⟩ := pu_lix (k := 4) hi hL (by omega)
  obtain ⟨e1, e2, e3⟩ := pu_lix (k := 5) hi hL (by omega)
  obtain ⟨f1, f2, f3⟩ := pu_lix (k := 6) hi hL (by omega)
  simp [pu_as, Value.category] at h1 h2
  simp only [kL_law_810, kL_law_836, kL_law_1591, s_ald, s_cv, s_iadd, s_iceq, s_ild, s_inc, s_push, s_sld, s_zret]
  simp [nI_k1, nI_k2, nI_k3, nI_k4, nI_k5, nI_k6, nI_k7, a1, a2, a3, b1, b2, b3, c1, c2, c3, d1, d2, d3, e1, e2, e3, f1, f2, f3, sh_0, sh_71, pu_as, Value.category, pu_bk, pu_kl, h1, h2]
  simp only [s_ald, s_cv, s_iadd, s_iceq, s_ild, s_inc, s_push, s_sld, s_zret]
  simp [nI_k1, nI_k2, nI_k3, nI_k4, nI_k5, nI_k6, nI_k7, a1, a2, a3, b1, b2, b3, c1, c2, c3, d1, d2, d3, e1, e2, e3, f1, f2, f3, sh_0, sh_71, pu_as, Value.category, pu_bk, pu_kl, h1, h2]
  try simp only [s_ald, s_cv, s_iadd, s_iceq, s_ild, s_inc, s_push, s_sld, s_zret]
  try simp [nI_k1, nI_k2, nI_k3, nI_k4, nI_k5, nI_k6, nI_k7, a1, a2, a3, b1, b2, b3, c1, c2, c3, d1, d2, d3, e1, e2, e3, f1, f2, f3, sh_0, sh_71, pu_as, Value.category, pu_bk, pu_kl, h1, h2]
theorem cL_17 {Inv : pu_M → Prop} {L i : Nat} {xs : Nat → Int32} {M : pu_M} (hi : i + 7 ≤ L) (hL : L ≤ 3584) (h : pu_op Inv 133 301 []) (hM : Inv M) : ∃ M2, Inv M2 ∧ ∀ rl : pu_K, kL_law_853 L xs pu_r rl [some (.float 0), some (.ref 0), some (.ref 71), some (.int (nI i))] [] M = rl [some (.float 0), some (.ref 0), some (.ref 71), some (.int (nI (i + 7)))] [] M2 := by
  obtain ⟨v, M1, M2, h1, h2, h3⟩ := h M hM
  refine ⟨M2, h3, fun rl => ?_⟩
  obtain ⟨a1, a2, a3⟩ := pu_lix (k := 1) hi hL (by omega)
  obtain ⟨b1, b2, b3⟩ := pu_lix (k := 2) hi hL (by omega)
  obtain ⟨c1, c2, c3⟩ := pu_lix (k := 3) hi hL (by omega)
  obtain ⟨d1, d2, d3⟩ := pu_lix (k := 4) hi hL (by omega)
  obtain ⟨e1, e2, e3⟩ := pu_lix (k := 5) hi hL (by omega)
  obtain ⟨f1, f2, f3⟩ := pu_lix (k := 6) hi hL (by omega)
  simp [pu_as, Value.category] at h1 h2
  simp only [kL_law_853, kL_law_1591, s_ald, s_cv, s_iceq, s_inc, s_push, s_zret]
  simp [nI_k1, nI_k2, nI_k3, nI_k4, nI_k5, nI_k6, nI_k7, a1, a2, a3, b1, b2, b3, c1, c2, c3, d1, d2, d3, e1, e2, e3, f1, f2, f3, sh_0, sh_71, pu_as, Value.category, pu_bk, pu_kl, h1, h2]
  simp only [s_ald, s_cv, s_iceq, s_inc, s_push, s_zret]
  simp [nI_k1, nI_k2, nI_k3, nI_k4, nI_k5, nI_k6, nI_k7, a1, a2, a3, b1, b2, b3, c1, c2, c3, d1, d2, d3, e1, e2, e3, f1, f2, f3, sh_0, sh_71, pu_as, Value.category, pu_bk, pu_kl, h1, h2]
  try simp only [s_ald, s_cv, s_iceq, s_inc, s_push, s_zret]
  try simp [nI_k1, nI_k2, nI_k3, nI_k4, nI_k5, nI_k6, nI_k7, a1, a2, a3, b1, b2, b3, c1, c2, c3, d1, d2, d3, e1, e2, e3, f1, f2, f3, sh_0, sh_71, pu_as, Value.category, pu_bk, pu_kl, h1, h2]
theorem cL_18 {Inv : pu_M → Prop} {L i : Nat} {xs : Nat → Int32} {M : pu_M} (hi : i + 7 ≤ L) (hL : L ≤ 3584) (h : pu_op Inv 142 302 [.int (xs (i + 1))]) (hM : Inv M) : ∃ M2, Inv M2 ∧ ∀ rl : pu_K, kL_law_866 L xs pu_r rl [some (.float 0), some (.ref 0), some (.ref 71), some (.int (nI i))] [] M = rl [some (.float 0), some (.ref 0), some (.ref 71), some (.int (nI (i + 7)))] [] M2 := by
  obtain ⟨v, M1, M2, h1, h2, h3⟩ := h M hM
  refine ⟨M2, h3, fun rl => ?_⟩
  obtain ⟨a1, a2, a3⟩ := pu_lix (k := 1) hi hL (by omega)
  obtain ⟨b1, b2, b3⟩ := pu_lix (k := 2) hi hL (by omega)
  obtain ⟨c1, c2, c3⟩ := pu_lix (k := 3) hi hL (by omega)
  obtain ⟨d1, d2, d3⟩ := pu_lix (k := 4) hi hL (by omega)
  obtain ⟨e1, e2, e3⟩ := pu_lix (k := 5) hi hL (by omega)
  obtain ⟨f1, f2, f3⟩ := pu_lix (k := 6) hi hL (by omega)
  simp [pu_as, Value.category] at h1 h2
  simp only [kL_law_866, kL_law_1591, s_ald, s_cv, s_iadd, s_iceq, s_ild, s_inc, s_push, s_sld, s_zret]
  simp [nI_k1, nI_k2, nI_k3, nI_k4, nI_k5, nI_k6, nI_k7, a1, a2, a3, b1, b2, b3, c1, c2, c3, d1, d2, d3, e1, e2, e3, f1, f2, f3, sh_0, sh_71, pu_as, Value.category, pu_bk, pu_kl, h1, h2]
  simp only [s_ald, s_cv, s_iadd, s_iceq, s_ild, s_inc, s_push, s_sld, s_zret]
  simp [nI_k1, nI_k2, nI_k3, nI_k4, nI_k5, nI_k6, nI_k7, a1, a2, a3, b1, b2, b3, c1, c2, c3, d1, d2, d3, e1, e2, e3, f1, f2, f3, sh_0, sh_71, pu_as, Value.category, pu_bk, pu_kl, h1, h2]
  try simp only [s_ald, s_cv, s_iadd, s_iceq, s_ild, s_inc, s_push, s_sld, s_zret]
  try simp [nI_k1, nI_k2, nI_k3, nI_k4, nI_k5, nI_k6, nI_k7, a1, a2, a3, b1, b2, b3, c1, c2, c3, d1, d2, d3, e1, e2, e3, f1, f2, f3, sh_0, sh_71, pu_as, Value.category, pu_bk, pu_kl, h1, h2]
theorem cL_19 {Inv : pu_M → Prop} {L i : Nat} {xs : Nat → Int32} {M : pu_M} (hi : i + 7 ≤ L) (hL : L ≤ 3584) (h : pu_op Inv 143 303 [.int (xs (i + 1))]) (hM : Inv M) : ∃ M2, Inv M2 ∧ ∀ rl : pu_K, kL_law_889 L xs pu_r rl [some (.float 0), some (.ref 0), some (.ref 71), some (.int (nI i))] [] M = rl [some (.float 0), some (.ref 0), some (.ref 71), some (.int (nI (i + 7)))] [] M2 := by
  obtain ⟨v, M1, M2, h1, h2, h3⟩ := h M hM
  refine ⟨M2, h3, fun rl => ?_⟩
  obtain ⟨a1, a2, a3⟩ := pu_lix (k := 1) hi hL (by omega)
  obtain ⟨b1, b2, b3⟩ := pu_lix (k := 2) hi hL (by omega)
  obtain ⟨c1, c2, c3⟩ := pu_lix (k := 3) hi hL (by omega)
  obtain ⟨d1, d2, d3⟩ := pu_lix (k := 4) hi hL (by omega)
  obtain ⟨e1, e2, e3⟩ := pu_lix (k := 5) hi hL (by omega)
  obtain ⟨f1, f2, f3⟩ := pu_lix (k := 6) hi hL (by omega)
  simp [pu_as, Value.category] at h1 h2
  simp only [kL_law_889, kL_law_1591, s_ald, s_cv, s_iadd, s_iceq, s_ild, s_inc, s_push, s_sld, s_zret]
  simp [nI_k1, nI_k2, nI_k3, nI_k4, nI_k5, nI_k6, nI_k7, a1, a2, a3, b1, b2, b3, c1, c2, c3, d1, d2, d3, e1, e2, e3, f1, f2, f3, sh_0, sh_71, pu_as, Value.category, pu_bk, pu_kl, h1, h2]
  simp only [s_ald, s_cv, s_iadd, s_iceq, s_ild, s_inc, s_push, s_sld, s_zret]
  simp [nI_k1, nI_k2, nI_k3, nI_k4, nI_k5, nI_k6, nI_k7, a1, a2, a3, b1, b2, b3, c1, c2, c3, d1, d2, d3, e1, e2, e3, f1, f2, f3, sh_0, sh_71, pu_as, Value.category, pu_bk, pu_kl, h1, h2]
  try simp only [s_ald, s_cv, s_iadd, s_iceq, s_ild, s_inc, s_push, s_sld, s_zret]
  try simp [nI_k1, nI_k2, nI_k3, nI_k4, nI_k5, nI_k6, nI_k7, a1, a2, a3, b1, b2, b3, c1, c2, c3, d1, d2, d3, e1, e2, e3, f1, f2, f3, sh_0, sh_71, pu_as, Value.category, pu_bk, pu_kl, h1, h2]
theorem cL_20 {Inv : pu_M → Prop} {L i : Nat} {xs : Nat → Int32} {M : pu_M} (hi : i + 7 ≤ L) (hL : L ≤ 3584) (h : pu_op Inv 144 330 [.int (xs (i + 1)), .int (xs (i + 2))]) (hM : Inv M) : ∃ M2, Inv M2 ∧ ∀ rl : pu_K, kL_law_912 L xs pu_r rl [some (.float 0), some (.ref 0), some (.ref 71), some (.int (nI i))] [] M = rl [some (.float 0), some (.ref 0), some (.ref 71), some (.int (nI (i + 7)))] [] M2 := by
  obtain ⟨v, M1, M2, h1, h2, h3⟩ := h M hM
  refine ⟨M2, h3, fun rl => ?_⟩
  obtain ⟨a1, a2, a3⟩ := pu_lix (k := 1) hi hL (by omega)
  obtain ⟨b1, b2, b3⟩ := pu_lix (k := 2) hi hL (by omega)
  obtain ⟨c1, c2, c3⟩ := pu_lix (k := 3) hi hL (by omega)
  obtain ⟨d1, d2, d3⟩ := pu_lix (k := 4) hi hL (by omega)
  obtain ⟨e1, e2, e3⟩ := pu_lix (k := 5) hi hL (by omega)
  obtain ⟨f1, f2, f3⟩ := pu_lix (k := 6) hi hL (by omega)
  simp [pu_as, Value.category] at h1 h2
  simp only [kL_law_912, kL_law_940, kL_law_1591, s_ald, s_cv, s_iadd, s_iceq, s_ild, s_inc, s_push, s_sld, s_zret]
  simp [nI_k1, nI_k2, nI_k3, nI_k4, nI_k5, nI_k6, nI_k7, a1, a2, a3, b1, b2, b3, c1, c2, c3, d1, d2, d3, e1, e2, e3, f1, f2, f3, sh_0, sh_71, pu_as, Value.category, pu_bk, pu_kl, h1, h2]
  simp only [s_ald, s_cv, s_iadd, s_iceq, s_ild, s_inc, s_push, s_sld, s_zret]
  simp [nI_k1, nI_k2, nI_k3, nI_k4, nI_k5, nI_k6, nI_k7, a1, a2, a3, b1, b2, b3, c1, c2, c3, d1, d2, d3, e1, e2, e3, f1, f2, f3, sh_0, sh_71, pu_as, Value.category, pu_bk, pu_kl, h1, h2]
  try simp only [s_ald, s_cv, s_iadd, s_iceq, s_ild, s_inc, s_push, s_sld, s_zret]
  try simp [nI_k1, nI_k2, nI_k3, nI_k4, nI_k5, nI_k6, nI_k7, a1, a2, a3, b1, b2, b3, c1, c2, c3, d1, d2, d3, e1, e2, e3, f1, f2, f3, sh_0, sh_71, pu_as, Value.category, pu_bk, pu_kl, h1, h2]
theorem cL_21 {Inv : pu_M → Prop} {L i : Nat} {xs : Nat → Int32} {M : pu_M} (hi : i + 7 ≤ L) (hL : L ≤ 3584) (h : pu_op Inv 146 331 [.int (xs (i + 1)), .int (xs (i + 2))]) (hM : Inv M) : ∃ M2, Inv M2 ∧ ∀ rl : pu_K, kL_law_945 L xs pu_r rl [some (.float 0), some (.ref 0), some (.ref 71), some (.int (nI i))] [] M = rl [some (.float 0), some (.ref 0), some (.ref 71), some (.int (nI (i + 7)))] [] M2 := by
  obtain ⟨v, M1, M2, h1, h2, h3⟩ := h M hM
  refine ⟨M2, h3, fun rl => ?_⟩
  obtain ⟨a1, a2, a3⟩ := pu_lix (k := 1) hi hL (by omega)
  obtain ⟨b1, b2, b3⟩ := pu_lix (k := 2) hi hL (by omega)
  obtain ⟨c1, c2, c3⟩ := pu_lix (k := 3) hi hL (by omega)
  obtain ⟨d1, d2, d3⟩ := pu_lix (k := 4) hi hL (by omega)
  obtain ⟨e1, e2, e3⟩ := pu_lix (k := 5) hi hL (by omega)
  obtain ⟨f1, f2, f3⟩ := pu_lix (k := 6) hi hL (by omega)
  simp [pu_as, Value.category] at h1 h2
  simp only [kL_law_945, kL_law_973, kL_law_1591, s_ald, s_cv, s_iadd, s_iceq, s_ild, s_inc, s_push, s_sld, s_zret]
  simp [nI_k1, nI_k2, nI_k3, nI_k4, nI_k5, nI_k6, nI_k7, a1, a2, a3, b1, b2, b3, c1, c2, c3, d1, d2, d3, e1, e2, e3, f1, f2, f3, sh_0, sh_71, pu_as, Value.category, pu_bk, pu_kl, h1, h2]
  simp only [s_ald, s_cv, s_iadd, s_iceq, s_ild, s_inc, s_push, s_sld, s_zret]
  simp [nI_k1, nI_k2, nI_k3, nI_k4, nI_k5, nI_k6, nI_k7, a1, a2, a3, b1, b2, b3, c1, c2, c3, d1, d2, d3, e1, e2, e3, f1, f2, f3, sh_0, sh_71, pu_as, Value.category, pu_bk, pu_kl, h1, h2]
  try simp only [s_ald, s_cv, s_iadd, s_iceq, s_ild, s_inc, s_push, s_sld, s_zret]
  try simp [nI_k1, nI_k2, nI_k3, nI_k4, nI_k5, nI_k6, nI_k7, a1, a2, a3, b1, b2, b3, c1, c2, c3, d1, d2, d3, e1, e2, e3, f1, f2, f3, sh_0, sh_71, pu_as, Value.category, pu_bk, pu_kl, h1, h2]
theorem cL_22 {Inv : pu_M → Prop} {L i : Nat} {xs : Nat → Int32} {M : pu_M} (hi : i + 7 ≤ L) (hL : L ≤ 3584) (h : pu_op Inv 149 333 [.int (xs (i + 1)), .int (xs (i + 2)), .int (xs (i + 3)), .int (xs (i + 4))]) (hM : Inv M) : ∃ M2, Inv M2 ∧ ∀ rl : pu_K, kL_law_978 L xs pu_r rl [some (.float 0), some (.ref 0), some (.ref 71), some (.int (nI i))] [] M = rl [some (.float 0), some (.ref 0), some (.ref 71), some (.int (nI (i + 7)))] [] M2 := by
  obtain ⟨v, M1, M2, h1, h2, h3⟩ := h M hM
  refine ⟨M2, h3, fun rl => ?_⟩
  obtain ⟨a1, a2, a3⟩ := pu_lix (k := 1) hi hL (by omega)
  obtain ⟨b1, b2, b3⟩ := pu_lix (k := 2) hi hL (by omega)
  obtain ⟨c1, c2, c3⟩ := pu_lix (k := 3) hi hL (by omega)
  obtain ⟨d1, d2, d3⟩ := pu_lix (k := 4) hi hL (by omega)
  obtain ⟨e1, e2, e3⟩ := pu_lix (k := 5) hi hL (by omega)
  obtain ⟨f1, f2, f3⟩ := pu_lix (k := 6) hi hL (by omega)
  simp [pu_as, Value.category] at h1 h2
  simp only [kL_law_978, kL_law_1004, kL_law_1591, s_ald, s_cv, s_iadd, s_iceq, s_ild, s_inc, s_push, s_sld, s_zret]
  simp [nI_k1, nI_k2, nI_k3, nI_k4, nI_k5, nI_k6, nI_k7, a1, a2, a3, b1, b2, b3, c1, c2, c3, d1, d2, d3, e1, e2, e3, f1, f2, f3, sh_0, sh_71, pu_as, Value.category, pu_bk, pu_kl, h1, h2]
  simp only [s_ald, s_cv, s_iadd, s_iceq, s_ild, s_inc, s_push, s_sld, s_zret]
  simp [nI_k1, nI_k2, nI_k3, nI_k4, nI_k5, nI_k6, nI_k7, a1, a2, a3, b1, b2, b3, c1, c2, c3, d1, d2, d3, e1, e2, e3, f1, f2, f3, sh_0, sh_71, pu_as, Value.category, pu_bk, pu_kl, h1, h2]
  try simp only [s_ald, s_cv, s_iadd, s_iceq, s_ild, s_inc, s_push, s_sld, s_zret]
  try simp [nI_k1, nI_k2, nI_k3, nI_k4, nI_k5, nI_k6, nI_k7, a1, a2, a3, b1, b2, b3, c1, c2, c3, d1, d2, d3, e1, e2, e3, f1, f2, f3, sh_0, sh_71, pu_as, Value.category, pu_bk, pu_kl, h1, h2]
theorem cL_23 {Inv : pu_M → Prop} {L i : Nat} {xs : Nat → Int32} {M : pu_M} (hi : i + 7 ≤ L) (hL : L ≤ 3584) (h : pu_op Inv 164 338 [.int (xs (i + 1)), .int (xs (i + 2)), .int (xs (i + 3))]) (hM : Inv M) : ∃ M2, Inv M2 ∧ ∀ rl : pu_K, kL_law_1031 L xs pu_r rl [some (.float 0), some (.ref 0), some (.ref 71), some (.int (nI i))] [] M = rl [some (.float 0), some (.ref 0), some (.ref 71), some (.int (nI (i + 7)))] [] M2 := by
  obtain ⟨v, M1, M2, h1, h2, h3⟩ := h M hM
  refine ⟨M2, h3, fun rl => ?_⟩
  obtain ⟨a1, a2, a3⟩ := pu_lix (k := 1) hi hL (by omega)
  obtain ⟨b1, b2, b3⟩ := pu_lix (k := 2) hi hL (by omega)
  obtain ⟨c1, c2, c3⟩ := pu_lix (k := 3) hi hL (by omega)
  obtain ⟨d1, d2, d3⟩ := pu_lix (k := 4) hi hL (by omega)
  obtain ⟨e1, e2, e3⟩ := pu_lix (k := 5) hi hL (by omega)
  obtain ⟨f1, f2, f3⟩ := pu_lix (k := 6) hi hL (by omega)
  simp [pu_as, Value.category] at h1 h2
  simp only [kL_law_1031, kL_law_1057, kL_law_1591, s_ald, s_cv, s_iadd, s_iceq, s_ild, s_inc, s_push, s_sld, s_zret]
  simp [nI_k1, nI_k2, nI_k3, nI_k4, nI_k5, nI_k6, nI_k7, a1, a2, a3, b1, b2, b3, c1, c2, c3, d1, d2, d3, e1, e2, e3, f1, f2, f3, sh_0, sh_71, pu_as, Value.category, pu_bk, pu_kl, h1, h2]
  simp only [s_ald, s_cv, s_iadd, s_iceq, s_ild, s_inc, s_push, s_sld, s_zret]
  simp [nI_k1, nI_k2, nI_k3, nI_k4, nI_k5, nI_k6, nI_k7, a1, a2, a3, b1, b2, b3, c1, c2, c3, d1, d2, d3, e1, e2, e3, f1, f2, f3, sh_0, sh_71, pu_as, Value.category, pu_bk, pu_kl, h1, h2]
  try simp only [s_ald, s_cv, s_iadd, s_iceq, s_ild, s_inc, s_push, s_sld, s_zret]
  try simp [nI_k1, nI_k2, nI_k3, nI_k4, nI_k5, nI_k6, nI_k7, a1, a2, a3, b1, b2, b3, c1, c2, c3, d1, d2, d3, e1, e2, e3, f1, f2, f3, sh_0, sh_71, pu_as, Value.category, pu_bk, pu_kl, h1, h2]
theorem cL_24 {Inv : pu_M → Prop} {L i : Nat} {xs : Nat → Int32} {M : pu_M} (hi : i + 7 ≤ L) (hL : L ≤ 3584) (h : pu_op Inv 183 324 [.int (xs (i + 1))]) (hM : Inv M) : ∃ M2, Inv M2 ∧ ∀ rl : pu_K, kL_law_1074 L xs pu_r rl [some (.float 0), some (.ref 0), some (.ref 71), some (.int (nI i))] [] M = rl [some (.float 0), some (.ref 0), some (.ref 71), some (.int (nI (i + 7)))] [] M2 := by
  obtain ⟨v, M1, M2, h1, h2, h3⟩ := h M hM
  refine ⟨M2, h3, fun rl => ?_⟩
  obtain ⟨a1, a2, a3⟩ := pu_lix (k := 1) hi hL (by omega)
  obtain ⟨b1, b2, b3⟩ := pu_lix (k := 2) hi hL (by omega)
  obtain ⟨c1, c2, c3⟩ := pu_lix (k := 3) hi hL (by omega)
  obtain ⟨d1, d2, d3⟩ := pu_lix (k := 4) hi hL (by omega)
  obtain ⟨e1, e2, e3⟩ := pu_lix (k := 5) hi hL (by omega)
  obtain ⟨f1, f2, f3⟩ := pu_lix (k := 6) hi hL (by omega)
  simp [pu_as, Value.category] at h1 h2
  simp only [kL_law_1074, kL_law_1591, s_ald, s_cv, s_iadd, s_iceq, s_ild, s_inc, s_push, s_sld, s_zret]
  simp [nI_k1, nI_k2, nI_k3, nI_k4, nI_k5, nI_k6, nI_k7, a1, a2, a3, b1, b2, b3, c1, c2, c3, d1, d2, d3, e1, e2, e3, f1, f2, f3, sh_0, sh_71, pu_as, Value.category, pu_bk, pu_kl, h1, h2]
  simp only [s_ald, s_cv, s_iadd, s_iceq, s_ild, s_inc, s_push, s_sld, s_zret]
  simp [nI_k1, nI_k2, nI_k3, nI_k4, nI_k5, nI_k6, nI_k7, a1, a2, a3, b1, b2, b3, c1, c2, c3, d1, d2, d3, e1, e2, e3, f1, f2, f3, sh_0, sh_71, pu_as, Value.category, pu_bk, pu_kl, h1, h2]
  try simp only [s_ald, s_cv, s_iadd, s_iceq, s_ild, s_inc, s_push, s_sld, s_zret]
  try simp [nI_k1, nI_k2, nI_k3, nI_k4, nI_k5, nI_k6, nI_k7, a1, a2, a3, b1, b2, b3, c1, c2, c3, d1, d2, d3, e1, e2, e3, f1, f2, f3, sh_0, sh_71, pu_as, Value.category, pu_bk, pu_kl, h1, h2]
theorem cL_25 {Inv : pu_M → Prop} {L i : Nat} {xs : Nat → Int32} {M : pu_M} (hi : i + 7 ≤ L) (hL : L ≤ 3584) (h : pu_op Inv 184 325 []) (hM : Inv M) : ∃ M2, Inv M2 ∧ ∀ rl : pu_K, kL_law_1097 L xs pu_r rl [some (.float 0), some (.ref 0), some (.ref 71), some (.int (nI i))] [] M = rl [some (.float 0), some (.ref 0), some (.ref 71), some (.int (nI (i + 7)))] [] M2 := by
  obtain ⟨v, M1, M2, h1, h2, h3⟩ := h M hM
  refine ⟨M2, h3, fun rl => ?_⟩
  obtain ⟨a1, a2, a3⟩ := pu_lix (k := 1) hi hL (by omega)
  obtain ⟨b1, b2, b3⟩ := pu_lix (k := 2) hi hL (by omega)
  obtain ⟨c1, c2, c3⟩ := pu_lix (k := 3) hi hL (by omega)
  obtain ⟨d1, d2, d3⟩ := pu_lix (k := 4) hi hL (by omega)
  obtain ⟨e1, e2, e3⟩ := pu_lix (k := 5) hi hL (by omega)
  obtain ⟨f1, f2, f3⟩ := pu_lix (k := 6) hi hL (by omega)
  simp [pu_as, Value.category] at h1 h2
  simp only [kL_law_1097, kL_law_1591, s_ald, s_cv, s_iceq, s_inc, s_push, s_zret]
  simp [nI_k1, nI_k2, nI_k3, nI_k4, nI_k5, nI_k6, nI_k7, a1, a2, a3, b1, b2, b3, c1, c2, c3, d1, d2, d3, e1, e2, e3, f1, f2, f3, sh_0, sh_71, pu_as, Value.category, pu_bk, pu_kl, h1, h2]
  simp only [s_ald, s_cv, s_iceq, s_inc, s_push, s_zret]
  simp [nI_k1, nI_k2, nI_k3, nI_k4, nI_k5, nI_k6, nI_k7, a1, a2, a3, b1, b2, b3, c1, c2, c3, d1, d2, d3, e1, e2, e3, f1, f2, f3, sh_0, sh_71, pu_as, Value.category, pu_bk, pu_kl, h1, h2]
  try simp only [s_ald, s_cv, s_iceq, s_inc, s_push, s_zret]
  try simp [nI_k1, nI_k2, nI_k3, nI_k4, nI_k5, nI_k6, nI_k7, a1, a2, a3, b1, b2, b3, c1, c2, c3, d1, d2, d3, e1, e2, e3, f1, f2, f3, sh_0, sh_71, pu_as, Value.category, pu_bk, pu_kl, h1, h2]
theorem cL_26 {Inv : pu_M → Prop} {L i : Nat} {xs : Nat → Int32} {M : pu_M} (hi : i + 7 ≤ L) (hL : L ≤ 3584) (h : pu_op Inv 185 326 [.int (xs (i + 1)), .int (xs (i + 2))]) (hM : Inv M) : ∃ M2, Inv M2 ∧ ∀ rl : pu_K, kL_law_1110 L xs pu_r rl [some (.float 0), some (.ref 0), some (.ref 71), some (.int (nI i))] [] M = rl [some (.float 0), some (.ref 0), some (.ref 71), some (.int (nI (i + 7)))] [] M2 := by
  obtain ⟨v, M1, M2, h1, h2, h3⟩ := h M hM
  refine ⟨M2, h3, fun rl => ?_⟩
  obtain ⟨a1, a2, a3⟩ := pu_lix (k := 1) hi hL (by omega)
  obtain ⟨b1, b2, b3⟩ := pu_lix (k := 2) hi hL (by omega)
  obtain ⟨c1, c2, c3⟩ := pu_lix (k := 3) hi hL (by omega)
  obtain ⟨d1, d2, d3⟩ := pu_lix (k := 4) hi hL (by omega)
  obtain ⟨e1, e2, e3⟩ := pu_lix (k := 5) hi hL (by omega)
  obtain ⟨f1, f2, f3⟩ := pu_lix (k := 6) hi hL (by omega)
  simp [pu_as, Value.category] at h1 h2
  simp only [kL_law_1110, kL_law_1138, kL_law_1591, s_ald, s_cv, s_iadd, s_iceq, s_ild, s_inc, s_push, s_sld, s_zret]
  simp [nI_k1, nI_k2, nI_k3, nI_k4, nI_k5, nI_k6, nI_k7, a1, a2, a3, b1, b2, b3, c1, c2, c3, d1, d2, d3, e1, e2, e3, f1, f2, f3, sh_0, sh_71, pu_as, Value.category, pu_bk, pu_kl, h1, h2]
  simp only [s_ald, s_cv, s_iadd, s_iceq, s_ild, s_inc, s_push, s_sld, s_zret]
  simp [nI_k1, nI_k2, nI_k3, nI_k4, nI_k5, nI_k6, nI_k7, a1, a2, a3, b1, b2, b3, c1, c2, c3, d1, d2, d3, e1, e2, e3, f1, f2, f3, sh_0, sh_71, pu_as, Value.category, pu_bk, pu_kl, h1, h2]
  try simp only [s_ald, s_cv, s_iadd, s_iceq, s_ild, s_inc, s_push, s_sld, s_zret]
  try simp [nI_k1, nI_k2, nI_k3, nI_k4, nI_k5, nI_k6, nI_k7, a1, a2, a3, b1, b2, b3, c1, c2, c3, d1, d2, d3, e1, e2, e3, f1, f2, f3, sh_0, sh_71, pu_as, Value.category, pu_bk, pu_kl, h1, h2]
theorem cL_27 {Inv : pu_M → Prop} {L i : Nat} {xs : Nat → Int32} {M : pu_M} (hi : i + 7 ≤ L) (hL : L ≤ 3584) (h : pu_op Inv 190 327 [.int (xs (i + 1))]) (hM : Inv M) : ∃ M2, Inv M2 ∧ ∀ rl : pu_K, kL_law_1143 L xs pu_r rl [some (.float 0), some (.ref 0), some (.ref 71), some (.int (nI i))] [] M = rl [some (.float 0), some (.ref 0), some (.ref 71), some (.int (nI (i + 7)))] [] M2 := by
  obtain ⟨v, M1, M2, h1, h2, h3⟩ := h M hM
  refine ⟨M2, h3, fun rl => ?_⟩
  obtain ⟨a1, a2, a3⟩ := pu_lix (k := 1) hi hL (by omega)
  obtain ⟨b1, b2, b3⟩ := pu_lix (k := 2) hi hL (by omega)
  obtain ⟨c1, c2, c3⟩ := pu_lix (k := 3) hi hL (by omega)
  obtain ⟨d1, d2, d3⟩ := pu_lix (k := 4) hi hL (by omega)
  obtain ⟨e1, e2, e3⟩ := pu_lix (k := 5) hi hL (by omega)
  obtain ⟨f1, f2, f3⟩ := pu_lix (k := 6) hi hL (by omega)
  simp [pu_as, Value.category] at h1 h2
  simp only [kL_law_1143, kL_law_1591, s_ald, s_cv, s_iadd, s_iceq, s_ild, s_inc, s_push, s_sld, s_zret]
  simp [nI_k1, nI_k2, nI_k3, nI_k4, nI_k5, nI_k6, nI_k7, a1, a2, a3, b1, b2, b3, c1, c2, c3, d1, d2, d3, e1, e2, e3, f1, f2, f3, sh_0, sh_71, pu_as, Value.category, pu_bk, pu_kl, h1, h2]
  simp only [s_ald, s_cv, s_iadd, s_iceq, s_ild, s_inc, s_push, s_sld, s_zret]
  simp [nI_k1, nI_k2, nI_k3, nI_k4, nI_k5, nI_k6, nI_k7, a1, a2, a3, b1, b2, b3, c1, c2, c3, d1, d2, d3, e1, e2, e3, f1, f2, f3, sh_0, sh_71, pu_as, Value.category, pu_bk, pu_kl, h1, h2]
  try simp only [s_ald, s_cv, s_iadd, s_iceq, s_ild, s_inc, s_push, s_sld, s_zret]
  try simp [nI_k1, nI_k2, nI_k3, nI_k4, nI_k5, nI_k6, nI_k7, a1, a2, a3, b1, b2, b3, c1, c2, c3, d1, d2, d3, e1, e2, e3, f1, f2, f3, sh_0, sh_71, pu_as, Value.category, pu_bk, pu_kl, h1, h2]
theorem cL_28 {Inv : pu_M → Prop} {L i : Nat} {xs : Nat → Int32} {M : pu_M} (hi : i + 7 ≤ L) (hL : L ≤ 3584) (h : pu_op Inv 191 328 []) (hM : Inv M) : ∃ M2, Inv M2 ∧ ∀ rl : pu_K, kL_law_1166 L xs pu_r rl [some (.float 0), some (.ref 0), some (.ref 71), some (.int (nI i))] [] M = rl [some (.float 0), some (.ref 0), some (.ref 71), some (.int (nI (i + 7)))] [] M2 := by
  obtain ⟨v, M1, M2, h1, h2, h3⟩ := h M hM
  refine ⟨M2, h3, fun rl => ?_⟩
  obtain ⟨a1, a2, a3⟩ := pu_lix (k := 1) hi hL (by omega)
  obtain ⟨b1, b2, b3⟩ := pu_lix (k := 2) hi hL (by omega)
  obtain ⟨c1, c2, c3⟩ := pu_lix (k := 3) hi hL (by omega)
  obtain ⟨d1, d2, d3⟩ := pu_lix (k := 4) hi hL (by omega)
  obtain ⟨e1, e2, e3⟩ := pu_lix (k := 5) hi hL (by omega)
  obtain ⟨f1, f2, f3⟩ := pu_lix (k := 6) hi hL (by omega)
  simp [pu_as, Value.category] at h1 h2
  simp only [kL_law_1166, kL_law_1591, s_ald, s_cv, s_iceq, s_inc, s_push, s_zret]
  simp [nI_k1, nI_k2, nI_k3, nI_k4, nI_k5, nI_k6, nI_k7, a1, a2, a3, b1, b2, b3, c1, c2, c3, d1, d2, d3, e1, e2, e3, f1, f2, f3, sh_0, sh_71, pu_as, Value.category, pu_bk, pu_kl, h1, h2]
  simp only [s_ald, s_cv, s_iceq, s_inc, s_push, s_zret]
  simp [nI_k1, nI_k2, nI_k3, nI_k4, nI_k5, nI_k6, nI_k7, a1, a2, a3, b1, b2, b3, c1, c2, c3, d1, d2, d3, e1, e2, e3, f1, f2, f3, sh_0, sh_71, pu_as, Value.category, pu_bk, pu_kl, h1, h2]
  try simp only [s_ald, s_cv, s_iceq, s_inc, s_push, s_zret]
  try simp [nI_k1, nI_k2, nI_k3, nI_k4, nI_k5, nI_k6, nI_k7, a1, a2, a3, b1, b2, b3, c1, c2, c3, d1, d2, d3, e1, e2, e3, f1, f2, f3, sh_0, sh_71, pu_as, Value.category, pu_bk, pu_kl, h1, h2]
theorem cL_29 {Inv : pu_M → Prop} {L i : Nat} {xs : Nat → Int32} {M : pu_M} (hi : i + 7 ≤ L) (hL : L ≤ 3584) (h : pu_op Inv 196 340 [.int (xs (i + 1)), .int (xs (i + 2)), .int (xs (i + 3))]) (hM : Inv M) : ∃ M2, Inv M2 ∧ ∀ rl : pu_K, kL_law_1179 L xs pu_r rl [some (.float 0), some (.ref 0), some (.ref 71), some (.int (nI i))] [] M = rl [some (.float 0), some (.ref 0), some (.ref 71), some (.int (nI (i + 7)))] [] M2 := by
  obtain ⟨v, M1, M2, h1, h2, h3⟩ := h M hM
  refine ⟨M2, h3, fun rl => ?_⟩
  obtain ⟨a1, a2, a3⟩ := pu_lix (k := 1) hi hL (by omega)
  obtain ⟨b1, b2, b3⟩ := pu_lix (k := 2) hi hL (by omega)
  obtain ⟨c1, c2, c3⟩ := pu_lix (k := 3) hi hL (by omega)
  obtain ⟨d1, d2, d3⟩ := pu_lix (k := 4) hi hL (by omega)
  obtain ⟨e1, e2, e3⟩ := pu_lix (k := 5) hi hL (by omega)
  obtain ⟨f1, f2, f3⟩ := pu_lix (k := 6) hi hL (by omega)
  simp [pu_as, Value.category] at h1 h2
  simp only [kL_law_1179, kL_law_1205, kL_law_1591, s_ald, s_cv, s_iadd, s_iceq, s_ild, s_inc, s_push, s_sld, s_zret]
  simp [nI_k1, nI_k2, nI_k3, nI_k4, nI_k5, nI_k6, nI_k7, a1, a2, a3, b1, b2, b3, c1, c2, c3, d1, d2, d3, e1, e2, e3, f1, f2, f3, sh_0, sh_71, pu_as, Value.category, pu_bk, pu_kl, h1, h2]
  simp only [s_ald, s_cv, s_iadd, s_iceq, s_ild, s_inc, s_push, s_sld, s_zret]
  simp [nI_k1, nI_k2, nI_k3, nI_k4, nI_k5, nI_k6, nI_k7, a1, a2, a3, b1, b2, b3, c1, c2, c3, d1, d2, d3, e1, e2, e3, f1, f2, f3, sh_0, sh_71, pu_as, Value.category, pu_bk, pu_kl, h1, h2]
  try simp only [s_ald, s_cv, s_iadd, s_iceq, s_ild, s_inc, s_push, s_sld, s_zret]
  try simp [nI_k1, nI_k2, nI_k3, nI_k4, nI_k5, nI_k6, nI_k7, a1, a2, a3, b1, b2, b3, c1, c2, c3, d1, d2, d3, e1, e2, e3, f1, f2, f3, sh_0, sh_71, pu_as, Value.category, pu_bk, pu_kl, h1, h2]
theorem cL_30 {Inv : pu_M → Prop} {L i : Nat} {xs : Nat → Int32} {M : pu_M} (hi : i + 7 ≤ L) (hL : L ≤ 3584) (h : pu_op Inv 197 341 [.int (xs (i + 1)), .int (xs (i + 2))]) (hM : Inv M) : ∃ M2, Inv M2 ∧ ∀ rl : pu_K, kL_law_1222 L xs pu_r rl [some (.float 0), some (.ref 0), some (.ref 71), some (.int (nI i))] [] M = rl [some (.float 0), some (.ref 0), some (.ref 71), some (.int (nI (i + 7)))] [] M2 := by
  obtain ⟨v, M1, M2, h1, h2, h3⟩ := h M hM
  refine ⟨M2, h3, fun rl => ?_⟩
  obtain ⟨a1, a2, a3⟩ := pu_lix (k := 1) hi hL (by omega)
  obtain ⟨b1, b2, b3⟩ := pu_lix (k := 2) hi hL (by omega)
  obtain ⟨c1, c2, c3⟩ := pu_lix (k := 3) hi hL (by omega)
  obtain ⟨d1, d2, d3⟩ := pu_lix (k := 4) hi hL (by omega)
  obtain ⟨e1, e2, e3⟩ := pu_lix (k := 5) hi hL (by omega)
  obtain ⟨f1, f2, f3⟩ := pu_lix (k := 6) hi hL (by omega)
  simp [pu_as, Value.category] at h1 h2
  simp only [kL_law_1222, kL_law_1250, kL_law_1591, s_ald, s_cv, s_iadd, s_iceq, s_ild, s_inc, s_push, s_sld, s_zret]
  simp [nI_k1, nI_k2, nI_k3, nI_k4, nI_k5, nI_k6, nI_k7, a1, a2, a3, b1, b2, b3, c1, c2, c3, d1, d2, d3, e1, e2, e3, f1, f2, f3, sh_0, sh_71, pu_as, Value.category, pu_bk, pu_kl, h1, h2]
  simp only [s_ald, s_cv, s_iadd, s_iceq, s_ild, s_inc, s_push, s_sld, s_zret]
  simp [nI_k1, nI_k2, nI_k3, nI_k4, nI_k5, nI_k6, nI_k7, a1, a2, a3, b1, b2, b3, c1, c2, c3, d1, d2, d3, e1, e2, e3, f1, f2, f3, sh_0, sh_71, pu_as, Value.category, pu_bk, pu_kl, h1, h2]
  try simp only [s_ald, s_cv, s_iadd, s_iceq, s_ild, s_inc, s_push, s_sld, s_zret]
  try simp [nI_k1, nI_k2, nI_k3, nI_k4, nI_k5, nI_k6, nI_k7, a1, a2, a3, b1, b2, b3, c1, c2, c3, d1, d2, d3, e1, e2, e3, f1, f2, f3, sh_0, sh_71, pu_as, Value.category, pu_bk, pu_kl, h1, h2]
theorem cL_31 {Inv : pu_M → Prop} {L i : Nat} {xs : Nat → Int32} {M : pu_M} (hi : i + 7 ≤ L) (hL : L ≤ 3584) (h : pu_op Inv 198 286 [.int (xs (i + 1)), .int (xs (i + 2)), .int (xs (i + 3))]) (hM : Inv M) : ∃ M2, Inv M2 ∧ ∀ rl : pu_K, kL_law_1255 L xs pu_r rl [some (.float 0), some (.ref 0), some (.ref 71), some (.int (nI i))] [] M = rl [some (.float 0), some (.ref 0), some (.ref 71), some (.int (nI (i + 7)))] [] M2 := by
  obtain ⟨v, M1, M2, h1, h2, h3⟩ := h M hM
  refine ⟨M2, h3, fun rl => ?_⟩
  obtain ⟨a1, a2, a3⟩ := pu_lix (k := 1) hi hL (by omega)
  obtain ⟨b1, b2, b3⟩ := pu_lix (k := 2) hi hL (by omega)
  obtain ⟨c1, c2, c3⟩ := pu_lix (k := 3) hi hL (by omega)
  obtain ⟨d1, d2, d3⟩ := pu_lix (k := 4) hi hL (by omega)
  obtain ⟨e1, e2, e3⟩ := pu_lix (k := 5) hi hL (by omega)
  obtain ⟨f1, f2, f3⟩ := pu_lix (k := 6) hi hL (by omega)
  simp [pu_as, Value.category] at h1 h2
  simp only [kL_law_1255, kL_law_1281, kL_law_1591, s_ald, s_cv, s_iadd, s_iceq, s_ild, s_inc, s_push, s_sld, s_zret]
  simp [nI_k1, nI_k2, nI_k3, nI_k4, nI_k5, nI_k6, nI_k7, a1, a2, a3, b1, b2, b3, c1, c2, c3, d1, d2, d3, e1, e2, e3, f1, f2, f3, sh_0, sh_71, pu_as, Value.category, pu_bk, pu_kl, h1, h2]
  simp only [s_ald, s_cv, s_iadd, s_iceq, s_ild, s_inc, s_push, s_sld, s_zret]
  simp [nI_k1, nI_k2, nI_k3, nI_k4, nI_k5, nI_k6, nI_k7, a1, a2, a3, b1, b2, b3, c1, c2, c3, d1, d2, d3, e1, e2, e3, f1, f2, f3, sh_0, sh_71, pu_as, Value.category, pu_bk, pu_kl, h1, h2]
  try simp only [s_ald, s_cv, s_iadd, s_iceq, s_ild, s_inc, s_push, s_sld, s_zret]
  try simp [nI_k1, nI_k2, nI_k3, nI_k4, nI_k5, nI_k6, nI_k7, a1, a2, a3, b1, b2, b3, c1, c2, c3, d1, d2, d3, e1, e2, e3, f1, f2, f3, sh_0, sh_71, pu_as, Value.category, pu_bk, pu_kl, h1, h2]
theorem cL_32 {Inv : pu_M → Prop} {L i : Nat} {xs : Nat → Int32} {M : pu_M} (hi : i + 7 ≤ L) (hL : L ≤ 3584) (h : pu_op Inv 200 343 [.int (xs (i + 1)), .int (xs (i + 2)), .int (xs (i + 3)), .int (xs (i + 4))]) (hM : Inv M) : ∃ M2, Inv M2 ∧ ∀ rl : pu_K, kL_law_1298 L xs pu_r rl [some (.float 0), some (.ref 0), some (.ref 71), some (.int (nI i))] [] M = rl [some (.float 0), some (.ref 0), some (.ref 71), some (.int (nI (i + 7)))] [] M2 := by
  obtain ⟨v, M1, M2, h1, h2, h3⟩ := h M hM
  refine ⟨M2, h3, fun rl => ?_⟩
  obtain ⟨a1, a2, a3⟩ := pu_lix (k := 1) hi hL (by omega)
  obtain ⟨b1, b2, b3⟩ := pu_lix (k := 2) hi hL (by omega)
  obtain ⟨c1, c2, c3⟩ := pu_lix (k := 3) hi hL (by omega)
  obtain ⟨d1, d2, d3⟩ := pu_lix (k := 4) hi hL (by omega)
  obtain ⟨e1, e2, e3⟩ := pu_lix (k := 5) hi hL (by omega)
  obtain ⟨f1, f2, f3⟩ := pu_lix (k := 6) hi hL (by omega)
  simp [pu_as, Value.category] at h1 h2
  simp only [kL_law_1298, kL_law_1324, kL_law_1591, s_ald, s_cv, s_iadd, s_iceq, s_ild, s_inc, s_push, s_sld, s_zret]
  simp [nI_k1, nI_k2, nI_k3, nI_k4, nI_k5, nI_k6, nI_k7, a1, a2, a3, b1, b2, b3, c1, c2, c3, d1, d2, d3, e1, e2, e3, f1, f2, f3, sh_0, sh_71, pu_as, Value.category, pu_bk, pu_kl, h1, h2]
  simp only [s_ald, s_cv, s_iadd, s_iceq, s_ild, s_inc, s_push, s_sld, s_zret]
  simp [nI_k1, nI_k2, nI_k3, nI_k4, nI_k5, nI_k6, nI_k7, a1, a2, a3, b1, b2, b3, c1, c2, c3, d1, d2, d3, e1, e2, e3, f1, f2, f3, sh_0, sh_71, pu_as, Value.category, pu_bk, pu_kl, h1, h2]
  try simp only [s_ald, s_cv, s_iadd, s_iceq, s_ild, s_inc, s_push, s_sld, s_zret]
  try simp [nI_k1, nI_k2, nI_k3, nI_k4, nI_k5, nI_k6, nI_k7, a1, a2, a3, b1, b2, b3, c1, c2, c3, d1, d2, d3, e1, e2, e3, f1, f2, f3, sh_0, sh_71, pu_as, Value.category, pu_bk, pu_kl, h1, h2]
theorem cL_33 {Inv : pu_M → Prop} {L i : Nat} {xs : Nat → Int32} {M : pu_M} (hi : i + 7 ≤ L) (hL : L ≤ 3584) (h : pu_op Inv 202 344 [.int (xs (i + 1)), .int (xs (i + 2))]) (hM : Inv M) : ∃ M2, Inv M2 ∧ ∀ rl : pu_K, kL_law_1351 L xs pu_r rl [some (.float 0), some (.ref 0), some (.ref 71), some (.int (nI i))] [] M = rl [some (.float 0), some (.ref 0), some (.ref 71), some (.int (nI (i + 7)))] [] M2 := by
  obtain ⟨v, M1, M2, h1, h2, h3⟩ := h M hM
  refine ⟨M2, h3, fun rl => ?_⟩
  obtain ⟨a1, a2, a3⟩ := pu_lix (k := 1) hi hL (by omega)
  obtain ⟨b1, b2, b3⟩ := pu_lix (k := 2) hi hL (by omega)
  obtain ⟨c1, c2, c3⟩ := pu_lix (k := 3) hi hL (by omega)
  obtain ⟨d1, d2, d3⟩ := pu_lix (k := 4) hi hL (by omega)
  obtain ⟨e1, e2, e3⟩ := pu_lix (k := 5) hi hL (by omega)
  obtain ⟨f1, f2, f3⟩ := pu_lix (k := 6) hi hL (by omega)
  simp [pu_as, Value.category] at h1 h2
  simp only [kL_law_1351, kL_law_1379, kL_law_1591, s_ald, s_cv, s_iadd, s_iceq, s_ild, s_inc, s_push, s_sld, s_zret]
  simp [nI_k1, nI_k2, nI_k3, nI_k4, nI_k5, nI_k6, nI_k7, a1, a2, a3, b1, b2, b3, c1, c2, c3, d1, d2, d3, e1, e2, e3, f1, f2, f3, sh_0, sh_71, pu_as, Value.category, pu_bk, pu_kl, h1, h2]
  simp only [s_ald, s_cv, s_iadd, s_iceq, s_ild, s_inc, s_push, s_sld, s_zret]
  simp [nI_k1, nI_k2, nI_k3, nI_k4, nI_k5, nI_k6, nI_k7, a1, a2, a3, b1, b2, b3, c1, c2, c3, d1, d2, d3, e1, e2, e3, f1, f2, f3, sh_0, sh_71, pu_as, Value.category, pu_bk, pu_kl, h1, h2]
  try simp only [s_ald, s_cv, s_iadd, s_iceq, s_ild, s_inc, s_push, s_sld, s_zret]
  try simp [nI_k1, nI_k2, nI_k3, nI_k4, nI_k5, nI_k6, nI_k7, a1, a2, a3, b1, b2, b3, c1, c2, c3, d1, d2, d3, e1, e2, e3, f1, f2, f3, sh_0, sh_71, pu_as, Value.category, pu_bk, pu_kl, h1, h2]
theorem cL_34 {Inv : pu_M → Prop} {L i : Nat} {xs : Nat → Int32} {M : pu_M} (hi : i + 7 ≤ L) (hL : L ≤ 3584) (h : pu_op Inv 209 349 [.int (xs (i + 1))]) (hM : Inv M) : ∃ M2, Inv M2 ∧ ∀ rl : pu_K, kL_law_1384 L xs pu_r rl [some (.float 0), some (.ref 0), some (.ref 71), some (.int (nI i))] [] M = rl [some (.float 0), some (.ref 0), some (.ref 71), some (.int (nI (i + 7)))] [] M2 := by
  obtain ⟨v, M1, M2, h1, h2, h3⟩ := h M hM
  refine ⟨M2, h3, fun rl => ?_⟩
  obtain ⟨a1, a2, a3⟩ := pu_lix (k := 1) hi hL (by omega)
  obtain ⟨b1, b2, b3⟩ := pu_lix (k := 2) hi hL (by omega)
  obtain ⟨c1, c2, c3⟩ := pu_lix (k := 3) hi hL (by omega)
  obtain ⟨d1, d2, d3⟩ := pu_lix (k := 4) hi hL (by omega)
  obtain ⟨e1, e2, e3⟩ := pu_lix (k := 5) hi hL (by omega)
  obtain ⟨f1, f2, f3⟩ := pu_lix (k := 6) hi hL (by omega)
  simp [pu_as, Value.category] at h1 h2
  simp only [kL_law_1384, kL_law_1591, s_ald, s_cv, s_iadd, s_iceq, s_ild, s_inc, s_push, s_sld, s_zret]
  simp [nI_k1, nI_k2, nI_k3, nI_k4, nI_k5, nI_k6, nI_k7, a1, a2, a3, b1, b2, b3, c1, c2, c3, d1, d2, d3, e1, e2, e3, f1, f2, f3, sh_0, sh_71, pu_as, Value.category, pu_bk, pu_kl, h1, h2]
  simp only [s_ald, s_cv, s_iadd, s_iceq, s_ild, s_inc, s_push, s_sld, s_zret]
  simp [nI_k1, nI_k2, nI_k3, nI_k4, nI_k5, nI_k6, nI_k7, a1, a2, a3, b1, b2, b3, c1, c2, c3, d1, d2, d3, e1, e2, e3, f1, f2, f3, sh_0, sh_71, pu_as, Value.category, pu_bk, pu_kl, h1, h2]
  try simp only [s_ald, s_cv, s_iadd, s_iceq, s_ild, s_inc, s_push, s_sld, s_zret]
  try simp [nI_k1, nI_k2, nI_k3, nI_k4, nI_k5, nI_k6, nI_k7, a1, a2, a3, b1, b2, b3, c1, c2, c3, d1, d2, d3, e1, e2, e3, f1, f2, f3, sh_0, sh_71, pu_as, Value.category, pu_bk, pu_kl, h1, h2]
theorem cL_35 {Inv : pu_M → Prop} {L i : Nat} {xs : Nat → Int32} {M : pu_M} (hi : i + 7 ≤ L) (hL : L ≤ 3584) (h : pu_op Inv 210 350 [.int (xs (i + 1))]) (hM : Inv M) : ∃ M2, Inv M2 ∧ ∀ rl : pu_K, kL_law_1407 L xs pu_r rl [some (.float 0), some (.ref 0), some (.ref 71), some (.int (nI i))] [] M = rl [some (.float 0), some (.ref 0), some (.ref 71), some (.int (nI (i + 7)))] [] M2 := by
  obtain ⟨v, M1, M2, h1, h2, h3⟩ := h M hM
  refine ⟨M2, h3, fun rl => ?_⟩
  obtain ⟨a1, a2, a3⟩ := pu_lix (k := 1) hi hL (by omega)
  obtain ⟨b1, b2, b3⟩ := pu_lix (k := 2) hi hL (by omega)
  obtain ⟨c1, c2, c3⟩ := pu_lix (k := 3) hi hL (by omega)
  obtain ⟨d1, d2, d3⟩ := pu_lix (k := 4) hi hL (by omega)
  obtain ⟨e1, e2, e3⟩ := pu_lix (k := 5) hi hL (by omega)
  obtain ⟨f1, f2, f3⟩ := pu_lix (k := 6) hi hL (by omega)
  simp [pu_as, Value.category] at h1 h2
  simp only [kL_law_1407, kL_law_1591, s_ald, s_cv, s_iadd, s_iceq, s_ild, s_inc, s_push, s_sld, s_zret]
  simp [nI_k1, nI_k2, nI_k3, nI_k4, nI_k5, nI_k6, nI_k7, a1, a2, a3, b1, b2, b3, c1, c2, c3, d1, d2, d3, e1, e2, e3, f1, f2, f3, sh_0, sh_71, pu_as, Value.category, pu_bk, pu_kl, h1, h2]
  simp only [s_ald, s_cv, s_iadd, s_iceq, s_ild, s_inc, s_push, s_sld, s_zret]
  simp [nI_k1, nI_k2, nI_k3, nI_k4, nI_k5, nI_k6, nI_k7, a1, a2, a3, b1, b2, b3, c1, c2, c3, d1, d2, d3, e1, e2, e3, f1, f2, f3, sh_0, sh_71, pu_as, Value.category, pu_bk, pu_kl, h1, h2]
  try simp only [s_ald, s_cv, s_iadd, s_iceq, s_ild, s_inc, s_push, s_sld, s_zret]
  try simp [nI_k1, nI_k2, nI_k3, nI_k4, nI_k5, nI_k6, nI_k7, a1, a2, a3, b1, b2, b3, c1, c2, c3, d1, d2, d3, e1, e2, e3, f1, f2, f3, sh_0, sh_71, pu_as, Value.category, pu_bk, pu_kl, h1, h2]
theorem cL_36 {Inv : pu_M → Prop} {L i : Nat} {xs : Nat → Int32} {M : pu_M} (hi : i + 7 ≤ L) (hL : L ≤ 3584) (h : pu_op Inv 212 329 [.int (xs (i + 1))]) (hM : Inv M) : ∃ M2, Inv M2 ∧ ∀ rl : pu_K, kL_law_1430 L xs pu_r rl [some (.float 0), some (.ref 0), some (.ref 71), some (.int (nI i))] [] M = rl [some (.float 0), some (.ref 0), some (.ref 71), some (.int (nI (i + 7)))] [] M2 := by
  obtain ⟨v, M1, M2, h1, h2, h3⟩ := h M hM
  refine ⟨M2, h3, fun rl => ?_⟩
  obtain ⟨a1, a2, a3⟩ := pu_lix (k := 1) hi hL (by omega)
  obtain ⟨b1, b2, b3⟩ := pu_lix (k := 2) hi hL (by omega)
  obtain ⟨c1, c2, c3⟩ := pu_lix (k := 3) hi hL (by omega)
  obtain ⟨d1, d2, d3⟩ := pu_lix (k := 4) hi hL (by omega)
  obtain ⟨e1, e2, e3⟩ := pu_lix (k := 5) hi hL (by omega)
  obtain ⟨f1, f2, f3⟩ := pu_lix (k := 6) hi hL (by omega)
  simp [pu_as, Value.category] at h1 h2
  simp only [kL_law_1430, kL_law_1591, s_ald, s_cv, s_iadd, s_iceq, s_ild, s_inc, s_push, s_sld, s_zret]
  simp [nI_k1, nI_k2, nI_k3, nI_k4, nI_k5, nI_k6, nI_k7, a1, a2, a3, b1, b2, b3, c1, c2, c3, d1, d2, d3, e1, e2, e3, f1, f2, f3, sh_0, sh_71, pu_as, Value.category, pu_bk, pu_kl, h1, h2]
  simp only [s_ald, s_cv, s_iadd, s_iceq, s_ild, s_inc, s_push, s_sld, s_zret]
  simp [nI_k1, nI_k2, nI_k3, nI_k4, nI_k5, nI_k6, nI_k7, a1, a2, a3, b1, b2, b3, c1, c2, c3, d1, d2, d3, e1, e2, e3, f1, f2, f3, sh_0, sh_71, pu_as, Value.category, pu_bk, pu_kl, h1, h2]
  try simp only [s_ald, s_cv, s_iadd, s_iceq, s_ild, s_inc, s_push, s_sld, s_zret]
  try simp [nI_k1, nI_k2, nI_k3, nI_k4, nI_k5, nI_k6, nI_k7, a1, a2, a3, b1, b2, b3, c1, c2, c3, d1, d2, d3, e1, e2, e3, f1, f2, f3, sh_0, sh_71, pu_as, Value.category, pu_bk, pu_kl, h1, h2]
theorem cL_37 {Inv : pu_M → Prop} {L i : Nat} {xs : Nat → Int32} {M : pu_M} (hi : i + 7 ≤ L) (hL : L ≤ 3584) (h : pu_op Inv 216 351 []) (hM : Inv M) : ∃ M2, Inv M2 ∧ ∀ rl : pu_K, kL_law_1453 L xs pu_r rl [some (.float 0), some (.ref 0), some (.ref 71), some (.int (nI i))] [] M = rl [some (.float 0), some (.ref 0), some (.ref 71), some (.int (nI (i + 7)))] [] M2 := by
  obtain ⟨v, M1, M2, h1, h2, h3⟩ := h M hM
  refine ⟨M2, h3, fun rl => ?_⟩
  obtain ⟨a1, a2, a3⟩ := pu_lix (k := 1) hi hL (by omega)
  obtain ⟨b1, b2, b3⟩ := pu_lix (k := 2) hi hL (by omega)
  obtain ⟨c1, c2, c3⟩ := pu_lix (k := 3) hi hL (by omega)
  obtain ⟨d1, d2, d3⟩ := pu_lix (k := 4) hi hL (by omega)
  obtain ⟨e1, e2, e3⟩ := pu_lix (k := 5) hi hL (by omega)
  obtain ⟨f1, f2, f3⟩ := pu_lix (k := 6) hi hL (by omega)
  simp [pu_as, Value.category] at h1 h2
  simp only [kL_law_1453, kL_law_1591, s_ald, s_cv, s_iceq, s_inc, s_push, s_zret]
  simp [nI_k1, nI_k2, nI_k3, nI_k4, nI_k5, nI_k6, nI_k7, a1, a2, a3, b1, b2, b3, c1, c2, c3, d1, d2, d3, e1, e2, e3, f1, f2, f3, sh_0, sh_71, pu_as, Value.category, pu_bk, pu_kl, h1, h2]
  simp only [s_ald, s_cv, s_iceq, s_inc, s_push, s_zret]
  simp [nI_k1, nI_k2, nI_k3, nI_k4, nI_k5, nI_k6, nI_k7, a1, a2, a3, b1, b2, b3, c1, c2, c3, d1, d2, d3, e1, e2, e3, f1, f2, f3, sh_0, sh_71, pu_as, Value.category, pu_bk, pu_kl, h1, h2]
  try simp only [s_ald, s_cv, s_iceq, s_inc, s_push, s_zret]
  try simp [nI_k1, nI_k2, nI_k3, nI_k4, nI_k5, nI_k6, nI_k7, a1, a2, a3, b1, b2, b3, c1, c2, c3, d1, d2, d3, e1, e2, e3, f1, f2, f3, sh_0, sh_71, pu_as, Value.category, pu_bk, pu_kl, h1, h2]
theorem cL_38 {Inv : pu_M → Prop} {L i : Nat} {xs : Nat → Int32} {M : pu_M} (hi : i + 7 ≤ L) (hL : L ≤ 3584) (h : pu_op Inv 217 352 [.int (xs (i + 1)), .int (xs (i + 2))]) (hM : Inv M) : ∃ M2, Inv M2 ∧ ∀ rl : pu_K, kL_law_1466 L xs pu_r rl [some (.float 0), some (.ref 0), some (.ref 71), some (.int (nI i))] [] M = rl [some (.float 0), some (.ref 0), some (.ref 71), some (.int (nI (i + 7)))] [] M2 := by
  obtain ⟨v, M1, M2, h1, h2, h3⟩ := h M hM
  refine ⟨M2, h3, fun rl => ?_⟩
  obtain ⟨a1, a2, a3⟩ := pu_lix (k := 1) hi hL (by omega)
  obtain ⟨b1, b2, b3⟩ := pu_lix (k := 2) hi hL (by omega)
  obtain ⟨c1, c2, c3⟩ := pu_lix (k := 3) hi hL (by omega)
  obtain ⟨d1, d2, d3⟩ := pu_lix (k := 4) hi hL (by omega)
  obtain ⟨e1, e2, e3⟩ := pu_lix (k := 5) hi hL (by omega)
  obtain ⟨f1, f2, f3⟩ := pu_lix (k := 6) hi hL (by omega)
  simp [pu_as, Value.category] at h1 h2
  simp only [kL_law_1466, kL_law_1494, kL_law_1591, s_ald, s_cv, s_iadd, s_iceq, s_ild, s_inc, s_push, s_sld, s_zret]
  simp [nI_k1, nI_k2, nI_k3, nI_k4, nI_k5, nI_k6, nI_k7, a1, a2, a3, b1, b2, b3, c1, c2, c3, d1, d2, d3, e1, e2, e3, f1, f2, f3, sh_0, sh_71, pu_as, Value.category, pu_bk, pu_kl, h1, h2]
  simp only [s_ald, s_cv, s_iadd, s_iceq, s_ild, s_inc, s_push, s_sld, s_zret]
  simp [nI_k1, nI_k2, nI_k3, nI_k4, nI_k5, nI_k6, nI_k7, a1, a2, a3, b1, b2, b3, c1, c2, c3, d1, d2, d3, e1, e2, e3, f1, f2, f3, sh_0, sh_71, pu_as, Value.category, pu_bk, pu_kl, h1, h2]
  try simp only [s_ald, s_cv, s_iadd, s_iceq, s_ild, s_inc, s_push, s_sld, s_zret]
  try simp [nI_k1, nI_k2, nI_k3, nI_k4, nI_k5, nI_k6, nI_k7, a1, a2, a3, b1, b2, b3, c1, c2, c3, d1, d2, d3, e1, e2, e3, f1, f2, f3, sh_0, sh_71, pu_as, Value.category, pu_bk, pu_kl, h1, h2]
theorem cL_39 {Inv : pu_M → Prop} {L i : Nat} {xs : Nat → Int32} {M : pu_M} (hi : i + 7 ≤ L) (hL : L ≤ 3584) (h : pu_op Inv 221 354 [.int (xs (i + 1))]) (hM : Inv M) : ∃ M2, Inv M2 ∧ ∀ rl : pu_K, kL_law_1499 L xs pu_r rl [some (.float 0), some (.ref 0), some (.ref 71), some (.int (nI i))] [] M = rl [some (.float 0), some (.ref 0), some (.ref 71), some (.int (nI (i + 7)))] [] M2 := by
  obtain ⟨v, M1, M2, h1, h2, h3⟩ := h M hM
  refine ⟨M2, h3, fun rl => ?_⟩
  obtain ⟨a1, a2, a3⟩ := pu_lix (k := 1) hi hL (by omega)
  obtain ⟨b1, b2, b3⟩ := pu_lix (k := 2) hi hL (by omega)
  obtain ⟨c1, c2, c3⟩ := pu_lix (k := 3) hi hL (by omega)
  obtain ⟨d1, d2, d3⟩ := pu_lix (k := 4) hi hL (by omega)
  obtain ⟨e1, e2, e3⟩ := pu_lix (k := 5) hi hL (by omega)
  obtain ⟨f1, f2, f3⟩ := pu_lix (k := 6) hi hL (by omega)
  simp [pu_as, Value.category] at h1 h2
  simp only [kL_law_1499, kL_law_1591, s_ald, s_cv, s_iadd, s_iceq, s_ild, s_inc, s_push, s_sld, s_zret]
  simp [nI_k1, nI_k2, nI_k3, nI_k4, nI_k5, nI_k6, nI_k7, a1, a2, a3, b1, b2, b3, c1, c2, c3, d1, d2, d3, e1, e2, e3, f1, f2, f3, sh_0, sh_71, pu_as, Value.category, pu_bk, pu_kl, h1, h2]
  simp only [s_ald, s_cv, s_iadd, s_iceq, s_ild, s_inc, s_push, s_sld, s_zret]
  simp [nI_k1, nI_k2, nI_k3, nI_k4, nI_k5, nI_k6, nI_k7, a1, a2, a3, b1, b2, b3, c1, c2, c3, d1, d2, d3, e1, e2, e3, f1, f2, f3, sh_0, sh_71, pu_as, Value.category, pu_bk, pu_kl, h1, h2]
  try simp only [s_ald, s_cv, s_iadd, s_iceq, s_ild, s_inc, s_push, s_sld, s_zret]
  try simp [nI_k1, nI_k2, nI_k3, nI_k4, nI_k5, nI_k6, nI_k7, a1, a2, a3, b1, b2, b3, c1, c2, c3, d1, d2, d3, e1, e2, e3, f1, f2, f3, sh_0, sh_71, pu_as, Value.category, pu_bk, pu_kl, h1, h2]
theorem cL_40 {Inv : pu_M → Prop} {L i : Nat} {xs : Nat → Int32} {M : pu_M} (hi : i + 7 ≤ L) (hL : L ≤ 3584) (h : pu_op Inv 224 355 [.int (xs (i + 1))]) (hM : Inv M) : ∃ M2, Inv M2 ∧ ∀ rl : pu_K, kL_law_1522 L xs pu_r rl [some (.float 0), some (.ref 0), some (.ref 71), some (.int (nI i))] [] M = rl [some (.float 0), some (.ref 0), some (.ref 71), some (.int (nI (i + 7)))] [] M2 := by
  obtain ⟨v, M1, M2, h1, h2, h3⟩ := h M hM
  refine ⟨M2, h3, fun rl => ?_⟩
  obtain ⟨a1, a2, a3⟩ := pu_lix (k := 1) hi hL (by omega)
  obtain ⟨b1, b2, b3⟩ := pu_lix (k := 2) hi hL (by omega)
  obtain ⟨c1, c2, c3⟩ := pu_lix (k := 3) hi hL (by omega)
  obtain ⟨d1, d2, d3⟩ := pu_lix (k := 4) hi hL (by omega)
  obtain ⟨e1, e2, e3⟩ := pu_lix (k := 5) hi hL (by omega)
  obtain ⟨f1, f2, f3⟩ := pu_lix (k := 6) hi hL (by omega)
  simp [pu_as, Value.category] at h1 h2
  simp only [kL_law_1522, kL_law_1591, s_ald, s_cv, s_iadd, s_iceq, s_ild, s_inc, s_push, s_sld, s_zret]
  simp [nI_k1, nI_k2, nI_k3, nI_k4, nI_k5, nI_k6, nI_k7, a1, a2, a3, b1, b2, b3, c1, c2, c3, d1, d2, d3, e1, e2, e3, f1, f2, f3, sh_0, sh_71, pu_as, Value.category, pu_bk, pu_kl, h1, h2]
  simp only [s_ald, s_cv, s_iadd, s_iceq, s_ild, s_inc, s_push, s_sld, s_zret]
  simp [nI_k1, nI_k2, nI_k3, nI_k4, nI_k5, nI_k6, nI_k7, a1, a2, a3, b1, b2, b3, c1, c2, c3, d1, d2, d3, e1, e2, e3, f1, f2, f3, sh_0, sh_71, pu_as, Value.category, pu_bk, pu_kl, h1, h2]
  try simp only [s_ald, s_cv, s_iadd, s_iceq, s_ild, s_inc, s_push, s_sld, s_zret]
  try simp [nI_k1, nI_k2, nI_k3, nI_k4, nI_k5, nI_k6, nI_k7, a1, a2, a3, b1, b2, b3, c1, c2, c3, d1, d2, d3, e1, e2, e3, f1, f2, f3, sh_0, sh_71, pu_as, Value.category, pu_bk, pu_kl, h1, h2]
theorem cL_41 {Inv : pu_M → Prop} {L i : Nat} {xs : Nat → Int32} {M : pu_M} (hi : i + 7 ≤ L) (hL : L ≤ 3584) (h : pu_op Inv 226 232 [.int (xs (i + 1))]) (hM : Inv M) : ∃ M2, Inv M2 ∧ ∀ rl : pu_K, kL_law_1545 L xs pu_r rl [some (.float 0), some (.ref 0), some (.ref 71), some (.int (nI i))] [] M = rl [some (.float 0), some (.ref 0), some (.ref 71), some (.int (nI (i + 7)))] [] M2 := by
  obtain ⟨v, M1, M2, h1, h2, h3⟩ := h M hM
  refine ⟨M2, h3, fun rl => ?_⟩
  obtain ⟨a1, a2, a3⟩ := pu_lix (k := 1) hi hL (by omega)
  obtain ⟨b1, b2, b3⟩ := pu_lix (k := 2) hi hL (by omega)
  obtain ⟨c1, c2, c3⟩ := pu_lix (k := 3) hi hL (by omega)
  obtain ⟨d1, d2, d3⟩ := pu_lix (k := 4) hi hL (by omega)
  obtain ⟨e1, e2, e3⟩ := pu_lix (k := 5) hi hL (by omega)
  obtain ⟨f1, f2, f3⟩ := pu_lix (k := 6) hi hL (by omega)
  simp [pu_as, Value.category] at h1 h2
  simp only [kL_law_1545, kL_law_1591, s_ald, s_cv, s_iadd, s_iceq, s_ild, s_inc, s_push, s_sld, s_zret]
  simp [nI_k1, nI_k2, nI_k3, nI_k4, nI_k5, nI_k6, nI_k7, a1, a2, a3, b1, b2, b3, c1, c2, c3, d1, d2, d3, e1, e2, e3, f1, f2, f3, sh_0, sh_71, pu_as, Value.category, pu_bk, pu_kl, h1, h2]
  simp only [s_ald, s_cv, s_iadd, s_iceq, s_ild, s_inc, s_push, s_sld, s_zret]
  simp [nI_k1, nI_k2, nI_k3, nI_k4, nI_k5, nI_k6, nI_k7, a1, a2, a3, b1, b2, b3, c1, c2, c3, d1, d2, d3, e1, e2, e3, f1, f2, f3, sh_0, sh_71, pu_as, Value.category, pu_bk, pu_kl, h1, h2]
  try simp only [s_ald, s_cv, s_iadd, s_iceq, s_ild, s_inc, s_push, s_sld, s_zret]
  try simp [nI_k1, nI_k2, nI_k3, nI_k4, nI_k5, nI_k6, nI_k7, a1, a2, a3, b1, b2, b3, c1, c2, c3, d1, d2, d3, e1, e2, e3, f1, f2, f3, sh_0, sh_71, pu_as, Value.category, pu_bk, pu_kl, h1, h2]
theorem cL_42 {Inv : pu_M → Prop} {L i : Nat} {xs : Nat → Int32} {M : pu_M} (hi : i + 7 ≤ L) (hL : L ≤ 3584) (h : pu_op Inv 227 356 [.int (xs (i + 1))]) (hM : Inv M) : ∃ M2, Inv M2 ∧ ∀ rl : pu_K, kL_law_1568 L xs pu_r rl [some (.float 0), some (.ref 0), some (.ref 71), some (.int (nI i))] [] M = rl [some (.float 0), some (.ref 0), some (.ref 71), some (.int (nI (i + 7)))] [] M2 := by
  obtain ⟨v, M1, M2, h1, h2, h3⟩ := h M hM
  refine ⟨M2, h3, fun rl => ?_⟩
  obtain ⟨a1, a2, a3⟩ := pu_lix (k := 1) hi hL (by omega)
  obtain ⟨b1, b2, b3⟩ := pu_lix (k := 2) hi hL (by omega)
  obtain ⟨c1, c2, c3⟩ := pu_lix (k := 3) hi hL (by omega)
  obtain ⟨d1, d2, d3⟩ := pu_lix (k := 4) hi hL (by omega)
  obtain ⟨e1, e2, e3⟩ := pu_lix (k := 5) hi hL (by omega)
  obtain ⟨f1, f2, f3⟩ := pu_lix (k := 6) hi hL (by omega)
  simp [pu_as, Value.category] at h1 h2
  simp only [kL_law_1568, kL_law_1591, s_ald, s_cv, s_iadd, s_iceq, s_ild, s_inc, s_push, s_sld, s_zret]
  simp [nI_k1, nI_k2, nI_k3, nI_k4, nI_k5, nI_k6, nI_k7, a1, a2, a3, b1, b2, b3, c1, c2, c3, d1, d2, d3, e1, e2, e3, f1, f2, f3, sh_0, sh_71, pu_as, Value.category, pu_bk, pu_kl, h1, h2]
  simp only [s_ald, s_cv, s_iadd, s_iceq, s_ild, s_inc, s_push, s_sld, s_zret]
  simp [nI_k1, nI_k2, nI_k3, nI_k4, nI_k5, nI_k6, nI_k7, a1, a2, a3, b1, b2, b3, c1, c2, c3, d1, d2, d3, e1, e2, e3, f1, f2, f3, sh_0, sh_71, pu_as, Value.category, pu_bk, pu_kl, h1, h2]
  try simp only [s_ald, s_cv, s_iadd, s_iceq, s_ild, s_inc, s_push, s_sld, s_zret]
  try simp [nI_k1, nI_k2, nI_k3, nI_k4, nI_k5, nI_k6, nI_k7, a1, a2, a3, b1, b2, b3, c1, c2, c3, d1, d2, d3, e1, e2, e3, f1, f2, f3, sh_0, sh_71, pu_as, Value.category, pu_bk, pu_kl, h1, h2]
