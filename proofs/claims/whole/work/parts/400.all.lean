/-! all methods and loops together -/
def pu_okm (j : Nat) (q : pu_D × (pu_R → pu_K)) : Prop := pu_tab[j]? = some q.1 ∧ plainName q.1.2.1.cls = true ∧ q.1.2.1.cls = q.1.1 ∧ pu_cok2 q.2 ∧ ∀ (X : pu_X) (r : pu_R), pu_H X q.1 → pu_P X.2.1 X.2.2.2.2.2.2.2.2.2.2.1 r → (∀ i pc, pu_lp i = some (j, pc) → pu_S X q.1 pc (r i)) → pu_S X q.1 0 (q.2 r)
def pu_okl (i : Nat) (q : (Nat × pu_D × Nat) × (pu_R → pu_K)) : Prop := pu_lp i = some (q.1.1, q.1.2.2) ∧ pu_tab[q.1.1]? = some q.1.2.1 ∧ pu_cok2 q.2 ∧ ∀ (X : pu_X) (r : pu_R), pu_H X q.1.2.1 → pu_P X.2.1 X.2.2.2.2.2.2.2.2.2.2.1 r → (∀ i pc, pu_lp i = some (q.1.1, pc) → pu_S X q.1.2.1 pc (r i)) → pu_S X q.1.2.1 q.1.2.2 (q.2 r)
theorem pu_app {α : Type} {P : Nat → α → Prop} {a b : List α} {o : Nat} (ha : ∀ (i : Nat) (q : α), a[i]? = some q → P (o + i) q) (hb : ∀ (i : Nat) (q : α), b[i]? = some q → P (o + a.length + i) q) : ∀ (i : Nat) (q : α), (a ++ b)[i]? = some q → P (o + i) q := by
  intro i q h
  by_cases hl : i < a.length
  · rw [List.getElem?_append_left hl] at h
    exact ha i q h
  · rw [List.getElem?_append_right (by omega)] at h
    have := hb _ q h
    rw [show o + a.length + (i - a.length) = o + i by omega] at this
    exact this
def pm0 : List (pu_D × (pu_R → pu_K)) := [(mdX0_init, kX0_init_0), (mdX6_init, kX6_init_0), (mdX4_init, kX4_init_0), (mdX3_init, kX3_init_0), (mdX10_init, kX10_init_0), (mdX2_init, kX2_init_0), (mdX8_init, kX8_init_0), (mdX1_init, kX1_init_0), (mdX5_init, kX5_init_0), (mdX7_init, kX7_init_0), (mdX9_init, kX9_init_0), (mdX11_init, kX11_init_0), (mdX0_put, kX0_put_0), (mdX0_putFour, kX0_putFour_0), (mdX11_feed, kX11_feed_0), (mdX11_end, kX11_end_0), (mdX0_copyFrom, kX0_copyFrom_0), (mdX11_take, kX11_take_0), (mdX11_isDay, kX11_isDay_0), (mdX11_day, kX11_day_0)]
theorem pmh0 : ∀ (i : Nat) (q : pu_D × (pu_R → pu_K)), pm0[i]? = some q → pu_okm (0 + i) q := by
  intro i q h
  match i, h with
  | 0, h => cases h; exact ⟨hjX0_init, by decide, rfl, vX0_init_0, fun X r h1 h2 h3 => tX0_init_0 h1 h2 h3⟩
  | 1, h => cases h; exact ⟨hjX6_init, by decide, rfl, vX6_init_0, fun X r h1 h2 h3 => tX6_init_0 h1 h2 h3⟩
  | 2, h => cases h; exact ⟨hjX4_init, by decide, rfl, vX4_init_0, fun X r h1 h2 h3 => tX4_init_0 h1 h2 h3⟩
  | 3, h => cases h; exact ⟨hjX3_init, by decide, rfl, vX3_init_0, fun X r h1 h2 h3 => tX3_init_0 h1 h2 h3⟩
  | 4, h => cases h; exact ⟨hjX10_init, by decide, rfl, vX10_init_0, fun X r h1 h2 h3 => tX10_init_0 h1 h2 h3⟩
  | 5, h => cases h; exact ⟨hjX2_init, by decide, rfl, vX2_init_0, fun X r h1 h2 h3 => tX2_init_0 h1 h2 h3⟩
  | 6, h => cases h; exact ⟨hjX8_init, by decide, rfl, vX8_init_0, fun X r h1 h2 h3 => tX8_init_0 h1 h2 h3⟩
  | 7, h => cases h; exact ⟨hjX1_init, by decide, rfl, vX1_init_0, fun X r h1 h2 h3 => tX1_init_0 h1 h2 h3⟩
  | 8, h => cases h; exact ⟨hjX5_init, by decide, rfl, vX5_init_0, fun X r h1 h2 h3 => tX5_init_0 h1 h2 h3⟩
  | 9, h => cases h; exact ⟨hjX7_init, by decide, rfl, vX7_init_0, fun X r h1 h2 h3 => tX7_init_0 h1 h2 h3⟩
  | 10, h => cases h; exact ⟨hjX9_init, by decide, rfl, vX9_init_0, fun X r h1 h2 h3 => tX9_init_0 h1 h2 h3⟩
  | 11, h => cases h; exact ⟨hjX11_init, by decide, rfl, vX11_init_0, fun X r h1 h2 h3 => tX11_init_0 h1 h2 h3⟩
  | 12, h => cases h; exact ⟨hjX0_put, by decide, rfl, vX0_put_0, fun X r h1 h2 h3 => tX0_put_0 h1 h2 h3⟩
  | 13, h => cases h; exact ⟨hjX0_putFour, by decide, rfl, vX0_putFour_0, fun X r h1 h2 h3 => tX0_putFour_0 h1 h2 h3⟩
  | 14, h => cases h; exact ⟨hjX11_feed, by decide, rfl, vX11_feed_0, fun X r h1 h2 h3 => tX11_feed_0 h1 h2 h3⟩
  | 15, h => cases h; exact ⟨hjX11_end, by decide, rfl, vX11_end_0, fun X r h1 h2 h3 => tX11_end_0 h1 h2 h3⟩
  | 16, h => cases h; exact ⟨hjX0_copyFrom, by decide, rfl, vX0_copyFrom_0, fun X r h1 h2 h3 => tX0_copyFrom_0 h1 h2 h3⟩
  | 17, h => cases h; exact ⟨hjX11_take, by decide, rfl, vX11_take_0, fun X r h1 h2 h3 => tX11_take_0 h1 h2 h3⟩
  | 18, h => cases h; exact ⟨hjX11_isDay, by decide, rfl, vX11_isDay_0, fun X r h1 h2 h3 => tX11_isDay_0 h1 h2 h3⟩
  | 19, h => cases h; exact ⟨hjX11_day, by decide, rfl, vX11_day_0, fun X r h1 h2 h3 => tX11_day_0 h1 h2 h3⟩
  | i + 20, h => cases h
def pm1 : List (pu_D × (pu_R → pu_K)) := [(mdX11_as, kX11_as_0), (mdX7_begin, kX7_begin_0), (mdJ7_fill_d0a16, kJ7_fill_d0a16_0), (mdX7_isNext, kX7_isNext_0), (mdX7_readWord, kX7_readWord_0), (mdX7_readByte, kX7_readByte_0), (mdX7_readToEnd, kX7_readToEnd_0), (mdX8_indexOf, kX8_indexOf_0), (mdX8_full, kX8_full_0), (mdX7_lengthen, kX7_lengthen_0), (mdX7_readName, kX7_readName_0), (mdX11_readName, kX11_readName_0), (mdX3_areLike, kX3_areLike_0), (mdX10_townNamed, kX10_townNamed_0), (mdX10_addTown, kX10_addTown_0), (mdX11_town, kX11_town_0), (mdX7_readPair, kX7_readPair_0), (mdX10_isWordOfTown, kX10_isWordOfTown_0), (mdX3_isWordOfName, kX3_isWordOfName_0), (mdX8_keep, kX8_keep_0)]
theorem pmh1 : ∀ (i : Nat) (q : pu_D × (pu_R → pu_K)), pm1[i]? = some q → pu_okm (20 + i) q := by
  intro i q h
  match i, h with
  | 0, h => cases h; exact ⟨hjX11_as, by decide, rfl, vX11_as_0, fun X r h1 h2 h3 => tX11_as_0 h1 h2 h3⟩
  | 1, h => cases h; exact ⟨hjX7_begin, by decide, rfl, vX7_begin_0, fun X r h1 h2 h3 => tX7_begin_0 h1 h2 h3⟩
  | 2, h => cases h; exact ⟨hjJ7_fill_d0a16, by decide, rfl, vJ7_fill_d0a16_0, fun X r h1 h2 h3 => tJ7_fill_d0a16_0 h1 h2 h3⟩
  | 3, h => cases h; exact ⟨hjX7_isNext, by decide, rfl, vX7_isNext_0, fun X r h1 h2 h3 => tX7_isNext_0 h1 h2 h3⟩
  | 4, h => cases h; exact ⟨hjX7_readWord, by decide, rfl, vX7_readWord_0, fun X r h1 h2 h3 => tX7_readWord_0 h1 h2 h3⟩
  | 5, h => cases h; exact ⟨hjX7_readByte, by decide, rfl, vX7_readByte_0, fun X r h1 h2 h3 => tX7_readByte_0 h1 h2 h3⟩
  | 6, h => cases h; exact ⟨hjX7_readToEnd, by decide, rfl, vX7_readToEnd_0, fun X r h1 h2 h3 => tX7_readToEnd_0 h1 h2 h3⟩
  | 7, h => cases h; exact ⟨hjX8_indexOf, by decide, rfl, vX8_indexOf_0, fun X r h1 h2 h3 => tX8_indexOf_0 h1 h2 h3⟩
  | 8, h => cases h; exact ⟨hjX8_full, by decide, rfl, vX8_full_0, fun X r h1 h2 h3 => tX8_full_0 h1 h2 h3⟩
  | 9, h => cases h; exact ⟨hjX7_lengthen, by decide, rfl, vX7_lengthen_0, fun X r h1 h2 h3 => tX7_lengthen_0 h1 h2 h3⟩
  | 10, h => cases h; exact ⟨hjX7_readName, by decide, rfl, vX7_readName_0, fun X r h1 h2 h3 => tX7_readName_0 h1 h2 h3⟩
  | 11, h => cases h; exact ⟨hjX11_readName, by decide, rfl, vX11_readName_0, fun X r h1 h2 h3 => tX11_readName_0 h1 h2 h3⟩
  | 12, h => cases h; exact ⟨hjX3_areLike, by decide, rfl, vX3_areLike_0, fun X r h1 h2 h3 => tX3_areLike_0 h1 h2 h3⟩
  | 13, h => cases h; exact ⟨hjX10_townNamed, by decide, rfl, vX10_townNamed_0, fun X r h1 h2 h3 => tX10_townNamed_0 h1 h2 h3⟩
  | 14, h => cases h; exact ⟨hjX10_addTown, by decide, rfl, vX10_addTown_0, fun X r h1 h2 h3 => tX10_addTown_0 h1 h2 h3⟩
  | 15, h => cases h; exact ⟨hjX11_town, by decide, rfl, vX11_town_0, fun X r h1 h2 h3 => tX11_town_0 h1 h2 h3⟩
  | 16, h => cases h; exact ⟨hjX7_readPair, by decide, rfl, vX7_readPair_0, fun X r h1 h2 h3 => tX7_readPair_0 h1 h2 h3⟩
  | 17, h => cases h; exact ⟨hjX10_isWordOfTown, by decide, rfl, vX10_isWordOfTown_0, fun X r h1 h2 h3 => tX10_isWordOfTown_0 h1 h2 h3⟩
  | 18, h => cases h; exact ⟨hjX3_isWordOfName, by decide, rfl, vX3_isWordOfName_0, fun X r h1 h2 h3 => tX3_isWordOfName_0 h1 h2 h3⟩
  | 19, h => cases h; exact ⟨hjX8_keep, by decide, rfl, vX8_keep_0, fun X r h1 h2 h3 => tX8_keep_0 h1 h2 h3⟩
  | i + 20, h => cases h
def pm2 : List (pu_D × (pu_R → pu_K)) := [(mdX11_shorten, kX11_shorten_0), (mdX10_isTown, kX10_isTown_0), (mdX6_wasJoined, kX6_wasJoined_0), (mdX11_isTownOfItsOwn, kX11_isTownOfItsOwn_0), (mdX11_isRule, kX11_isRule_0), (mdX6_latestOn, kX6_latestOn_0), (mdX6_isPaper, kX6_isPaper_0), (mdX6_startOf, kX6_startOf_0), (mdX3_isNamed, kX3_isNamed_0), (mdX6_lastEndOf, kX6_lastEndOf_0), (mdX3_isHeldFrom, kX3_isHeldFrom_0), (mdX6_hasRoom, kX6_hasRoom_0), (mdX6_lay, kX6_lay_0), (mdX10_addStreet, kX10_addStreet_0), (mdX3_open, kX3_open_0), (mdX11_street, kX11_street_0), (mdX10_isStreet, kX10_isStreet_0), (mdX11_isSide, kX11_isSide_0), (mdX11_isPlace, kX11_isPlace_0), (mdX11_isWhole, kX11_isWhole_0)]
theorem pmh2 : ∀ (i : Nat) (q : pu_D × (pu_R → pu_K)), pm2[i]? = some q → pu_okm (40 + i) q := by
  intro i q h
  match i, h with
  | 0, h => cases h; exact ⟨hjX11_shorten, by decide, rfl, vX11_shorten_0, fun X r h1 h2 h3 => tX11_shorten_0 h1 h2 h3⟩
  | 1, h => cases h; exact ⟨hjX10_isTown, by decide, rfl, vX10_isTown_0, fun X r h1 h2 h3 => tX10_isTown_0 h1 h2 h3⟩
  | 2, h => cases h; exact ⟨hjX6_wasJoined, by decide, rfl, vX6_wasJoined_0, fun X r h1 h2 h3 => tX6_wasJoined_0 h1 h2 h3⟩
  | 3, h => cases h; exact ⟨hjX11_isTownOfItsOwn, by decide, rfl, vX11_isTownOfItsOwn_0, fun X r h1 h2 h3 => tX11_isTownOfItsOwn_0 h1 h2 h3⟩
  | 4, h => cases h; exact ⟨hjX11_isRule, by decide, rfl, vX11_isRule_0, fun X r h1 h2 h3 => tX11_isRule_0 h1 h2 h3⟩
  | 5, h => cases h; exact ⟨hjX6_latestOn, by decide, rfl, vX6_latestOn_0, fun X r h1 h2 h3 => tX6_latestOn_0 h1 h2 h3⟩
  | 6, h => cases h; exact ⟨hjX6_isPaper, by decide, rfl, vX6_isPaper_0, fun X r h1 h2 h3 => tX6_isPaper_0 h1 h2 h3⟩
  | 7, h => cases h; exact ⟨hjX6_startOf, by decide, rfl, vX6_startOf_0, fun X r h1 h2 h3 => tX6_startOf_0 h1 h2 h3⟩
  | 8, h => cases h; exact ⟨hjX3_isNamed, by decide, rfl, vX3_isNamed_0, fun X r h1 h2 h3 => tX3_isNamed_0 h1 h2 h3⟩
  | 9, h => cases h; exact ⟨hjX6_lastEndOf, by decide, rfl, vX6_lastEndOf_0, fun X r h1 h2 h3 => tX6_lastEndOf_0 h1 h2 h3⟩
  | 10, h => cases h; exact ⟨hjX3_isHeldFrom, by decide, rfl, vX3_isHeldFrom_0, fun X r h1 h2 h3 => tX3_isHeldFrom_0 h1 h2 h3⟩
  | 11, h => cases h; exact ⟨hjX6_hasRoom, by decide, rfl, vX6_hasRoom_0, fun X r h1 h2 h3 => tX6_hasRoom_0 h1 h2 h3⟩
  | 12, h => cases h; exact ⟨hjX6_lay, by decide, rfl, vX6_lay_0, fun X r h1 h2 h3 => tX6_lay_0 h1 h2 h3⟩
  | 13, h => cases h; exact ⟨hjX10_addStreet, by decide, rfl, vX10_addStreet_0, fun X r h1 h2 h3 => tX10_addStreet_0 h1 h2 h3⟩
  | 14, h => cases h; exact ⟨hjX3_open, by decide, rfl, vX3_open_0, fun X r h1 h2 h3 => tX3_open_0 h1 h2 h3⟩
  | 15, h => cases h; exact ⟨hjX11_street, by decide, rfl, vX11_street_0, fun X r h1 h2 h3 => tX11_street_0 h1 h2 h3⟩
  | 16, h => cases h; exact ⟨hjX10_isStreet, by decide, rfl, vX10_isStreet_0, fun X r h1 h2 h3 => tX10_isStreet_0 h1 h2 h3⟩
  | 17, h => cases h; exact ⟨hjX11_isSide, by decide, rfl, vX11_isSide_0, fun X r h1 h2 h3 => tX11_isSide_0 h1 h2 h3⟩
  | 18, h => cases h; exact ⟨hjX11_isPlace, by decide, rfl, vX11_isPlace_0, fun X r h1 h2 h3 => tX11_isPlace_0 h1 h2 h3⟩
  | 19, h => cases h; exact ⟨hjX11_isWhole, by decide, rfl, vX11_isWhole_0, fun X r h1 h2 h3 => tX11_isWhole_0 h1 h2 h3⟩
  | i + 20, h => cases h
def pm3 : List (pu_D × (pu_R → pu_K)) := [(mdX11_isWholeOrLeast, kX11_isWholeOrLeast_0), (mdX3_openOf, kX3_openOf_0), (mdX3_townOf, kX3_townOf_0), (mdX5_earliestOn, kX5_earliestOn_0), (mdX10_ruleOf, kX10_ruleOf_0), (mdX11_orderOf, kX11_orderOf_0), (mdX2_streetOf, kX2_streetOf_0), (mdX6_isThere, kX6_isThere_0), (mdX6_holds, kX6_holds_0), (mdX9_isThen, kX9_isThen_0), (mdX9_rankOf, kX9_rankOf_0), (mdX9_moveUp, kX9_moveUp_0), (mdX9_add, kX9_add_0), (mdX9_fill, kX9_fill_0), (mdX9_isInLine, kX9_isInLine_0), (mdX9_lowAt, kX9_lowAt_0), (mdX9_highAt, kX9_highAt_0), (mdX11_areDigitsOfSide, kX11_areDigitsOfSide_0), (mdX11_digitsByPaces, kX11_digitsByPaces_0), (mdX9_indexOf, kX9_indexOf_0)]
theorem pmh3 : ∀ (i : Nat) (q : pu_D × (pu_R → pu_K)), pm3[i]? = some q → pu_okm (60 + i) q := by
  intro i q h
  match i, h with
  | 0, h => cases h; exact ⟨hjX11_isWholeOrLeast, by decide, rfl, vX11_isWholeOrLeast_0, fun X r h1 h2 h3 => tX11_isWholeOrLeast_0 h1 h2 h3⟩
  | 1, h => cases h; exact ⟨hjX3_openOf, by decide, rfl, vX3_openOf_0, fun X r h1 h2 h3 => tX3_openOf_0 h1 h2 h3⟩
  | 2, h => cases h; exact ⟨hjX3_townOf, by decide, rfl, vX3_townOf_0, fun X r h1 h2 h3 => tX3_townOf_0 h1 h2 h3⟩
  | 3, h => cases h; exact ⟨hjX5_earliestOn, by decide, rfl, vX5_earliestOn_0, fun X r h1 h2 h3 => tX5_earliestOn_0 h1 h2 h3⟩
  | 4, h => cases h; exact ⟨hjX10_ruleOf, by decide, rfl, vX10_ruleOf_0, fun X r h1 h2 h3 => tX10_ruleOf_0 h1 h2 h3⟩
  | 5, h => cases h; exact ⟨hjX11_orderOf, by decide, rfl, vX11_orderOf_0, fun X r h1 h2 h3 => tX11_orderOf_0 h1 h2 h3⟩
  | 6, h => cases h; exact ⟨hjX2_streetOf, by decide, rfl, vX2_streetOf_0, fun X r h1 h2 h3 => tX2_streetOf_0 h1 h2 h3⟩
  | 7, h => cases h; exact ⟨hjX6_isThere, by decide, rfl, vX6_isThere_0, fun X r h1 h2 h3 => tX6_isThere_0 h1 h2 h3⟩
  | 8, h => cases h; exact ⟨hjX6_holds, by decide, rfl, vX6_holds_0, fun X r h1 h2 h3 => tX6_holds_0 h1 h2 h3⟩
  | 9, h => cases h; exact ⟨hjX9_isThen, by decide, rfl, vX9_isThen_0, fun X r h1 h2 h3 => tX9_isThen_0 h1 h2 h3⟩
  | 10, h => cases h; exact ⟨hjX9_rankOf, by decide, rfl, vX9_rankOf_0, fun X r h1 h2 h3 => tX9_rankOf_0 h1 h2 h3⟩
  | 11, h => cases h; exact ⟨hjX9_moveUp, by decide, rfl, vX9_moveUp_0, fun X r h1 h2 h3 => tX9_moveUp_0 h1 h2 h3⟩
  | 12, h => cases h; exact ⟨hjX9_add, by decide, rfl, vX9_add_0, fun X r h1 h2 h3 => tX9_add_0 h1 h2 h3⟩
  | 13, h => cases h; exact ⟨hjX9_fill, by decide, rfl, vX9_fill_0, fun X r h1 h2 h3 => tX9_fill_0 h1 h2 h3⟩
  | 14, h => cases h; exact ⟨hjX9_isInLine, by decide, rfl, vX9_isInLine_0, fun X r h1 h2 h3 => tX9_isInLine_0 h1 h2 h3⟩
  | 15, h => cases h; exact ⟨hjX9_lowAt, by decide, rfl, vX9_lowAt_0, fun X r h1 h2 h3 => tX9_lowAt_0 h1 h2 h3⟩
  | 16, h => cases h; exact ⟨hjX9_highAt, by decide, rfl, vX9_highAt_0, fun X r h1 h2 h3 => tX9_highAt_0 h1 h2 h3⟩
  | 17, h => cases h; exact ⟨hjX11_areDigitsOfSide, by decide, rfl, vX11_areDigitsOfSide_0, fun X r h1 h2 h3 => tX11_areDigitsOfSide_0 h1 h2 h3⟩
  | 18, h => cases h; exact ⟨hjX11_digitsByPaces, by decide, rfl, vX11_digitsByPaces_0, fun X r h1 h2 h3 => tX11_digitsByPaces_0 h1 h2 h3⟩
  | 19, h => cases h; exact ⟨hjX9_indexOf, by decide, rfl, vX9_indexOf_0, fun X r h1 h2 h3 => tX9_indexOf_0 h1 h2 h3⟩
  | i + 20, h => cases h
def pm4 : List (pu_D × (pu_R → pu_K)) := [(mdX9_isFreeByRule, kX9_isFreeByRule_0), (mdX9_fittingNumber, kX9_fittingNumber_0), (mdX9_hasDoorAt, kX9_hasDoorAt_0), (mdX11_fittingNumber, kX11_fittingNumber_0), (mdX5_hasRoomForNumbers, kX5_hasRoomForNumbers_0), (mdX2_isDoor, kX2_isDoor_0), (mdX2_setPlace, kX2_setPlace_0), (mdX2_add, kX2_add_0), (mdX4_open, kX4_open_0), (mdX11_door, kX11_door_0), (mdX2_isOpen, kX2_isOpen_0), (mdX2_sortOf, kX2_sortOf_0), (mdX2_makeCorner, kX2_makeCorner_0), (mdX11_corner, kX11_corner_0), (mdX11_isUnderSort, kX11_isUnderSort_0), (mdX11_canHaveUnder, kX11_canHaveUnder_0), (mdX11_isUnderNumber, kX11_isUnderNumber_0), (mdX5_slotOf, kX5_slotOf_0), (mdX5_earliestOnDoor, kX5_earliestOnDoor_0), (mdX2_hasOpenUnder, kX2_hasOpenUnder_0)]
theorem pmh4 : ∀ (i : Nat) (q : pu_D × (pu_R → pu_K)), pm4[i]? = some q → pu_okm (80 + i) q := by
  intro i q h
  match i, h with
  | 0, h => cases h; exact ⟨hjX9_isFreeByRule, by decide, rfl, vX9_isFreeByRule_0, fun X r h1 h2 h3 => tX9_isFreeByRule_0 h1 h2 h3⟩
  | 1, h => cases h; exact ⟨hjX9_fittingNumber, by decide, rfl, vX9_fittingNumber_0, fun X r h1 h2 h3 => tX9_fittingNumber_0 h1 h2 h3⟩
  | 2, h => cases h; exact ⟨hjX9_hasDoorAt, by decide, rfl, vX9_hasDoorAt_0, fun X r h1 h2 h3 => tX9_hasDoorAt_0 h1 h2 h3⟩
  | 3, h => cases h; exact ⟨hjX11_fittingNumber, by decide, rfl, vX11_fittingNumber_0, fun X r h1 h2 h3 => tX11_fittingNumber_0 h1 h2 h3⟩
  | 4, h => cases h; exact ⟨hjX5_hasRoomForNumbers, by decide, rfl, vX5_hasRoomForNumbers_0, fun X r h1 h2 h3 => tX5_hasRoomForNumbers_0 h1 h2 h3⟩
  | 5, h => cases h; exact ⟨hjX2_isDoor, by decide, rfl, vX2_isDoor_0, fun X r h1 h2 h3 => tX2_isDoor_0 h1 h2 h3⟩
  | 6, h => cases h; exact ⟨hjX2_setPlace, by decide, rfl, vX2_setPlace_0, fun X r h1 h2 h3 => tX2_setPlace_0 h1 h2 h3⟩
  | 7, h => cases h; exact ⟨hjX2_add, by decide, rfl, vX2_add_0, fun X r h1 h2 h3 => tX2_add_0 h1 h2 h3⟩
  | 8, h => cases h; exact ⟨hjX4_open, by decide, rfl, vX4_open_0, fun X r h1 h2 h3 => tX4_open_0 h1 h2 h3⟩
  | 9, h => cases h; exact ⟨hjX11_door, by decide, rfl, vX11_door_0, fun X r h1 h2 h3 => tX11_door_0 h1 h2 h3⟩
  | 10, h => cases h; exact ⟨hjX2_isOpen, by decide, rfl, vX2_isOpen_0, fun X r h1 h2 h3 => tX2_isOpen_0 h1 h2 h3⟩
  | 11, h => cases h; exact ⟨hjX2_sortOf, by decide, rfl, vX2_sortOf_0, fun X r h1 h2 h3 => tX2_sortOf_0 h1 h2 h3⟩
  | 12, h => cases h; exact ⟨hjX2_makeCorner, by decide, rfl, vX2_makeCorner_0, fun X r h1 h2 h3 => tX2_makeCorner_0 h1 h2 h3⟩
  | 13, h => cases h; exact ⟨hjX11_corner, by decide, rfl, vX11_corner_0, fun X r h1 h2 h3 => tX11_corner_0 h1 h2 h3⟩
  | 14, h => cases h; exact ⟨hjX11_isUnderSort, by decide, rfl, vX11_isUnderSort_0, fun X r h1 h2 h3 => tX11_isUnderSort_0 h1 h2 h3⟩
  | 15, h => cases h; exact ⟨hjX11_canHaveUnder, by decide, rfl, vX11_canHaveUnder_0, fun X r h1 h2 h3 => tX11_canHaveUnder_0 h1 h2 h3⟩
  | 16, h => cases h; exact ⟨hjX11_isUnderNumber, by decide, rfl, vX11_isUnderNumber_0, fun X r h1 h2 h3 => tX11_isUnderNumber_0 h1 h2 h3⟩
  | 17, h => cases h; exact ⟨hjX5_slotOf, by decide, rfl, vX5_slotOf_0, fun X r h1 h2 h3 => tX5_slotOf_0 h1 h2 h3⟩
  | 18, h => cases h; exact ⟨hjX5_earliestOnDoor, by decide, rfl, vX5_earliestOnDoor_0, fun X r h1 h2 h3 => tX5_earliestOnDoor_0 h1 h2 h3⟩
  | 19, h => cases h; exact ⟨hjX2_hasOpenUnder, by decide, rfl, vX2_hasOpenUnder_0, fun X r h1 h2 h3 => tX2_hasOpenUnder_0 h1 h2 h3⟩
  | i + 20, h => cases h
def pm5 : List (pu_D × (pu_R → pu_K)) := [(mdX5_layOnDoor, kX5_layOnDoor_0), (mdX11_under, kX11_under_0), (mdX4_close, kX4_close_0), (mdX2_closeWithUnder, kX2_closeWithUnder_0), (mdX11_gone, kX11_gone_0), (mdX11_freshByPaces, kX11_freshByPaces_0), (mdX10_rowWholeOf, kX10_rowWholeOf_0), (mdX11_setFreshNumbers, kX11_setFreshNumbers_0), (mdX11_isAboveAllBehind, kX11_isAboveAllBehind_0), (mdX11_areFreshRight, kX11_areFreshRight_0), (mdX11_freshWhole, kX11_freshWhole_0), (mdX11_countFreshOthers, kX11_countFreshOthers_0), (mdX10_setRule, kX10_setRule_0), (mdX11_giveFreshNumbers, kX11_giveFreshNumbers_0), (mdX11_renumber, kX11_renumber_0), (mdX11_rename, kX11_rename_0), (mdX5_earliestOnTown, kX5_earliestOnTown_0), (mdX3_streetNamedLike, kX3_streetNamedLike_0), (mdX3_haveOneName, kX3_haveOneName_0), (mdX3_moveAll, kX3_moveAll_0)]
theorem pmh5 : ∀ (i : Nat) (q : pu_D × (pu_R → pu_K)), pm5[i]? = some q → pu_okm (100 + i) q := by
  intro i q h
  match i, h with
  | 0, h => cases h; exact ⟨hjX5_layOnDoor, by decide, rfl, vX5_layOnDoor_0, fun X r h1 h2 h3 => tX5_layOnDoor_0 h1 h2 h3⟩
  | 1, h => cases h; exact ⟨hjX11_under, by decide, rfl, vX11_under_0, fun X r h1 h2 h3 => tX11_under_0 h1 h2 h3⟩
  | 2, h => cases h; exact ⟨hjX4_close, by decide, rfl, vX4_close_0, fun X r h1 h2 h3 => tX4_close_0 h1 h2 h3⟩
  | 3, h => cases h; exact ⟨hjX2_closeWithUnder, by decide, rfl, vX2_closeWithUnder_0, fun X r h1 h2 h3 => tX2_closeWithUnder_0 h1 h2 h3⟩
  | 4, h => cases h; exact ⟨hjX11_gone, by decide, rfl, vX11_gone_0, fun X r h1 h2 h3 => tX11_gone_0 h1 h2 h3⟩
  | 5, h => cases h; exact ⟨hjX11_freshByPaces, by decide, rfl, vX11_freshByPaces_0, fun X r h1 h2 h3 => tX11_freshByPaces_0 h1 h2 h3⟩
  | 6, h => cases h; exact ⟨hjX10_rowWholeOf, by decide, rfl, vX10_rowWholeOf_0, fun X r h1 h2 h3 => tX10_rowWholeOf_0 h1 h2 h3⟩
  | 7, h => cases h; exact ⟨hjX11_setFreshNumbers, by decide, rfl, vX11_setFreshNumbers_0, fun X r h1 h2 h3 => tX11_setFreshNumbers_0 h1 h2 h3⟩
  | 8, h => cases h; exact ⟨hjX11_isAboveAllBehind, by decide, rfl, vX11_isAboveAllBehind_0, fun X r h1 h2 h3 => tX11_isAboveAllBehind_0 h1 h2 h3⟩
  | 9, h => cases h; exact ⟨hjX11_areFreshRight, by decide, rfl, vX11_areFreshRight_0, fun X r h1 h2 h3 => tX11_areFreshRight_0 h1 h2 h3⟩
  | 10, h => cases h; exact ⟨hjX11_freshWhole, by decide, rfl, vX11_freshWhole_0, fun X r h1 h2 h3 => tX11_freshWhole_0 h1 h2 h3⟩
  | 11, h => cases h; exact ⟨hjX11_countFreshOthers, by decide, rfl, vX11_countFreshOthers_0, fun X r h1 h2 h3 => tX11_countFreshOthers_0 h1 h2 h3⟩
  | 12, h => cases h; exact ⟨hjX10_setRule, by decide, rfl, vX10_setRule_0, fun X r h1 h2 h3 => tX10_setRule_0 h1 h2 h3⟩
  | 13, h => cases h; exact ⟨hjX11_giveFreshNumbers, by decide, rfl, vX11_giveFreshNumbers_0, fun X r h1 h2 h3 => tX11_giveFreshNumbers_0 h1 h2 h3⟩
  | 14, h => cases h; exact ⟨hjX11_renumber, by decide, rfl, vX11_renumber_0, fun X r h1 h2 h3 => tX11_renumber_0 h1 h2 h3⟩
  | 15, h => cases h; exact ⟨hjX11_rename, by decide, rfl, vX11_rename_0, fun X r h1 h2 h3 => tX11_rename_0 h1 h2 h3⟩
  | 16, h => cases h; exact ⟨hjX5_earliestOnTown, by decide, rfl, vX5_earliestOnTown_0, fun X r h1 h2 h3 => tX5_earliestOnTown_0 h1 h2 h3⟩
  | 17, h => cases h; exact ⟨hjX3_streetNamedLike, by decide, rfl, vX3_streetNamedLike_0, fun X r h1 h2 h3 => tX3_streetNamedLike_0 h1 h2 h3⟩
  | 18, h => cases h; exact ⟨hjX3_haveOneName, by decide, rfl, vX3_haveOneName_0, fun X r h1 h2 h3 => tX3_haveOneName_0 h1 h2 h3⟩
  | 19, h => cases h; exact ⟨hjX3_moveAll, by decide, rfl, vX3_moveAll_0, fun X r h1 h2 h3 => tX3_moveAll_0 h1 h2 h3⟩
  | i + 20, h => cases h
def pm6 : List (pu_D × (pu_R → pu_K)) := [(mdX11_join, kX11_join_0), (mdX10_setRowLength, kX10_setRowLength_0), (mdX10_setRowWhole, kX10_setRowWhole_0), (mdX11_keepRow, kX11_keepRow_0), (mdX11_row, kX11_row_0), (mdX10_rowLengthOf, kX10_rowLengthOf_0), (mdX11_tear, kX11_tear_0), (mdX6_keptWithout, kX6_keptWithout_0), (mdX4_takeBack, kX4_takeBack_0), (mdX3_takeBack, kX3_takeBack_0), (mdX10_takeBack, kX10_takeBack_0), (mdX2_takeBack, kX2_takeBack_0), (mdX5_takeBackLatest, kX5_takeBackLatest_0), (mdX11_undo, kX11_undo_0), (mdX6_copyFrom, kX6_copyFrom_0), (mdX4_copyFrom, kX4_copyFrom_0), (mdX3_copyFrom, kX3_copyFrom_0), (mdX10_copyFrom, kX10_copyFrom_0), (mdX2_copyFrom, kX2_copyFrom_0), (mdX8_copyFrom, kX8_copyFrom_0)]
theorem pmh6 : ∀ (i : Nat) (q : pu_D × (pu_R → pu_K)), pm6[i]? = some q → pu_okm (120 + i) q := by
  intro i q h
  match i, h with
  | 0, h => cases h; exact ⟨hjX11_join, by decide, rfl, vX11_join_0, fun X r h1 h2 h3 => tX11_join_0 h1 h2 h3⟩
  | 1, h => cases h; exact ⟨hjX10_setRowLength, by decide, rfl, vX10_setRowLength_0, fun X r h1 h2 h3 => tX10_setRowLength_0 h1 h2 h3⟩
  | 2, h => cases h; exact ⟨hjX10_setRowWhole, by decide, rfl, vX10_setRowWhole_0, fun X r h1 h2 h3 => tX10_setRowWhole_0 h1 h2 h3⟩
  | 3, h => cases h; exact ⟨hjX11_keepRow, by decide, rfl, vX11_keepRow_0, fun X r h1 h2 h3 => tX11_keepRow_0 h1 h2 h3⟩
  | 4, h => cases h; exact ⟨hjX11_row, by decide, rfl, vX11_row_0, fun X r h1 h2 h3 => tX11_row_0 h1 h2 h3⟩
  | 5, h => cases h; exact ⟨hjX10_rowLengthOf, by decide, rfl, vX10_rowLengthOf_0, fun X r h1 h2 h3 => tX10_rowLengthOf_0 h1 h2 h3⟩
  | 6, h => cases h; exact ⟨hjX11_tear, by decide, rfl, vX11_tear_0, fun X r h1 h2 h3 => tX11_tear_0 h1 h2 h3⟩
  | 7, h => cases h; exact ⟨hjX6_keptWithout, by decide, rfl, vX6_keptWithout_0, fun X r h1 h2 h3 => tX6_keptWithout_0 h1 h2 h3⟩
  | 8, h => cases h; exact ⟨hjX4_takeBack, by decide, rfl, vX4_takeBack_0, fun X r h1 h2 h3 => tX4_takeBack_0 h1 h2 h3⟩
  | 9, h => cases h; exact ⟨hjX3_takeBack, by decide, rfl, vX3_takeBack_0, fun X r h1 h2 h3 => tX3_takeBack_0 h1 h2 h3⟩
  | 10, h => cases h; exact ⟨hjX10_takeBack, by decide, rfl, vX10_takeBack_0, fun X r h1 h2 h3 => tX10_takeBack_0 h1 h2 h3⟩
  | 11, h => cases h; exact ⟨hjX2_takeBack, by decide, rfl, vX2_takeBack_0, fun X r h1 h2 h3 => tX2_takeBack_0 h1 h2 h3⟩
  | 12, h => cases h; exact ⟨hjX5_takeBackLatest, by decide, rfl, vX5_takeBackLatest_0, fun X r h1 h2 h3 => tX5_takeBackLatest_0 h1 h2 h3⟩
  | 13, h => cases h; exact ⟨hjX11_undo, by decide, rfl, vX11_undo_0, fun X r h1 h2 h3 => tX11_undo_0 h1 h2 h3⟩
  | 14, h => cases h; exact ⟨hjX6_copyFrom, by decide, rfl, vX6_copyFrom_0, fun X r h1 h2 h3 => tX6_copyFrom_0 h1 h2 h3⟩
  | 15, h => cases h; exact ⟨hjX4_copyFrom, by decide, rfl, vX4_copyFrom_0, fun X r h1 h2 h3 => tX4_copyFrom_0 h1 h2 h3⟩
  | 16, h => cases h; exact ⟨hjX3_copyFrom, by decide, rfl, vX3_copyFrom_0, fun X r h1 h2 h3 => tX3_copyFrom_0 h1 h2 h3⟩
  | 17, h => cases h; exact ⟨hjX10_copyFrom, by decide, rfl, vX10_copyFrom_0, fun X r h1 h2 h3 => tX10_copyFrom_0 h1 h2 h3⟩
  | 18, h => cases h; exact ⟨hjX2_copyFrom, by decide, rfl, vX2_copyFrom_0, fun X r h1 h2 h3 => tX2_copyFrom_0 h1 h2 h3⟩
  | 19, h => cases h; exact ⟨hjX8_copyFrom, by decide, rfl, vX8_copyFrom_0, fun X r h1 h2 h3 => tX8_copyFrom_0 h1 h2 h3⟩
  | i + 20, h => cases h
def pm7 : List (pu_D × (pu_R → pu_K)) := [(mdX1_copyFrom, kX1_copyFrom_0), (mdX5_copyFrom, kX5_copyFrom_0), (mdX11_image, kX11_image_0), (mdX11_back, kX11_back_0), (mdX11_about, kX11_about_0), (mdX2_isThereOn, kX2_isThereOn_0), (mdX11_stands, kX11_stands_0), (mdX4_holding, kX4_holding_0), (mdX6_endOf, kX6_endOf_0), (mdX11_number, kX11_number_0), (mdX3_holding, kX3_holding_0), (mdX0_putWord, kX0_putWord_0), (mdX0_putName, kX0_putName_0), (mdX0_putDecimal, kX0_putDecimal_0), (mdX0_putWhole, kX0_putWhole_0), (mdJ0_coder_7d493, kJ0_coder_7d493_0), (mdJ0_length_8abf5, kJ0_length_8abf5_0), (mdJ0_isLatin1_aae02, kJ0_isLatin1_aae02_0), (mdJ3_checkIndex_8e157, kJ3_checkIndex_8e157_0), (mdJ0_checkIndex_df160, kJ0_checkIndex_df160_0)]
theorem pmh7 : ∀ (i : Nat) (q : pu_D × (pu_R → pu_K)), pm7[i]? = some q → pu_okm (140 + i) q := by
  intro i q h
  match i, h with
  | 0, h => cases h; exact ⟨hjX1_copyFrom, by decide, rfl, vX1_copyFrom_0, fun X r h1 h2 h3 => tX1_copyFrom_0 h1 h2 h3⟩
  | 1, h => cases h; exact ⟨hjX5_copyFrom, by decide, rfl, vX5_copyFrom_0, fun X r h1 h2 h3 => tX5_copyFrom_0 h1 h2 h3⟩
  | 2, h => cases h; exact ⟨hjX11_image, by decide, rfl, vX11_image_0, fun X r h1 h2 h3 => tX11_image_0 h1 h2 h3⟩
  | 3, h => cases h; exact ⟨hjX11_back, by decide, rfl, vX11_back_0, fun X r h1 h2 h3 => tX11_back_0 h1 h2 h3⟩
  | 4, h => cases h; exact ⟨hjX11_about, by decide, rfl, vX11_about_0, fun X r h1 h2 h3 => tX11_about_0 h1 h2 h3⟩
  | 5, h => cases h; exact ⟨hjX2_isThereOn, by decide, rfl, vX2_isThereOn_0, fun X r h1 h2 h3 => tX2_isThereOn_0 h1 h2 h3⟩
  | 6, h => cases h; exact ⟨hjX11_stands, by decide, rfl, vX11_stands_0, fun X r h1 h2 h3 => tX11_stands_0 h1 h2 h3⟩
  | 7, h => cases h; exact ⟨hjX4_holding, by decide, rfl, vX4_holding_0, fun X r h1 h2 h3 => tX4_holding_0 h1 h2 h3⟩
  | 8, h => cases h; exact ⟨hjX6_endOf, by decide, rfl, vX6_endOf_0, fun X r h1 h2 h3 => tX6_endOf_0 h1 h2 h3⟩
  | 9, h => cases h; exact ⟨hjX11_number, by decide, rfl, vX11_number_0, fun X r h1 h2 h3 => tX11_number_0 h1 h2 h3⟩
  | 10, h => cases h; exact ⟨hjX3_holding, by decide, rfl, vX3_holding_0, fun X r h1 h2 h3 => tX3_holding_0 h1 h2 h3⟩
  | 11, h => cases h; exact ⟨hjX0_putWord, by decide, rfl, vX0_putWord_0, fun X r h1 h2 h3 => tX0_putWord_0 h1 h2 h3⟩
  | 12, h => cases h; exact ⟨hjX0_putName, by decide, rfl, vX0_putName_0, fun X r h1 h2 h3 => tX0_putName_0 h1 h2 h3⟩
  | 13, h => cases h; exact ⟨hjX0_putDecimal, by decide, rfl, vX0_putDecimal_0, fun X r h1 h2 h3 => tX0_putDecimal_0 h1 h2 h3⟩
  | 14, h => cases h; exact ⟨hjX0_putWhole, by decide, rfl, vX0_putWhole_0, fun X r h1 h2 h3 => tX0_putWhole_0 h1 h2 h3⟩
  | 15, h => cases h; exact ⟨hjJ0_coder_7d493, by decide, rfl, vJ0_coder_7d493_0, fun X r h1 h2 h3 => tJ0_coder_7d493_0 h1 h2 h3⟩
  | 16, h => cases h; exact ⟨hjJ0_length_8abf5, by decide, rfl, vJ0_length_8abf5_0, fun X r h1 h2 h3 => tJ0_length_8abf5_0 h1 h2 h3⟩
  | 17, h => cases h; exact ⟨hjJ0_isLatin1_aae02, by decide, rfl, vJ0_isLatin1_aae02_0, fun X r h1 h2 h3 => tJ0_isLatin1_aae02_0 h1 h2 h3⟩
  | 18, h => cases h; exact ⟨hjJ3_checkIndex_8e157, by decide, rfl, vJ3_checkIndex_8e157_0, fun X r h1 h2 h3 => tJ3_checkIndex_8e157_0 h1 h2 h3⟩
  | 19, h => cases h; exact ⟨hjJ0_checkIndex_df160, by decide, rfl, vJ0_checkIndex_df160_0, fun X r h1 h2 h3 => tJ0_checkIndex_df160_0 h1 h2 h3⟩
  | i + 20, h => cases h
def pm8 : List (pu_D × (pu_R → pu_K)) := [(mdJ1_charAt_3b067, kJ1_charAt_3b067_0), (mdJ0_charAt_5068e, kJ0_charAt_5068e_0), (mdX0_putText, kX0_putText_0), (mdX11_putExtra, kX11_putExtra_0), (mdX11_write, kX11_write_0), (mdX7_readStreet, kX7_readStreet_0), (mdX7_readDigits, kX7_readDigits_0), (mdX7_readNumber, kX7_readNumber_0), (mdX7_readText, kX7_readText_0), (mdX7_readExtra, kX7_readExtra_0), (mdX7_readAddress, kX7_readAddress_0), (mdX11_readAddress, kX11_readAddress_0), (mdX3_streetOn, kX3_streetOn_0), (mdX11_viewStreetOfAddress, kX11_viewStreetOfAddress_0), (mdX9_couldHave, kX9_couldHave_0), (mdX9_isInGap, kX9_isInGap_0), (mdX9_unknownInGapOf, kX9_unknownInGapOf_0), (mdX9_likelyRankOf, kX9_likelyRankOf_0), (mdX11_isTold, kX11_isTold_0), (mdX11_toldOf, kX11_toldOf_0)]
theorem pmh8 : ∀ (i : Nat) (q : pu_D × (pu_R → pu_K)), pm8[i]? = some q → pu_okm (160 + i) q := by
  intro i q h
  match i, h with
  | 0, h => cases h; exact ⟨hjJ1_charAt_3b067, by decide, rfl, vJ1_charAt_3b067_0, fun X r h1 h2 h3 => tJ1_charAt_3b067_0 h1 h2 h3⟩
  | 1, h => cases h; exact ⟨hjJ0_charAt_5068e, by decide, rfl, vJ0_charAt_5068e_0, fun X r h1 h2 h3 => tJ0_charAt_5068e_0 h1 h2 h3⟩
  | 2, h => cases h; exact ⟨hjX0_putText, by decide, rfl, vX0_putText_0, fun X r h1 h2 h3 => tX0_putText_0 h1 h2 h3⟩
  | 3, h => cases h; exact ⟨hjX11_putExtra, by decide, rfl, vX11_putExtra_0, fun X r h1 h2 h3 => tX11_putExtra_0 h1 h2 h3⟩
  | 4, h => cases h; exact ⟨hjX11_write, by decide, rfl, vX11_write_0, fun X r h1 h2 h3 => tX11_write_0 h1 h2 h3⟩
  | 5, h => cases h; exact ⟨hjX7_readStreet, by decide, rfl, vX7_readStreet_0, fun X r h1 h2 h3 => tX7_readStreet_0 h1 h2 h3⟩
  | 6, h => cases h; exact ⟨hjX7_readDigits, by decide, rfl, vX7_readDigits_0, fun X r h1 h2 h3 => tX7_readDigits_0 h1 h2 h3⟩
  | 7, h => cases h; exact ⟨hjX7_readNumber, by decide, rfl, vX7_readNumber_0, fun X r h1 h2 h3 => tX7_readNumber_0 h1 h2 h3⟩
  | 8, h => cases h; exact ⟨hjX7_readText, by decide, rfl, vX7_readText_0, fun X r h1 h2 h3 => tX7_readText_0 h1 h2 h3⟩
  | 9, h => cases h; exact ⟨hjX7_readExtra, by decide, rfl, vX7_readExtra_0, fun X r h1 h2 h3 => tX7_readExtra_0 h1 h2 h3⟩
  | 10, h => cases h; exact ⟨hjX7_readAddress, by decide, rfl, vX7_readAddress_0, fun X r h1 h2 h3 => tX7_readAddress_0 h1 h2 h3⟩
  | 11, h => cases h; exact ⟨hjX11_readAddress, by decide, rfl, vX11_readAddress_0, fun X r h1 h2 h3 => tX11_readAddress_0 h1 h2 h3⟩
  | 12, h => cases h; exact ⟨hjX3_streetOn, by decide, rfl, vX3_streetOn_0, fun X r h1 h2 h3 => tX3_streetOn_0 h1 h2 h3⟩
  | 13, h => cases h; exact ⟨hjX11_viewStreetOfAddress, by decide, rfl, vX11_viewStreetOfAddress_0, fun X r h1 h2 h3 => tX11_viewStreetOfAddress_0 h1 h2 h3⟩
  | 14, h => cases h; exact ⟨hjX9_couldHave, by decide, rfl, vX9_couldHave_0, fun X r h1 h2 h3 => tX9_couldHave_0 h1 h2 h3⟩
  | 15, h => cases h; exact ⟨hjX9_isInGap, by decide, rfl, vX9_isInGap_0, fun X r h1 h2 h3 => tX9_isInGap_0 h1 h2 h3⟩
  | 16, h => cases h; exact ⟨hjX9_unknownInGapOf, by decide, rfl, vX9_unknownInGapOf_0, fun X r h1 h2 h3 => tX9_unknownInGapOf_0 h1 h2 h3⟩
  | 17, h => cases h; exact ⟨hjX9_likelyRankOf, by decide, rfl, vX9_likelyRankOf_0, fun X r h1 h2 h3 => tX9_likelyRankOf_0 h1 h2 h3⟩
  | 18, h => cases h; exact ⟨hjX11_isTold, by decide, rfl, vX11_isTold_0, fun X r h1 h2 h3 => tX11_isTold_0 h1 h2 h3⟩
  | 19, h => cases h; exact ⟨hjX11_toldOf, by decide, rfl, vX11_toldOf_0, fun X r h1 h2 h3 => tX11_toldOf_0 h1 h2 h3⟩
  | i + 20, h => cases h
def pm9 : List (pu_D × (pu_R → pu_K)) := [(mdX1_addFound, kX1_addFound_0), (mdX11_findOne, kX11_findOne_0), (mdX11_findLikely, kX11_findLikely_0), (mdX11_means, kX11_means_0), (mdX11_fault, kX11_fault_0), (mdX11_found, kX11_found_0), (mdX11_sureDoor, kX11_sureDoor_0), (mdX11_seekOldAt, kX11_seekOldAt_0), (mdX11_seekOldIn, kX11_seekOldIn_0), (mdX11_seekOld, kX11_seekOld_0), (mdX11_call, kX11_call_0), (mdX11_ended, kX11_ended_0), (mdX5_isOpenKnownNumberIn, kX5_isOpenKnownNumberIn_0), (mdX1_addPair, kX1_addPair_0), (mdX11_pairStreets, kX11_pairStreets_0), (mdX11_pairTowns, kX11_pairTowns_0), (mdX11_twice, kX11_twice_0), (mdX11_pair, kX11_pair_0), (mdX11_free, kX11_free_0), (mdX11_isNearer, kX11_isNearer_0)]
theorem pmh9 : ∀ (i : Nat) (q : pu_D × (pu_R → pu_K)), pm9[i]? = some q → pu_okm (180 + i) q := by
  intro i q h
  match i, h with
  | 0, h => cases h; exact ⟨hjX1_addFound, by decide, rfl, vX1_addFound_0, fun X r h1 h2 h3 => tX1_addFound_0 h1 h2 h3⟩
  | 1, h => cases h; exact ⟨hjX11_findOne, by decide, rfl, vX11_findOne_0, fun X r h1 h2 h3 => tX11_findOne_0 h1 h2 h3⟩
  | 2, h => cases h; exact ⟨hjX11_findLikely, by decide, rfl, vX11_findLikely_0, fun X r h1 h2 h3 => tX11_findLikely_0 h1 h2 h3⟩
  | 3, h => cases h; exact ⟨hjX11_means, by decide, rfl, vX11_means_0, fun X r h1 h2 h3 => tX11_means_0 h1 h2 h3⟩
  | 4, h => cases h; exact ⟨hjX11_fault, by decide, rfl, vX11_fault_0, fun X r h1 h2 h3 => tX11_fault_0 h1 h2 h3⟩
  | 5, h => cases h; exact ⟨hjX11_found, by decide, rfl, vX11_found_0, fun X r h1 h2 h3 => tX11_found_0 h1 h2 h3⟩
  | 6, h => cases h; exact ⟨hjX11_sureDoor, by decide, rfl, vX11_sureDoor_0, fun X r h1 h2 h3 => tX11_sureDoor_0 h1 h2 h3⟩
  | 7, h => cases h; exact ⟨hjX11_seekOldAt, by decide, rfl, vX11_seekOldAt_0, fun X r h1 h2 h3 => tX11_seekOldAt_0 h1 h2 h3⟩
  | 8, h => cases h; exact ⟨hjX11_seekOldIn, by decide, rfl, vX11_seekOldIn_0, fun X r h1 h2 h3 => tX11_seekOldIn_0 h1 h2 h3⟩
  | 9, h => cases h; exact ⟨hjX11_seekOld, by decide, rfl, vX11_seekOld_0, fun X r h1 h2 h3 => tX11_seekOld_0 h1 h2 h3⟩
  | 10, h => cases h; exact ⟨hjX11_call, by decide, rfl, vX11_call_0, fun X r h1 h2 h3 => tX11_call_0 h1 h2 h3⟩
  | 11, h => cases h; exact ⟨hjX11_ended, by decide, rfl, vX11_ended_0, fun X r h1 h2 h3 => tX11_ended_0 h1 h2 h3⟩
  | 12, h => cases h; exact ⟨hjX5_isOpenKnownNumberIn, by decide, rfl, vX5_isOpenKnownNumberIn_0, fun X r h1 h2 h3 => tX5_isOpenKnownNumberIn_0 h1 h2 h3⟩
  | 13, h => cases h; exact ⟨hjX1_addPair, by decide, rfl, vX1_addPair_0, fun X r h1 h2 h3 => tX1_addPair_0 h1 h2 h3⟩
  | 14, h => cases h; exact ⟨hjX11_pairStreets, by decide, rfl, vX11_pairStreets_0, fun X r h1 h2 h3 => tX11_pairStreets_0 h1 h2 h3⟩
  | 15, h => cases h; exact ⟨hjX11_pairTowns, by decide, rfl, vX11_pairTowns_0, fun X r h1 h2 h3 => tX11_pairTowns_0 h1 h2 h3⟩
  | 16, h => cases h; exact ⟨hjX11_twice, by decide, rfl, vX11_twice_0, fun X r h1 h2 h3 => tX11_twice_0 h1 h2 h3⟩
  | 17, h => cases h; exact ⟨hjX11_pair, by decide, rfl, vX11_pair_0, fun X r h1 h2 h3 => tX11_pair_0 h1 h2 h3⟩
  | 18, h => cases h; exact ⟨hjX11_free, by decide, rfl, vX11_free_0, fun X r h1 h2 h3 => tX11_free_0 h1 h2 h3⟩
  | 19, h => cases h; exact ⟨hjX11_isNearer, by decide, rfl, vX11_isNearer_0, fun X r h1 h2 h3 => tX11_isNearer_0 h1 h2 h3⟩
  | i + 20, h => cases h
def pm10 : List (pu_D × (pu_R → pu_K)) := [(mdX11_near, kX11_near_0), (mdX1_addStop, kX1_addStop_0), (mdX11_stop, kX11_stop_0), (mdX1_whenWalked, kX1_whenWalked_0), (mdX1_addWalked, kX1_addWalked_0), (mdX5_rankUnder, kX5_rankUnder_0), (mdX5_sinkWalked, kX5_sinkWalked_0), (mdX11_walkUnder, kX11_walkUnder_0), (mdX11_walkView, kX11_walkView_0), (mdX11_walk, kX11_walk_0), (mdX11_walked, kX11_walked_0), (mdX1_addLetter, kX1_addLetter_0), (mdX11_letter, kX11_letter_0), (mdX1_addSorted, kX1_addSorted_0), (mdX1_sortLettersOf, kX1_sortLettersOf_0), (mdX1_sortLetters, kX1_sortLetters_0), (mdX11_sort, kX11_sort_0), (mdX11_sorted, kX11_sorted_0), (mdJ7_fill_53178, kJ7_fill_53178_0), (mdX5_setWholesOn, kX5_setWholesOn_0)]
theorem pmh10 : ∀ (i : Nat) (q : pu_D × (pu_R → pu_K)), pm10[i]? = some q → pu_okm (200 + i) q := by
  intro i q h
  match i, h with
  | 0, h => cases h; exact ⟨hjX11_near, by decide, rfl, vX11_near_0, fun X r h1 h2 h3 => tX11_near_0 h1 h2 h3⟩
  | 1, h => cases h; exact ⟨hjX1_addStop, by decide, rfl, vX1_addStop_0, fun X r h1 h2 h3 => tX1_addStop_0 h1 h2 h3⟩
  | 2, h => cases h; exact ⟨hjX11_stop, by decide, rfl, vX11_stop_0, fun X r h1 h2 h3 => tX11_stop_0 h1 h2 h3⟩
  | 3, h => cases h; exact ⟨hjX1_whenWalked, by decide, rfl, vX1_whenWalked_0, fun X r h1 h2 h3 => tX1_whenWalked_0 h1 h2 h3⟩
  | 4, h => cases h; exact ⟨hjX1_addWalked, by decide, rfl, vX1_addWalked_0, fun X r h1 h2 h3 => tX1_addWalked_0 h1 h2 h3⟩
  | 5, h => cases h; exact ⟨hjX5_rankUnder, by decide, rfl, vX5_rankUnder_0, fun X r h1 h2 h3 => tX5_rankUnder_0 h1 h2 h3⟩
  | 6, h => cases h; exact ⟨hjX5_sinkWalked, by decide, rfl, vX5_sinkWalked_0, fun X r h1 h2 h3 => tX5_sinkWalked_0 h1 h2 h3⟩
  | 7, h => cases h; exact ⟨hjX11_walkUnder, by decide, rfl, vX11_walkUnder_0, fun X r h1 h2 h3 => tX11_walkUnder_0 h1 h2 h3⟩
  | 8, h => cases h; exact ⟨hjX11_walkView, by decide, rfl, vX11_walkView_0, fun X r h1 h2 h3 => tX11_walkView_0 h1 h2 h3⟩
  | 9, h => cases h; exact ⟨hjX11_walk, by decide, rfl, vX11_walk_0, fun X r h1 h2 h3 => tX11_walk_0 h1 h2 h3⟩
  | 10, h => cases h; exact ⟨hjX11_walked, by decide, rfl, vX11_walked_0, fun X r h1 h2 h3 => tX11_walked_0 h1 h2 h3⟩
  | 11, h => cases h; exact ⟨hjX1_addLetter, by decide, rfl, vX1_addLetter_0, fun X r h1 h2 h3 => tX1_addLetter_0 h1 h2 h3⟩
  | 12, h => cases h; exact ⟨hjX11_letter, by decide, rfl, vX11_letter_0, fun X r h1 h2 h3 => tX11_letter_0 h1 h2 h3⟩
  | 13, h => cases h; exact ⟨hjX1_addSorted, by decide, rfl, vX1_addSorted_0, fun X r h1 h2 h3 => tX1_addSorted_0 h1 h2 h3⟩
  | 14, h => cases h; exact ⟨hjX1_sortLettersOf, by decide, rfl, vX1_sortLettersOf_0, fun X r h1 h2 h3 => tX1_sortLettersOf_0 h1 h2 h3⟩
  | 15, h => cases h; exact ⟨hjX1_sortLetters, by decide, rfl, vX1_sortLetters_0, fun X r h1 h2 h3 => tX1_sortLetters_0 h1 h2 h3⟩
  | 16, h => cases h; exact ⟨hjX11_sort, by decide, rfl, vX11_sort_0, fun X r h1 h2 h3 => tX11_sort_0 h1 h2 h3⟩
  | 17, h => cases h; exact ⟨hjX11_sorted, by decide, rfl, vX11_sorted_0, fun X r h1 h2 h3 => tX11_sorted_0 h1 h2 h3⟩
  | 18, h => cases h; exact ⟨hjJ7_fill_53178, by decide, rfl, vJ7_fill_53178_0, fun X r h1 h2 h3 => tJ7_fill_53178_0 h1 h2 h3⟩
  | 19, h => cases h; exact ⟨hjX5_setWholesOn, by decide, rfl, vX5_setWholesOn_0, fun X r h1 h2 h3 => tX5_setWholesOn_0 h1 h2 h3⟩
  | i + 20, h => cases h
def pm11 : List (pu_D × (pu_R → pu_K)) := [(mdX11_putRecord, kX11_putRecord_0), (mdX11_list, kX11_list_0), (mdX11_slotOfRecord, kX11_slotOfRecord_0), (mdX11_checkRecords, kX11_checkRecords_0), (mdX11_check, kX11_check_0), (mdX0_byteAt, kX0_byteAt_0), (mdX11_out, kX11_out_0), (mdX11_count, kX11_count_0), (mdX12_init, kX12_init_0), (mdX12_feed, kX12_feed_0), (mdX12_end, kX12_end_0), (mdX12_take, kX12_take_0), (mdX12_out, kX12_out_0), (mdX12_takes, kX12_takes_0), (mdX12_isDay, kX12_isDay_0), (mdX12_day, kX12_day_0), (mdX12_as, kX12_as_0), (mdX12_isKnown, kX12_isKnown_0), (mdX12_from, kX12_from_0), (mdX12_holds, kX12_holds_0)]
theorem pmh11 : ∀ (i : Nat) (q : pu_D × (pu_R → pu_K)), pm11[i]? = some q → pu_okm (220 + i) q := by
  intro i q h
  match i, h with
  | 0, h => cases h; exact ⟨hjX11_putRecord, by decide, rfl, vX11_putRecord_0, fun X r h1 h2 h3 => tX11_putRecord_0 h1 h2 h3⟩
  | 1, h => cases h; exact ⟨hjX11_list, by decide, rfl, vX11_list_0, fun X r h1 h2 h3 => tX11_list_0 h1 h2 h3⟩
  | 2, h => cases h; exact ⟨hjX11_slotOfRecord, by decide, rfl, vX11_slotOfRecord_0, fun X r h1 h2 h3 => tX11_slotOfRecord_0 h1 h2 h3⟩
  | 3, h => cases h; exact ⟨hjX11_checkRecords, by decide, rfl, vX11_checkRecords_0, fun X r h1 h2 h3 => tX11_checkRecords_0 h1 h2 h3⟩
  | 4, h => cases h; exact ⟨hjX11_check, by decide, rfl, vX11_check_0, fun X r h1 h2 h3 => tX11_check_0 h1 h2 h3⟩
  | 5, h => cases h; exact ⟨hjX0_byteAt, by decide, rfl, vX0_byteAt_0, fun X r h1 h2 h3 => tX0_byteAt_0 h1 h2 h3⟩
  | 6, h => cases h; exact ⟨hjX11_out, by decide, rfl, vX11_out_0, fun X r h1 h2 h3 => tX11_out_0 h1 h2 h3⟩
  | 7, h => cases h; exact ⟨hjX11_count, by decide, rfl, vX11_count_0, fun X r h1 h2 h3 => tX11_count_0 h1 h2 h3⟩
  | 8, h => cases h; exact ⟨hjX12_init, by decide, rfl, vX12_init_0, fun X r h1 h2 h3 => tX12_init_0 h1 h2 h3⟩
  | 9, h => cases h; exact ⟨hjX12_feed, by decide, rfl, vX12_feed_0, fun X r h1 h2 h3 => tX12_feed_0 h1 h2 h3⟩
  | 10, h => cases h; exact ⟨hjX12_end, by decide, rfl, vX12_end_0, fun X r h1 h2 h3 => tX12_end_0 h1 h2 h3⟩
  | 11, h => cases h; exact ⟨hjX12_take, by decide, rfl, vX12_take_0, fun X r h1 h2 h3 => tX12_take_0 h1 h2 h3⟩
  | 12, h => cases h; exact ⟨hjX12_out, by decide, rfl, vX12_out_0, fun X r h1 h2 h3 => tX12_out_0 h1 h2 h3⟩
  | 13, h => cases h; exact ⟨hjX12_takes, by decide, rfl, vX12_takes_0, fun X r h1 h2 h3 => tX12_takes_0 h1 h2 h3⟩
  | 14, h => cases h; exact ⟨hjX12_isDay, by decide, rfl, vX12_isDay_0, fun X r h1 h2 h3 => tX12_isDay_0 h1 h2 h3⟩
  | 15, h => cases h; exact ⟨hjX12_day, by decide, rfl, vX12_day_0, fun X r h1 h2 h3 => tX12_day_0 h1 h2 h3⟩
  | 16, h => cases h; exact ⟨hjX12_as, by decide, rfl, vX12_as_0, fun X r h1 h2 h3 => tX12_as_0 h1 h2 h3⟩
  | 17, h => cases h; exact ⟨hjX12_isKnown, by decide, rfl, vX12_isKnown_0, fun X r h1 h2 h3 => tX12_isKnown_0 h1 h2 h3⟩
  | 18, h => cases h; exact ⟨hjX12_from, by decide, rfl, vX12_from_0, fun X r h1 h2 h3 => tX12_from_0 h1 h2 h3⟩
  | 19, h => cases h; exact ⟨hjX12_holds, by decide, rfl, vX12_holds_0, fun X r h1 h2 h3 => tX12_holds_0 h1 h2 h3⟩
  | i + 20, h => cases h
def pm12 : List (pu_D × (pu_R → pu_K)) := [(mdX12_isLetter, kX12_isLetter_0), (mdX12_here, kX12_here_0), (mdX12_lengthen, kX12_lengthen_0), (mdX12_reads, kX12_reads_0), (mdX12_readsName, kX12_readsName_0), (mdX12_isName, kX12_isName_0), (mdX12_areAlike, kX12_areAlike_0), (mdX12_keepName, kX12_keepName_0), (mdX12_town, kX12_town_0), (mdX12_isWordOf, kX12_isWordOf_0), (mdX12_shorten, kX12_shorten_0), (mdX12_isStreet, kX12_isStreet_0), (mdX12_isTown, kX12_isTown_0), (mdX12_openName, kX12_openName_0), (mdX12_townOf, kX12_townOf_0), (mdX12_latest, kX12_latest_0), (mdX12_isEarly, kX12_isEarly_0), (mdX12_paper, kX12_paper_0), (mdX12_openName_, kX12_openName__0), (mdX12_isTaken, kX12_isTaken_0)]
theorem pmh12 : ∀ (i : Nat) (q : pu_D × (pu_R → pu_K)), pm12[i]? = some q → pu_okm (240 + i) q := by
  intro i q h
  match i, h with
  | 0, h => cases h; exact ⟨hjX12_isLetter, by decide, rfl, vX12_isLetter_0, fun X r h1 h2 h3 => tX12_isLetter_0 h1 h2 h3⟩
  | 1, h => cases h; exact ⟨hjX12_here, by decide, rfl, vX12_here_0, fun X r h1 h2 h3 => tX12_here_0 h1 h2 h3⟩
  | 2, h => cases h; exact ⟨hjX12_lengthen, by decide, rfl, vX12_lengthen_0, fun X r h1 h2 h3 => tX12_lengthen_0 h1 h2 h3⟩
  | 3, h => cases h; exact ⟨hjX12_reads, by decide, rfl, vX12_reads_0, fun X r h1 h2 h3 => tX12_reads_0 h1 h2 h3⟩
  | 4, h => cases h; exact ⟨hjX12_readsName, by decide, rfl, vX12_readsName_0, fun X r h1 h2 h3 => tX12_readsName_0 h1 h2 h3⟩
  | 5, h => cases h; exact ⟨hjX12_isName, by decide, rfl, vX12_isName_0, fun X r h1 h2 h3 => tX12_isName_0 h1 h2 h3⟩
  | 6, h => cases h; exact ⟨hjX12_areAlike, by decide, rfl, vX12_areAlike_0, fun X r h1 h2 h3 => tX12_areAlike_0 h1 h2 h3⟩
  | 7, h => cases h; exact ⟨hjX12_keepName, by decide, rfl, vX12_keepName_0, fun X r h1 h2 h3 => tX12_keepName_0 h1 h2 h3⟩
  | 8, h => cases h; exact ⟨hjX12_town, by decide, rfl, vX12_town_0, fun X r h1 h2 h3 => tX12_town_0 h1 h2 h3⟩
  | 9, h => cases h; exact ⟨hjX12_isWordOf, by decide, rfl, vX12_isWordOf_0, fun X r h1 h2 h3 => tX12_isWordOf_0 h1 h2 h3⟩
  | 10, h => cases h; exact ⟨hjX12_shorten, by decide, rfl, vX12_shorten_0, fun X r h1 h2 h3 => tX12_shorten_0 h1 h2 h3⟩
  | 11, h => cases h; exact ⟨hjX12_isStreet, by decide, rfl, vX12_isStreet_0, fun X r h1 h2 h3 => tX12_isStreet_0 h1 h2 h3⟩
  | 12, h => cases h; exact ⟨hjX12_isTown, by decide, rfl, vX12_isTown_0, fun X r h1 h2 h3 => tX12_isTown_0 h1 h2 h3⟩
  | 13, h => cases h; exact ⟨hjX12_openName, by decide, rfl, vX12_openName_0, fun X r h1 h2 h3 => tX12_openName_0 h1 h2 h3⟩
  | 14, h => cases h; exact ⟨hjX12_townOf, by decide, rfl, vX12_townOf_0, fun X r h1 h2 h3 => tX12_townOf_0 h1 h2 h3⟩
  | 15, h => cases h; exact ⟨hjX12_latest, by decide, rfl, vX12_latest_0, fun X r h1 h2 h3 => tX12_latest_0 h1 h2 h3⟩
  | 16, h => cases h; exact ⟨hjX12_isEarly, by decide, rfl, vX12_isEarly_0, fun X r h1 h2 h3 => tX12_isEarly_0 h1 h2 h3⟩
  | 17, h => cases h; exact ⟨hjX12_paper, by decide, rfl, vX12_paper_0, fun X r h1 h2 h3 => tX12_paper_0 h1 h2 h3⟩
  | 18, h => cases h; exact ⟨hjX12_openName_, by decide, rfl, vX12_openName__0, fun X r h1 h2 h3 => tX12_openName__0 h1 h2 h3⟩
  | 19, h => cases h; exact ⟨hjX12_isTaken, by decide, rfl, vX12_isTaken_0, fun X r h1 h2 h3 => tX12_isTaken_0 h1 h2 h3⟩
  | i + 20, h => cases h
def pm13 : List (pu_D × (pu_R → pu_K)) := [(mdX12_street, kX12_street_0), (mdX12_rename, kX12_rename_0), (mdX12_join, kX12_join_0), (mdX12_isWhole, kX12_isWhole_0), (mdX12_isDoor, kX12_isDoor_0), (mdX12_of, kX12_of_0), (mdX12_isOpen, kX12_isOpen_0), (mdX12_hasPlace, kX12_hasPlace_0), (mdX12_streetAt, kX12_streetAt_0), (mdX12_sideAt, kX12_sideAt_0), (mdX12_pacesAt, kX12_pacesAt_0), (mdX12_front, kX12_front_0), (mdX12_openSpan, kX12_openSpan_0), (mdX12_wholeAt, kX12_wholeAt_0), (mdX12_opens, kX12_opens_0), (mdX12_along, kX12_along_0), (mdX12_isOrdered, kX12_isOrdered_0), (mdX12_bounds, kX12_bounds_0), (mdX12_isUsed, kX12_isUsed_0), (mdX12_mayBe, kX12_mayBe_0)]
theorem pmh13 : ∀ (i : Nat) (q : pu_D × (pu_R → pu_K)), pm13[i]? = some q → pu_okm (260 + i) q := by
  intro i q h
  match i, h with
  | 0, h => cases h; exact ⟨hjX12_street, by decide, rfl, vX12_street_0, fun X r h1 h2 h3 => tX12_street_0 h1 h2 h3⟩
  | 1, h => cases h; exact ⟨hjX12_rename, by decide, rfl, vX12_rename_0, fun X r h1 h2 h3 => tX12_rename_0 h1 h2 h3⟩
  | 2, h => cases h; exact ⟨hjX12_join, by decide, rfl, vX12_join_0, fun X r h1 h2 h3 => tX12_join_0 h1 h2 h3⟩
  | 3, h => cases h; exact ⟨hjX12_isWhole, by decide, rfl, vX12_isWhole_0, fun X r h1 h2 h3 => tX12_isWhole_0 h1 h2 h3⟩
  | 4, h => cases h; exact ⟨hjX12_isDoor, by decide, rfl, vX12_isDoor_0, fun X r h1 h2 h3 => tX12_isDoor_0 h1 h2 h3⟩
  | 5, h => cases h; exact ⟨hjX12_of, by decide, rfl, vX12_of_0, fun X r h1 h2 h3 => tX12_of_0 h1 h2 h3⟩
  | 6, h => cases h; exact ⟨hjX12_isOpen, by decide, rfl, vX12_isOpen_0, fun X r h1 h2 h3 => tX12_isOpen_0 h1 h2 h3⟩
  | 7, h => cases h; exact ⟨hjX12_hasPlace, by decide, rfl, vX12_hasPlace_0, fun X r h1 h2 h3 => tX12_hasPlace_0 h1 h2 h3⟩
  | 8, h => cases h; exact ⟨hjX12_streetAt, by decide, rfl, vX12_streetAt_0, fun X r h1 h2 h3 => tX12_streetAt_0 h1 h2 h3⟩
  | 9, h => cases h; exact ⟨hjX12_sideAt, by decide, rfl, vX12_sideAt_0, fun X r h1 h2 h3 => tX12_sideAt_0 h1 h2 h3⟩
  | 10, h => cases h; exact ⟨hjX12_pacesAt, by decide, rfl, vX12_pacesAt_0, fun X r h1 h2 h3 => tX12_pacesAt_0 h1 h2 h3⟩
  | 11, h => cases h; exact ⟨hjX12_front, by decide, rfl, vX12_front_0, fun X r h1 h2 h3 => tX12_front_0 h1 h2 h3⟩
  | 12, h => cases h; exact ⟨hjX12_openSpan, by decide, rfl, vX12_openSpan_0, fun X r h1 h2 h3 => tX12_openSpan_0 h1 h2 h3⟩
  | 13, h => cases h; exact ⟨hjX12_wholeAt, by decide, rfl, vX12_wholeAt_0, fun X r h1 h2 h3 => tX12_wholeAt_0 h1 h2 h3⟩
  | 14, h => cases h; exact ⟨hjX12_opens, by decide, rfl, vX12_opens_0, fun X r h1 h2 h3 => tX12_opens_0 h1 h2 h3⟩
  | 15, h => cases h; exact ⟨hjX12_along, by decide, rfl, vX12_along_0, fun X r h1 h2 h3 => tX12_along_0 h1 h2 h3⟩
  | 16, h => cases h; exact ⟨hjX12_isOrdered, by decide, rfl, vX12_isOrdered_0, fun X r h1 h2 h3 => tX12_isOrdered_0 h1 h2 h3⟩
  | 17, h => cases h; exact ⟨hjX12_bounds, by decide, rfl, vX12_bounds_0, fun X r h1 h2 h3 => tX12_bounds_0 h1 h2 h3⟩
  | 18, h => cases h; exact ⟨hjX12_isUsed, by decide, rfl, vX12_isUsed_0, fun X r h1 h2 h3 => tX12_isUsed_0 h1 h2 h3⟩
  | 19, h => cases h; exact ⟨hjX12_mayBe, by decide, rfl, vX12_mayBe_0, fun X r h1 h2 h3 => tX12_mayBe_0 h1 h2 h3⟩
  | i + 20, h => cases h
def pm14 : List (pu_D × (pu_R → pu_K)) := [(mdX12_isCandidate, kX12_isCandidate_0), (mdX12_least, kX12_least_0), (mdX12_isOccupied, kX12_isOccupied_0), (mdX12_isPlace, kX12_isPlace_0), (mdX12_made, kX12_made_0), (mdX12_door, kX12_door_0), (mdX12_free, kX12_free_0), (mdX12_corner, kX12_corner_0), (mdX12_underneath, kX12_underneath_0), (mdX12_isEarlyAt, kX12_isEarlyAt_0), (mdX12_paperOn, kX12_paperOn_0), (mdX12_under, kX12_under_0), (mdX12_isUnder, kX12_isUnder_0), (mdX12_gone, kX12_gone_0), (mdX12_orders, kX12_orders_0), (mdX12_isRising, kX12_isRising_0), (mdX12_gets, kX12_gets_0), (mdX12_renumber, kX12_renumber_0), (mdX12_row, kX12_row_0), (mdX12_tear, kX12_tear_0)]
theorem pmh14 : ∀ (i : Nat) (q : pu_D × (pu_R → pu_K)), pm14[i]? = some q → pu_okm (280 + i) q := by
  intro i q h
  match i, h with
  | 0, h => cases h; exact ⟨hjX12_isCandidate, by decide, rfl, vX12_isCandidate_0, fun X r h1 h2 h3 => tX12_isCandidate_0 h1 h2 h3⟩
  | 1, h => cases h; exact ⟨hjX12_least, by decide, rfl, vX12_least_0, fun X r h1 h2 h3 => tX12_least_0 h1 h2 h3⟩
  | 2, h => cases h; exact ⟨hjX12_isOccupied, by decide, rfl, vX12_isOccupied_0, fun X r h1 h2 h3 => tX12_isOccupied_0 h1 h2 h3⟩
  | 3, h => cases h; exact ⟨hjX12_isPlace, by decide, rfl, vX12_isPlace_0, fun X r h1 h2 h3 => tX12_isPlace_0 h1 h2 h3⟩
  | 4, h => cases h; exact ⟨hjX12_made, by decide, rfl, vX12_made_0, fun X r h1 h2 h3 => tX12_made_0 h1 h2 h3⟩
  | 5, h => cases h; exact ⟨hjX12_door, by decide, rfl, vX12_door_0, fun X r h1 h2 h3 => tX12_door_0 h1 h2 h3⟩
  | 6, h => cases h; exact ⟨hjX12_free, by decide, rfl, vX12_free_0, fun X r h1 h2 h3 => tX12_free_0 h1 h2 h3⟩
  | 7, h => cases h; exact ⟨hjX12_corner, by decide, rfl, vX12_corner_0, fun X r h1 h2 h3 => tX12_corner_0 h1 h2 h3⟩
  | 8, h => cases h; exact ⟨hjX12_underneath, by decide, rfl, vX12_underneath_0, fun X r h1 h2 h3 => tX12_underneath_0 h1 h2 h3⟩
  | 9, h => cases h; exact ⟨hjX12_isEarlyAt, by decide, rfl, vX12_isEarlyAt_0, fun X r h1 h2 h3 => tX12_isEarlyAt_0 h1 h2 h3⟩
  | 10, h => cases h; exact ⟨hjX12_paperOn, by decide, rfl, vX12_paperOn_0, fun X r h1 h2 h3 => tX12_paperOn_0 h1 h2 h3⟩
  | 11, h => cases h; exact ⟨hjX12_under, by decide, rfl, vX12_under_0, fun X r h1 h2 h3 => tX12_under_0 h1 h2 h3⟩
  | 12, h => cases h; exact ⟨hjX12_isUnder, by decide, rfl, vX12_isUnder_0, fun X r h1 h2 h3 => tX12_isUnder_0 h1 h2 h3⟩
  | 13, h => cases h; exact ⟨hjX12_gone, by decide, rfl, vX12_gone_0, fun X r h1 h2 h3 => tX12_gone_0 h1 h2 h3⟩
  | 14, h => cases h; exact ⟨hjX12_orders, by decide, rfl, vX12_orders_0, fun X r h1 h2 h3 => tX12_orders_0 h1 h2 h3⟩
  | 15, h => cases h; exact ⟨hjX12_isRising, by decide, rfl, vX12_isRising_0, fun X r h1 h2 h3 => tX12_isRising_0 h1 h2 h3⟩
  | 16, h => cases h; exact ⟨hjX12_gets, by decide, rfl, vX12_gets_0, fun X r h1 h2 h3 => tX12_gets_0 h1 h2 h3⟩
  | 17, h => cases h; exact ⟨hjX12_renumber, by decide, rfl, vX12_renumber_0, fun X r h1 h2 h3 => tX12_renumber_0 h1 h2 h3⟩
  | 18, h => cases h; exact ⟨hjX12_row, by decide, rfl, vX12_row_0, fun X r h1 h2 h3 => tX12_row_0 h1 h2 h3⟩
  | 19, h => cases h; exact ⟨hjX12_tear, by decide, rfl, vX12_tear_0, fun X r h1 h2 h3 => tX12_tear_0 h1 h2 h3⟩
  | i + 20, h => cases h
def pm15 : List (pu_D × (pu_R → pu_K)) := [(mdX12_unmade, kX12_unmade_0), (mdX12_undo, kX12_undo_0), (mdX12_image, kX12_image_0), (mdX12_back, kX12_back_0), (mdX12_faulty, kX12_faulty_0), (mdX12_word, kX12_word_0), (mdX12_must, kX12_must_0), (mdX12_isDigit, kX12_isDigit_0), (mdX12_streetPart, kX12_streetPart_0), (mdX12_numberPart, kX12_numberPart_0), (mdX12_court, kX12_court_0), (mdX12_floor, kX12_floor_0), (mdX12_extraPart, kX12_extraPart_0), (mdX12_townPart, kX12_townPart_0), (mdX12_readsAddress, kX12_readsAddress_0), (mdX12_standsOn, kX12_standsOn_0), (mdX12_streetOn, kX12_streetOn_0), (mdX12_isOn, kX12_isOn_0), (mdX12_withExtra, kX12_withExtra_0), (mdX12_sure, kX12_sure_0)]
theorem pmh15 : ∀ (i : Nat) (q : pu_D × (pu_R → pu_K)), pm15[i]? = some q → pu_okm (300 + i) q := by
  intro i q h
  match i, h with
  | 0, h => cases h; exact ⟨hjX12_unmade, by decide, rfl, vX12_unmade_0, fun X r h1 h2 h3 => tX12_unmade_0 h1 h2 h3⟩
  | 1, h => cases h; exact ⟨hjX12_undo, by decide, rfl, vX12_undo_0, fun X r h1 h2 h3 => tX12_undo_0 h1 h2 h3⟩
  | 2, h => cases h; exact ⟨hjX12_image, by decide, rfl, vX12_image_0, fun X r h1 h2 h3 => tX12_image_0 h1 h2 h3⟩
  | 3, h => cases h; exact ⟨hjX12_back, by decide, rfl, vX12_back_0, fun X r h1 h2 h3 => tX12_back_0 h1 h2 h3⟩
  | 4, h => cases h; exact ⟨hjX12_faulty, by decide, rfl, vX12_faulty_0, fun X r h1 h2 h3 => tX12_faulty_0 h1 h2 h3⟩
  | 5, h => cases h; exact ⟨hjX12_word, by decide, rfl, vX12_word_0, fun X r h1 h2 h3 => tX12_word_0 h1 h2 h3⟩
  | 6, h => cases h; exact ⟨hjX12_must, by decide, rfl, vX12_must_0, fun X r h1 h2 h3 => tX12_must_0 h1 h2 h3⟩
  | 7, h => cases h; exact ⟨hjX12_isDigit, by decide, rfl, vX12_isDigit_0, fun X r h1 h2 h3 => tX12_isDigit_0 h1 h2 h3⟩
  | 8, h => cases h; exact ⟨hjX12_streetPart, by decide, rfl, vX12_streetPart_0, fun X r h1 h2 h3 => tX12_streetPart_0 h1 h2 h3⟩
  | 9, h => cases h; exact ⟨hjX12_numberPart, by decide, rfl, vX12_numberPart_0, fun X r h1 h2 h3 => tX12_numberPart_0 h1 h2 h3⟩
  | 10, h => cases h; exact ⟨hjX12_court, by decide, rfl, vX12_court_0, fun X r h1 h2 h3 => tX12_court_0 h1 h2 h3⟩
  | 11, h => cases h; exact ⟨hjX12_floor, by decide, rfl, vX12_floor_0, fun X r h1 h2 h3 => tX12_floor_0 h1 h2 h3⟩
  | 12, h => cases h; exact ⟨hjX12_extraPart, by decide, rfl, vX12_extraPart_0, fun X r h1 h2 h3 => tX12_extraPart_0 h1 h2 h3⟩
  | 13, h => cases h; exact ⟨hjX12_townPart, by decide, rfl, vX12_townPart_0, fun X r h1 h2 h3 => tX12_townPart_0 h1 h2 h3⟩
  | 14, h => cases h; exact ⟨hjX12_readsAddress, by decide, rfl, vX12_readsAddress_0, fun X r h1 h2 h3 => tX12_readsAddress_0 h1 h2 h3⟩
  | 15, h => cases h; exact ⟨hjX12_standsOn, by decide, rfl, vX12_standsOn_0, fun X r h1 h2 h3 => tX12_standsOn_0 h1 h2 h3⟩
  | 16, h => cases h; exact ⟨hjX12_streetOn, by decide, rfl, vX12_streetOn_0, fun X r h1 h2 h3 => tX12_streetOn_0 h1 h2 h3⟩
  | 17, h => cases h; exact ⟨hjX12_isOn, by decide, rfl, vX12_isOn_0, fun X r h1 h2 h3 => tX12_isOn_0 h1 h2 h3⟩
  | 18, h => cases h; exact ⟨hjX12_withExtra, by decide, rfl, vX12_withExtra_0, fun X r h1 h2 h3 => tX12_withExtra_0 h1 h2 h3⟩
  | 19, h => cases h; exact ⟨hjX12_sure, by decide, rfl, vX12_sure_0, fun X r h1 h2 h3 => tX12_sure_0 h1 h2 h3⟩
  | i + 20, h => cases h
def pm16 : List (pu_D × (pu_R → pu_K)) := [(mdX12_sideOf, kX12_sideOf_0), (mdX12_pacesOf, kX12_pacesOf_0), (mdX12_mayHave, kX12_mayHave_0), (mdX12_likelyOn, kX12_likelyOn_0), (mdX12_means, kX12_means_0), (mdX12_fault, kX12_fault_0), (mdX12_found, kX12_found_0), (mdX12_call, kX12_call_0), (mdX12_ended, kX12_ended_0), (mdX12_letter, kX12_letter_0), (mdX12_about, kX12_about_0), (mdX12_stands, kX12_stands_0), (mdX12_spanOn, kX12_spanOn_0), (mdX12_number, kX12_number_0), (mdX12_put, kX12_put_0), (mdX12_putName, kX12_putName_0), (mdX12_putNumber, kX12_putNumber_0), (mdX12_putWords, kX12_putWords_0), (mdX12_write, kX12_write_0), (mdX12_pairs, kX12_pairs_0)]
theorem pmh16 : ∀ (i : Nat) (q : pu_D × (pu_R → pu_K)), pm16[i]? = some q → pu_okm (320 + i) q := by
  intro i q h
  match i, h with
  | 0, h => cases h; exact ⟨hjX12_sideOf, by decide, rfl, vX12_sideOf_0, fun X r h1 h2 h3 => tX12_sideOf_0 h1 h2 h3⟩
  | 1, h => cases h; exact ⟨hjX12_pacesOf, by decide, rfl, vX12_pacesOf_0, fun X r h1 h2 h3 => tX12_pacesOf_0 h1 h2 h3⟩
  | 2, h => cases h; exact ⟨hjX12_mayHave, by decide, rfl, vX12_mayHave_0, fun X r h1 h2 h3 => tX12_mayHave_0 h1 h2 h3⟩
  | 3, h => cases h; exact ⟨hjX12_likelyOn, by decide, rfl, vX12_likelyOn_0, fun X r h1 h2 h3 => tX12_likelyOn_0 h1 h2 h3⟩
  | 4, h => cases h; exact ⟨hjX12_means, by decide, rfl, vX12_means_0, fun X r h1 h2 h3 => tX12_means_0 h1 h2 h3⟩
  | 5, h => cases h; exact ⟨hjX12_fault, by decide, rfl, vX12_fault_0, fun X r h1 h2 h3 => tX12_fault_0 h1 h2 h3⟩
  | 6, h => cases h; exact ⟨hjX12_found, by decide, rfl, vX12_found_0, fun X r h1 h2 h3 => tX12_found_0 h1 h2 h3⟩
  | 7, h => cases h; exact ⟨hjX12_call, by decide, rfl, vX12_call_0, fun X r h1 h2 h3 => tX12_call_0 h1 h2 h3⟩
  | 8, h => cases h; exact ⟨hjX12_ended, by decide, rfl, vX12_ended_0, fun X r h1 h2 h3 => tX12_ended_0 h1 h2 h3⟩
  | 9, h => cases h; exact ⟨hjX12_letter, by decide, rfl, vX12_letter_0, fun X r h1 h2 h3 => tX12_letter_0 h1 h2 h3⟩
  | 10, h => cases h; exact ⟨hjX12_about, by decide, rfl, vX12_about_0, fun X r h1 h2 h3 => tX12_about_0 h1 h2 h3⟩
  | 11, h => cases h; exact ⟨hjX12_stands, by decide, rfl, vX12_stands_0, fun X r h1 h2 h3 => tX12_stands_0 h1 h2 h3⟩
  | 12, h => cases h; exact ⟨hjX12_spanOn, by decide, rfl, vX12_spanOn_0, fun X r h1 h2 h3 => tX12_spanOn_0 h1 h2 h3⟩
  | 13, h => cases h; exact ⟨hjX12_number, by decide, rfl, vX12_number_0, fun X r h1 h2 h3 => tX12_number_0 h1 h2 h3⟩
  | 14, h => cases h; exact ⟨hjX12_put, by decide, rfl, vX12_put_0, fun X r h1 h2 h3 => tX12_put_0 h1 h2 h3⟩
  | 15, h => cases h; exact ⟨hjX12_putName, by decide, rfl, vX12_putName_0, fun X r h1 h2 h3 => tX12_putName_0 h1 h2 h3⟩
  | 16, h => cases h; exact ⟨hjX12_putNumber, by decide, rfl, vX12_putNumber_0, fun X r h1 h2 h3 => tX12_putNumber_0 h1 h2 h3⟩
  | 17, h => cases h; exact ⟨hjX12_putWords, by decide, rfl, vX12_putWords_0, fun X r h1 h2 h3 => tX12_putWords_0 h1 h2 h3⟩
  | 18, h => cases h; exact ⟨hjX12_write, by decide, rfl, vX12_write_0, fun X r h1 h2 h3 => tX12_write_0 h1 h2 h3⟩
  | 19, h => cases h; exact ⟨hjX12_pairs, by decide, rfl, vX12_pairs_0, fun X r h1 h2 h3 => tX12_pairs_0 h1 h2 h3⟩
  | i + 20, h => cases h
def pm17 : List (pu_D × (pu_R → pu_K)) := [(mdX12_twice, kX12_twice_0), (mdX12_pair, kX12_pair_0), (mdX12_isIn, kX12_isIn_0), (mdX12_near, kX12_near_0), (mdX12_stop, kX12_stop_0), (mdX12_walkKey, kX12_walkKey_0), (mdX12_isWalked, kX12_isWalked_0), (mdX12_comesTo, kX12_comesTo_0), (mdX12_comesToAll, kX12_comesToAll_0), (mdX12_walk, kX12_walk_0), (mdX12_walked, kX12_walked_0), (mdX12_sort, kX12_sort_0), (mdX12_sorted, kX12_sorted_0), (mdX12_listed, kX12_listed_0), (mdX12_list, kX12_list_0), (mdX12_check, kX12_check_0), (mdX12_count, kX12_count_0)]
theorem pmh17 : ∀ (i : Nat) (q : pu_D × (pu_R → pu_K)), pm17[i]? = some q → pu_okm (340 + i) q := by
  intro i q h
  match i, h with
  | 0, h => cases h; exact ⟨hjX12_twice, by decide, rfl, vX12_twice_0, fun X r h1 h2 h3 => tX12_twice_0 h1 h2 h3⟩
  | 1, h => cases h; exact ⟨hjX12_pair, by decide, rfl, vX12_pair_0, fun X r h1 h2 h3 => tX12_pair_0 h1 h2 h3⟩
  | 2, h => cases h; exact ⟨hjX12_isIn, by decide, rfl, vX12_isIn_0, fun X r h1 h2 h3 => tX12_isIn_0 h1 h2 h3⟩
  | 3, h => cases h; exact ⟨hjX12_near, by decide, rfl, vX12_near_0, fun X r h1 h2 h3 => tX12_near_0 h1 h2 h3⟩
  | 4, h => cases h; exact ⟨hjX12_stop, by decide, rfl, vX12_stop_0, fun X r h1 h2 h3 => tX12_stop_0 h1 h2 h3⟩
  | 5, h => cases h; exact ⟨hjX12_walkKey, by decide, rfl, vX12_walkKey_0, fun X r h1 h2 h3 => tX12_walkKey_0 h1 h2 h3⟩
  | 6, h => cases h; exact ⟨hjX12_isWalked, by decide, rfl, vX12_isWalked_0, fun X r h1 h2 h3 => tX12_isWalked_0 h1 h2 h3⟩
  | 7, h => cases h; exact ⟨hjX12_comesTo, by decide, rfl, vX12_comesTo_0, fun X r h1 h2 h3 => tX12_comesTo_0 h1 h2 h3⟩
  | 8, h => cases h; exact ⟨hjX12_comesToAll, by decide, rfl, vX12_comesToAll_0, fun X r h1 h2 h3 => tX12_comesToAll_0 h1 h2 h3⟩
  | 9, h => cases h; exact ⟨hjX12_walk, by decide, rfl, vX12_walk_0, fun X r h1 h2 h3 => tX12_walk_0 h1 h2 h3⟩
  | 10, h => cases h; exact ⟨hjX12_walked, by decide, rfl, vX12_walked_0, fun X r h1 h2 h3 => tX12_walked_0 h1 h2 h3⟩
  | 11, h => cases h; exact ⟨hjX12_sort, by decide, rfl, vX12_sort_0, fun X r h1 h2 h3 => tX12_sort_0 h1 h2 h3⟩
  | 12, h => cases h; exact ⟨hjX12_sorted, by decide, rfl, vX12_sorted_0, fun X r h1 h2 h3 => tX12_sorted_0 h1 h2 h3⟩
  | 13, h => cases h; exact ⟨hjX12_listed, by decide, rfl, vX12_listed_0, fun X r h1 h2 h3 => tX12_listed_0 h1 h2 h3⟩
  | 14, h => cases h; exact ⟨hjX12_list, by decide, rfl, vX12_list_0, fun X r h1 h2 h3 => tX12_list_0 h1 h2 h3⟩
  | 15, h => cases h; exact ⟨hjX12_check, by decide, rfl, vX12_check_0, fun X r h1 h2 h3 => tX12_check_0 h1 h2 h3⟩
  | 16, h => cases h; exact ⟨hjX12_count, by decide, rfl, vX12_count_0, fun X r h1 h2 h3 => tX12_count_0 h1 h2 h3⟩
  | i + 17, h => cases h
def pq0 : List ((Nat × pu_D × Nat) × (pu_R → pu_K)) := [((22, mdJ7_fill_d0a16, 6), kJ7_fill_d0a16_6), ((24, mdX7_readWord, 4), kX7_readWord_4), ((26, mdX7_readToEnd, 7), kX7_readToEnd_7), ((27, mdX8_indexOf, 2), kX8_indexOf_2), ((29, mdX7_lengthen, 2), kX7_lengthen_2), ((32, mdX3_areLike, 3), kX3_areLike_3), ((33, mdX10_townNamed, 2), kX10_townNamed_2), ((37, mdX10_isWordOfTown, 2), kX10_isWordOfTown_2), ((38, mdX3_isWordOfName, 2), kX3_isWordOfName_2), ((42, mdX6_wasJoined, 2), kX6_wasJoined_2), ((45, mdX6_latestOn, 5), kX6_latestOn_5), ((50, mdX3_isHeldFrom, 3), kX3_isHeldFrom_3), ((61, mdX3_openOf, 2), kX3_openOf_2), ((72, mdX9_add, 34), kX9_add_34), ((73, mdX9_fill, 32), kX9_fill_32), ((75, mdX9_lowAt, 5), kX9_lowAt_5), ((76, mdX9_highAt, 2), kX9_highAt_2), ((79, mdX9_indexOf, 2), kX9_indexOf_2), ((81, mdX9_fittingNumber, 112), kX9_fittingNumber_112), ((81, mdX9_fittingNumber, 127), kX9_fittingNumber_127)]
theorem pqh0 : ∀ (i : Nat) (q : (Nat × pu_D × Nat) × (pu_R → pu_K)), pq0[i]? = some q → pu_okl (357 + i) q := by
  intro i q h
  match i, h with
  | 0, h => cases h; exact ⟨hl357, hjJ7_fill_d0a16, vJ7_fill_d0a16_6, fun X r h1 h2 h3 => tJ7_fill_d0a16_6 h1 h2 h3⟩
  | 1, h => cases h; exact ⟨hl358, hjX7_readWord, vX7_readWord_4, fun X r h1 h2 h3 => tX7_readWord_4 h1 h2 h3⟩
  | 2, h => cases h; exact ⟨hl359, hjX7_readToEnd, vX7_readToEnd_7, fun X r h1 h2 h3 => tX7_readToEnd_7 h1 h2 h3⟩
  | 3, h => cases h; exact ⟨hl360, hjX8_indexOf, vX8_indexOf_2, fun X r h1 h2 h3 => tX8_indexOf_2 h1 h2 h3⟩
  | 4, h => cases h; exact ⟨hl361, hjX7_lengthen, vX7_lengthen_2, fun X r h1 h2 h3 => tX7_lengthen_2 h1 h2 h3⟩
  | 5, h => cases h; exact ⟨hl362, hjX3_areLike, vX3_areLike_3, fun X r h1 h2 h3 => tX3_areLike_3 h1 h2 h3⟩
  | 6, h => cases h; exact ⟨hl363, hjX10_townNamed, vX10_townNamed_2, fun X r h1 h2 h3 => tX10_townNamed_2 h1 h2 h3⟩
  | 7, h => cases h; exact ⟨hl364, hjX10_isWordOfTown, vX10_isWordOfTown_2, fun X r h1 h2 h3 => tX10_isWordOfTown_2 h1 h2 h3⟩
  | 8, h => cases h; exact ⟨hl365, hjX3_isWordOfName, vX3_isWordOfName_2, fun X r h1 h2 h3 => tX3_isWordOfName_2 h1 h2 h3⟩
  | 9, h => cases h; exact ⟨hl366, hjX6_wasJoined, vX6_wasJoined_2, fun X r h1 h2 h3 => tX6_wasJoined_2 h1 h2 h3⟩
  | 10, h => cases h; exact ⟨hl367, hjX6_latestOn, vX6_latestOn_5, fun X r h1 h2 h3 => tX6_latestOn_5 h1 h2 h3⟩
  | 11, h => cases h; exact ⟨hl368, hjX3_isHeldFrom, vX3_isHeldFrom_3, fun X r h1 h2 h3 => tX3_isHeldFrom_3 h1 h2 h3⟩
  | 12, h => cases h; exact ⟨hl369, hjX3_openOf, vX3_openOf_2, fun X r h1 h2 h3 => tX3_openOf_2 h1 h2 h3⟩
  | 13, h => cases h; exact ⟨hl370, hjX9_add, vX9_add_34, fun X r h1 h2 h3 => tX9_add_34 h1 h2 h3⟩
  | 14, h => cases h; exact ⟨hl371, hjX9_fill, vX9_fill_32, fun X r h1 h2 h3 => tX9_fill_32 h1 h2 h3⟩
  | 15, h => cases h; exact ⟨hl372, hjX9_lowAt, vX9_lowAt_5, fun X r h1 h2 h3 => tX9_lowAt_5 h1 h2 h3⟩
  | 16, h => cases h; exact ⟨hl373, hjX9_highAt, vX9_highAt_2, fun X r h1 h2 h3 => tX9_highAt_2 h1 h2 h3⟩
  | 17, h => cases h; exact ⟨hl374, hjX9_indexOf, vX9_indexOf_2, fun X r h1 h2 h3 => tX9_indexOf_2 h1 h2 h3⟩
  | 18, h => cases h; exact ⟨hl375, hjX9_fittingNumber, vX9_fittingNumber_112, fun X r h1 h2 h3 => tX9_fittingNumber_112 h1 h2 h3⟩
  | 19, h => cases h; exact ⟨hl376, hjX9_fittingNumber, vX9_fittingNumber_127, fun X r h1 h2 h3 => tX9_fittingNumber_127 h1 h2 h3⟩
  | i + 20, h => cases h
def pq1 : List ((Nat × pu_D × Nat) × (pu_R → pu_K)) := [((82, mdX9_hasDoorAt, 2), kX9_hasDoorAt_2), ((99, mdX2_hasOpenUnder, 3), kX2_hasOpenUnder_3), ((102, mdX4_close, 2), kX4_close_2), ((103, mdX2_closeWithUnder, 5), kX2_closeWithUnder_5), ((107, mdX11_setFreshNumbers, 5), kX11_setFreshNumbers_5), ((108, mdX11_isAboveAllBehind, 2), kX11_isAboveAllBehind_2), ((109, mdX11_areFreshRight, 2), kX11_areFreshRight_2), ((111, mdX11_countFreshOthers, 4), kX11_countFreshOthers_4), ((113, mdX11_giveFreshNumbers, 2), kX11_giveFreshNumbers_2), ((116, mdX5_earliestOnTown, 12), kX5_earliestOnTown_12), ((117, mdX3_streetNamedLike, 9), kX3_streetNamedLike_9), ((118, mdX3_haveOneName, 2), kX3_haveOneName_2), ((119, mdX3_moveAll, 9), kX3_moveAll_9), ((123, mdX11_keepRow, 64), kX11_keepRow_64), ((127, mdX6_keptWithout, 6), kX6_keptWithout_6), ((131, mdX2_takeBack, 22), kX2_takeBack_22), ((147, mdX4_holding, 3), kX4_holding_3), ((150, mdX3_holding, 3), kX3_holding_3), ((151, mdX0_putWord, 7), kX0_putWord_7), ((152, mdX0_putName, 2), kX0_putName_2)]
theorem pqh1 : ∀ (i : Nat) (q : (Nat × pu_D × Nat) × (pu_R → pu_K)), pq1[i]? = some q → pu_okl (377 + i) q := by
  intro i q h
  match i, h with
  | 0, h => cases h; exact ⟨hl377, hjX9_hasDoorAt, vX9_hasDoorAt_2, fun X r h1 h2 h3 => tX9_hasDoorAt_2 h1 h2 h3⟩
  | 1, h => cases h; exact ⟨hl378, hjX2_hasOpenUnder, vX2_hasOpenUnder_3, fun X r h1 h2 h3 => tX2_hasOpenUnder_3 h1 h2 h3⟩
  | 2, h => cases h; exact ⟨hl379, hjX4_close, vX4_close_2, fun X r h1 h2 h3 => tX4_close_2 h1 h2 h3⟩
  | 3, h => cases h; exact ⟨hl380, hjX2_closeWithUnder, vX2_closeWithUnder_5, fun X r h1 h2 h3 => tX2_closeWithUnder_5 h1 h2 h3⟩
  | 4, h => cases h; exact ⟨hl381, hjX11_setFreshNumbers, vX11_setFreshNumbers_5, fun X r h1 h2 h3 => tX11_setFreshNumbers_5 h1 h2 h3⟩
  | 5, h => cases h; exact ⟨hl382, hjX11_isAboveAllBehind, vX11_isAboveAllBehind_2, fun X r h1 h2 h3 => tX11_isAboveAllBehind_2 h1 h2 h3⟩
  | 6, h => cases h; exact ⟨hl383, hjX11_areFreshRight, vX11_areFreshRight_2, fun X r h1 h2 h3 => tX11_areFreshRight_2 h1 h2 h3⟩
  | 7, h => cases h; exact ⟨hl384, hjX11_countFreshOthers, vX11_countFreshOthers_4, fun X r h1 h2 h3 => tX11_countFreshOthers_4 h1 h2 h3⟩
  | 8, h => cases h; exact ⟨hl385, hjX11_giveFreshNumbers, vX11_giveFreshNumbers_2, fun X r h1 h2 h3 => tX11_giveFreshNumbers_2 h1 h2 h3⟩
  | 9, h => cases h; exact ⟨hl386, hjX5_earliestOnTown, vX5_earliestOnTown_12, fun X r h1 h2 h3 => tX5_earliestOnTown_12 h1 h2 h3⟩
  | 10, h => cases h; exact ⟨hl387, hjX3_streetNamedLike, vX3_streetNamedLike_9, fun X r h1 h2 h3 => tX3_streetNamedLike_9 h1 h2 h3⟩
  | 11, h => cases h; exact ⟨hl388, hjX3_haveOneName, vX3_haveOneName_2, fun X r h1 h2 h3 => tX3_haveOneName_2 h1 h2 h3⟩
  | 12, h => cases h; exact ⟨hl389, hjX3_moveAll, vX3_moveAll_9, fun X r h1 h2 h3 => tX3_moveAll_9 h1 h2 h3⟩
  | 13, h => cases h; exact ⟨hl390, hjX11_keepRow, vX11_keepRow_64, fun X r h1 h2 h3 => tX11_keepRow_64 h1 h2 h3⟩
  | 14, h => cases h; exact ⟨hl391, hjX6_keptWithout, vX6_keptWithout_6, fun X r h1 h2 h3 => tX6_keptWithout_6 h1 h2 h3⟩
  | 15, h => cases h; exact ⟨hl392, hjX2_takeBack, vX2_takeBack_22, fun X r h1 h2 h3 => tX2_takeBack_22 h1 h2 h3⟩
  | 16, h => cases h; exact ⟨hl393, hjX4_holding, vX4_holding_3, fun X r h1 h2 h3 => tX4_holding_3 h1 h2 h3⟩
  | 17, h => cases h; exact ⟨hl394, hjX3_holding, vX3_holding_3, fun X r h1 h2 h3 => tX3_holding_3 h1 h2 h3⟩
  | 18, h => cases h; exact ⟨hl395, hjX0_putWord, vX0_putWord_7, fun X r h1 h2 h3 => tX0_putWord_7 h1 h2 h3⟩
  | 19, h => cases h; exact ⟨hl396, hjX0_putName, vX0_putName_2, fun X r h1 h2 h3 => tX0_putName_2 h1 h2 h3⟩
  | i + 20, h => cases h
def pq2 : List ((Nat × pu_D × Nat) × (pu_R → pu_K)) := [((153, mdX0_putDecimal, 4), kX0_putDecimal_4), ((162, mdX0_putText, 2), kX0_putText_2), ((165, mdX7_readStreet, 10), kX7_readStreet_10), ((166, mdX7_readDigits, 4), kX7_readDigits_4), ((168, mdX7_readText, 2), kX7_readText_2), ((172, mdX3_streetOn, 3), kX3_streetOn_3), ((176, mdX9_unknownInGapOf, 6), kX9_unknownInGapOf_6), ((176, mdX9_unknownInGapOf, 32), kX9_unknownInGapOf_32), ((179, mdX11_toldOf, 2), kX11_toldOf_2), ((180, mdX1_addFound, 16), kX1_addFound_16), ((182, mdX11_findLikely, 2), kX11_findLikely_2), ((187, mdX11_seekOldAt, 3), kX11_seekOldAt_3), ((188, mdX11_seekOldIn, 54), kX11_seekOldIn_54), ((189, mdX11_seekOld, 30), kX11_seekOld_30), ((193, mdX1_addPair, 17), kX1_addPair_17), ((194, mdX11_pairStreets, 14), kX11_pairStreets_14), ((194, mdX11_pairStreets, 45), kX11_pairStreets_45), ((195, mdX11_pairTowns, 2), kX11_pairTowns_2), ((200, mdX11_near, 53), kX11_near_53), ((203, mdX1_whenWalked, 2), kX1_whenWalked_2)]
theorem pqh2 : ∀ (i : Nat) (q : (Nat × pu_D × Nat) × (pu_R → pu_K)), pq2[i]? = some q → pu_okl (397 + i) q := by
  intro i q h
  match i, h with
  | 0, h => cases h; exact ⟨hl397, hjX0_putDecimal, vX0_putDecimal_4, fun X r h1 h2 h3 => tX0_putDecimal_4 h1 h2 h3⟩
  | 1, h => cases h; exact ⟨hl398, hjX0_putText, vX0_putText_2, fun X r h1 h2 h3 => tX0_putText_2 h1 h2 h3⟩
  | 2, h => cases h; exact ⟨hl399, hjX7_readStreet, vX7_readStreet_10, fun X r h1 h2 h3 => tX7_readStreet_10 h1 h2 h3⟩
  | 3, h => cases h; exact ⟨hl400, hjX7_readDigits, vX7_readDigits_4, fun X r h1 h2 h3 => tX7_readDigits_4 h1 h2 h3⟩
  | 4, h => cases h; exact ⟨hl401, hjX7_readText, vX7_readText_2, fun X r h1 h2 h3 => tX7_readText_2 h1 h2 h3⟩
  | 5, h => cases h; exact ⟨hl402, hjX3_streetOn, vX3_streetOn_3, fun X r h1 h2 h3 => tX3_streetOn_3 h1 h2 h3⟩
  | 6, h => cases h; exact ⟨hl403, hjX9_unknownInGapOf, vX9_unknownInGapOf_6, fun X r h1 h2 h3 => tX9_unknownInGapOf_6 h1 h2 h3⟩
  | 7, h => cases h; exact ⟨hl404, hjX9_unknownInGapOf, vX9_unknownInGapOf_32, fun X r h1 h2 h3 => tX9_unknownInGapOf_32 h1 h2 h3⟩
  | 8, h => cases h; exact ⟨hl405, hjX11_toldOf, vX11_toldOf_2, fun X r h1 h2 h3 => tX11_toldOf_2 h1 h2 h3⟩
  | 9, h => cases h; exact ⟨hl406, hjX1_addFound, vX1_addFound_16, fun X r h1 h2 h3 => tX1_addFound_16 h1 h2 h3⟩
  | 10, h => cases h; exact ⟨hl407, hjX11_findLikely, vX11_findLikely_2, fun X r h1 h2 h3 => tX11_findLikely_2 h1 h2 h3⟩
  | 11, h => cases h; exact ⟨hl408, hjX11_seekOldAt, vX11_seekOldAt_3, fun X r h1 h2 h3 => tX11_seekOldAt_3 h1 h2 h3⟩
  | 12, h => cases h; exact ⟨hl409, hjX11_seekOldIn, vX11_seekOldIn_54, fun X r h1 h2 h3 => tX11_seekOldIn_54 h1 h2 h3⟩
  | 13, h => cases h; exact ⟨hl410, hjX11_seekOld, vX11_seekOld_30, fun X r h1 h2 h3 => tX11_seekOld_30 h1 h2 h3⟩
  | 14, h => cases h; exact ⟨hl411, hjX1_addPair, vX1_addPair_17, fun X r h1 h2 h3 => tX1_addPair_17 h1 h2 h3⟩
  | 15, h => cases h; exact ⟨hl412, hjX11_pairStreets, vX11_pairStreets_14, fun X r h1 h2 h3 => tX11_pairStreets_14 h1 h2 h3⟩
  | 16, h => cases h; exact ⟨hl413, hjX11_pairStreets, vX11_pairStreets_45, fun X r h1 h2 h3 => tX11_pairStreets_45 h1 h2 h3⟩
  | 17, h => cases h; exact ⟨hl414, hjX11_pairTowns, vX11_pairTowns_2, fun X r h1 h2 h3 => tX11_pairTowns_2 h1 h2 h3⟩
  | 18, h => cases h; exact ⟨hl415, hjX11_near, vX11_near_53, fun X r h1 h2 h3 => tX11_near_53 h1 h2 h3⟩
  | 19, h => cases h; exact ⟨hl416, hjX1_whenWalked, vX1_whenWalked_2, fun X r h1 h2 h3 => tX1_whenWalked_2 h1 h2 h3⟩
  | i + 20, h => cases h
def pq3 : List ((Nat × pu_D × Nat) × (pu_R → pu_K)) := [((206, mdX5_sinkWalked, 10), kX5_sinkWalked_10), ((207, mdX11_walkUnder, 14), kX11_walkUnder_14), ((208, mdX11_walkView, 2), kX11_walkView_2), ((209, mdX11_walk, 23), kX11_walk_23), ((214, mdX1_sortLettersOf, 2), kX1_sortLettersOf_2), ((215, mdX1_sortLetters, 7), kX1_sortLetters_7), ((215, mdX1_sortLetters, 33), kX1_sortLetters_33), ((218, mdJ7_fill_53178, 5), kJ7_fill_53178_5), ((219, mdX5_setWholesOn, 7), kX5_setWholesOn_7), ((221, mdX11_list, 32), kX11_list_32), ((223, mdX11_checkRecords, 14), kX11_checkRecords_14), ((223, mdX11_checkRecords, 56), kX11_checkRecords_56), ((228, mdX12_init, 207), kX12_init_207), ((229, mdX12_feed, 18), kX12_feed_18), ((231, mdX12_take, 10), kX12_take_10), ((233, mdX12_takes, 10), kX12_takes_10), ((242, mdX12_lengthen, 2), kX12_lengthen_2), ((242, mdX12_lengthen, 19), kX12_lengthen_19), ((242, mdX12_lengthen, 83), kX12_lengthen_83), ((243, mdX12_reads, 2), kX12_reads_2)]
theorem pqh3 : ∀ (i : Nat) (q : (Nat × pu_D × Nat) × (pu_R → pu_K)), pq3[i]? = some q → pu_okl (417 + i) q := by
  intro i q h
  match i, h with
  | 0, h => cases h; exact ⟨hl417, hjX5_sinkWalked, vX5_sinkWalked_10, fun X r h1 h2 h3 => tX5_sinkWalked_10 h1 h2 h3⟩
  | 1, h => cases h; exact ⟨hl418, hjX11_walkUnder, vX11_walkUnder_14, fun X r h1 h2 h3 => tX11_walkUnder_14 h1 h2 h3⟩
  | 2, h => cases h; exact ⟨hl419, hjX11_walkView, vX11_walkView_2, fun X r h1 h2 h3 => tX11_walkView_2 h1 h2 h3⟩
  | 3, h => cases h; exact ⟨hl420, hjX11_walk, vX11_walk_23, fun X r h1 h2 h3 => tX11_walk_23 h1 h2 h3⟩
  | 4, h => cases h; exact ⟨hl421, hjX1_sortLettersOf, vX1_sortLettersOf_2, fun X r h1 h2 h3 => tX1_sortLettersOf_2 h1 h2 h3⟩
  | 5, h => cases h; exact ⟨hl422, hjX1_sortLetters, vX1_sortLetters_7, fun X r h1 h2 h3 => tX1_sortLetters_7 h1 h2 h3⟩
  | 6, h => cases h; exact ⟨hl423, hjX1_sortLetters, vX1_sortLetters_33, fun X r h1 h2 h3 => tX1_sortLetters_33 h1 h2 h3⟩
  | 7, h => cases h; exact ⟨hl424, hjJ7_fill_53178, vJ7_fill_53178_5, fun X r h1 h2 h3 => tJ7_fill_53178_5 h1 h2 h3⟩
  | 8, h => cases h; exact ⟨hl425, hjX5_setWholesOn, vX5_setWholesOn_7, fun X r h1 h2 h3 => tX5_setWholesOn_7 h1 h2 h3⟩
  | 9, h => cases h; exact ⟨hl426, hjX11_list, vX11_list_32, fun X r h1 h2 h3 => tX11_list_32 h1 h2 h3⟩
  | 10, h => cases h; exact ⟨hl427, hjX11_checkRecords, vX11_checkRecords_14, fun X r h1 h2 h3 => tX11_checkRecords_14 h1 h2 h3⟩
  | 11, h => cases h; exact ⟨hl428, hjX11_checkRecords, vX11_checkRecords_56, fun X r h1 h2 h3 => tX11_checkRecords_56 h1 h2 h3⟩
  | 12, h => cases h; exact ⟨hl429, hjX12_init, vX12_init_207, fun X r h1 h2 h3 => tX12_init_207 h1 h2 h3⟩
  | 13, h => cases h; exact ⟨hl430, hjX12_feed, vX12_feed_18, fun X r h1 h2 h3 => tX12_feed_18 h1 h2 h3⟩
  | 14, h => cases h; exact ⟨hl431, hjX12_take, vX12_take_10, fun X r h1 h2 h3 => tX12_take_10 h1 h2 h3⟩
  | 15, h => cases h; exact ⟨hl432, hjX12_takes, vX12_takes_10, fun X r h1 h2 h3 => tX12_takes_10 h1 h2 h3⟩
  | 16, h => cases h; exact ⟨hl433, hjX12_lengthen, vX12_lengthen_2, fun X r h1 h2 h3 => tX12_lengthen_2 h1 h2 h3⟩
  | 17, h => cases h; exact ⟨hl434, hjX12_lengthen, vX12_lengthen_19, fun X r h1 h2 h3 => tX12_lengthen_19 h1 h2 h3⟩
  | 18, h => cases h; exact ⟨hl435, hjX12_lengthen, vX12_lengthen_83, fun X r h1 h2 h3 => tX12_lengthen_83 h1 h2 h3⟩
  | 19, h => cases h; exact ⟨hl436, hjX12_reads, vX12_reads_2, fun X r h1 h2 h3 => tX12_reads_2 h1 h2 h3⟩
  | i + 20, h => cases h
def pq4 : List ((Nat × pu_D × Nat) × (pu_R → pu_K)) := [((243, mdX12_reads, 29), kX12_reads_29), ((244, mdX12_readsName, 17), kX12_readsName_17), ((245, mdX12_isName, 5), kX12_isName_5), ((246, mdX12_areAlike, 5), kX12_areAlike_5), ((247, mdX12_keepName, 2), kX12_keepName_2), ((248, mdX12_town, 12), kX12_town_12), ((249, mdX12_isWordOf, 2), kX12_isWordOf_2), ((249, mdX12_isWordOf, 12), kX12_isWordOf_12), ((250, mdX12_shorten, 18), kX12_shorten_18), ((250, mdX12_shorten, 47), kX12_shorten_47), ((250, mdX12_shorten, 92), kX12_shorten_92), ((250, mdX12_shorten, 111), kX12_shorten_111), ((250, mdX12_shorten, 178), kX12_shorten_178), ((253, mdX12_openName, 4), kX12_openName_4), ((255, mdX12_latest, 5), kX12_latest_5), ((259, mdX12_isTaken, 2), kX12_isTaken_2), ((262, mdX12_join, 97), kX12_join_97), ((262, mdX12_join, 169), kX12_join_169), ((262, mdX12_join, 316), kX12_join_316), ((271, mdX12_front, 2), kX12_front_2)]
theorem pqh4 : ∀ (i : Nat) (q : (Nat × pu_D × Nat) × (pu_R → pu_K)), pq4[i]? = some q → pu_okl (437 + i) q := by
  intro i q h
  match i, h with
  | 0, h => cases h; exact ⟨hl437, hjX12_reads, vX12_reads_29, fun X r h1 h2 h3 => tX12_reads_29 h1 h2 h3⟩
  | 1, h => cases h; exact ⟨hl438, hjX12_readsName, vX12_readsName_17, fun X r h1 h2 h3 => tX12_readsName_17 h1 h2 h3⟩
  | 2, h => cases h; exact ⟨hl439, hjX12_isName, vX12_isName_5, fun X r h1 h2 h3 => tX12_isName_5 h1 h2 h3⟩
  | 3, h => cases h; exact ⟨hl440, hjX12_areAlike, vX12_areAlike_5, fun X r h1 h2 h3 => tX12_areAlike_5 h1 h2 h3⟩
  | 4, h => cases h; exact ⟨hl441, hjX12_keepName, vX12_keepName_2, fun X r h1 h2 h3 => tX12_keepName_2 h1 h2 h3⟩
  | 5, h => cases h; exact ⟨hl442, hjX12_town, vX12_town_12, fun X r h1 h2 h3 => tX12_town_12 h1 h2 h3⟩
  | 6, h => cases h; exact ⟨hl443, hjX12_isWordOf, vX12_isWordOf_2, fun X r h1 h2 h3 => tX12_isWordOf_2 h1 h2 h3⟩
  | 7, h => cases h; exact ⟨hl444, hjX12_isWordOf, vX12_isWordOf_12, fun X r h1 h2 h3 => tX12_isWordOf_12 h1 h2 h3⟩
  | 8, h => cases h; exact ⟨hl445, hjX12_shorten, vX12_shorten_18, fun X r h1 h2 h3 => tX12_shorten_18 h1 h2 h3⟩
  | 9, h => cases h; exact ⟨hl446, hjX12_shorten, vX12_shorten_47, fun X r h1 h2 h3 => tX12_shorten_47 h1 h2 h3⟩
  | 10, h => cases h; exact ⟨hl447, hjX12_shorten, vX12_shorten_92, fun X r h1 h2 h3 => tX12_shorten_92 h1 h2 h3⟩
  | 11, h => cases h; exact ⟨hl448, hjX12_shorten, vX12_shorten_111, fun X r h1 h2 h3 => tX12_shorten_111 h1 h2 h3⟩
  | 12, h => cases h; exact ⟨hl449, hjX12_shorten, vX12_shorten_178, fun X r h1 h2 h3 => tX12_shorten_178 h1 h2 h3⟩
  | 13, h => cases h; exact ⟨hl450, hjX12_openName, vX12_openName_4, fun X r h1 h2 h3 => tX12_openName_4 h1 h2 h3⟩
  | 14, h => cases h; exact ⟨hl451, hjX12_latest, vX12_latest_5, fun X r h1 h2 h3 => tX12_latest_5 h1 h2 h3⟩
  | 15, h => cases h; exact ⟨hl452, hjX12_isTaken, vX12_isTaken_2, fun X r h1 h2 h3 => tX12_isTaken_2 h1 h2 h3⟩
  | 16, h => cases h; exact ⟨hl453, hjX12_join, vX12_join_97, fun X r h1 h2 h3 => tX12_join_97 h1 h2 h3⟩
  | 17, h => cases h; exact ⟨hl454, hjX12_join, vX12_join_169, fun X r h1 h2 h3 => tX12_join_169 h1 h2 h3⟩
  | 18, h => cases h; exact ⟨hl455, hjX12_join, vX12_join_316, fun X r h1 h2 h3 => tX12_join_316 h1 h2 h3⟩
  | 19, h => cases h; exact ⟨hl456, hjX12_front, vX12_front_2, fun X r h1 h2 h3 => tX12_front_2 h1 h2 h3⟩
  | i + 20, h => cases h
def pq5 : List ((Nat × pu_D × Nat) × (pu_R → pu_K)) := [((272, mdX12_openSpan, 10), kX12_openSpan_10), ((277, mdX12_bounds, 42), kX12_bounds_42), ((277, mdX12_bounds, 56), kX12_bounds_56), ((278, mdX12_isUsed, 2), kX12_isUsed_2), ((278, mdX12_isUsed, 15), kX12_isUsed_15), ((281, mdX12_least, 34), kX12_least_34), ((281, mdX12_least, 50), kX12_least_50), ((282, mdX12_isOccupied, 3), kX12_isOccupied_3), ((282, mdX12_isOccupied, 17), kX12_isOccupied_17), ((288, mdX12_underneath, 3), kX12_underneath_3), ((292, mdX12_isUnder, 2), kX12_isUnder_2), ((293, mdX12_gone, 67), kX12_gone_67), ((293, mdX12_gone, 125), kX12_gone_125), ((294, mdX12_orders, 7), kX12_orders_7), ((294, mdX12_orders, 20), kX12_orders_20), ((294, mdX12_orders, 64), kX12_orders_64), ((295, mdX12_isRising, 2), kX12_isRising_2), ((295, mdX12_isRising, 12), kX12_isRising_12), ((296, mdX12_gets, 22), kX12_gets_22), ((297, mdX12_renumber, 59), kX12_renumber_59)]
theorem pqh5 : ∀ (i : Nat) (q : (Nat × pu_D × Nat) × (pu_R → pu_K)), pq5[i]? = some q → pu_okl (457 + i) q := by
  intro i q h
  match i, h with
  | 0, h => cases h; exact ⟨hl457, hjX12_openSpan, vX12_openSpan_10, fun X r h1 h2 h3 => tX12_openSpan_10 h1 h2 h3⟩
  | 1, h => cases h; exact ⟨hl458, hjX12_bounds, vX12_bounds_42, fun X r h1 h2 h3 => tX12_bounds_42 h1 h2 h3⟩
  | 2, h => cases h; exact ⟨hl459, hjX12_bounds, vX12_bounds_56, fun X r h1 h2 h3 => tX12_bounds_56 h1 h2 h3⟩
  | 3, h => cases h; exact ⟨hl460, hjX12_isUsed, vX12_isUsed_2, fun X r h1 h2 h3 => tX12_isUsed_2 h1 h2 h3⟩
  | 4, h => cases h; exact ⟨hl461, hjX12_isUsed, vX12_isUsed_15, fun X r h1 h2 h3 => tX12_isUsed_15 h1 h2 h3⟩
  | 5, h => cases h; exact ⟨hl462, hjX12_least, vX12_least_34, fun X r h1 h2 h3 => tX12_least_34 h1 h2 h3⟩
  | 6, h => cases h; exact ⟨hl463, hjX12_least, vX12_least_50, fun X r h1 h2 h3 => tX12_least_50 h1 h2 h3⟩
  | 7, h => cases h; exact ⟨hl464, hjX12_isOccupied, vX12_isOccupied_3, fun X r h1 h2 h3 => tX12_isOccupied_3 h1 h2 h3⟩
  | 8, h => cases h; exact ⟨hl465, hjX12_isOccupied, vX12_isOccupied_17, fun X r h1 h2 h3 => tX12_isOccupied_17 h1 h2 h3⟩
  | 9, h => cases h; exact ⟨hl466, hjX12_underneath, vX12_underneath_3, fun X r h1 h2 h3 => tX12_underneath_3 h1 h2 h3⟩
  | 10, h => cases h; exact ⟨hl467, hjX12_isUnder, vX12_isUnder_2, fun X r h1 h2 h3 => tX12_isUnder_2 h1 h2 h3⟩
  | 11, h => cases h; exact ⟨hl468, hjX12_gone, vX12_gone_67, fun X r h1 h2 h3 => tX12_gone_67 h1 h2 h3⟩
  | 12, h => cases h; exact ⟨hl469, hjX12_gone, vX12_gone_125, fun X r h1 h2 h3 => tX12_gone_125 h1 h2 h3⟩
  | 13, h => cases h; exact ⟨hl470, hjX12_orders, vX12_orders_7, fun X r h1 h2 h3 => tX12_orders_7 h1 h2 h3⟩
  | 14, h => cases h; exact ⟨hl471, hjX12_orders, vX12_orders_20, fun X r h1 h2 h3 => tX12_orders_20 h1 h2 h3⟩
  | 15, h => cases h; exact ⟨hl472, hjX12_orders, vX12_orders_64, fun X r h1 h2 h3 => tX12_orders_64 h1 h2 h3⟩
  | 16, h => cases h; exact ⟨hl473, hjX12_isRising, vX12_isRising_2, fun X r h1 h2 h3 => tX12_isRising_2 h1 h2 h3⟩
  | 17, h => cases h; exact ⟨hl474, hjX12_isRising, vX12_isRising_12, fun X r h1 h2 h3 => tX12_isRising_12 h1 h2 h3⟩
  | 18, h => cases h; exact ⟨hl475, hjX12_gets, vX12_gets_22, fun X r h1 h2 h3 => tX12_gets_22 h1 h2 h3⟩
  | 19, h => cases h; exact ⟨hl476, hjX12_renumber, vX12_renumber_59, fun X r h1 h2 h3 => tX12_renumber_59 h1 h2 h3⟩
  | i + 20, h => cases h
def pq6 : List ((Nat × pu_D × Nat) × (pu_R → pu_K)) := [((297, mdX12_renumber, 199), kX12_renumber_199), ((298, mdX12_row, 65), kX12_row_65), ((300, mdX12_unmade, 66), kX12_unmade_66), ((301, mdX12_undo, 29), kX12_undo_29), ((301, mdX12_undo, 82), kX12_undo_82), ((301, mdX12_undo, 134), kX12_undo_134), ((301, mdX12_undo, 186), kX12_undo_186), ((301, mdX12_undo, 236), kX12_undo_236), ((301, mdX12_undo, 278), kX12_undo_278), ((301, mdX12_undo, 302), kX12_undo_302), ((301, mdX12_undo, 382), kX12_undo_382), ((302, mdX12_image, 13), kX12_image_13), ((303, mdX12_back, 22), kX12_back_22), ((305, mdX12_word, 2), kX12_word_2), ((308, mdX12_streetPart, 2), kX12_streetPart_2), ((309, mdX12_numberPart, 4), kX12_numberPart_4), ((313, mdX12_townPart, 2), kX12_townPart_2), ((314, mdX12_readsAddress, 19), kX12_readsAddress_19), ((314, mdX12_readsAddress, 95), kX12_readsAddress_95), ((316, mdX12_streetOn, 2), kX12_streetOn_2)]
theorem pqh6 : ∀ (i : Nat) (q : (Nat × pu_D × Nat) × (pu_R → pu_K)), pq6[i]? = some q → pu_okl (477 + i) q := by
  intro i q h
  match i, h with
  | 0, h => cases h; exact ⟨hl477, hjX12_renumber, vX12_renumber_199, fun X r h1 h2 h3 => tX12_renumber_199 h1 h2 h3⟩
  | 1, h => cases h; exact ⟨hl478, hjX12_row, vX12_row_65, fun X r h1 h2 h3 => tX12_row_65 h1 h2 h3⟩
  | 2, h => cases h; exact ⟨hl479, hjX12_unmade, vX12_unmade_66, fun X r h1 h2 h3 => tX12_unmade_66 h1 h2 h3⟩
  | 3, h => cases h; exact ⟨hl480, hjX12_undo, vX12_undo_29, fun X r h1 h2 h3 => tX12_undo_29 h1 h2 h3⟩
  | 4, h => cases h; exact ⟨hl481, hjX12_undo, vX12_undo_82, fun X r h1 h2 h3 => tX12_undo_82 h1 h2 h3⟩
  | 5, h => cases h; exact ⟨hl482, hjX12_undo, vX12_undo_134, fun X r h1 h2 h3 => tX12_undo_134 h1 h2 h3⟩
  | 6, h => cases h; exact ⟨hl483, hjX12_undo, vX12_undo_186, fun X r h1 h2 h3 => tX12_undo_186 h1 h2 h3⟩
  | 7, h => cases h; exact ⟨hl484, hjX12_undo, vX12_undo_236, fun X r h1 h2 h3 => tX12_undo_236 h1 h2 h3⟩
  | 8, h => cases h; exact ⟨hl485, hjX12_undo, vX12_undo_278, fun X r h1 h2 h3 => tX12_undo_278 h1 h2 h3⟩
  | 9, h => cases h; exact ⟨hl486, hjX12_undo, vX12_undo_302, fun X r h1 h2 h3 => tX12_undo_302 h1 h2 h3⟩
  | 10, h => cases h; exact ⟨hl487, hjX12_undo, vX12_undo_382, fun X r h1 h2 h3 => tX12_undo_382 h1 h2 h3⟩
  | 11, h => cases h; exact ⟨hl488, hjX12_image, vX12_image_13, fun X r h1 h2 h3 => tX12_image_13 h1 h2 h3⟩
  | 12, h => cases h; exact ⟨hl489, hjX12_back, vX12_back_22, fun X r h1 h2 h3 => tX12_back_22 h1 h2 h3⟩
  | 13, h => cases h; exact ⟨hl490, hjX12_word, vX12_word_2, fun X r h1 h2 h3 => tX12_word_2 h1 h2 h3⟩
  | 14, h => cases h; exact ⟨hl491, hjX12_streetPart, vX12_streetPart_2, fun X r h1 h2 h3 => tX12_streetPart_2 h1 h2 h3⟩
  | 15, h => cases h; exact ⟨hl492, hjX12_numberPart, vX12_numberPart_4, fun X r h1 h2 h3 => tX12_numberPart_4 h1 h2 h3⟩
  | 16, h => cases h; exact ⟨hl493, hjX12_townPart, vX12_townPart_2, fun X r h1 h2 h3 => tX12_townPart_2 h1 h2 h3⟩
  | 17, h => cases h; exact ⟨hl494, hjX12_readsAddress, vX12_readsAddress_19, fun X r h1 h2 h3 => tX12_readsAddress_19 h1 h2 h3⟩
  | 18, h => cases h; exact ⟨hl495, hjX12_readsAddress, vX12_readsAddress_95, fun X r h1 h2 h3 => tX12_readsAddress_95 h1 h2 h3⟩
  | 19, h => cases h; exact ⟨hl496, hjX12_streetOn, vX12_streetOn_2, fun X r h1 h2 h3 => tX12_streetOn_2 h1 h2 h3⟩
  | i + 20, h => cases h
def pq7 : List ((Nat × pu_D × Nat) × (pu_R → pu_K)) := [((318, mdX12_withExtra, 11), kX12_withExtra_11), ((319, mdX12_sure, 20), kX12_sure_20), ((322, mdX12_mayHave, 73), kX12_mayHave_73), ((322, mdX12_mayHave, 215), kX12_mayHave_215), ((323, mdX12_likelyOn, 5), kX12_likelyOn_5), ((323, mdX12_likelyOn, 82), kX12_likelyOn_82), ((324, mdX12_means, 99), kX12_means_99), ((327, mdX12_call, 32), kX12_call_32), ((327, mdX12_call, 52), kX12_call_52), ((332, mdX12_spanOn, 27), kX12_spanOn_27), ((335, mdX12_putName, 2), kX12_putName_2), ((335, mdX12_putName, 45), kX12_putName_45), ((336, mdX12_putNumber, 4), kX12_putNumber_4), ((336, mdX12_putNumber, 22), kX12_putNumber_22), ((338, mdX12_write, 69), kX12_write_69), ((339, mdX12_pairs, 2), kX12_pairs_2), ((339, mdX12_pairs, 18), kX12_pairs_18), ((339, mdX12_pairs, 32), kX12_pairs_32), ((339, mdX12_pairs, 134), kX12_pairs_134), ((339, mdX12_pairs, 148), kX12_pairs_148)]
theorem pqh7 : ∀ (i : Nat) (q : (Nat × pu_D × Nat) × (pu_R → pu_K)), pq7[i]? = some q → pu_okl (497 + i) q := by
  intro i q h
  match i, h with
  | 0, h => cases h; exact ⟨hl497, hjX12_withExtra, vX12_withExtra_11, fun X r h1 h2 h3 => tX12_withExtra_11 h1 h2 h3⟩
  | 1, h => cases h; exact ⟨hl498, hjX12_sure, vX12_sure_20, fun X r h1 h2 h3 => tX12_sure_20 h1 h2 h3⟩
  | 2, h => cases h; exact ⟨hl499, hjX12_mayHave, vX12_mayHave_73, fun X r h1 h2 h3 => tX12_mayHave_73 h1 h2 h3⟩
  | 3, h => cases h; exact ⟨hl500, hjX12_mayHave, vX12_mayHave_215, fun X r h1 h2 h3 => tX12_mayHave_215 h1 h2 h3⟩
  | 4, h => cases h; exact ⟨hl501, hjX12_likelyOn, vX12_likelyOn_5, fun X r h1 h2 h3 => tX12_likelyOn_5 h1 h2 h3⟩
  | 5, h => cases h; exact ⟨hl502, hjX12_likelyOn, vX12_likelyOn_82, fun X r h1 h2 h3 => tX12_likelyOn_82 h1 h2 h3⟩
  | 6, h => cases h; exact ⟨hl503, hjX12_means, vX12_means_99, fun X r h1 h2 h3 => tX12_means_99 h1 h2 h3⟩
  | 7, h => cases h; exact ⟨hl504, hjX12_call, vX12_call_32, fun X r h1 h2 h3 => tX12_call_32 h1 h2 h3⟩
  | 8, h => cases h; exact ⟨hl505, hjX12_call, vX12_call_52, fun X r h1 h2 h3 => tX12_call_52 h1 h2 h3⟩
  | 9, h => cases h; exact ⟨hl506, hjX12_spanOn, vX12_spanOn_27, fun X r h1 h2 h3 => tX12_spanOn_27 h1 h2 h3⟩
  | 10, h => cases h; exact ⟨hl507, hjX12_putName, vX12_putName_2, fun X r h1 h2 h3 => tX12_putName_2 h1 h2 h3⟩
  | 11, h => cases h; exact ⟨hl508, hjX12_putName, vX12_putName_45, fun X r h1 h2 h3 => tX12_putName_45 h1 h2 h3⟩
  | 12, h => cases h; exact ⟨hl509, hjX12_putNumber, vX12_putNumber_4, fun X r h1 h2 h3 => tX12_putNumber_4 h1 h2 h3⟩
  | 13, h => cases h; exact ⟨hl510, hjX12_putNumber, vX12_putNumber_22, fun X r h1 h2 h3 => tX12_putNumber_22 h1 h2 h3⟩
  | 14, h => cases h; exact ⟨hl511, hjX12_write, vX12_write_69, fun X r h1 h2 h3 => tX12_write_69 h1 h2 h3⟩
  | 15, h => cases h; exact ⟨hl512, hjX12_pairs, vX12_pairs_2, fun X r h1 h2 h3 => tX12_pairs_2 h1 h2 h3⟩
  | 16, h => cases h; exact ⟨hl513, hjX12_pairs, vX12_pairs_18, fun X r h1 h2 h3 => tX12_pairs_18 h1 h2 h3⟩
  | 17, h => cases h; exact ⟨hl514, hjX12_pairs, vX12_pairs_32, fun X r h1 h2 h3 => tX12_pairs_32 h1 h2 h3⟩
  | 18, h => cases h; exact ⟨hl515, hjX12_pairs, vX12_pairs_134, fun X r h1 h2 h3 => tX12_pairs_134 h1 h2 h3⟩
  | 19, h => cases h; exact ⟨hl516, hjX12_pairs, vX12_pairs_148, fun X r h1 h2 h3 => tX12_pairs_148 h1 h2 h3⟩
  | i + 20, h => cases h
def pq8 : List ((Nat × pu_D × Nat) × (pu_R → pu_K)) := [((340, mdX12_twice, 90), kX12_twice_90), ((340, mdX12_twice, 104), kX12_twice_104), ((343, mdX12_near, 35), kX12_near_35), ((343, mdX12_near, 49), kX12_near_49), ((346, mdX12_isWalked, 2), kX12_isWalked_2), ((348, mdX12_comesToAll, 7), kX12_comesToAll_7), ((348, mdX12_comesToAll, 15), kX12_comesToAll_15), ((348, mdX12_comesToAll, 25), kX12_comesToAll_25), ((349, mdX12_walk, 28), kX12_walk_28), ((349, mdX12_walk, 75), kX12_walk_75), ((349, mdX12_walk, 89), kX12_walk_89), ((349, mdX12_walk, 103), kX12_walk_103), ((351, mdX12_sort, 12), kX12_sort_12), ((351, mdX12_sort, 26), kX12_sort_26), ((351, mdX12_sort, 115), kX12_sort_115), ((354, mdX12_list, 17), kX12_list_17), ((354, mdX12_list, 29), kX12_list_29), ((355, mdX12_check, 16), kX12_check_16), ((355, mdX12_check, 38), kX12_check_38), ((355, mdX12_check, 235), kX12_check_235)]
theorem pqh8 : ∀ (i : Nat) (q : (Nat × pu_D × Nat) × (pu_R → pu_K)), pq8[i]? = some q → pu_okl (517 + i) q := by
  intro i q h
  match i, h with
  | 0, h => cases h; exact ⟨hl517, hjX12_twice, vX12_twice_90, fun X r h1 h2 h3 => tX12_twice_90 h1 h2 h3⟩
  | 1, h => cases h; exact ⟨hl518, hjX12_twice, vX12_twice_104, fun X r h1 h2 h3 => tX12_twice_104 h1 h2 h3⟩
  | 2, h => cases h; exact ⟨hl519, hjX12_near, vX12_near_35, fun X r h1 h2 h3 => tX12_near_35 h1 h2 h3⟩
  | 3, h => cases h; exact ⟨hl520, hjX12_near, vX12_near_49, fun X r h1 h2 h3 => tX12_near_49 h1 h2 h3⟩
  | 4, h => cases h; exact ⟨hl521, hjX12_isWalked, vX12_isWalked_2, fun X r h1 h2 h3 => tX12_isWalked_2 h1 h2 h3⟩
  | 5, h => cases h; exact ⟨hl522, hjX12_comesToAll, vX12_comesToAll_7, fun X r h1 h2 h3 => tX12_comesToAll_7 h1 h2 h3⟩
  | 6, h => cases h; exact ⟨hl523, hjX12_comesToAll, vX12_comesToAll_15, fun X r h1 h2 h3 => tX12_comesToAll_15 h1 h2 h3⟩
  | 7, h => cases h; exact ⟨hl524, hjX12_comesToAll, vX12_comesToAll_25, fun X r h1 h2 h3 => tX12_comesToAll_25 h1 h2 h3⟩
  | 8, h => cases h; exact ⟨hl525, hjX12_walk, vX12_walk_28, fun X r h1 h2 h3 => tX12_walk_28 h1 h2 h3⟩
  | 9, h => cases h; exact ⟨hl526, hjX12_walk, vX12_walk_75, fun X r h1 h2 h3 => tX12_walk_75 h1 h2 h3⟩
  | 10, h => cases h; exact ⟨hl527, hjX12_walk, vX12_walk_89, fun X r h1 h2 h3 => tX12_walk_89 h1 h2 h3⟩
  | 11, h => cases h; exact ⟨hl528, hjX12_walk, vX12_walk_103, fun X r h1 h2 h3 => tX12_walk_103 h1 h2 h3⟩
  | 12, h => cases h; exact ⟨hl529, hjX12_sort, vX12_sort_12, fun X r h1 h2 h3 => tX12_sort_12 h1 h2 h3⟩
  | 13, h => cases h; exact ⟨hl530, hjX12_sort, vX12_sort_26, fun X r h1 h2 h3 => tX12_sort_26 h1 h2 h3⟩
  | 14, h => cases h; exact ⟨hl531, hjX12_sort, vX12_sort_115, fun X r h1 h2 h3 => tX12_sort_115 h1 h2 h3⟩
  | 15, h => cases h; exact ⟨hl532, hjX12_list, vX12_list_17, fun X r h1 h2 h3 => tX12_list_17 h1 h2 h3⟩
  | 16, h => cases h; exact ⟨hl533, hjX12_list, vX12_list_29, fun X r h1 h2 h3 => tX12_list_29 h1 h2 h3⟩
  | 17, h => cases h; exact ⟨hl534, hjX12_check, vX12_check_16, fun X r h1 h2 h3 => tX12_check_16 h1 h2 h3⟩
  | 18, h => cases h; exact ⟨hl535, hjX12_check, vX12_check_38, fun X r h1 h2 h3 => tX12_check_38 h1 h2 h3⟩
  | 19, h => cases h; exact ⟨hl536, hjX12_check, vX12_check_235, fun X r h1 h2 h3 => tX12_check_235 h1 h2 h3⟩
  | i + 20, h => cases h
def pq9 : List ((Nat × pu_D × Nat) × (pu_R → pu_K)) := [((355, mdX12_check, 247), kX12_check_247)]
theorem pqh9 : ∀ (i : Nat) (q : (Nat × pu_D × Nat) × (pu_R → pu_K)), pq9[i]? = some q → pu_okl (537 + i) q := by
  intro i q h
  match i, h with
  | 0, h => cases h; exact ⟨hl537, hjX12_check, vX12_check_247, fun X r h1 h2 h3 => tX12_check_247 h1 h2 h3⟩
  | i + 1, h => cases h
def pu_ms : List (pu_D × (pu_R → pu_K)) := pm0 ++ (pm1 ++ (pm2 ++ (pm3 ++ (pm4 ++ (pm5 ++ (pm6 ++ (pm7 ++ (pm8 ++ (pm9 ++ (pm10 ++ (pm11 ++ (pm12 ++ (pm13 ++ (pm14 ++ (pm15 ++ (pm16 ++ (pm17)))))))))))))))))
def pu_ls : List ((Nat × pu_D × Nat) × (pu_R → pu_K)) := pq0 ++ (pq1 ++ (pq2 ++ (pq3 ++ (pq4 ++ (pq5 ++ (pq6 ++ (pq7 ++ (pq8 ++ (pq9)))))))))
theorem pu_msh : ∀ (j : Nat) (q : pu_D × (pu_R → pu_K)), pu_ms[j]? = some q → pu_okm j q := by
  intro j q h
  have := (pu_app pmh0 (pu_app pmh1 (pu_app pmh2 (pu_app pmh3 (pu_app pmh4 (pu_app pmh5 (pu_app pmh6 (pu_app pmh7 (pu_app pmh8 (pu_app pmh9 (pu_app pmh10 (pu_app pmh11 (pu_app pmh12 (pu_app pmh13 (pu_app pmh14 (pu_app pmh15 (pu_app pmh16 (pmh17)))))))))))))))))) j q h
  rw [Nat.zero_add] at this
  exact this
theorem pu_lsh : ∀ (i : Nat) (q : (Nat × pu_D × Nat) × (pu_R → pu_K)), pu_ls[i]? = some q → pu_okl (357 + i) q := pu_app pqh0 (pu_app pqh1 (pu_app pqh2 (pu_app pqh3 (pu_app pqh4 (pu_app pqh5 (pu_app pqh6 (pu_app pqh7 (pu_app pqh8 (pqh9)))))))))
def pu_cd (i : Nat) : Option (pu_R → pu_K) := match pu_ms[i]? with
  | some q => some (fun r => s_ent q.1.2.2.2.1 (q.2 r))
  | none => (pu_ls[i - 357]?).map (fun q => q.2)
set_option maxRecDepth 20000 in
theorem pu_mslen : pu_ms.length = 357 := rfl
set_option maxRecDepth 20000 in
theorem pu_tablen : pu_tab.length = 357 := rfl
set_option maxRecDepth 20000 in
theorem pu_lslen : pu_ls.length = 181 := rfl
set_option maxRecDepth 20000 in
theorem pu_lpslen : pu_lps.length = 181 := rfl
theorem pu_ex {α : Type} (l : List α) (n : Nat) (h : n < l.length) : ∃ q, l[n]? = some q := ⟨l[n], List.getElem?_eq_getElem h⟩
theorem pu_cdok : ∀ i c, pu_cd i = some c → pu_cok2 c := by
  intro i c h
  unfold pu_cd at h
  split at h
  · rename_i q hq
    cases h
    exact fun rf r hr => v_ent ((pu_msh i q hq).2.2.2.1 rf r hr)
  · cases hq : pu_ls[i - 357]? with
    | none => rw [hq] at h; cases h
    | some q =>
      rw [hq] at h
      cases h
      exact (pu_lsh _ q hq).2.2.1
/-- the contracts of all methods, at every fuel -/
theorem pu_allf (l : Launch) (g : pu_G) (f : Nat) : pu_P l g (pu_run pu_cd f) := by
  refine (pu_sound (lp := pu_lp) pu_cdok ?_ ?_ f).1
  · intro j d hj
    have hlt : j < pu_ms.length := by
      rw [pu_mslen, ← pu_tablen]
      exact (List.getElem?_eq_some_iff.mp hj).1
    obtain ⟨qq, hq⟩ := pu_ex pu_ms j hlt
    obtain ⟨h1, h2, h3, h4, h5⟩ := pu_msh j _ hq
    have e : d = qq.1 := Option.some.inj (hj.symm.trans h1)
    subst e
    refine ⟨h2, h3, qq.2, ?_, ?_⟩
    · unfold pu_cd
      rw [hq]
    · intro X r e1 e2 hX hP hL
      subst e1; subst e2
      exact h5 X r hX hP hL
  · intro i j pc d hi hj
    have hn : ¬ i < 357 := by
      intro hlt
      unfold pu_lp at hi
      rw [if_pos hlt] at hi
      cases hi
    have hi2 : pu_lps[i - 357]? = some (j, pc) := by
      unfold pu_lp at hi
      rw [if_neg hn] at hi
      exact hi
    have hlt : i - 357 < pu_ls.length := by
      rw [pu_lslen, ← pu_lpslen]
      exact (List.getElem?_eq_some_iff.mp hi2).1
    obtain ⟨q, hq⟩ := pu_ex pu_ls _ hlt
    obtain ⟨h1, h2, h3, h4⟩ := pu_lsh _ _ hq
    rw [show 357 + (i - 357) = i by omega, hi] at h1
    obtain ⟨⟨j', d', pc'⟩, k⟩ := q
    cases h1
    have e : d = d' := Option.some.inj (hj.symm.trans h2)
    subst e
    refine ⟨k, ?_, ?_⟩
    · unfold pu_cd
      rw [List.getElem?_eq_none_iff.mpr (by rw [pu_mslen]; omega)]
      dsimp only
      rw [hq]
      rfl
    · intro X r e1 e2 hX hP hL
      subst e1; subst e2
      exact h4 X r hX hP hL
/-- the machine's methods over the limit -/
noncomputable def pu_r : pu_R := pu_lim pu_cd
theorem pu_all (l : Launch) (g : pu_G) : pu_P l g pu_r := by
  intro j d hj vs M o hv hM ho
  obtain ⟨f, hf⟩ := pu_lim_to ho
  exact pu_allf l g f j d hj vs M o hv hM hf
theorem pu_rfix {i : Nat} {c : pu_R → pu_K} (hi : pu_cd i = some c) (ls : pu_L) (st : List Value) (M : pu_M) : pu_r i ls st M = c pu_r ls st M := pu_fix pu_cdok hi ls st M
