set_option maxRecDepth 20000 in
theorem qX0_init (ls : pu_L) (st : List Value) (M : pu_M) : pu_r 0 ls st M = s_ent 1 (kX0_init_0 pu_r) ls st M := pu_rfix (c := fun r => s_ent 1 (kX0_init_0 r)) rfl ls st M
set_option maxRecDepth 20000 in
theorem qX6_init (ls : pu_L) (st : List Value) (M : pu_M) : pu_r 1 ls st M = s_ent 1 (kX6_init_0 pu_r) ls st M := pu_rfix (c := fun r => s_ent 1 (kX6_init_0 r)) rfl ls st M
set_option maxRecDepth 20000 in
theorem qX4_init (ls : pu_L) (st : List Value) (M : pu_M) : pu_r 2 ls st M = s_ent 1 (kX4_init_0 pu_r) ls st M := pu_rfix (c := fun r => s_ent 1 (kX4_init_0 r)) rfl ls st M
set_option maxRecDepth 20000 in
theorem qX3_init (ls : pu_L) (st : List Value) (M : pu_M) : pu_r 3 ls st M = s_ent 1 (kX3_init_0 pu_r) ls st M := pu_rfix (c := fun r => s_ent 1 (kX3_init_0 r)) rfl ls st M
set_option maxRecDepth 20000 in
theorem qX10_init (ls : pu_L) (st : List Value) (M : pu_M) : pu_r 4 ls st M = s_ent 1 (kX10_init_0 pu_r) ls st M := pu_rfix (c := fun r => s_ent 1 (kX10_init_0 r)) rfl ls st M
set_option maxRecDepth 20000 in
theorem qX2_init (ls : pu_L) (st : List Value) (M : pu_M) : pu_r 5 ls st M = s_ent 1 (kX2_init_0 pu_r) ls st M := pu_rfix (c := fun r => s_ent 1 (kX2_init_0 r)) rfl ls st M
set_option maxRecDepth 20000 in
theorem qX8_init (ls : pu_L) (st : List Value) (M : pu_M) : pu_r 6 ls st M = s_ent 1 (kX8_init_0 pu_r) ls st M := pu_rfix (c := fun r => s_ent 1 (kX8_init_0 r)) rfl ls st M
set_option maxRecDepth 20000 in
theorem qX1_init (ls : pu_L) (st : List Value) (M : pu_M) : pu_r 7 ls st M = s_ent 1 (kX1_init_0 pu_r) ls st M := pu_rfix (c := fun r => s_ent 1 (kX1_init_0 r)) rfl ls st M
set_option maxRecDepth 20000 in
theorem qX5_init (ls : pu_L) (st : List Value) (M : pu_M) : pu_r 8 ls st M = s_ent 1 (kX5_init_0 pu_r) ls st M := pu_rfix (c := fun r => s_ent 1 (kX5_init_0 r)) rfl ls st M
set_option maxRecDepth 20000 in
theorem qX7_init (ls : pu_L) (st : List Value) (M : pu_M) : pu_r 9 ls st M = s_ent 1 (kX7_init_0 pu_r) ls st M := pu_rfix (c := fun r => s_ent 1 (kX7_init_0 r)) rfl ls st M
set_option maxRecDepth 20000 in
theorem qX9_init (ls : pu_L) (st : List Value) (M : pu_M) : pu_r 10 ls st M = s_ent 1 (kX9_init_0 pu_r) ls st M := pu_rfix (c := fun r => s_ent 1 (kX9_init_0 r)) rfl ls st M
set_option maxRecDepth 20000 in
theorem qX11_init (ls : pu_L) (st : List Value) (M : pu_M) : pu_r 11 ls st M = s_ent 1 (kX11_init_0 pu_r) ls st M := pu_rfix (c := fun r => s_ent 1 (kX11_init_0 r)) rfl ls st M
set_option maxRecDepth 20000 in
theorem qX0_put (ls : pu_L) (st : List Value) (M : pu_M) : pu_r 12 ls st M = s_ent 2 (kX0_put_0 pu_r) ls st M := pu_rfix (c := fun r => s_ent 2 (kX0_put_0 r)) rfl ls st M
set_option maxRecDepth 20000 in
theorem qX0_putFour (ls : pu_L) (st : List Value) (M : pu_M) : pu_r 13 ls st M = s_ent 2 (kX0_putFour_0 pu_r) ls st M := pu_rfix (c := fun r => s_ent 2 (kX0_putFour_0 r)) rfl ls st M
set_option maxRecDepth 20000 in
theorem qX11_feed (ls : pu_L) (st : List Value) (M : pu_M) : pu_r 14 ls st M = s_ent 6 (kX11_feed_0 pu_r) ls st M := pu_rfix (c := fun r => s_ent 6 (kX11_feed_0 r)) rfl ls st M
set_option maxRecDepth 20000 in
theorem qX11_end (ls : pu_L) (st : List Value) (M : pu_M) : pu_r 15 ls st M = s_ent 2 (kX11_end_0 pu_r) ls st M := pu_rfix (c := fun r => s_ent 2 (kX11_end_0 r)) rfl ls st M
set_option maxRecDepth 20000 in
theorem qX0_copyFrom (ls : pu_L) (st : List Value) (M : pu_M) : pu_r 16 ls st M = s_ent 2 (kX0_copyFrom_0 pu_r) ls st M := pu_rfix (c := fun r => s_ent 2 (kX0_copyFrom_0 r)) rfl ls st M
set_option maxRecDepth 20000 in
theorem qX11_take (ls : pu_L) (st : List Value) (M : pu_M) : pu_r 17 ls st M = s_ent 1 (kX11_take_0 pu_r) ls st M := pu_rfix (c := fun r => s_ent 1 (kX11_take_0 r)) rfl ls st M
set_option maxRecDepth 20000 in
theorem qX11_isDay (ls : pu_L) (st : List Value) (M : pu_M) : pu_r 18 ls st M = s_ent 1 (kX11_isDay_0 pu_r) ls st M := pu_rfix (c := fun r => s_ent 1 (kX11_isDay_0 r)) rfl ls st M
set_option maxRecDepth 20000 in
theorem qX11_day (ls : pu_L) (st : List Value) (M : pu_M) : pu_r 19 ls st M = s_ent 2 (kX11_day_0 pu_r) ls st M := pu_rfix (c := fun r => s_ent 2 (kX11_day_0 r)) rfl ls st M
set_option maxRecDepth 20000 in
theorem qX11_as (ls : pu_L) (st : List Value) (M : pu_M) : pu_r 20 ls st M = s_ent 2 (kX11_as_0 pu_r) ls st M := pu_rfix (c := fun r => s_ent 2 (kX11_as_0 r)) rfl ls st M
set_option maxRecDepth 20000 in
theorem qX7_begin (ls : pu_L) (st : List Value) (M : pu_M) : pu_r 21 ls st M = s_ent 2 (kX7_begin_0 pu_r) ls st M := pu_rfix (c := fun r => s_ent 2 (kX7_begin_0 r)) rfl ls st M
set_option maxRecDepth 20000 in
theorem qJ7_fill_d0a16 (ls : pu_L) (st : List Value) (M : pu_M) : pu_r 22 ls st M = s_ent 5 (kJ7_fill_d0a16_0 pu_r) ls st M := pu_rfix (c := fun r => s_ent 5 (kJ7_fill_d0a16_0 r)) rfl ls st M
set_option maxRecDepth 20000 in
theorem qX7_isNext (ls : pu_L) (st : List Value) (M : pu_M) : pu_r 23 ls st M = s_ent 3 (kX7_isNext_0 pu_r) ls st M := pu_rfix (c := fun r => s_ent 3 (kX7_isNext_0 r)) rfl ls st M
set_option maxRecDepth 20000 in
theorem qX7_readWord (ls : pu_L) (st : List Value) (M : pu_M) : pu_r 24 ls st M = s_ent 4 (kX7_readWord_0 pu_r) ls st M := pu_rfix (c := fun r => s_ent 4 (kX7_readWord_0 r)) rfl ls st M
set_option maxRecDepth 20000 in
theorem qX7_readByte (ls : pu_L) (st : List Value) (M : pu_M) : pu_r 25 ls st M = s_ent 2 (kX7_readByte_0 pu_r) ls st M := pu_rfix (c := fun r => s_ent 2 (kX7_readByte_0 r)) rfl ls st M
set_option maxRecDepth 20000 in
theorem qX7_readToEnd (ls : pu_L) (st : List Value) (M : pu_M) : pu_r 26 ls st M = s_ent 3 (kX7_readToEnd_0 pu_r) ls st M := pu_rfix (c := fun r => s_ent 3 (kX7_readToEnd_0 r)) rfl ls st M
set_option maxRecDepth 20000 in
theorem qX8_indexOf (ls : pu_L) (st : List Value) (M : pu_M) : pu_r 27 ls st M = s_ent 4 (kX8_indexOf_0 pu_r) ls st M := pu_rfix (c := fun r => s_ent 4 (kX8_indexOf_0 r)) rfl ls st M
set_option maxRecDepth 20000 in
theorem qX8_full (ls : pu_L) (st : List Value) (M : pu_M) : pu_r 28 ls st M = s_ent 4 (kX8_full_0 pu_r) ls st M := pu_rfix (c := fun r => s_ent 4 (kX8_full_0 r)) rfl ls st M
set_option maxRecDepth 20000 in
theorem qX7_lengthen (ls : pu_L) (st : List Value) (M : pu_M) : pu_r 29 ls st M = s_ent 3 (kX7_lengthen_0 pu_r) ls st M := pu_rfix (c := fun r => s_ent 3 (kX7_lengthen_0 r)) rfl ls st M
set_option maxRecDepth 20000 in
theorem qX7_readName (ls : pu_L) (st : List Value) (M : pu_M) : pu_r 30 ls st M = s_ent 4 (kX7_readName_0 pu_r) ls st M := pu_rfix (c := fun r => s_ent 4 (kX7_readName_0 r)) rfl ls st M
set_option maxRecDepth 20000 in
theorem qX11_readName (ls : pu_L) (st : List Value) (M : pu_M) : pu_r 31 ls st M = s_ent 2 (kX11_readName_0 pu_r) ls st M := pu_rfix (c := fun r => s_ent 2 (kX11_readName_0 r)) rfl ls st M
set_option maxRecDepth 20000 in
theorem qX3_areLike (ls : pu_L) (st : List Value) (M : pu_M) : pu_r 32 ls st M = s_ent 5 (kX3_areLike_0 pu_r) ls st M := pu_rfix (c := fun r => s_ent 5 (kX3_areLike_0 r)) rfl ls st M
set_option maxRecDepth 20000 in
theorem qX10_townNamed (ls : pu_L) (st : List Value) (M : pu_M) : pu_r 33 ls st M = s_ent 3 (kX10_townNamed_0 pu_r) ls st M := pu_rfix (c := fun r => s_ent 3 (kX10_townNamed_0 r)) rfl ls st M
set_option maxRecDepth 20000 in
theorem qX10_addTown (ls : pu_L) (st : List Value) (M : pu_M) : pu_r 34 ls st M = s_ent 2 (kX10_addTown_0 pu_r) ls st M := pu_rfix (c := fun r => s_ent 2 (kX10_addTown_0 r)) rfl ls st M
set_option maxRecDepth 20000 in
theorem qX11_town (ls : pu_L) (st : List Value) (M : pu_M) : pu_r 35 ls st M = s_ent 1 (kX11_town_0 pu_r) ls st M := pu_rfix (c := fun r => s_ent 1 (kX11_town_0 r)) rfl ls st M
set_option maxRecDepth 20000 in
theorem qX7_readPair (ls : pu_L) (st : List Value) (M : pu_M) : pu_r 36 ls st M = s_ent 3 (kX7_readPair_0 pu_r) ls st M := pu_rfix (c := fun r => s_ent 3 (kX7_readPair_0 r)) rfl ls st M
set_option maxRecDepth 20000 in
theorem qX10_isWordOfTown (ls : pu_L) (st : List Value) (M : pu_M) : pu_r 37 ls st M = s_ent 4 (kX10_isWordOfTown_0 pu_r) ls st M := pu_rfix (c := fun r => s_ent 4 (kX10_isWordOfTown_0 r)) rfl ls st M
set_option maxRecDepth 20000 in
theorem qX3_isWordOfName (ls : pu_L) (st : List Value) (M : pu_M) : pu_r 38 ls st M = s_ent 4 (kX3_isWordOfName_0 pu_r) ls st M := pu_rfix (c := fun r => s_ent 4 (kX3_isWordOfName_0 r)) rfl ls st M
set_option maxRecDepth 20000 in
theorem qX8_keep (ls : pu_L) (st : List Value) (M : pu_M) : pu_r 39 ls st M = s_ent 6 (kX8_keep_0 pu_r) ls st M := pu_rfix (c := fun r => s_ent 6 (kX8_keep_0 r)) rfl ls st M
set_option maxRecDepth 20000 in
theorem qX11_shorten (ls : pu_L) (st : List Value) (M : pu_M) : pu_r 40 ls st M = s_ent 4 (kX11_shorten_0 pu_r) ls st M := pu_rfix (c := fun r => s_ent 4 (kX11_shorten_0 r)) rfl ls st M
set_option maxRecDepth 20000 in
theorem qX10_isTown (ls : pu_L) (st : List Value) (M : pu_M) : pu_r 41 ls st M = s_ent 2 (kX10_isTown_0 pu_r) ls st M := pu_rfix (c := fun r => s_ent 2 (kX10_isTown_0 r)) rfl ls st M
set_option maxRecDepth 20000 in
theorem qX6_wasJoined (ls : pu_L) (st : List Value) (M : pu_M) : pu_r 42 ls st M = s_ent 3 (kX6_wasJoined_0 pu_r) ls st M := pu_rfix (c := fun r => s_ent 3 (kX6_wasJoined_0 r)) rfl ls st M
set_option maxRecDepth 20000 in
theorem qX11_isTownOfItsOwn (ls : pu_L) (st : List Value) (M : pu_M) : pu_r 43 ls st M = s_ent 2 (kX11_isTownOfItsOwn_0 pu_r) ls st M := pu_rfix (c := fun r => s_ent 2 (kX11_isTownOfItsOwn_0 r)) rfl ls st M
set_option maxRecDepth 20000 in
theorem qX11_isRule (ls : pu_L) (st : List Value) (M : pu_M) : pu_r 44 ls st M = s_ent 1 (kX11_isRule_0 pu_r) ls st M := pu_rfix (c := fun r => s_ent 1 (kX11_isRule_0 r)) rfl ls st M
set_option maxRecDepth 20000 in
theorem qX6_latestOn (ls : pu_L) (st : List Value) (M : pu_M) : pu_r 45 ls st M = s_ent 7 (kX6_latestOn_0 pu_r) ls st M := pu_rfix (c := fun r => s_ent 7 (kX6_latestOn_0 r)) rfl ls st M
set_option maxRecDepth 20000 in
theorem qX6_isPaper (ls : pu_L) (st : List Value) (M : pu_M) : pu_r 46 ls st M = s_ent 2 (kX6_isPaper_0 pu_r) ls st M := pu_rfix (c := fun r => s_ent 2 (kX6_isPaper_0 r)) rfl ls st M
set_option maxRecDepth 20000 in
theorem qX6_startOf (ls : pu_L) (st : List Value) (M : pu_M) : pu_r 47 ls st M = s_ent 2 (kX6_startOf_0 pu_r) ls st M := pu_rfix (c := fun r => s_ent 2 (kX6_startOf_0 r)) rfl ls st M
set_option maxRecDepth 20000 in
theorem qX3_isNamed (ls : pu_L) (st : List Value) (M : pu_M) : pu_r 48 ls st M = s_ent 4 (kX3_isNamed_0 pu_r) ls st M := pu_rfix (c := fun r => s_ent 4 (kX3_isNamed_0 r)) rfl ls st M
set_option maxRecDepth 20000 in
theorem qX6_lastEndOf (ls : pu_L) (st : List Value) (M : pu_M) : pu_r 49 ls st M = s_ent 2 (kX6_lastEndOf_0 pu_r) ls st M := pu_rfix (c := fun r => s_ent 2 (kX6_lastEndOf_0 r)) rfl ls st M
set_option maxRecDepth 20000 in
theorem qX3_isHeldFrom (ls : pu_L) (st : List Value) (M : pu_M) : pu_r 50 ls st M = s_ent 7 (kX3_isHeldFrom_0 pu_r) ls st M := pu_rfix (c := fun r => s_ent 7 (kX3_isHeldFrom_0 r)) rfl ls st M
set_option maxRecDepth 20000 in
theorem qX6_hasRoom (ls : pu_L) (st : List Value) (M : pu_M) : pu_r 51 ls st M = s_ent 1 (kX6_hasRoom_0 pu_r) ls st M := pu_rfix (c := fun r => s_ent 1 (kX6_hasRoom_0 r)) rfl ls st M
set_option maxRecDepth 20000 in
theorem qX6_lay (ls : pu_L) (st : List Value) (M : pu_M) : pu_r 52 ls st M = s_ent 5 (kX6_lay_0 pu_r) ls st M := pu_rfix (c := fun r => s_ent 5 (kX6_lay_0 r)) rfl ls st M
set_option maxRecDepth 20000 in
theorem qX10_addStreet (ls : pu_L) (st : List Value) (M : pu_M) : pu_r 53 ls st M = s_ent 3 (kX10_addStreet_0 pu_r) ls st M := pu_rfix (c := fun r => s_ent 3 (kX10_addStreet_0 r)) rfl ls st M
set_option maxRecDepth 20000 in
theorem qX3_open (ls : pu_L) (st : List Value) (M : pu_M) : pu_r 54 ls st M = s_ent 6 (kX3_open_0 pu_r) ls st M := pu_rfix (c := fun r => s_ent 6 (kX3_open_0 r)) rfl ls st M
set_option maxRecDepth 20000 in
theorem qX11_street (ls : pu_L) (st : List Value) (M : pu_M) : pu_r 55 ls st M = s_ent 7 (kX11_street_0 pu_r) ls st M := pu_rfix (c := fun r => s_ent 7 (kX11_street_0 r)) rfl ls st M
set_option maxRecDepth 20000 in
theorem qX10_isStreet (ls : pu_L) (st : List Value) (M : pu_M) : pu_r 56 ls st M = s_ent 2 (kX10_isStreet_0 pu_r) ls st M := pu_rfix (c := fun r => s_ent 2 (kX10_isStreet_0 r)) rfl ls st M
set_option maxRecDepth 20000 in
theorem qX11_isSide (ls : pu_L) (st : List Value) (M : pu_M) : pu_r 57 ls st M = s_ent 1 (kX11_isSide_0 pu_r) ls st M := pu_rfix (c := fun r => s_ent 1 (kX11_isSide_0 r)) rfl ls st M
set_option maxRecDepth 20000 in
theorem qX11_isPlace (ls : pu_L) (st : List Value) (M : pu_M) : pu_r 58 ls st M = s_ent 2 (kX11_isPlace_0 pu_r) ls st M := pu_rfix (c := fun r => s_ent 2 (kX11_isPlace_0 r)) rfl ls st M
set_option maxRecDepth 20000 in
theorem qX11_isWhole (ls : pu_L) (st : List Value) (M : pu_M) : pu_r 59 ls st M = s_ent 1 (kX11_isWhole_0 pu_r) ls st M := pu_rfix (c := fun r => s_ent 1 (kX11_isWhole_0 r)) rfl ls st M
set_option maxRecDepth 20000 in
theorem qX11_isWholeOrLeast (ls : pu_L) (st : List Value) (M : pu_M) : pu_r 60 ls st M = s_ent 1 (kX11_isWholeOrLeast_0 pu_r) ls st M := pu_rfix (c := fun r => s_ent 1 (kX11_isWholeOrLeast_0 r)) rfl ls st M
set_option maxRecDepth 20000 in
theorem qX3_openOf (ls : pu_L) (st : List Value) (M : pu_M) : pu_r 61 ls st M = s_ent 3 (kX3_openOf_0 pu_r) ls st M := pu_rfix (c := fun r => s_ent 3 (kX3_openOf_0 r)) rfl ls st M
set_option maxRecDepth 20000 in
theorem qX3_townOf (ls : pu_L) (st : List Value) (M : pu_M) : pu_r 62 ls st M = s_ent 3 (kX3_townOf_0 pu_r) ls st M := pu_rfix (c := fun r => s_ent 3 (kX3_townOf_0 r)) rfl ls st M
set_option maxRecDepth 20000 in
theorem qX5_earliestOn (ls : pu_L) (st : List Value) (M : pu_M) : pu_r 63 ls st M = s_ent 2 (kX5_earliestOn_0 pu_r) ls st M := pu_rfix (c := fun r => s_ent 2 (kX5_earliestOn_0 r)) rfl ls st M
set_option maxRecDepth 20000 in
theorem qX10_ruleOf (ls : pu_L) (st : List Value) (M : pu_M) : pu_r 64 ls st M = s_ent 2 (kX10_ruleOf_0 pu_r) ls st M := pu_rfix (c := fun r => s_ent 2 (kX10_ruleOf_0 r)) rfl ls st M
set_option maxRecDepth 20000 in
theorem qX11_orderOf (ls : pu_L) (st : List Value) (M : pu_M) : pu_r 65 ls st M = s_ent 1 (kX11_orderOf_0 pu_r) ls st M := pu_rfix (c := fun r => s_ent 1 (kX11_orderOf_0 r)) rfl ls st M
set_option maxRecDepth 20000 in
theorem qX2_streetOf (ls : pu_L) (st : List Value) (M : pu_M) : pu_r 66 ls st M = s_ent 2 (kX2_streetOf_0 pu_r) ls st M := pu_rfix (c := fun r => s_ent 2 (kX2_streetOf_0 r)) rfl ls st M
set_option maxRecDepth 20000 in
theorem qX6_isThere (ls : pu_L) (st : List Value) (M : pu_M) : pu_r 67 ls st M = s_ent 2 (kX6_isThere_0 pu_r) ls st M := pu_rfix (c := fun r => s_ent 2 (kX6_isThere_0 r)) rfl ls st M
set_option maxRecDepth 20000 in
theorem qX6_holds (ls : pu_L) (st : List Value) (M : pu_M) : pu_r 68 ls st M = s_ent 4 (kX6_holds_0 pu_r) ls st M := pu_rfix (c := fun r => s_ent 4 (kX6_holds_0 r)) rfl ls st M
set_option maxRecDepth 20000 in
theorem qX9_isThen (ls : pu_L) (st : List Value) (M : pu_M) : pu_r 69 ls st M = s_ent 4 (kX9_isThen_0 pu_r) ls st M := pu_rfix (c := fun r => s_ent 4 (kX9_isThen_0 r)) rfl ls st M
set_option maxRecDepth 20000 in
theorem qX9_rankOf (ls : pu_L) (st : List Value) (M : pu_M) : pu_r 70 ls st M = s_ent 3 (kX9_rankOf_0 pu_r) ls st M := pu_rfix (c := fun r => s_ent 3 (kX9_rankOf_0 r)) rfl ls st M
set_option maxRecDepth 20000 in
theorem qX9_moveUp (ls : pu_L) (st : List Value) (M : pu_M) : pu_r 71 ls st M = s_ent 2 (kX9_moveUp_0 pu_r) ls st M := pu_rfix (c := fun r => s_ent 2 (kX9_moveUp_0 r)) rfl ls st M
set_option maxRecDepth 20000 in
theorem qX9_add (ls : pu_L) (st : List Value) (M : pu_M) : pu_r 72 ls st M = s_ent 7 (kX9_add_0 pu_r) ls st M := pu_rfix (c := fun r => s_ent 7 (kX9_add_0 r)) rfl ls st M
set_option maxRecDepth 20000 in
theorem qX9_fill (ls : pu_L) (st : List Value) (M : pu_M) : pu_r 73 ls st M = s_ent 7 (kX9_fill_0 pu_r) ls st M := pu_rfix (c := fun r => s_ent 7 (kX9_fill_0 r)) rfl ls st M
set_option maxRecDepth 20000 in
theorem qX9_isInLine (ls : pu_L) (st : List Value) (M : pu_M) : pu_r 74 ls st M = s_ent 3 (kX9_isInLine_0 pu_r) ls st M := pu_rfix (c := fun r => s_ent 3 (kX9_isInLine_0 r)) rfl ls st M
set_option maxRecDepth 20000 in
theorem qX9_lowAt (ls : pu_L) (st : List Value) (M : pu_M) : pu_r 75 ls st M = s_ent 5 (kX9_lowAt_0 pu_r) ls st M := pu_rfix (c := fun r => s_ent 5 (kX9_lowAt_0 r)) rfl ls st M
set_option maxRecDepth 20000 in
theorem qX9_highAt (ls : pu_L) (st : List Value) (M : pu_M) : pu_r 76 ls st M = s_ent 4 (kX9_highAt_0 pu_r) ls st M := pu_rfix (c := fun r => s_ent 4 (kX9_highAt_0 r)) rfl ls st M
set_option maxRecDepth 20000 in
theorem qX11_areDigitsOfSide (ls : pu_L) (st : List Value) (M : pu_M) : pu_r 77 ls st M = s_ent 2 (kX11_areDigitsOfSide_0 pu_r) ls st M := pu_rfix (c := fun r => s_ent 2 (kX11_areDigitsOfSide_0 r)) rfl ls st M
set_option maxRecDepth 20000 in
theorem qX11_digitsByPaces (ls : pu_L) (st : List Value) (M : pu_M) : pu_r 78 ls st M = s_ent 2 (kX11_digitsByPaces_0 pu_r) ls st M := pu_rfix (c := fun r => s_ent 2 (kX11_digitsByPaces_0 r)) rfl ls st M
set_option maxRecDepth 20000 in
theorem qX9_indexOf (ls : pu_L) (st : List Value) (M : pu_M) : pu_r 79 ls st M = s_ent 3 (kX9_indexOf_0 pu_r) ls st M := pu_rfix (c := fun r => s_ent 3 (kX9_indexOf_0 r)) rfl ls st M
set_option maxRecDepth 20000 in
theorem qX9_isFreeByRule (ls : pu_L) (st : List Value) (M : pu_M) : pu_r 80 ls st M = s_ent 5 (kX9_isFreeByRule_0 pu_r) ls st M := pu_rfix (c := fun r => s_ent 5 (kX9_isFreeByRule_0 r)) rfl ls st M
set_option maxRecDepth 20000 in
theorem qX9_fittingNumber (ls : pu_L) (st : List Value) (M : pu_M) : pu_r 81 ls st M = s_ent 12 (kX9_fittingNumber_0 pu_r) ls st M := pu_rfix (c := fun r => s_ent 12 (kX9_fittingNumber_0 r)) rfl ls st M
set_option maxRecDepth 20000 in
theorem qX9_hasDoorAt (ls : pu_L) (st : List Value) (M : pu_M) : pu_r 82 ls st M = s_ent 4 (kX9_hasDoorAt_0 pu_r) ls st M := pu_rfix (c := fun r => s_ent 4 (kX9_hasDoorAt_0 r)) rfl ls st M
set_option maxRecDepth 20000 in
theorem qX11_fittingNumber (ls : pu_L) (st : List Value) (M : pu_M) : pu_r 83 ls st M = s_ent 6 (kX11_fittingNumber_0 pu_r) ls st M := pu_rfix (c := fun r => s_ent 6 (kX11_fittingNumber_0 r)) rfl ls st M
set_option maxRecDepth 20000 in
theorem qX5_hasRoomForNumbers (ls : pu_L) (st : List Value) (M : pu_M) : pu_r 84 ls st M = s_ent 2 (kX5_hasRoomForNumbers_0 pu_r) ls st M := pu_rfix (c := fun r => s_ent 2 (kX5_hasRoomForNumbers_0 r)) rfl ls st M
set_option maxRecDepth 20000 in
theorem qX2_isDoor (ls : pu_L) (st : List Value) (M : pu_M) : pu_r 85 ls st M = s_ent 2 (kX2_isDoor_0 pu_r) ls st M := pu_rfix (c := fun r => s_ent 2 (kX2_isDoor_0 r)) rfl ls st M
set_option maxRecDepth 20000 in
theorem qX2_setPlace (ls : pu_L) (st : List Value) (M : pu_M) : pu_r 86 ls st M = s_ent 5 (kX2_setPlace_0 pu_r) ls st M := pu_rfix (c := fun r => s_ent 5 (kX2_setPlace_0 r)) rfl ls st M
set_option maxRecDepth 20000 in
theorem qX2_add (ls : pu_L) (st : List Value) (M : pu_M) : pu_r 87 ls st M = s_ent 6 (kX2_add_0 pu_r) ls st M := pu_rfix (c := fun r => s_ent 6 (kX2_add_0 r)) rfl ls st M
set_option maxRecDepth 20000 in
theorem qX4_open (ls : pu_L) (st : List Value) (M : pu_M) : pu_r 88 ls st M = s_ent 4 (kX4_open_0 pu_r) ls st M := pu_rfix (c := fun r => s_ent 4 (kX4_open_0 r)) rfl ls st M
set_option maxRecDepth 20000 in
theorem qX11_door (ls : pu_L) (st : List Value) (M : pu_M) : pu_r 89 ls st M = s_ent 9 (kX11_door_0 pu_r) ls st M := pu_rfix (c := fun r => s_ent 9 (kX11_door_0 r)) rfl ls st M
set_option maxRecDepth 20000 in
theorem qX2_isOpen (ls : pu_L) (st : List Value) (M : pu_M) : pu_r 90 ls st M = s_ent 2 (kX2_isOpen_0 pu_r) ls st M := pu_rfix (c := fun r => s_ent 2 (kX2_isOpen_0 r)) rfl ls st M
set_option maxRecDepth 20000 in
theorem qX2_sortOf (ls : pu_L) (st : List Value) (M : pu_M) : pu_r 91 ls st M = s_ent 2 (kX2_sortOf_0 pu_r) ls st M := pu_rfix (c := fun r => s_ent 2 (kX2_sortOf_0 r)) rfl ls st M
set_option maxRecDepth 20000 in
theorem qX2_makeCorner (ls : pu_L) (st : List Value) (M : pu_M) : pu_r 92 ls st M = s_ent 3 (kX2_makeCorner_0 pu_r) ls st M := pu_rfix (c := fun r => s_ent 3 (kX2_makeCorner_0 r)) rfl ls st M
set_option maxRecDepth 20000 in
theorem qX11_corner (ls : pu_L) (st : List Value) (M : pu_M) : pu_r 93 ls st M = s_ent 10 (kX11_corner_0 pu_r) ls st M := pu_rfix (c := fun r => s_ent 10 (kX11_corner_0 r)) rfl ls st M
set_option maxRecDepth 20000 in
theorem qX11_isUnderSort (ls : pu_L) (st : List Value) (M : pu_M) : pu_r 94 ls st M = s_ent 1 (kX11_isUnderSort_0 pu_r) ls st M := pu_rfix (c := fun r => s_ent 1 (kX11_isUnderSort_0 r)) rfl ls st M
set_option maxRecDepth 20000 in
theorem qX11_canHaveUnder (ls : pu_L) (st : List Value) (M : pu_M) : pu_r 95 ls st M = s_ent 4 (kX11_canHaveUnder_0 pu_r) ls st M := pu_rfix (c := fun r => s_ent 4 (kX11_canHaveUnder_0 r)) rfl ls st M
set_option maxRecDepth 20000 in
theorem qX11_isUnderNumber (ls : pu_L) (st : List Value) (M : pu_M) : pu_r 96 ls st M = s_ent 2 (kX11_isUnderNumber_0 pu_r) ls st M := pu_rfix (c := fun r => s_ent 2 (kX11_isUnderNumber_0 r)) rfl ls st M
set_option maxRecDepth 20000 in
theorem qX5_slotOf (ls : pu_L) (st : List Value) (M : pu_M) : pu_r 97 ls st M = s_ent 2 (kX5_slotOf_0 pu_r) ls st M := pu_rfix (c := fun r => s_ent 2 (kX5_slotOf_0 r)) rfl ls st M
set_option maxRecDepth 20000 in
theorem qX5_earliestOnDoor (ls : pu_L) (st : List Value) (M : pu_M) : pu_r 98 ls st M = s_ent 5 (kX5_earliestOnDoor_0 pu_r) ls st M := pu_rfix (c := fun r => s_ent 5 (kX5_earliestOnDoor_0 r)) rfl ls st M
set_option maxRecDepth 20000 in
theorem qX2_hasOpenUnder (ls : pu_L) (st : List Value) (M : pu_M) : pu_r 99 ls st M = s_ent 5 (kX2_hasOpenUnder_0 pu_r) ls st M := pu_rfix (c := fun r => s_ent 5 (kX2_hasOpenUnder_0 r)) rfl ls st M
set_option maxRecDepth 20000 in
theorem qX5_layOnDoor (ls : pu_L) (st : List Value) (M : pu_M) : pu_r 100 ls st M = s_ent 4 (kX5_layOnDoor_0 pu_r) ls st M := pu_rfix (c := fun r => s_ent 4 (kX5_layOnDoor_0 r)) rfl ls st M
set_option maxRecDepth 20000 in
theorem qX11_under (ls : pu_L) (st : List Value) (M : pu_M) : pu_r 101 ls st M = s_ent 5 (kX11_under_0 pu_r) ls st M := pu_rfix (c := fun r => s_ent 5 (kX11_under_0 r)) rfl ls st M
set_option maxRecDepth 20000 in
theorem qX4_close (ls : pu_L) (st : List Value) (M : pu_M) : pu_r 102 ls st M = s_ent 4 (kX4_close_0 pu_r) ls st M := pu_rfix (c := fun r => s_ent 4 (kX4_close_0 r)) rfl ls st M
set_option maxRecDepth 20000 in
theorem qX2_closeWithUnder (ls : pu_L) (st : List Value) (M : pu_M) : pu_r 103 ls st M = s_ent 6 (kX2_closeWithUnder_0 pu_r) ls st M := pu_rfix (c := fun r => s_ent 6 (kX2_closeWithUnder_0 r)) rfl ls st M
set_option maxRecDepth 20000 in
theorem qX11_gone (ls : pu_L) (st : List Value) (M : pu_M) : pu_r 104 ls st M = s_ent 4 (kX11_gone_0 pu_r) ls st M := pu_rfix (c := fun r => s_ent 4 (kX11_gone_0 r)) rfl ls st M
set_option maxRecDepth 20000 in
theorem qX11_freshByPaces (ls : pu_L) (st : List Value) (M : pu_M) : pu_r 105 ls st M = s_ent 4 (kX11_freshByPaces_0 pu_r) ls st M := pu_rfix (c := fun r => s_ent 4 (kX11_freshByPaces_0 r)) rfl ls st M
set_option maxRecDepth 20000 in
theorem qX10_rowWholeOf (ls : pu_L) (st : List Value) (M : pu_M) : pu_r 106 ls st M = s_ent 5 (kX10_rowWholeOf_0 pu_r) ls st M := pu_rfix (c := fun r => s_ent 5 (kX10_rowWholeOf_0 r)) rfl ls st M
set_option maxRecDepth 20000 in
theorem qX11_setFreshNumbers (ls : pu_L) (st : List Value) (M : pu_M) : pu_r 107 ls st M = s_ent 6 (kX11_setFreshNumbers_0 pu_r) ls st M := pu_rfix (c := fun r => s_ent 6 (kX11_setFreshNumbers_0 r)) rfl ls st M
set_option maxRecDepth 20000 in
theorem qX11_isAboveAllBehind (ls : pu_L) (st : List Value) (M : pu_M) : pu_r 108 ls st M = s_ent 5 (kX11_isAboveAllBehind_0 pu_r) ls st M := pu_rfix (c := fun r => s_ent 5 (kX11_isAboveAllBehind_0 r)) rfl ls st M
set_option maxRecDepth 20000 in
theorem qX11_areFreshRight (ls : pu_L) (st : List Value) (M : pu_M) : pu_r 109 ls st M = s_ent 2 (kX11_areFreshRight_0 pu_r) ls st M := pu_rfix (c := fun r => s_ent 2 (kX11_areFreshRight_0 r)) rfl ls st M
set_option maxRecDepth 20000 in
theorem qX11_freshWhole (ls : pu_L) (st : List Value) (M : pu_M) : pu_r 110 ls st M = s_ent 2 (kX11_freshWhole_0 pu_r) ls st M := pu_rfix (c := fun r => s_ent 2 (kX11_freshWhole_0 r)) rfl ls st M
set_option maxRecDepth 20000 in
theorem qX11_countFreshOthers (ls : pu_L) (st : List Value) (M : pu_M) : pu_r 111 ls st M = s_ent 3 (kX11_countFreshOthers_0 pu_r) ls st M := pu_rfix (c := fun r => s_ent 3 (kX11_countFreshOthers_0 r)) rfl ls st M
set_option maxRecDepth 20000 in
theorem qX10_setRule (ls : pu_L) (st : List Value) (M : pu_M) : pu_r 112 ls st M = s_ent 3 (kX10_setRule_0 pu_r) ls st M := pu_rfix (c := fun r => s_ent 3 (kX10_setRule_0 r)) rfl ls st M
set_option maxRecDepth 20000 in
theorem qX11_giveFreshNumbers (ls : pu_L) (st : List Value) (M : pu_M) : pu_r 113 ls st M = s_ent 3 (kX11_giveFreshNumbers_0 pu_r) ls st M := pu_rfix (c := fun r => s_ent 3 (kX11_giveFreshNumbers_0 r)) rfl ls st M
set_option maxRecDepth 20000 in
theorem qX11_renumber (ls : pu_L) (st : List Value) (M : pu_M) : pu_r 114 ls st M = s_ent 6 (kX11_renumber_0 pu_r) ls st M := pu_rfix (c := fun r => s_ent 6 (kX11_renumber_0 r)) rfl ls st M
set_option maxRecDepth 20000 in
theorem qX11_rename (ls : pu_L) (st : List Value) (M : pu_M) : pu_r 115 ls st M = s_ent 7 (kX11_rename_0 pu_r) ls st M := pu_rfix (c := fun r => s_ent 7 (kX11_rename_0 r)) rfl ls st M
set_option maxRecDepth 20000 in
theorem qX5_earliestOnTown (ls : pu_L) (st : List Value) (M : pu_M) : pu_r 116 ls st M = s_ent 4 (kX5_earliestOnTown_0 pu_r) ls st M := pu_rfix (c := fun r => s_ent 4 (kX5_earliestOnTown_0 r)) rfl ls st M
set_option maxRecDepth 20000 in
theorem qX3_streetNamedLike (ls : pu_L) (st : List Value) (M : pu_M) : pu_r 117 ls st M = s_ent 6 (kX3_streetNamedLike_0 pu_r) ls st M := pu_rfix (c := fun r => s_ent 6 (kX3_streetNamedLike_0 r)) rfl ls st M
set_option maxRecDepth 20000 in
theorem qX3_haveOneName (ls : pu_L) (st : List Value) (M : pu_M) : pu_r 118 ls st M = s_ent 5 (kX3_haveOneName_0 pu_r) ls st M := pu_rfix (c := fun r => s_ent 5 (kX3_haveOneName_0 r)) rfl ls st M
set_option maxRecDepth 20000 in
theorem qX3_moveAll (ls : pu_L) (st : List Value) (M : pu_M) : pu_r 119 ls st M = s_ent 6 (kX3_moveAll_0 pu_r) ls st M := pu_rfix (c := fun r => s_ent 6 (kX3_moveAll_0 r)) rfl ls st M
set_option maxRecDepth 20000 in
theorem qX11_join (ls : pu_L) (st : List Value) (M : pu_M) : pu_r 120 ls st M = s_ent 5 (kX11_join_0 pu_r) ls st M := pu_rfix (c := fun r => s_ent 5 (kX11_join_0 r)) rfl ls st M
set_option maxRecDepth 20000 in
theorem qX10_setRowLength (ls : pu_L) (st : List Value) (M : pu_M) : pu_r 121 ls st M = s_ent 4 (kX10_setRowLength_0 pu_r) ls st M := pu_rfix (c := fun r => s_ent 4 (kX10_setRowLength_0 r)) rfl ls st M
set_option maxRecDepth 20000 in
theorem qX10_setRowWhole (ls : pu_L) (st : List Value) (M : pu_M) : pu_r 122 ls st M = s_ent 5 (kX10_setRowWhole_0 pu_r) ls st M := pu_rfix (c := fun r => s_ent 5 (kX10_setRowWhole_0 r)) rfl ls st M
set_option maxRecDepth 20000 in
theorem qX11_keepRow (ls : pu_L) (st : List Value) (M : pu_M) : pu_r 123 ls st M = s_ent 5 (kX11_keepRow_0 pu_r) ls st M := pu_rfix (c := fun r => s_ent 5 (kX11_keepRow_0 r)) rfl ls st M
set_option maxRecDepth 20000 in
theorem qX11_row (ls : pu_L) (st : List Value) (M : pu_M) : pu_r 124 ls st M = s_ent 4 (kX11_row_0 pu_r) ls st M := pu_rfix (c := fun r => s_ent 4 (kX11_row_0 r)) rfl ls st M
set_option maxRecDepth 20000 in
theorem qX10_rowLengthOf (ls : pu_L) (st : List Value) (M : pu_M) : pu_r 125 ls st M = s_ent 3 (kX10_rowLengthOf_0 pu_r) ls st M := pu_rfix (c := fun r => s_ent 3 (kX10_rowLengthOf_0 r)) rfl ls st M
set_option maxRecDepth 20000 in
theorem qX11_tear (ls : pu_L) (st : List Value) (M : pu_M) : pu_r 126 ls st M = s_ent 5 (kX11_tear_0 pu_r) ls st M := pu_rfix (c := fun r => s_ent 5 (kX11_tear_0 r)) rfl ls st M
set_option maxRecDepth 20000 in
theorem qX6_keptWithout (ls : pu_L) (st : List Value) (M : pu_M) : pu_r 127 ls st M = s_ent 6 (kX6_keptWithout_0 pu_r) ls st M := pu_rfix (c := fun r => s_ent 6 (kX6_keptWithout_0 r)) rfl ls st M
set_option maxRecDepth 20000 in
theorem qX4_takeBack (ls : pu_L) (st : List Value) (M : pu_M) : pu_r 128 ls st M = s_ent 2 (kX4_takeBack_0 pu_r) ls st M := pu_rfix (c := fun r => s_ent 2 (kX4_takeBack_0 r)) rfl ls st M
set_option maxRecDepth 20000 in
theorem qX3_takeBack (ls : pu_L) (st : List Value) (M : pu_M) : pu_r 129 ls st M = s_ent 2 (kX3_takeBack_0 pu_r) ls st M := pu_rfix (c := fun r => s_ent 2 (kX3_takeBack_0 r)) rfl ls st M
set_option maxRecDepth 20000 in
theorem qX10_takeBack (ls : pu_L) (st : List Value) (M : pu_M) : pu_r 130 ls st M = s_ent 2 (kX10_takeBack_0 pu_r) ls st M := pu_rfix (c := fun r => s_ent 2 (kX10_takeBack_0 r)) rfl ls st M
set_option maxRecDepth 20000 in
theorem qX2_takeBack (ls : pu_L) (st : List Value) (M : pu_M) : pu_r 131 ls st M = s_ent 3 (kX2_takeBack_0 pu_r) ls st M := pu_rfix (c := fun r => s_ent 3 (kX2_takeBack_0 r)) rfl ls st M
set_option maxRecDepth 20000 in
theorem qX5_takeBackLatest (ls : pu_L) (st : List Value) (M : pu_M) : pu_r 132 ls st M = s_ent 2 (kX5_takeBackLatest_0 pu_r) ls st M := pu_rfix (c := fun r => s_ent 2 (kX5_takeBackLatest_0 r)) rfl ls st M
set_option maxRecDepth 20000 in
theorem qX11_undo (ls : pu_L) (st : List Value) (M : pu_M) : pu_r 133 ls st M = s_ent 1 (kX11_undo_0 pu_r) ls st M := pu_rfix (c := fun r => s_ent 1 (kX11_undo_0 r)) rfl ls st M
set_option maxRecDepth 20000 in
theorem qX6_copyFrom (ls : pu_L) (st : List Value) (M : pu_M) : pu_r 134 ls st M = s_ent 2 (kX6_copyFrom_0 pu_r) ls st M := pu_rfix (c := fun r => s_ent 2 (kX6_copyFrom_0 r)) rfl ls st M
set_option maxRecDepth 20000 in
theorem qX4_copyFrom (ls : pu_L) (st : List Value) (M : pu_M) : pu_r 135 ls st M = s_ent 2 (kX4_copyFrom_0 pu_r) ls st M := pu_rfix (c := fun r => s_ent 2 (kX4_copyFrom_0 r)) rfl ls st M
set_option maxRecDepth 20000 in
theorem qX3_copyFrom (ls : pu_L) (st : List Value) (M : pu_M) : pu_r 136 ls st M = s_ent 2 (kX3_copyFrom_0 pu_r) ls st M := pu_rfix (c := fun r => s_ent 2 (kX3_copyFrom_0 r)) rfl ls st M
set_option maxRecDepth 20000 in
theorem qX10_copyFrom (ls : pu_L) (st : List Value) (M : pu_M) : pu_r 137 ls st M = s_ent 2 (kX10_copyFrom_0 pu_r) ls st M := pu_rfix (c := fun r => s_ent 2 (kX10_copyFrom_0 r)) rfl ls st M
set_option maxRecDepth 20000 in
theorem qX2_copyFrom (ls : pu_L) (st : List Value) (M : pu_M) : pu_r 138 ls st M = s_ent 2 (kX2_copyFrom_0 pu_r) ls st M := pu_rfix (c := fun r => s_ent 2 (kX2_copyFrom_0 r)) rfl ls st M
set_option maxRecDepth 20000 in
theorem qX8_copyFrom (ls : pu_L) (st : List Value) (M : pu_M) : pu_r 139 ls st M = s_ent 2 (kX8_copyFrom_0 pu_r) ls st M := pu_rfix (c := fun r => s_ent 2 (kX8_copyFrom_0 r)) rfl ls st M
set_option maxRecDepth 20000 in
theorem qX1_copyFrom (ls : pu_L) (st : List Value) (M : pu_M) : pu_r 140 ls st M = s_ent 2 (kX1_copyFrom_0 pu_r) ls st M := pu_rfix (c := fun r => s_ent 2 (kX1_copyFrom_0 r)) rfl ls st M
set_option maxRecDepth 20000 in
theorem qX5_copyFrom (ls : pu_L) (st : List Value) (M : pu_M) : pu_r 141 ls st M = s_ent 2 (kX5_copyFrom_0 pu_r) ls st M := pu_rfix (c := fun r => s_ent 2 (kX5_copyFrom_0 r)) rfl ls st M
set_option maxRecDepth 20000 in
theorem qX11_image (ls : pu_L) (st : List Value) (M : pu_M) : pu_r 142 ls st M = s_ent 2 (kX11_image_0 pu_r) ls st M := pu_rfix (c := fun r => s_ent 2 (kX11_image_0 r)) rfl ls st M
set_option maxRecDepth 20000 in
theorem qX11_back (ls : pu_L) (st : List Value) (M : pu_M) : pu_r 143 ls st M = s_ent 2 (kX11_back_0 pu_r) ls st M := pu_rfix (c := fun r => s_ent 2 (kX11_back_0 r)) rfl ls st M
set_option maxRecDepth 20000 in
theorem qX11_about (ls : pu_L) (st : List Value) (M : pu_M) : pu_r 144 ls st M = s_ent 3 (kX11_about_0 pu_r) ls st M := pu_rfix (c := fun r => s_ent 3 (kX11_about_0 r)) rfl ls st M
set_option maxRecDepth 20000 in
theorem qX2_isThereOn (ls : pu_L) (st : List Value) (M : pu_M) : pu_r 145 ls st M = s_ent 4 (kX2_isThereOn_0 pu_r) ls st M := pu_rfix (c := fun r => s_ent 4 (kX2_isThereOn_0 r)) rfl ls st M
set_option maxRecDepth 20000 in
theorem qX11_stands (ls : pu_L) (st : List Value) (M : pu_M) : pu_r 146 ls st M = s_ent 3 (kX11_stands_0 pu_r) ls st M := pu_rfix (c := fun r => s_ent 3 (kX11_stands_0 r)) rfl ls st M
set_option maxRecDepth 20000 in
theorem qX4_holding (ls : pu_L) (st : List Value) (M : pu_M) : pu_r 147 ls st M = s_ent 5 (kX4_holding_0 pu_r) ls st M := pu_rfix (c := fun r => s_ent 5 (kX4_holding_0 r)) rfl ls st M
set_option maxRecDepth 20000 in
theorem qX6_endOf (ls : pu_L) (st : List Value) (M : pu_M) : pu_r 148 ls st M = s_ent 2 (kX6_endOf_0 pu_r) ls st M := pu_rfix (c := fun r => s_ent 2 (kX6_endOf_0 r)) rfl ls st M
set_option maxRecDepth 20000 in
theorem qX11_number (ls : pu_L) (st : List Value) (M : pu_M) : pu_r 149 ls st M = s_ent 7 (kX11_number_0 pu_r) ls st M := pu_rfix (c := fun r => s_ent 7 (kX11_number_0 r)) rfl ls st M
set_option maxRecDepth 20000 in
theorem qX3_holding (ls : pu_L) (st : List Value) (M : pu_M) : pu_r 150 ls st M = s_ent 5 (kX3_holding_0 pu_r) ls st M := pu_rfix (c := fun r => s_ent 5 (kX3_holding_0 r)) rfl ls st M
set_option maxRecDepth 20000 in
theorem qX0_putWord (ls : pu_L) (st : List Value) (M : pu_M) : pu_r 151 ls st M = s_ent 9 (kX0_putWord_0 pu_r) ls st M := pu_rfix (c := fun r => s_ent 9 (kX0_putWord_0 r)) rfl ls st M
set_option maxRecDepth 20000 in
theorem qX0_putName (ls : pu_L) (st : List Value) (M : pu_M) : pu_r 152 ls st M = s_ent 4 (kX0_putName_0 pu_r) ls st M := pu_rfix (c := fun r => s_ent 4 (kX0_putName_0 r)) rfl ls st M
set_option maxRecDepth 20000 in
theorem qX0_putDecimal (ls : pu_L) (st : List Value) (M : pu_M) : pu_r 153 ls st M = s_ent 3 (kX0_putDecimal_0 pu_r) ls st M := pu_rfix (c := fun r => s_ent 3 (kX0_putDecimal_0 r)) rfl ls st M
set_option maxRecDepth 20000 in
theorem qX0_putWhole (ls : pu_L) (st : List Value) (M : pu_M) : pu_r 154 ls st M = s_ent 3 (kX0_putWhole_0 pu_r) ls st M := pu_rfix (c := fun r => s_ent 3 (kX0_putWhole_0 r)) rfl ls st M
set_option maxRecDepth 20000 in
theorem qJ0_coder_7d493 (ls : pu_L) (st : List Value) (M : pu_M) : pu_r 155 ls st M = s_ent 1 (kJ0_coder_7d493_0 pu_r) ls st M := pu_rfix (c := fun r => s_ent 1 (kJ0_coder_7d493_0 r)) rfl ls st M
set_option maxRecDepth 20000 in
theorem qJ0_length_8abf5 (ls : pu_L) (st : List Value) (M : pu_M) : pu_r 156 ls st M = s_ent 1 (kJ0_length_8abf5_0 pu_r) ls st M := pu_rfix (c := fun r => s_ent 1 (kJ0_length_8abf5_0 r)) rfl ls st M
set_option maxRecDepth 20000 in
theorem qJ0_isLatin1_aae02 (ls : pu_L) (st : List Value) (M : pu_M) : pu_r 157 ls st M = s_ent 1 (kJ0_isLatin1_aae02_0 pu_r) ls st M := pu_rfix (c := fun r => s_ent 1 (kJ0_isLatin1_aae02_0 r)) rfl ls st M
set_option maxRecDepth 20000 in
theorem qJ3_checkIndex_8e157 (ls : pu_L) (st : List Value) (M : pu_M) : pu_r 158 ls st M = s_ent 3 (kJ3_checkIndex_8e157_0 pu_r) ls st M := pu_rfix (c := fun r => s_ent 3 (kJ3_checkIndex_8e157_0 r)) rfl ls st M
set_option maxRecDepth 20000 in
theorem qJ0_checkIndex_df160 (ls : pu_L) (st : List Value) (M : pu_M) : pu_r 159 ls st M = s_ent 2 (kJ0_checkIndex_df160_0 pu_r) ls st M := pu_rfix (c := fun r => s_ent 2 (kJ0_checkIndex_df160_0 r)) rfl ls st M
set_option maxRecDepth 20000 in
theorem qJ1_charAt_3b067 (ls : pu_L) (st : List Value) (M : pu_M) : pu_r 160 ls st M = s_ent 2 (kJ1_charAt_3b067_0 pu_r) ls st M := pu_rfix (c := fun r => s_ent 2 (kJ1_charAt_3b067_0 r)) rfl ls st M
set_option maxRecDepth 20000 in
theorem qJ0_charAt_5068e (ls : pu_L) (st : List Value) (M : pu_M) : pu_r 161 ls st M = s_ent 2 (kJ0_charAt_5068e_0 pu_r) ls st M := pu_rfix (c := fun r => s_ent 2 (kJ0_charAt_5068e_0 r)) rfl ls st M
set_option maxRecDepth 20000 in
theorem qX0_putText (ls : pu_L) (st : List Value) (M : pu_M) : pu_r 162 ls st M = s_ent 3 (kX0_putText_0 pu_r) ls st M := pu_rfix (c := fun r => s_ent 3 (kX0_putText_0 r)) rfl ls st M
set_option maxRecDepth 20000 in
theorem qX11_putExtra (ls : pu_L) (st : List Value) (M : pu_M) : pu_r 163 ls st M = s_ent 2 (kX11_putExtra_0 pu_r) ls st M := pu_rfix (c := fun r => s_ent 2 (kX11_putExtra_0 r)) rfl ls st M
set_option maxRecDepth 20000 in
theorem qX11_write (ls : pu_L) (st : List Value) (M : pu_M) : pu_r 164 ls st M = s_ent 7 (kX11_write_0 pu_r) ls st M := pu_rfix (c := fun r => s_ent 7 (kX11_write_0 r)) rfl ls st M
set_option maxRecDepth 20000 in
theorem qX7_readStreet (ls : pu_L) (st : List Value) (M : pu_M) : pu_r 165 ls st M = s_ent 2 (kX7_readStreet_0 pu_r) ls st M := pu_rfix (c := fun r => s_ent 2 (kX7_readStreet_0 r)) rfl ls st M
set_option maxRecDepth 20000 in
theorem qX7_readDigits (ls : pu_L) (st : List Value) (M : pu_M) : pu_r 166 ls st M = s_ent 4 (kX7_readDigits_0 pu_r) ls st M := pu_rfix (c := fun r => s_ent 4 (kX7_readDigits_0 r)) rfl ls st M
set_option maxRecDepth 20000 in
theorem qX7_readNumber (ls : pu_L) (st : List Value) (M : pu_M) : pu_r 167 ls st M = s_ent 2 (kX7_readNumber_0 pu_r) ls st M := pu_rfix (c := fun r => s_ent 2 (kX7_readNumber_0 r)) rfl ls st M
set_option maxRecDepth 20000 in
theorem qX7_readText (ls : pu_L) (st : List Value) (M : pu_M) : pu_r 168 ls st M = s_ent 3 (kX7_readText_0 pu_r) ls st M := pu_rfix (c := fun r => s_ent 3 (kX7_readText_0 r)) rfl ls st M
set_option maxRecDepth 20000 in
theorem qX7_readExtra (ls : pu_L) (st : List Value) (M : pu_M) : pu_r 169 ls st M = s_ent 2 (kX7_readExtra_0 pu_r) ls st M := pu_rfix (c := fun r => s_ent 2 (kX7_readExtra_0 r)) rfl ls st M
set_option maxRecDepth 20000 in
theorem qX7_readAddress (ls : pu_L) (st : List Value) (M : pu_M) : pu_r 170 ls st M = s_ent 4 (kX7_readAddress_0 pu_r) ls st M := pu_rfix (c := fun r => s_ent 4 (kX7_readAddress_0 r)) rfl ls st M
set_option maxRecDepth 20000 in
theorem qX11_readAddress (ls : pu_L) (st : List Value) (M : pu_M) : pu_r 171 ls st M = s_ent 2 (kX11_readAddress_0 pu_r) ls st M := pu_rfix (c := fun r => s_ent 2 (kX11_readAddress_0 r)) rfl ls st M
set_option maxRecDepth 20000 in
theorem qX3_streetOn (ls : pu_L) (st : List Value) (M : pu_M) : pu_r 172 ls st M = s_ent 6 (kX3_streetOn_0 pu_r) ls st M := pu_rfix (c := fun r => s_ent 6 (kX3_streetOn_0 r)) rfl ls st M
set_option maxRecDepth 20000 in
theorem qX11_viewStreetOfAddress (ls : pu_L) (st : List Value) (M : pu_M) : pu_r 173 ls st M = s_ent 4 (kX11_viewStreetOfAddress_0 pu_r) ls st M := pu_rfix (c := fun r => s_ent 4 (kX11_viewStreetOfAddress_0 r)) rfl ls st M
set_option maxRecDepth 20000 in
theorem qX9_couldHave (ls : pu_L) (st : List Value) (M : pu_M) : pu_r 174 ls st M = s_ent 3 (kX9_couldHave_0 pu_r) ls st M := pu_rfix (c := fun r => s_ent 3 (kX9_couldHave_0 r)) rfl ls st M
set_option maxRecDepth 20000 in
theorem qX9_isInGap (ls : pu_L) (st : List Value) (M : pu_M) : pu_r 175 ls st M = s_ent 3 (kX9_isInGap_0 pu_r) ls st M := pu_rfix (c := fun r => s_ent 3 (kX9_isInGap_0 r)) rfl ls st M
set_option maxRecDepth 20000 in
theorem qX9_unknownInGapOf (ls : pu_L) (st : List Value) (M : pu_M) : pu_r 176 ls st M = s_ent 4 (kX9_unknownInGapOf_0 pu_r) ls st M := pu_rfix (c := fun r => s_ent 4 (kX9_unknownInGapOf_0 r)) rfl ls st M
set_option maxRecDepth 20000 in
theorem qX9_likelyRankOf (ls : pu_L) (st : List Value) (M : pu_M) : pu_r 177 ls st M = s_ent 2 (kX9_likelyRankOf_0 pu_r) ls st M := pu_rfix (c := fun r => s_ent 2 (kX9_likelyRankOf_0 r)) rfl ls st M
set_option maxRecDepth 20000 in
theorem qX11_isTold (ls : pu_L) (st : List Value) (M : pu_M) : pu_r 178 ls st M = s_ent 3 (kX11_isTold_0 pu_r) ls st M := pu_rfix (c := fun r => s_ent 3 (kX11_isTold_0 r)) rfl ls st M
set_option maxRecDepth 20000 in
theorem qX11_toldOf (ls : pu_L) (st : List Value) (M : pu_M) : pu_r 179 ls st M = s_ent 4 (kX11_toldOf_0 pu_r) ls st M := pu_rfix (c := fun r => s_ent 4 (kX11_toldOf_0 r)) rfl ls st M
set_option maxRecDepth 20000 in
theorem qX1_addFound (ls : pu_L) (st : List Value) (M : pu_M) : pu_r 180 ls st M = s_ent 5 (kX1_addFound_0 pu_r) ls st M := pu_rfix (c := fun r => s_ent 5 (kX1_addFound_0 r)) rfl ls st M
set_option maxRecDepth 20000 in
theorem qX11_findOne (ls : pu_L) (st : List Value) (M : pu_M) : pu_r 181 ls st M = s_ent 6 (kX11_findOne_0 pu_r) ls st M := pu_rfix (c := fun r => s_ent 6 (kX11_findOne_0 r)) rfl ls st M
set_option maxRecDepth 20000 in
theorem qX11_findLikely (ls : pu_L) (st : List Value) (M : pu_M) : pu_r 182 ls st M = s_ent 3 (kX11_findLikely_0 pu_r) ls st M := pu_rfix (c := fun r => s_ent 3 (kX11_findLikely_0 r)) rfl ls st M
set_option maxRecDepth 20000 in
theorem qX11_means (ls : pu_L) (st : List Value) (M : pu_M) : pu_r 183 ls st M = s_ent 3 (kX11_means_0 pu_r) ls st M := pu_rfix (c := fun r => s_ent 3 (kX11_means_0 r)) rfl ls st M
set_option maxRecDepth 20000 in
theorem qX11_fault (ls : pu_L) (st : List Value) (M : pu_M) : pu_r 184 ls st M = s_ent 1 (kX11_fault_0 pu_r) ls st M := pu_rfix (c := fun r => s_ent 1 (kX11_fault_0 r)) rfl ls st M
set_option maxRecDepth 20000 in
theorem qX11_found (ls : pu_L) (st : List Value) (M : pu_M) : pu_r 185 ls st M = s_ent 3 (kX11_found_0 pu_r) ls st M := pu_rfix (c := fun r => s_ent 3 (kX11_found_0 r)) rfl ls st M
set_option maxRecDepth 20000 in
theorem qX11_sureDoor (ls : pu_L) (st : List Value) (M : pu_M) : pu_r 186 ls st M = s_ent 3 (kX11_sureDoor_0 pu_r) ls st M := pu_rfix (c := fun r => s_ent 3 (kX11_sureDoor_0 r)) rfl ls st M
set_option maxRecDepth 20000 in
theorem qX11_seekOldAt (ls : pu_L) (st : List Value) (M : pu_M) : pu_r 187 ls st M = s_ent 7 (kX11_seekOldAt_0 pu_r) ls st M := pu_rfix (c := fun r => s_ent 7 (kX11_seekOldAt_0 r)) rfl ls st M
set_option maxRecDepth 20000 in
theorem qX11_seekOldIn (ls : pu_L) (st : List Value) (M : pu_M) : pu_r 188 ls st M = s_ent 9 (kX11_seekOldIn_0 pu_r) ls st M := pu_rfix (c := fun r => s_ent 9 (kX11_seekOldIn_0 r)) rfl ls st M
set_option maxRecDepth 20000 in
theorem qX11_seekOld (ls : pu_L) (st : List Value) (M : pu_M) : pu_r 189 ls st M = s_ent 4 (kX11_seekOld_0 pu_r) ls st M := pu_rfix (c := fun r => s_ent 4 (kX11_seekOld_0 r)) rfl ls st M
set_option maxRecDepth 20000 in
theorem qX11_call (ls : pu_L) (st : List Value) (M : pu_M) : pu_r 190 ls st M = s_ent 3 (kX11_call_0 pu_r) ls st M := pu_rfix (c := fun r => s_ent 3 (kX11_call_0 r)) rfl ls st M
set_option maxRecDepth 20000 in
theorem qX11_ended (ls : pu_L) (st : List Value) (M : pu_M) : pu_r 191 ls st M = s_ent 1 (kX11_ended_0 pu_r) ls st M := pu_rfix (c := fun r => s_ent 1 (kX11_ended_0 r)) rfl ls st M
set_option maxRecDepth 20000 in
theorem qX5_isOpenKnownNumberIn (ls : pu_L) (st : List Value) (M : pu_M) : pu_r 192 ls st M = s_ent 3 (kX5_isOpenKnownNumberIn_0 pu_r) ls st M := pu_rfix (c := fun r => s_ent 3 (kX5_isOpenKnownNumberIn_0 r)) rfl ls st M
set_option maxRecDepth 20000 in
theorem qX1_addPair (ls : pu_L) (st : List Value) (M : pu_M) : pu_r 193 ls st M = s_ent 6 (kX1_addPair_0 pu_r) ls st M := pu_rfix (c := fun r => s_ent 6 (kX1_addPair_0 r)) rfl ls st M
set_option maxRecDepth 20000 in
theorem qX11_pairStreets (ls : pu_L) (st : List Value) (M : pu_M) : pu_r 194 ls st M = s_ent 7 (kX11_pairStreets_0 pu_r) ls st M := pu_rfix (c := fun r => s_ent 7 (kX11_pairStreets_0 r)) rfl ls st M
set_option maxRecDepth 20000 in
theorem qX11_pairTowns (ls : pu_L) (st : List Value) (M : pu_M) : pu_r 195 ls st M = s_ent 5 (kX11_pairTowns_0 pu_r) ls st M := pu_rfix (c := fun r => s_ent 5 (kX11_pairTowns_0 r)) rfl ls st M
set_option maxRecDepth 20000 in
theorem qX11_twice (ls : pu_L) (st : List Value) (M : pu_M) : pu_r 196 ls st M = s_ent 5 (kX11_twice_0 pu_r) ls st M := pu_rfix (c := fun r => s_ent 5 (kX11_twice_0 r)) rfl ls st M
set_option maxRecDepth 20000 in
theorem qX11_pair (ls : pu_L) (st : List Value) (M : pu_M) : pu_r 197 ls st M = s_ent 3 (kX11_pair_0 pu_r) ls st M := pu_rfix (c := fun r => s_ent 3 (kX11_pair_0 r)) rfl ls st M
set_option maxRecDepth 20000 in
theorem qX11_free (ls : pu_L) (st : List Value) (M : pu_M) : pu_r 198 ls st M = s_ent 4 (kX11_free_0 pu_r) ls st M := pu_rfix (c := fun r => s_ent 4 (kX11_free_0 r)) rfl ls st M
set_option maxRecDepth 20000 in
theorem qX11_isNearer (ls : pu_L) (st : List Value) (M : pu_M) : pu_r 199 ls st M = s_ent 7 (kX11_isNearer_0 pu_r) ls st M := pu_rfix (c := fun r => s_ent 7 (kX11_isNearer_0 r)) rfl ls st M
set_option maxRecDepth 20000 in
theorem qX11_near (ls : pu_L) (st : List Value) (M : pu_M) : pu_r 200 ls st M = s_ent 7 (kX11_near_0 pu_r) ls st M := pu_rfix (c := fun r => s_ent 7 (kX11_near_0 r)) rfl ls st M
set_option maxRecDepth 20000 in
theorem qX1_addStop (ls : pu_L) (st : List Value) (M : pu_M) : pu_r 201 ls st M = s_ent 3 (kX1_addStop_0 pu_r) ls st M := pu_rfix (c := fun r => s_ent 3 (kX1_addStop_0 r)) rfl ls st M
set_option maxRecDepth 20000 in
theorem qX11_stop (ls : pu_L) (st : List Value) (M : pu_M) : pu_r 202 ls st M = s_ent 3 (kX11_stop_0 pu_r) ls st M := pu_rfix (c := fun r => s_ent 3 (kX11_stop_0 r)) rfl ls st M
set_option maxRecDepth 20000 in
theorem qX1_whenWalked (ls : pu_L) (st : List Value) (M : pu_M) : pu_r 203 ls st M = s_ent 3 (kX1_whenWalked_0 pu_r) ls st M := pu_rfix (c := fun r => s_ent 3 (kX1_whenWalked_0 r)) rfl ls st M
set_option maxRecDepth 20000 in
theorem qX1_addWalked (ls : pu_L) (st : List Value) (M : pu_M) : pu_r 204 ls st M = s_ent 2 (kX1_addWalked_0 pu_r) ls st M := pu_rfix (c := fun r => s_ent 2 (kX1_addWalked_0 r)) rfl ls st M
set_option maxRecDepth 20000 in
theorem qX5_rankUnder (ls : pu_L) (st : List Value) (M : pu_M) : pu_r 205 ls st M = s_ent 2 (kX5_rankUnder_0 pu_r) ls st M := pu_rfix (c := fun r => s_ent 2 (kX5_rankUnder_0 r)) rfl ls st M
set_option maxRecDepth 20000 in
theorem qX5_sinkWalked (ls : pu_L) (st : List Value) (M : pu_M) : pu_r 206 ls st M = s_ent 4 (kX5_sinkWalked_0 pu_r) ls st M := pu_rfix (c := fun r => s_ent 4 (kX5_sinkWalked_0 r)) rfl ls st M
set_option maxRecDepth 20000 in
theorem qX11_walkUnder (ls : pu_L) (st : List Value) (M : pu_M) : pu_r 207 ls st M = s_ent 6 (kX11_walkUnder_0 pu_r) ls st M := pu_rfix (c := fun r => s_ent 6 (kX11_walkUnder_0 r)) rfl ls st M
set_option maxRecDepth 20000 in
theorem qX11_walkView (ls : pu_L) (st : List Value) (M : pu_M) : pu_r 208 ls st M = s_ent 4 (kX11_walkView_0 pu_r) ls st M := pu_rfix (c := fun r => s_ent 4 (kX11_walkView_0 r)) rfl ls st M
set_option maxRecDepth 20000 in
theorem qX11_walk (ls : pu_L) (st : List Value) (M : pu_M) : pu_r 209 ls st M = s_ent 3 (kX11_walk_0 pu_r) ls st M := pu_rfix (c := fun r => s_ent 3 (kX11_walk_0 r)) rfl ls st M
set_option maxRecDepth 20000 in
theorem qX11_walked (ls : pu_L) (st : List Value) (M : pu_M) : pu_r 210 ls st M = s_ent 2 (kX11_walked_0 pu_r) ls st M := pu_rfix (c := fun r => s_ent 2 (kX11_walked_0 r)) rfl ls st M
set_option maxRecDepth 20000 in
theorem qX1_addLetter (ls : pu_L) (st : List Value) (M : pu_M) : pu_r 211 ls st M = s_ent 2 (kX1_addLetter_0 pu_r) ls st M := pu_rfix (c := fun r => s_ent 2 (kX1_addLetter_0 r)) rfl ls st M
set_option maxRecDepth 20000 in
theorem qX11_letter (ls : pu_L) (st : List Value) (M : pu_M) : pu_r 212 ls st M = s_ent 3 (kX11_letter_0 pu_r) ls st M := pu_rfix (c := fun r => s_ent 3 (kX11_letter_0 r)) rfl ls st M
set_option maxRecDepth 20000 in
theorem qX1_addSorted (ls : pu_L) (st : List Value) (M : pu_M) : pu_r 213 ls st M = s_ent 2 (kX1_addSorted_0 pu_r) ls st M := pu_rfix (c := fun r => s_ent 2 (kX1_addSorted_0 r)) rfl ls st M
set_option maxRecDepth 20000 in
theorem qX1_sortLettersOf (ls : pu_L) (st : List Value) (M : pu_M) : pu_r 214 ls st M = s_ent 3 (kX1_sortLettersOf_0 pu_r) ls st M := pu_rfix (c := fun r => s_ent 3 (kX1_sortLettersOf_0 r)) rfl ls st M
set_option maxRecDepth 20000 in
theorem qX1_sortLetters (ls : pu_L) (st : List Value) (M : pu_M) : pu_r 215 ls st M = s_ent 2 (kX1_sortLetters_0 pu_r) ls st M := pu_rfix (c := fun r => s_ent 2 (kX1_sortLetters_0 r)) rfl ls st M
set_option maxRecDepth 20000 in
theorem qX11_sort (ls : pu_L) (st : List Value) (M : pu_M) : pu_r 216 ls st M = s_ent 1 (kX11_sort_0 pu_r) ls st M := pu_rfix (c := fun r => s_ent 1 (kX11_sort_0 r)) rfl ls st M
set_option maxRecDepth 20000 in
theorem qX11_sorted (ls : pu_L) (st : List Value) (M : pu_M) : pu_r 217 ls st M = s_ent 3 (kX11_sorted_0 pu_r) ls st M := pu_rfix (c := fun r => s_ent 3 (kX11_sorted_0 r)) rfl ls st M
set_option maxRecDepth 20000 in
theorem qJ7_fill_53178 (ls : pu_L) (st : List Value) (M : pu_M) : pu_r 218 ls st M = s_ent 4 (kJ7_fill_53178_0 pu_r) ls st M := pu_rfix (c := fun r => s_ent 4 (kJ7_fill_53178_0 r)) rfl ls st M
set_option maxRecDepth 20000 in
theorem qX5_setWholesOn (ls : pu_L) (st : List Value) (M : pu_M) : pu_r 219 ls st M = s_ent 6 (kX5_setWholesOn_0 pu_r) ls st M := pu_rfix (c := fun r => s_ent 6 (kX5_setWholesOn_0 r)) rfl ls st M
set_option maxRecDepth 20000 in
theorem qX11_putRecord (ls : pu_L) (st : List Value) (M : pu_M) : pu_r 220 ls st M = s_ent 2 (kX11_putRecord_0 pu_r) ls st M := pu_rfix (c := fun r => s_ent 2 (kX11_putRecord_0 r)) rfl ls st M
set_option maxRecDepth 20000 in
theorem qX11_list (ls : pu_L) (st : List Value) (M : pu_M) : pu_r 221 ls st M = s_ent 3 (kX11_list_0 pu_r) ls st M := pu_rfix (c := fun r => s_ent 3 (kX11_list_0 r)) rfl ls st M
set_option maxRecDepth 20000 in
theorem qX11_slotOfRecord (ls : pu_L) (st : List Value) (M : pu_M) : pu_r 222 ls st M = s_ent 5 (kX11_slotOfRecord_0 pu_r) ls st M := pu_rfix (c := fun r => s_ent 5 (kX11_slotOfRecord_0 r)) rfl ls st M
set_option maxRecDepth 20000 in
theorem qX11_checkRecords (ls : pu_L) (st : List Value) (M : pu_M) : pu_r 223 ls st M = s_ent 4 (kX11_checkRecords_0 pu_r) ls st M := pu_rfix (c := fun r => s_ent 4 (kX11_checkRecords_0 r)) rfl ls st M
set_option maxRecDepth 20000 in
theorem qX11_check (ls : pu_L) (st : List Value) (M : pu_M) : pu_r 224 ls st M = s_ent 3 (kX11_check_0 pu_r) ls st M := pu_rfix (c := fun r => s_ent 3 (kX11_check_0 r)) rfl ls st M
set_option maxRecDepth 20000 in
theorem qX0_byteAt (ls : pu_L) (st : List Value) (M : pu_M) : pu_r 225 ls st M = s_ent 2 (kX0_byteAt_0 pu_r) ls st M := pu_rfix (c := fun r => s_ent 2 (kX0_byteAt_0 r)) rfl ls st M
set_option maxRecDepth 20000 in
theorem qX11_out (ls : pu_L) (st : List Value) (M : pu_M) : pu_r 226 ls st M = s_ent 2 (kX11_out_0 pu_r) ls st M := pu_rfix (c := fun r => s_ent 2 (kX11_out_0 r)) rfl ls st M
set_option maxRecDepth 20000 in
theorem qX11_count (ls : pu_L) (st : List Value) (M : pu_M) : pu_r 227 ls st M = s_ent 2 (kX11_count_0 pu_r) ls st M := pu_rfix (c := fun r => s_ent 2 (kX11_count_0 r)) rfl ls st M
set_option maxRecDepth 20000 in
theorem qX12_init (ls : pu_L) (st : List Value) (M : pu_M) : pu_r 228 ls st M = s_ent 2 (kX12_init_0 pu_r) ls st M := pu_rfix (c := fun r => s_ent 2 (kX12_init_0 r)) rfl ls st M
set_option maxRecDepth 20000 in
theorem qX12_feed (ls : pu_L) (st : List Value) (M : pu_M) : pu_r 229 ls st M = s_ent 8 (kX12_feed_0 pu_r) ls st M := pu_rfix (c := fun r => s_ent 8 (kX12_feed_0 r)) rfl ls st M
set_option maxRecDepth 20000 in
theorem qX12_end (ls : pu_L) (st : List Value) (M : pu_M) : pu_r 230 ls st M = s_ent 2 (kX12_end_0 pu_r) ls st M := pu_rfix (c := fun r => s_ent 2 (kX12_end_0 r)) rfl ls st M
set_option maxRecDepth 20000 in
theorem qX12_take (ls : pu_L) (st : List Value) (M : pu_M) : pu_r 231 ls st M = s_ent 2 (kX12_take_0 pu_r) ls st M := pu_rfix (c := fun r => s_ent 2 (kX12_take_0 r)) rfl ls st M
set_option maxRecDepth 20000 in
theorem qX12_out (ls : pu_L) (st : List Value) (M : pu_M) : pu_r 232 ls st M = s_ent 2 (kX12_out_0 pu_r) ls st M := pu_rfix (c := fun r => s_ent 2 (kX12_out_0 r)) rfl ls st M
set_option maxRecDepth 20000 in
theorem qX12_takes (ls : pu_L) (st : List Value) (M : pu_M) : pu_r 233 ls st M = s_ent 2 (kX12_takes_0 pu_r) ls st M := pu_rfix (c := fun r => s_ent 2 (kX12_takes_0 r)) rfl ls st M
set_option maxRecDepth 20000 in
theorem qX12_isDay (ls : pu_L) (st : List Value) (M : pu_M) : pu_r 234 ls st M = s_ent 1 (kX12_isDay_0 pu_r) ls st M := pu_rfix (c := fun r => s_ent 1 (kX12_isDay_0 r)) rfl ls st M
set_option maxRecDepth 20000 in
theorem qX12_day (ls : pu_L) (st : List Value) (M : pu_M) : pu_r 235 ls st M = s_ent 2 (kX12_day_0 pu_r) ls st M := pu_rfix (c := fun r => s_ent 2 (kX12_day_0 r)) rfl ls st M
set_option maxRecDepth 20000 in
theorem qX12_as (ls : pu_L) (st : List Value) (M : pu_M) : pu_r 236 ls st M = s_ent 2 (kX12_as_0 pu_r) ls st M := pu_rfix (c := fun r => s_ent 2 (kX12_as_0 r)) rfl ls st M
set_option maxRecDepth 20000 in
theorem qX12_isKnown (ls : pu_L) (st : List Value) (M : pu_M) : pu_r 237 ls st M = s_ent 2 (kX12_isKnown_0 pu_r) ls st M := pu_rfix (c := fun r => s_ent 2 (kX12_isKnown_0 r)) rfl ls st M
set_option maxRecDepth 20000 in
theorem qX12_from (ls : pu_L) (st : List Value) (M : pu_M) : pu_r 238 ls st M = s_ent 2 (kX12_from_0 pu_r) ls st M := pu_rfix (c := fun r => s_ent 2 (kX12_from_0 r)) rfl ls st M
set_option maxRecDepth 20000 in
theorem qX12_holds (ls : pu_L) (st : List Value) (M : pu_M) : pu_r 239 ls st M = s_ent 4 (kX12_holds_0 pu_r) ls st M := pu_rfix (c := fun r => s_ent 4 (kX12_holds_0 r)) rfl ls st M
set_option maxRecDepth 20000 in
theorem qX12_isLetter (ls : pu_L) (st : List Value) (M : pu_M) : pu_r 240 ls st M = s_ent 1 (kX12_isLetter_0 pu_r) ls st M := pu_rfix (c := fun r => s_ent 1 (kX12_isLetter_0 r)) rfl ls st M
set_option maxRecDepth 20000 in
theorem qX12_here (ls : pu_L) (st : List Value) (M : pu_M) : pu_r 241 ls st M = s_ent 2 (kX12_here_0 pu_r) ls st M := pu_rfix (c := fun r => s_ent 2 (kX12_here_0 r)) rfl ls st M
set_option maxRecDepth 20000 in
theorem qX12_lengthen (ls : pu_L) (st : List Value) (M : pu_M) : pu_r 242 ls st M = s_ent 6 (kX12_lengthen_0 pu_r) ls st M := pu_rfix (c := fun r => s_ent 6 (kX12_lengthen_0 r)) rfl ls st M
set_option maxRecDepth 20000 in
theorem qX12_reads (ls : pu_L) (st : List Value) (M : pu_M) : pu_r 243 ls st M = s_ent 7 (kX12_reads_0 pu_r) ls st M := pu_rfix (c := fun r => s_ent 7 (kX12_reads_0 r)) rfl ls st M
set_option maxRecDepth 20000 in
theorem qX12_readsName (ls : pu_L) (st : List Value) (M : pu_M) : pu_r 244 ls st M = s_ent 2 (kX12_readsName_0 pu_r) ls st M := pu_rfix (c := fun r => s_ent 2 (kX12_readsName_0 r)) rfl ls st M
set_option maxRecDepth 20000 in
theorem qX12_isName (ls : pu_L) (st : List Value) (M : pu_M) : pu_r 245 ls st M = s_ent 5 (kX12_isName_0 pu_r) ls st M := pu_rfix (c := fun r => s_ent 5 (kX12_isName_0 r)) rfl ls st M
set_option maxRecDepth 20000 in
theorem qX12_areAlike (ls : pu_L) (st : List Value) (M : pu_M) : pu_r 246 ls st M = s_ent 5 (kX12_areAlike_0 pu_r) ls st M := pu_rfix (c := fun r => s_ent 5 (kX12_areAlike_0 r)) rfl ls st M
set_option maxRecDepth 20000 in
theorem qX12_keepName (ls : pu_L) (st : List Value) (M : pu_M) : pu_r 247 ls st M = s_ent 3 (kX12_keepName_0 pu_r) ls st M := pu_rfix (c := fun r => s_ent 3 (kX12_keepName_0 r)) rfl ls st M
set_option maxRecDepth 20000 in
theorem qX12_town (ls : pu_L) (st : List Value) (M : pu_M) : pu_r 248 ls st M = s_ent 2 (kX12_town_0 pu_r) ls st M := pu_rfix (c := fun r => s_ent 2 (kX12_town_0 r)) rfl ls st M
set_option maxRecDepth 20000 in
theorem qX12_isWordOf (ls : pu_L) (st : List Value) (M : pu_M) : pu_r 249 ls st M = s_ent 5 (kX12_isWordOf_0 pu_r) ls st M := pu_rfix (c := fun r => s_ent 5 (kX12_isWordOf_0 r)) rfl ls st M
set_option maxRecDepth 20000 in
theorem qX12_shorten (ls : pu_L) (st : List Value) (M : pu_M) : pu_r 250 ls st M = s_ent 4 (kX12_shorten_0 pu_r) ls st M := pu_rfix (c := fun r => s_ent 4 (kX12_shorten_0 r)) rfl ls st M
set_option maxRecDepth 20000 in
theorem qX12_isStreet (ls : pu_L) (st : List Value) (M : pu_M) : pu_r 251 ls st M = s_ent 2 (kX12_isStreet_0 pu_r) ls st M := pu_rfix (c := fun r => s_ent 2 (kX12_isStreet_0 r)) rfl ls st M
set_option maxRecDepth 20000 in
theorem qX12_isTown (ls : pu_L) (st : List Value) (M : pu_M) : pu_r 252 ls st M = s_ent 2 (kX12_isTown_0 pu_r) ls st M := pu_rfix (c := fun r => s_ent 2 (kX12_isTown_0 r)) rfl ls st M
set_option maxRecDepth 20000 in
theorem qX12_openName (ls : pu_L) (st : List Value) (M : pu_M) : pu_r 253 ls st M = s_ent 4 (kX12_openName_0 pu_r) ls st M := pu_rfix (c := fun r => s_ent 4 (kX12_openName_0 r)) rfl ls st M
set_option maxRecDepth 20000 in
theorem qX12_townOf (ls : pu_L) (st : List Value) (M : pu_M) : pu_r 254 ls st M = s_ent 2 (kX12_townOf_0 pu_r) ls st M := pu_rfix (c := fun r => s_ent 2 (kX12_townOf_0 r)) rfl ls st M
set_option maxRecDepth 20000 in
theorem qX12_latest (ls : pu_L) (st : List Value) (M : pu_M) : pu_r 255 ls st M = s_ent 7 (kX12_latest_0 pu_r) ls st M := pu_rfix (c := fun r => s_ent 7 (kX12_latest_0 r)) rfl ls st M
set_option maxRecDepth 20000 in
theorem qX12_isEarly (ls : pu_L) (st : List Value) (M : pu_M) : pu_r 256 ls st M = s_ent 3 (kX12_isEarly_0 pu_r) ls st M := pu_rfix (c := fun r => s_ent 3 (kX12_isEarly_0 r)) rfl ls st M
set_option maxRecDepth 20000 in
theorem qX12_paper (ls : pu_L) (st : List Value) (M : pu_M) : pu_r 257 ls st M = s_ent 8 (kX12_paper_0 pu_r) ls st M := pu_rfix (c := fun r => s_ent 8 (kX12_paper_0 r)) rfl ls st M
set_option maxRecDepth 20000 in
theorem qX12_openName_ (ls : pu_L) (st : List Value) (M : pu_M) : pu_r 258 ls st M = s_ent 6 (kX12_openName__0 pu_r) ls st M := pu_rfix (c := fun r => s_ent 6 (kX12_openName__0 r)) rfl ls st M
set_option maxRecDepth 20000 in
theorem qX12_isTaken (ls : pu_L) (st : List Value) (M : pu_M) : pu_r 259 ls st M = s_ent 6 (kX12_isTaken_0 pu_r) ls st M := pu_rfix (c := fun r => s_ent 6 (kX12_isTaken_0 r)) rfl ls st M
set_option maxRecDepth 20000 in
theorem qX12_street (ls : pu_L) (st : List Value) (M : pu_M) : pu_r 260 ls st M = s_ent 7 (kX12_street_0 pu_r) ls st M := pu_rfix (c := fun r => s_ent 7 (kX12_street_0 r)) rfl ls st M
set_option maxRecDepth 20000 in
theorem qX12_rename (ls : pu_L) (st : List Value) (M : pu_M) : pu_r 261 ls st M = s_ent 7 (kX12_rename_0 pu_r) ls st M := pu_rfix (c := fun r => s_ent 7 (kX12_rename_0 r)) rfl ls st M
set_option maxRecDepth 20000 in
theorem qX12_join (ls : pu_L) (st : List Value) (M : pu_M) : pu_r 262 ls st M = s_ent 10 (kX12_join_0 pu_r) ls st M := pu_rfix (c := fun r => s_ent 10 (kX12_join_0 r)) rfl ls st M
set_option maxRecDepth 20000 in
theorem qX12_isWhole (ls : pu_L) (st : List Value) (M : pu_M) : pu_r 263 ls st M = s_ent 1 (kX12_isWhole_0 pu_r) ls st M := pu_rfix (c := fun r => s_ent 1 (kX12_isWhole_0 r)) rfl ls st M
set_option maxRecDepth 20000 in
theorem qX12_isDoor (ls : pu_L) (st : List Value) (M : pu_M) : pu_r 264 ls st M = s_ent 2 (kX12_isDoor_0 pu_r) ls st M := pu_rfix (c := fun r => s_ent 2 (kX12_isDoor_0 r)) rfl ls st M
set_option maxRecDepth 20000 in
theorem qX12_of (ls : pu_L) (st : List Value) (M : pu_M) : pu_r 265 ls st M = s_ent 3 (kX12_of_0 pu_r) ls st M := pu_rfix (c := fun r => s_ent 3 (kX12_of_0 r)) rfl ls st M
set_option maxRecDepth 20000 in
theorem qX12_isOpen (ls : pu_L) (st : List Value) (M : pu_M) : pu_r 266 ls st M = s_ent 2 (kX12_isOpen_0 pu_r) ls st M := pu_rfix (c := fun r => s_ent 2 (kX12_isOpen_0 r)) rfl ls st M
set_option maxRecDepth 20000 in
theorem qX12_hasPlace (ls : pu_L) (st : List Value) (M : pu_M) : pu_r 267 ls st M = s_ent 3 (kX12_hasPlace_0 pu_r) ls st M := pu_rfix (c := fun r => s_ent 3 (kX12_hasPlace_0 r)) rfl ls st M
set_option maxRecDepth 20000 in
theorem qX12_streetAt (ls : pu_L) (st : List Value) (M : pu_M) : pu_r 268 ls st M = s_ent 3 (kX12_streetAt_0 pu_r) ls st M := pu_rfix (c := fun r => s_ent 3 (kX12_streetAt_0 r)) rfl ls st M
set_option maxRecDepth 20000 in
theorem qX12_sideAt (ls : pu_L) (st : List Value) (M : pu_M) : pu_r 269 ls st M = s_ent 3 (kX12_sideAt_0 pu_r) ls st M := pu_rfix (c := fun r => s_ent 3 (kX12_sideAt_0 r)) rfl ls st M
set_option maxRecDepth 20000 in
theorem qX12_pacesAt (ls : pu_L) (st : List Value) (M : pu_M) : pu_r 270 ls st M = s_ent 3 (kX12_pacesAt_0 pu_r) ls st M := pu_rfix (c := fun r => s_ent 3 (kX12_pacesAt_0 r)) rfl ls st M
set_option maxRecDepth 20000 in
theorem qX12_front (ls : pu_L) (st : List Value) (M : pu_M) : pu_r 271 ls st M = s_ent 3 (kX12_front_0 pu_r) ls st M := pu_rfix (c := fun r => s_ent 3 (kX12_front_0 r)) rfl ls st M
set_option maxRecDepth 20000 in
theorem qX12_openSpan (ls : pu_L) (st : List Value) (M : pu_M) : pu_r 272 ls st M = s_ent 5 (kX12_openSpan_0 pu_r) ls st M := pu_rfix (c := fun r => s_ent 5 (kX12_openSpan_0 r)) rfl ls st M
set_option maxRecDepth 20000 in
theorem qX12_wholeAt (ls : pu_L) (st : List Value) (M : pu_M) : pu_r 273 ls st M = s_ent 4 (kX12_wholeAt_0 pu_r) ls st M := pu_rfix (c := fun r => s_ent 4 (kX12_wholeAt_0 r)) rfl ls st M
set_option maxRecDepth 20000 in
theorem qX12_opens (ls : pu_L) (st : List Value) (M : pu_M) : pu_r 274 ls st M = s_ent 7 (kX12_opens_0 pu_r) ls st M := pu_rfix (c := fun r => s_ent 7 (kX12_opens_0 r)) rfl ls st M
set_option maxRecDepth 20000 in
theorem qX12_along (ls : pu_L) (st : List Value) (M : pu_M) : pu_r 275 ls st M = s_ent 3 (kX12_along_0 pu_r) ls st M := pu_rfix (c := fun r => s_ent 3 (kX12_along_0 r)) rfl ls st M
set_option maxRecDepth 20000 in
theorem qX12_isOrdered (ls : pu_L) (st : List Value) (M : pu_M) : pu_r 276 ls st M = s_ent 3 (kX12_isOrdered_0 pu_r) ls st M := pu_rfix (c := fun r => s_ent 3 (kX12_isOrdered_0 r)) rfl ls st M
set_option maxRecDepth 20000 in
theorem qX12_bounds (ls : pu_L) (st : List Value) (M : pu_M) : pu_r 277 ls st M = s_ent 12 (kX12_bounds_0 pu_r) ls st M := pu_rfix (c := fun r => s_ent 12 (kX12_bounds_0 r)) rfl ls st M
set_option maxRecDepth 20000 in
theorem qX12_isUsed (ls : pu_L) (st : List Value) (M : pu_M) : pu_r 278 ls st M = s_ent 5 (kX12_isUsed_0 pu_r) ls st M := pu_rfix (c := fun r => s_ent 5 (kX12_isUsed_0 r)) rfl ls st M
set_option maxRecDepth 20000 in
theorem qX12_mayBe (ls : pu_L) (st : List Value) (M : pu_M) : pu_r 279 ls st M = s_ent 4 (kX12_mayBe_0 pu_r) ls st M := pu_rfix (c := fun r => s_ent 4 (kX12_mayBe_0 r)) rfl ls st M
set_option maxRecDepth 20000 in
theorem qX12_isCandidate (ls : pu_L) (st : List Value) (M : pu_M) : pu_r 280 ls st M = s_ent 5 (kX12_isCandidate_0 pu_r) ls st M := pu_rfix (c := fun r => s_ent 5 (kX12_isCandidate_0 r)) rfl ls st M
set_option maxRecDepth 20000 in
theorem qX12_least (ls : pu_L) (st : List Value) (M : pu_M) : pu_r 281 ls st M = s_ent 7 (kX12_least_0 pu_r) ls st M := pu_rfix (c := fun r => s_ent 7 (kX12_least_0 r)) rfl ls st M
set_option maxRecDepth 20000 in
theorem qX12_isOccupied (ls : pu_L) (st : List Value) (M : pu_M) : pu_r 282 ls st M = s_ent 6 (kX12_isOccupied_0 pu_r) ls st M := pu_rfix (c := fun r => s_ent 6 (kX12_isOccupied_0 r)) rfl ls st M
set_option maxRecDepth 20000 in
theorem qX12_isPlace (ls : pu_L) (st : List Value) (M : pu_M) : pu_r 283 ls st M = s_ent 2 (kX12_isPlace_0 pu_r) ls st M := pu_rfix (c := fun r => s_ent 2 (kX12_isPlace_0 r)) rfl ls st M
set_option maxRecDepth 20000 in
theorem qX12_made (ls : pu_L) (st : List Value) (M : pu_M) : pu_r 284 ls st M = s_ent 10 (kX12_made_0 pu_r) ls st M := pu_rfix (c := fun r => s_ent 10 (kX12_made_0 r)) rfl ls st M
set_option maxRecDepth 20000 in
theorem qX12_door (ls : pu_L) (st : List Value) (M : pu_M) : pu_r 285 ls st M = s_ent 9 (kX12_door_0 pu_r) ls st M := pu_rfix (c := fun r => s_ent 9 (kX12_door_0 r)) rfl ls st M
set_option maxRecDepth 20000 in
theorem qX12_free (ls : pu_L) (st : List Value) (M : pu_M) : pu_r 286 ls st M = s_ent 5 (kX12_free_0 pu_r) ls st M := pu_rfix (c := fun r => s_ent 5 (kX12_free_0 r)) rfl ls st M
set_option maxRecDepth 20000 in
theorem qX12_corner (ls : pu_L) (st : List Value) (M : pu_M) : pu_r 287 ls st M = s_ent 10 (kX12_corner_0 pu_r) ls st M := pu_rfix (c := fun r => s_ent 10 (kX12_corner_0 r)) rfl ls st M
set_option maxRecDepth 20000 in
theorem qX12_underneath (ls : pu_L) (st : List Value) (M : pu_M) : pu_r 288 ls st M = s_ent 5 (kX12_underneath_0 pu_r) ls st M := pu_rfix (c := fun r => s_ent 5 (kX12_underneath_0 r)) rfl ls st M
set_option maxRecDepth 20000 in
theorem qX12_isEarlyAt (ls : pu_L) (st : List Value) (M : pu_M) : pu_r 289 ls st M = s_ent 3 (kX12_isEarlyAt_0 pu_r) ls st M := pu_rfix (c := fun r => s_ent 3 (kX12_isEarlyAt_0 r)) rfl ls st M
set_option maxRecDepth 20000 in
theorem qX12_paperOn (ls : pu_L) (st : List Value) (M : pu_M) : pu_r 290 ls st M = s_ent 3 (kX12_paperOn_0 pu_r) ls st M := pu_rfix (c := fun r => s_ent 3 (kX12_paperOn_0 r)) rfl ls st M
set_option maxRecDepth 20000 in
theorem qX12_under (ls : pu_L) (st : List Value) (M : pu_M) : pu_r 291 ls st M = s_ent 7 (kX12_under_0 pu_r) ls st M := pu_rfix (c := fun r => s_ent 7 (kX12_under_0 r)) rfl ls st M
set_option maxRecDepth 20000 in
theorem qX12_isUnder (ls : pu_L) (st : List Value) (M : pu_M) : pu_r 292 ls st M = s_ent 4 (kX12_isUnder_0 pu_r) ls st M := pu_rfix (c := fun r => s_ent 4 (kX12_isUnder_0 r)) rfl ls st M
set_option maxRecDepth 20000 in
theorem qX12_gone (ls : pu_L) (st : List Value) (M : pu_M) : pu_r 293 ls st M = s_ent 9 (kX12_gone_0 pu_r) ls st M := pu_rfix (c := fun r => s_ent 9 (kX12_gone_0 r)) rfl ls st M
set_option maxRecDepth 20000 in
theorem qX12_orders (ls : pu_L) (st : List Value) (M : pu_M) : pu_r 294 ls st M = s_ent 6 (kX12_orders_0 pu_r) ls st M := pu_rfix (c := fun r => s_ent 6 (kX12_orders_0 r)) rfl ls st M
set_option maxRecDepth 20000 in
theorem qX12_isRising (ls : pu_L) (st : List Value) (M : pu_M) : pu_r 295 ls st M = s_ent 4 (kX12_isRising_0 pu_r) ls st M := pu_rfix (c := fun r => s_ent 4 (kX12_isRising_0 r)) rfl ls st M
set_option maxRecDepth 20000 in
theorem qX12_gets (ls : pu_L) (st : List Value) (M : pu_M) : pu_r 296 ls st M = s_ent 9 (kX12_gets_0 pu_r) ls st M := pu_rfix (c := fun r => s_ent 9 (kX12_gets_0 r)) rfl ls st M
set_option maxRecDepth 20000 in
theorem qX12_renumber (ls : pu_L) (st : List Value) (M : pu_M) : pu_r 297 ls st M = s_ent 9 (kX12_renumber_0 pu_r) ls st M := pu_rfix (c := fun r => s_ent 9 (kX12_renumber_0 r)) rfl ls st M
set_option maxRecDepth 20000 in
theorem qX12_row (ls : pu_L) (st : List Value) (M : pu_M) : pu_r 298 ls st M = s_ent 5 (kX12_row_0 pu_r) ls st M := pu_rfix (c := fun r => s_ent 5 (kX12_row_0 r)) rfl ls st M
set_option maxRecDepth 20000 in
theorem qX12_tear (ls : pu_L) (st : List Value) (M : pu_M) : pu_r 299 ls st M = s_ent 6 (kX12_tear_0 pu_r) ls st M := pu_rfix (c := fun r => s_ent 6 (kX12_tear_0 r)) rfl ls st M
set_option maxRecDepth 20000 in
theorem qX12_unmade (ls : pu_L) (st : List Value) (M : pu_M) : pu_r 300 ls st M = s_ent 5 (kX12_unmade_0 pu_r) ls st M := pu_rfix (c := fun r => s_ent 5 (kX12_unmade_0 r)) rfl ls st M
set_option maxRecDepth 20000 in
theorem qX12_undo (ls : pu_L) (st : List Value) (M : pu_M) : pu_r 301 ls st M = s_ent 4 (kX12_undo_0 pu_r) ls st M := pu_rfix (c := fun r => s_ent 4 (kX12_undo_0 r)) rfl ls st M
set_option maxRecDepth 20000 in
theorem qX12_image (ls : pu_L) (st : List Value) (M : pu_M) : pu_r 302 ls st M = s_ent 3 (kX12_image_0 pu_r) ls st M := pu_rfix (c := fun r => s_ent 3 (kX12_image_0 r)) rfl ls st M
set_option maxRecDepth 20000 in
theorem qX12_back (ls : pu_L) (st : List Value) (M : pu_M) : pu_r 303 ls st M = s_ent 3 (kX12_back_0 pu_r) ls st M := pu_rfix (c := fun r => s_ent 3 (kX12_back_0 r)) rfl ls st M
set_option maxRecDepth 20000 in
theorem qX12_faulty (ls : pu_L) (st : List Value) (M : pu_M) : pu_r 304 ls st M = s_ent 2 (kX12_faulty_0 pu_r) ls st M := pu_rfix (c := fun r => s_ent 2 (kX12_faulty_0 r)) rfl ls st M
set_option maxRecDepth 20000 in
theorem qX12_word (ls : pu_L) (st : List Value) (M : pu_M) : pu_r 305 ls st M = s_ent 4 (kX12_word_0 pu_r) ls st M := pu_rfix (c := fun r => s_ent 4 (kX12_word_0 r)) rfl ls st M
set_option maxRecDepth 20000 in
theorem qX12_must (ls : pu_L) (st : List Value) (M : pu_M) : pu_r 306 ls st M = s_ent 2 (kX12_must_0 pu_r) ls st M := pu_rfix (c := fun r => s_ent 2 (kX12_must_0 r)) rfl ls st M
set_option maxRecDepth 20000 in
theorem qX12_isDigit (ls : pu_L) (st : List Value) (M : pu_M) : pu_r 307 ls st M = s_ent 1 (kX12_isDigit_0 pu_r) ls st M := pu_rfix (c := fun r => s_ent 1 (kX12_isDigit_0 r)) rfl ls st M
set_option maxRecDepth 20000 in
theorem qX12_streetPart (ls : pu_L) (st : List Value) (M : pu_M) : pu_r 308 ls st M = s_ent 3 (kX12_streetPart_0 pu_r) ls st M := pu_rfix (c := fun r => s_ent 3 (kX12_streetPart_0 r)) rfl ls st M
set_option maxRecDepth 20000 in
theorem qX12_numberPart (ls : pu_L) (st : List Value) (M : pu_M) : pu_r 309 ls st M = s_ent 5 (kX12_numberPart_0 pu_r) ls st M := pu_rfix (c := fun r => s_ent 5 (kX12_numberPart_0 r)) rfl ls st M
set_option maxRecDepth 20000 in
theorem qX12_court (ls : pu_L) (st : List Value) (M : pu_M) : pu_r 310 ls st M = s_ent 1 (kX12_court_0 pu_r) ls st M := pu_rfix (c := fun r => s_ent 1 (kX12_court_0 r)) rfl ls st M
set_option maxRecDepth 20000 in
theorem qX12_floor (ls : pu_L) (st : List Value) (M : pu_M) : pu_r 311 ls st M = s_ent 1 (kX12_floor_0 pu_r) ls st M := pu_rfix (c := fun r => s_ent 1 (kX12_floor_0 r)) rfl ls st M
set_option maxRecDepth 20000 in
theorem qX12_extraPart (ls : pu_L) (st : List Value) (M : pu_M) : pu_r 312 ls st M = s_ent 2 (kX12_extraPart_0 pu_r) ls st M := pu_rfix (c := fun r => s_ent 2 (kX12_extraPart_0 r)) rfl ls st M
set_option maxRecDepth 20000 in
theorem qX12_townPart (ls : pu_L) (st : List Value) (M : pu_M) : pu_r 313 ls st M = s_ent 2 (kX12_townPart_0 pu_r) ls st M := pu_rfix (c := fun r => s_ent 2 (kX12_townPart_0 r)) rfl ls st M
set_option maxRecDepth 20000 in
theorem qX12_readsAddress (ls : pu_L) (st : List Value) (M : pu_M) : pu_r 314 ls st M = s_ent 2 (kX12_readsAddress_0 pu_r) ls st M := pu_rfix (c := fun r => s_ent 2 (kX12_readsAddress_0 r)) rfl ls st M
set_option maxRecDepth 20000 in
theorem qX12_standsOn (ls : pu_L) (st : List Value) (M : pu_M) : pu_r 315 ls st M = s_ent 3 (kX12_standsOn_0 pu_r) ls st M := pu_rfix (c := fun r => s_ent 3 (kX12_standsOn_0 r)) rfl ls st M
set_option maxRecDepth 20000 in
theorem qX12_streetOn (ls : pu_L) (st : List Value) (M : pu_M) : pu_r 316 ls st M = s_ent 4 (kX12_streetOn_0 pu_r) ls st M := pu_rfix (c := fun r => s_ent 4 (kX12_streetOn_0 r)) rfl ls st M
set_option maxRecDepth 20000 in
theorem qX12_isOn (ls : pu_L) (st : List Value) (M : pu_M) : pu_r 317 ls st M = s_ent 5 (kX12_isOn_0 pu_r) ls st M := pu_rfix (c := fun r => s_ent 5 (kX12_isOn_0 r)) rfl ls st M
set_option maxRecDepth 20000 in
theorem qX12_withExtra (ls : pu_L) (st : List Value) (M : pu_M) : pu_r 318 ls st M = s_ent 4 (kX12_withExtra_0 pu_r) ls st M := pu_rfix (c := fun r => s_ent 4 (kX12_withExtra_0 r)) rfl ls st M
set_option maxRecDepth 20000 in
theorem qX12_sure (ls : pu_L) (st : List Value) (M : pu_M) : pu_r 319 ls st M = s_ent 4 (kX12_sure_0 pu_r) ls st M := pu_rfix (c := fun r => s_ent 4 (kX12_sure_0 r)) rfl ls st M
set_option maxRecDepth 20000 in
theorem qX12_sideOf (ls : pu_L) (st : List Value) (M : pu_M) : pu_r 320 ls st M = s_ent 2 (kX12_sideOf_0 pu_r) ls st M := pu_rfix (c := fun r => s_ent 2 (kX12_sideOf_0 r)) rfl ls st M
set_option maxRecDepth 20000 in
theorem qX12_pacesOf (ls : pu_L) (st : List Value) (M : pu_M) : pu_r 321 ls st M = s_ent 2 (kX12_pacesOf_0 pu_r) ls st M := pu_rfix (c := fun r => s_ent 2 (kX12_pacesOf_0 r)) rfl ls st M
set_option maxRecDepth 20000 in
theorem qX12_mayHave (ls : pu_L) (st : List Value) (M : pu_M) : pu_r 322 ls st M = s_ent 14 (kX12_mayHave_0 pu_r) ls st M := pu_rfix (c := fun r => s_ent 14 (kX12_mayHave_0 r)) rfl ls st M
set_option maxRecDepth 20000 in
theorem qX12_likelyOn (ls : pu_L) (st : List Value) (M : pu_M) : pu_r 323 ls st M = s_ent 7 (kX12_likelyOn_0 pu_r) ls st M := pu_rfix (c := fun r => s_ent 7 (kX12_likelyOn_0 r)) rfl ls st M
set_option maxRecDepth 20000 in
theorem qX12_means (ls : pu_L) (st : List Value) (M : pu_M) : pu_r 324 ls st M = s_ent 7 (kX12_means_0 pu_r) ls st M := pu_rfix (c := fun r => s_ent 7 (kX12_means_0 r)) rfl ls st M
set_option maxRecDepth 20000 in
theorem qX12_fault (ls : pu_L) (st : List Value) (M : pu_M) : pu_r 325 ls st M = s_ent 1 (kX12_fault_0 pu_r) ls st M := pu_rfix (c := fun r => s_ent 1 (kX12_fault_0 r)) rfl ls st M
set_option maxRecDepth 20000 in
theorem qX12_found (ls : pu_L) (st : List Value) (M : pu_M) : pu_r 326 ls st M = s_ent 3 (kX12_found_0 pu_r) ls st M := pu_rfix (c := fun r => s_ent 3 (kX12_found_0 r)) rfl ls st M
set_option maxRecDepth 20000 in
theorem qX12_call (ls : pu_L) (st : List Value) (M : pu_M) : pu_r 327 ls st M = s_ent 6 (kX12_call_0 pu_r) ls st M := pu_rfix (c := fun r => s_ent 6 (kX12_call_0 r)) rfl ls st M
set_option maxRecDepth 20000 in
theorem qX12_ended (ls : pu_L) (st : List Value) (M : pu_M) : pu_r 328 ls st M = s_ent 1 (kX12_ended_0 pu_r) ls st M := pu_rfix (c := fun r => s_ent 1 (kX12_ended_0 r)) rfl ls st M
set_option maxRecDepth 20000 in
theorem qX12_letter (ls : pu_L) (st : List Value) (M : pu_M) : pu_r 329 ls st M = s_ent 3 (kX12_letter_0 pu_r) ls st M := pu_rfix (c := fun r => s_ent 3 (kX12_letter_0 r)) rfl ls st M
set_option maxRecDepth 20000 in
theorem qX12_about (ls : pu_L) (st : List Value) (M : pu_M) : pu_r 330 ls st M = s_ent 4 (kX12_about_0 pu_r) ls st M := pu_rfix (c := fun r => s_ent 4 (kX12_about_0 r)) rfl ls st M
set_option maxRecDepth 20000 in
theorem qX12_stands (ls : pu_L) (st : List Value) (M : pu_M) : pu_r 331 ls st M = s_ent 3 (kX12_stands_0 pu_r) ls st M := pu_rfix (c := fun r => s_ent 3 (kX12_stands_0 r)) rfl ls st M
set_option maxRecDepth 20000 in
theorem qX12_spanOn (ls : pu_L) (st : List Value) (M : pu_M) : pu_r 332 ls st M = s_ent 7 (kX12_spanOn_0 pu_r) ls st M := pu_rfix (c := fun r => s_ent 7 (kX12_spanOn_0 r)) rfl ls st M
set_option maxRecDepth 20000 in
theorem qX12_number (ls : pu_L) (st : List Value) (M : pu_M) : pu_r 333 ls st M = s_ent 8 (kX12_number_0 pu_r) ls st M := pu_rfix (c := fun r => s_ent 8 (kX12_number_0 r)) rfl ls st M
set_option maxRecDepth 20000 in
theorem qX12_put (ls : pu_L) (st : List Value) (M : pu_M) : pu_r 334 ls st M = s_ent 2 (kX12_put_0 pu_r) ls st M := pu_rfix (c := fun r => s_ent 2 (kX12_put_0 r)) rfl ls st M
set_option maxRecDepth 20000 in
theorem qX12_putName (ls : pu_L) (st : List Value) (M : pu_M) : pu_r 335 ls st M = s_ent 5 (kX12_putName_0 pu_r) ls st M := pu_rfix (c := fun r => s_ent 5 (kX12_putName_0 r)) rfl ls st M
set_option maxRecDepth 20000 in
theorem qX12_putNumber (ls : pu_L) (st : List Value) (M : pu_M) : pu_r 336 ls st M = s_ent 3 (kX12_putNumber_0 pu_r) ls st M := pu_rfix (c := fun r => s_ent 3 (kX12_putNumber_0 r)) rfl ls st M
set_option maxRecDepth 20000 in
theorem qX12_putWords (ls : pu_L) (st : List Value) (M : pu_M) : pu_r 337 ls st M = s_ent 2 (kX12_putWords_0 pu_r) ls st M := pu_rfix (c := fun r => s_ent 2 (kX12_putWords_0 r)) rfl ls st M
set_option maxRecDepth 20000 in
theorem qX12_write (ls : pu_L) (st : List Value) (M : pu_M) : pu_r 338 ls st M = s_ent 9 (kX12_write_0 pu_r) ls st M := pu_rfix (c := fun r => s_ent 9 (kX12_write_0 r)) rfl ls st M
set_option maxRecDepth 20000 in
theorem qX12_pairs (ls : pu_L) (st : List Value) (M : pu_M) : pu_r 339 ls st M = s_ent 9 (kX12_pairs_0 pu_r) ls st M := pu_rfix (c := fun r => s_ent 9 (kX12_pairs_0 r)) rfl ls st M
set_option maxRecDepth 20000 in
theorem qX12_twice (ls : pu_L) (st : List Value) (M : pu_M) : pu_r 340 ls st M = s_ent 6 (kX12_twice_0 pu_r) ls st M := pu_rfix (c := fun r => s_ent 6 (kX12_twice_0 r)) rfl ls st M
set_option maxRecDepth 20000 in
theorem qX12_pair (ls : pu_L) (st : List Value) (M : pu_M) : pu_r 341 ls st M = s_ent 3 (kX12_pair_0 pu_r) ls st M := pu_rfix (c := fun r => s_ent 3 (kX12_pair_0 r)) rfl ls st M
set_option maxRecDepth 20000 in
theorem qX12_isIn (ls : pu_L) (st : List Value) (M : pu_M) : pu_r 342 ls st M = s_ent 6 (kX12_isIn_0 pu_r) ls st M := pu_rfix (c := fun r => s_ent 6 (kX12_isIn_0 r)) rfl ls st M
set_option maxRecDepth 20000 in
theorem qX12_near (ls : pu_L) (st : List Value) (M : pu_M) : pu_r 343 ls st M = s_ent 11 (kX12_near_0 pu_r) ls st M := pu_rfix (c := fun r => s_ent 11 (kX12_near_0 r)) rfl ls st M
set_option maxRecDepth 20000 in
theorem qX12_stop (ls : pu_L) (st : List Value) (M : pu_M) : pu_r 344 ls st M = s_ent 3 (kX12_stop_0 pu_r) ls st M := pu_rfix (c := fun r => s_ent 3 (kX12_stop_0 r)) rfl ls st M
set_option maxRecDepth 20000 in
theorem qX12_walkKey (ls : pu_L) (st : List Value) (M : pu_M) : pu_r 345 ls st M = s_ent 3 (kX12_walkKey_0 pu_r) ls st M := pu_rfix (c := fun r => s_ent 3 (kX12_walkKey_0 r)) rfl ls st M
set_option maxRecDepth 20000 in
theorem qX12_isWalked (ls : pu_L) (st : List Value) (M : pu_M) : pu_r 346 ls st M = s_ent 3 (kX12_isWalked_0 pu_r) ls st M := pu_rfix (c := fun r => s_ent 3 (kX12_isWalked_0 r)) rfl ls st M
set_option maxRecDepth 20000 in
theorem qX12_comesTo (ls : pu_L) (st : List Value) (M : pu_M) : pu_r 347 ls st M = s_ent 2 (kX12_comesTo_0 pu_r) ls st M := pu_rfix (c := fun r => s_ent 2 (kX12_comesTo_0 r)) rfl ls st M
set_option maxRecDepth 20000 in
theorem qX12_comesToAll (ls : pu_L) (st : List Value) (M : pu_M) : pu_r 348 ls st M = s_ent 6 (kX12_comesToAll_0 pu_r) ls st M := pu_rfix (c := fun r => s_ent 6 (kX12_comesToAll_0 r)) rfl ls st M
set_option maxRecDepth 20000 in
theorem qX12_walk (ls : pu_L) (st : List Value) (M : pu_M) : pu_r 349 ls st M = s_ent 11 (kX12_walk_0 pu_r) ls st M := pu_rfix (c := fun r => s_ent 11 (kX12_walk_0 r)) rfl ls st M
set_option maxRecDepth 20000 in
theorem qX12_walked (ls : pu_L) (st : List Value) (M : pu_M) : pu_r 350 ls st M = s_ent 2 (kX12_walked_0 pu_r) ls st M := pu_rfix (c := fun r => s_ent 2 (kX12_walked_0 r)) rfl ls st M
set_option maxRecDepth 20000 in
theorem qX12_sort (ls : pu_L) (st : List Value) (M : pu_M) : pu_r 351 ls st M = s_ent 5 (kX12_sort_0 pu_r) ls st M := pu_rfix (c := fun r => s_ent 5 (kX12_sort_0 r)) rfl ls st M
set_option maxRecDepth 20000 in
theorem qX12_sorted (ls : pu_L) (st : List Value) (M : pu_M) : pu_r 352 ls st M = s_ent 3 (kX12_sorted_0 pu_r) ls st M := pu_rfix (c := fun r => s_ent 3 (kX12_sorted_0 r)) rfl ls st M
set_option maxRecDepth 20000 in
theorem qX12_listed (ls : pu_L) (st : List Value) (M : pu_M) : pu_r 353 ls st M = s_ent 4 (kX12_listed_0 pu_r) ls st M := pu_rfix (c := fun r => s_ent 4 (kX12_listed_0 r)) rfl ls st M
set_option maxRecDepth 20000 in
theorem qX12_list (ls : pu_L) (st : List Value) (M : pu_M) : pu_r 354 ls st M = s_ent 6 (kX12_list_0 pu_r) ls st M := pu_rfix (c := fun r => s_ent 6 (kX12_list_0 r)) rfl ls st M
set_option maxRecDepth 20000 in
theorem qX12_check (ls : pu_L) (st : List Value) (M : pu_M) : pu_r 355 ls st M = s_ent 8 (kX12_check_0 pu_r) ls st M := pu_rfix (c := fun r => s_ent 8 (kX12_check_0 r)) rfl ls st M
set_option maxRecDepth 20000 in
theorem qX12_count (ls : pu_L) (st : List Value) (M : pu_M) : pu_r 356 ls st M = s_ent 2 (kX12_count_0 pu_r) ls st M := pu_rfix (c := fun r => s_ent 2 (kX12_count_0 r)) rfl ls st M
set_option maxRecDepth 20000 in
theorem qJ7_fill_d0a16_6 (ls : pu_L) (st : List Value) (M : pu_M) : pu_r 357 ls st M = kJ7_fill_d0a16_6 pu_r ls st M := pu_rfix (c := kJ7_fill_d0a16_6) rfl ls st M
set_option maxRecDepth 20000 in
theorem qX7_readWord_4 (ls : pu_L) (st : List Value) (M : pu_M) : pu_r 358 ls st M = kX7_readWord_4 pu_r ls st M := pu_rfix (c := kX7_readWord_4) rfl ls st M
set_option maxRecDepth 20000 in
theorem qX7_readToEnd_7 (ls : pu_L) (st : List Value) (M : pu_M) : pu_r 359 ls st M = kX7_readToEnd_7 pu_r ls st M := pu_rfix (c := kX7_readToEnd_7) rfl ls st M
set_option maxRecDepth 20000 in
theorem qX8_indexOf_2 (ls : pu_L) (st : List Value) (M : pu_M) : pu_r 360 ls st M = kX8_indexOf_2 pu_r ls st M := pu_rfix (c := kX8_indexOf_2) rfl ls st M
set_option maxRecDepth 20000 in
theorem qX7_lengthen_2 (ls : pu_L) (st : List Value) (M : pu_M) : pu_r 361 ls st M = kX7_lengthen_2 pu_r ls st M := pu_rfix (c := kX7_lengthen_2) rfl ls st M
set_option maxRecDepth 20000 in
theorem qX3_areLike_3 (ls : pu_L) (st : List Value) (M : pu_M) : pu_r 362 ls st M = kX3_areLike_3 pu_r ls st M := pu_rfix (c := kX3_areLike_3) rfl ls st M
set_option maxRecDepth 20000 in
theorem qX10_townNamed_2 (ls : pu_L) (st : List Value) (M : pu_M) : pu_r 363 ls st M = kX10_townNamed_2 pu_r ls st M := pu_rfix (c := kX10_townNamed_2) rfl ls st M
set_option maxRecDepth 20000 in
theorem qX10_isWordOfTown_2 (ls : pu_L) (st : List Value) (M : pu_M) : pu_r 364 ls st M = kX10_isWordOfTown_2 pu_r ls st M := pu_rfix (c := kX10_isWordOfTown_2) rfl ls st M
set_option maxRecDepth 20000 in
theorem qX3_isWordOfName_2 (ls : pu_L) (st : List Value) (M : pu_M) : pu_r 365 ls st M = kX3_isWordOfName_2 pu_r ls st M := pu_rfix (c := kX3_isWordOfName_2) rfl ls st M
set_option maxRecDepth 20000 in
theorem qX6_wasJoined_2 (ls : pu_L) (st : List Value) (M : pu_M) : pu_r 366 ls st M = kX6_wasJoined_2 pu_r ls st M := pu_rfix (c := kX6_wasJoined_2) rfl ls st M
set_option maxRecDepth 20000 in
theorem qX6_latestOn_5 (ls : pu_L) (st : List Value) (M : pu_M) : pu_r 367 ls st M = kX6_latestOn_5 pu_r ls st M := pu_rfix (c := kX6_latestOn_5) rfl ls st M
set_option maxRecDepth 20000 in
theorem qX3_isHeldFrom_3 (ls : pu_L) (st : List Value) (M : pu_M) : pu_r 368 ls st M = kX3_isHeldFrom_3 pu_r ls st M := pu_rfix (c := kX3_isHeldFrom_3) rfl ls st M
set_option maxRecDepth 20000 in
theorem qX3_openOf_2 (ls : pu_L) (st : List Value) (M : pu_M) : pu_r 369 ls st M = kX3_openOf_2 pu_r ls st M := pu_rfix (c := kX3_openOf_2) rfl ls st M
set_option maxRecDepth 20000 in
theorem qX9_add_34 (ls : pu_L) (st : List Value) (M : pu_M) : pu_r 370 ls st M = kX9_add_34 pu_r ls st M := pu_rfix (c := kX9_add_34) rfl ls st M
set_option maxRecDepth 20000 in
theorem qX9_fill_32 (ls : pu_L) (st : List Value) (M : pu_M) : pu_r 371 ls st M = kX9_fill_32 pu_r ls st M := pu_rfix (c := kX9_fill_32) rfl ls st M
set_option maxRecDepth 20000 in
theorem qX9_lowAt_5 (ls : pu_L) (st : List Value) (M : pu_M) : pu_r 372 ls st M = kX9_lowAt_5 pu_r ls st M := pu_rfix (c := kX9_lowAt_5) rfl ls st M
set_option maxRecDepth 20000 in
theorem qX9_highAt_2 (ls : pu_L) (st : List Value) (M : pu_M) : pu_r 373 ls st M = kX9_highAt_2 pu_r ls st M := pu_rfix (c := kX9_highAt_2) rfl ls st M
set_option maxRecDepth 20000 in
theorem qX9_indexOf_2 (ls : pu_L) (st : List Value) (M : pu_M) : pu_r 374 ls st M = kX9_indexOf_2 pu_r ls st M := pu_rfix (c := kX9_indexOf_2) rfl ls st M
set_option maxRecDepth 20000 in
theorem qX9_fittingNumber_112 (ls : pu_L) (st : List Value) (M : pu_M) : pu_r 375 ls st M = kX9_fittingNumber_112 pu_r ls st M := pu_rfix (c := kX9_fittingNumber_112) rfl ls st M
set_option maxRecDepth 20000 in
theorem qX9_fittingNumber_127 (ls : pu_L) (st : List Value) (M : pu_M) : pu_r 376 ls st M = kX9_fittingNumber_127 pu_r ls st M := pu_rfix (c := kX9_fittingNumber_127) rfl ls st M
set_option maxRecDepth 20000 in
theorem qX9_hasDoorAt_2 (ls : pu_L) (st : List Value) (M : pu_M) : pu_r 377 ls st M = kX9_hasDoorAt_2 pu_r ls st M := pu_rfix (c := kX9_hasDoorAt_2) rfl ls st M
set_option maxRecDepth 20000 in
theorem qX2_hasOpenUnder_3 (ls : pu_L) (st : List Value) (M : pu_M) : pu_r 378 ls st M = kX2_hasOpenUnder_3 pu_r ls st M := pu_rfix (c := kX2_hasOpenUnder_3) rfl ls st M
set_option maxRecDepth 20000 in
theorem qX4_close_2 (ls : pu_L) (st : List Value) (M : pu_M) : pu_r 379 ls st M = kX4_close_2 pu_r ls st M := pu_rfix (c := kX4_close_2) rfl ls st M
set_option maxRecDepth 20000 in
theorem qX2_closeWithUnder_5 (ls : pu_L) (st : List Value) (M : pu_M) : pu_r 380 ls st M = kX2_closeWithUnder_5 pu_r ls st M := pu_rfix (c := kX2_closeWithUnder_5) rfl ls st M
set_option maxRecDepth 20000 in
theorem qX11_setFreshNumbers_5 (ls : pu_L) (st : List Value) (M : pu_M) : pu_r 381 ls st M = kX11_setFreshNumbers_5 pu_r ls st M := pu_rfix (c := kX11_setFreshNumbers_5) rfl ls st M
set_option maxRecDepth 20000 in
theorem qX11_isAboveAllBehind_2 (ls : pu_L) (st : List Value) (M : pu_M) : pu_r 382 ls st M = kX11_isAboveAllBehind_2 pu_r ls st M := pu_rfix (c := kX11_isAboveAllBehind_2) rfl ls st M
set_option maxRecDepth 20000 in
theorem qX11_areFreshRight_2 (ls : pu_L) (st : List Value) (M : pu_M) : pu_r 383 ls st M = kX11_areFreshRight_2 pu_r ls st M := pu_rfix (c := kX11_areFreshRight_2) rfl ls st M
set_option maxRecDepth 20000 in
theorem qX11_countFreshOthers_4 (ls : pu_L) (st : List Value) (M : pu_M) : pu_r 384 ls st M = kX11_countFreshOthers_4 pu_r ls st M := pu_rfix (c := kX11_countFreshOthers_4) rfl ls st M
set_option maxRecDepth 20000 in
theorem qX11_giveFreshNumbers_2 (ls : pu_L) (st : List Value) (M : pu_M) : pu_r 385 ls st M = kX11_giveFreshNumbers_2 pu_r ls st M := pu_rfix (c := kX11_giveFreshNumbers_2) rfl ls st M
set_option maxRecDepth 20000 in
theorem qX5_earliestOnTown_12 (ls : pu_L) (st : List Value) (M : pu_M) : pu_r 386 ls st M = kX5_earliestOnTown_12 pu_r ls st M := pu_rfix (c := kX5_earliestOnTown_12) rfl ls st M
set_option maxRecDepth 20000 in
theorem qX3_streetNamedLike_9 (ls : pu_L) (st : List Value) (M : pu_M) : pu_r 387 ls st M = kX3_streetNamedLike_9 pu_r ls st M := pu_rfix (c := kX3_streetNamedLike_9) rfl ls st M
set_option maxRecDepth 20000 in
theorem qX3_haveOneName_2 (ls : pu_L) (st : List Value) (M : pu_M) : pu_r 388 ls st M = kX3_haveOneName_2 pu_r ls st M := pu_rfix (c := kX3_haveOneName_2) rfl ls st M
set_option maxRecDepth 20000 in
theorem qX3_moveAll_9 (ls : pu_L) (st : List Value) (M : pu_M) : pu_r 389 ls st M = kX3_moveAll_9 pu_r ls st M := pu_rfix (c := kX3_moveAll_9) rfl ls st M
set_option maxRecDepth 20000 in
theorem qX11_keepRow_64 (ls : pu_L) (st : List Value) (M : pu_M) : pu_r 390 ls st M = kX11_keepRow_64 pu_r ls st M := pu_rfix (c := kX11_keepRow_64) rfl ls st M
set_option maxRecDepth 20000 in
theorem qX6_keptWithout_6 (ls : pu_L) (st : List Value) (M : pu_M) : pu_r 391 ls st M = kX6_keptWithout_6 pu_r ls st M := pu_rfix (c := kX6_keptWithout_6) rfl ls st M
set_option maxRecDepth 20000 in
theorem qX2_takeBack_22 (ls : pu_L) (st : List Value) (M : pu_M) : pu_r 392 ls st M = kX2_takeBack_22 pu_r ls st M := pu_rfix (c := kX2_takeBack_22) rfl ls st M
set_option maxRecDepth 20000 in
theorem qX4_holding_3 (ls : pu_L) (st : List Value) (M : pu_M) : pu_r 393 ls st M = kX4_holding_3 pu_r ls st M := pu_rfix (c := kX4_holding_3) rfl ls st M
set_option maxRecDepth 20000 in
theorem qX3_holding_3 (ls : pu_L) (st : List Value) (M : pu_M) : pu_r 394 ls st M = kX3_holding_3 pu_r ls st M := pu_rfix (c := kX3_holding_3) rfl ls st M
set_option maxRecDepth 20000 in
theorem qX0_putWord_7 (ls : pu_L) (st : List Value) (M : pu_M) : pu_r 395 ls st M = kX0_putWord_7 pu_r ls st M := pu_rfix (c := kX0_putWord_7) rfl ls st M
set_option maxRecDepth 20000 in
theorem qX0_putName_2 (ls : pu_L) (st : List Value) (M : pu_M) : pu_r 396 ls st M = kX0_putName_2 pu_r ls st M := pu_rfix (c := kX0_putName_2) rfl ls st M
set_option maxRecDepth 20000 in
theorem qX0_putDecimal_4 (ls : pu_L) (st : List Value) (M : pu_M) : pu_r 397 ls st M = kX0_putDecimal_4 pu_r ls st M := pu_rfix (c := kX0_putDecimal_4) rfl ls st M
set_option maxRecDepth 20000 in
theorem qX0_putText_2 (ls : pu_L) (st : List Value) (M : pu_M) : pu_r 398 ls st M = kX0_putText_2 pu_r ls st M := pu_rfix (c := kX0_putText_2) rfl ls st M
set_option maxRecDepth 20000 in
theorem qX7_readStreet_10 (ls : pu_L) (st : List Value) (M : pu_M) : pu_r 399 ls st M = kX7_readStreet_10 pu_r ls st M := pu_rfix (c := kX7_readStreet_10) rfl ls st M
set_option maxRecDepth 20000 in
theorem qX7_readDigits_4 (ls : pu_L) (st : List Value) (M : pu_M) : pu_r 400 ls st M = kX7_readDigits_4 pu_r ls st M := pu_rfix (c := kX7_readDigits_4) rfl ls st M
set_option maxRecDepth 20000 in
theorem qX7_readText_2 (ls : pu_L) (st : List Value) (M : pu_M) : pu_r 401 ls st M = kX7_readText_2 pu_r ls st M := pu_rfix (c := kX7_readText_2) rfl ls st M
set_option maxRecDepth 20000 in
theorem qX3_streetOn_3 (ls : pu_L) (st : List Value) (M : pu_M) : pu_r 402 ls st M = kX3_streetOn_3 pu_r ls st M := pu_rfix (c := kX3_streetOn_3) rfl ls st M
set_option maxRecDepth 20000 in
theorem qX9_unknownInGapOf_6 (ls : pu_L) (st : List Value) (M : pu_M) : pu_r 403 ls st M = kX9_unknownInGapOf_6 pu_r ls st M := pu_rfix (c := kX9_unknownInGapOf_6) rfl ls st M
set_option maxRecDepth 20000 in
theorem qX9_unknownInGapOf_32 (ls : pu_L) (st : List Value) (M : pu_M) : pu_r 404 ls st M = kX9_unknownInGapOf_32 pu_r ls st M := pu_rfix (c := kX9_unknownInGapOf_32) rfl ls st M
set_option maxRecDepth 20000 in
theorem qX11_toldOf_2 (ls : pu_L) (st : List Value) (M : pu_M) : pu_r 405 ls st M = kX11_toldOf_2 pu_r ls st M := pu_rfix (c := kX11_toldOf_2) rfl ls st M
set_option maxRecDepth 20000 in
theorem qX1_addFound_16 (ls : pu_L) (st : List Value) (M : pu_M) : pu_r 406 ls st M = kX1_addFound_16 pu_r ls st M := pu_rfix (c := kX1_addFound_16) rfl ls st M
set_option maxRecDepth 20000 in
theorem qX11_findLikely_2 (ls : pu_L) (st : List Value) (M : pu_M) : pu_r 407 ls st M = kX11_findLikely_2 pu_r ls st M := pu_rfix (c := kX11_findLikely_2) rfl ls st M
set_option maxRecDepth 20000 in
theorem qX11_seekOldAt_3 (ls : pu_L) (st : List Value) (M : pu_M) : pu_r 408 ls st M = kX11_seekOldAt_3 pu_r ls st M := pu_rfix (c := kX11_seekOldAt_3) rfl ls st M
set_option maxRecDepth 20000 in
theorem qX11_seekOldIn_54 (ls : pu_L) (st : List Value) (M : pu_M) : pu_r 409 ls st M = kX11_seekOldIn_54 pu_r ls st M := pu_rfix (c := kX11_seekOldIn_54) rfl ls st M
set_option maxRecDepth 20000 in
theorem qX11_seekOld_30 (ls : pu_L) (st : List Value) (M : pu_M) : pu_r 410 ls st M = kX11_seekOld_30 pu_r ls st M := pu_rfix (c := kX11_seekOld_30) rfl ls st M
set_option maxRecDepth 20000 in
theorem qX1_addPair_17 (ls : pu_L) (st : List Value) (M : pu_M) : pu_r 411 ls st M = kX1_addPair_17 pu_r ls st M := pu_rfix (c := kX1_addPair_17) rfl ls st M
set_option maxRecDepth 20000 in
theorem qX11_pairStreets_14 (ls : pu_L) (st : List Value) (M : pu_M) : pu_r 412 ls st M = kX11_pairStreets_14 pu_r ls st M := pu_rfix (c := kX11_pairStreets_14) rfl ls st M
set_option maxRecDepth 20000 in
theorem qX11_pairStreets_45 (ls : pu_L) (st : List Value) (M : pu_M) : pu_r 413 ls st M = kX11_pairStreets_45 pu_r ls st M := pu_rfix (c := kX11_pairStreets_45) rfl ls st M
set_option maxRecDepth 20000 in
theorem qX11_pairTowns_2 (ls : pu_L) (st : List Value) (M : pu_M) : pu_r 414 ls st M = kX11_pairTowns_2 pu_r ls st M := pu_rfix (c := kX11_pairTowns_2) rfl ls st M
set_option maxRecDepth 20000 in
theorem qX11_near_53 (ls : pu_L) (st : List Value) (M : pu_M) : pu_r 415 ls st M = kX11_near_53 pu_r ls st M := pu_rfix (c := kX11_near_53) rfl ls st M
set_option maxRecDepth 20000 in
theorem qX1_whenWalked_2 (ls : pu_L) (st : List Value) (M : pu_M) : pu_r 416 ls st M = kX1_whenWalked_2 pu_r ls st M := pu_rfix (c := kX1_whenWalked_2) rfl ls st M
set_option maxRecDepth 20000 in
theorem qX5_sinkWalked_10 (ls : pu_L) (st : List Value) (M : pu_M) : pu_r 417 ls st M = kX5_sinkWalked_10 pu_r ls st M := pu_rfix (c := kX5_sinkWalked_10) rfl ls st M
set_option maxRecDepth 20000 in
theorem qX11_walkUnder_14 (ls : pu_L) (st : List Value) (M : pu_M) : pu_r 418 ls st M = kX11_walkUnder_14 pu_r ls st M := pu_rfix (c := kX11_walkUnder_14) rfl ls st M
set_option maxRecDepth 20000 in
theorem qX11_walkView_2 (ls : pu_L) (st : List Value) (M : pu_M) : pu_r 419 ls st M = kX11_walkView_2 pu_r ls st M := pu_rfix (c := kX11_walkView_2) rfl ls st M
set_option maxRecDepth 20000 in
theorem qX11_walk_23 (ls : pu_L) (st : List Value) (M : pu_M) : pu_r 420 ls st M = kX11_walk_23 pu_r ls st M := pu_rfix (c := kX11_walk_23) rfl ls st M
set_option maxRecDepth 20000 in
theorem qX1_sortLettersOf_2 (ls : pu_L) (st : List Value) (M : pu_M) : pu_r 421 ls st M = kX1_sortLettersOf_2 pu_r ls st M := pu_rfix (c := kX1_sortLettersOf_2) rfl ls st M
set_option maxRecDepth 20000 in
theorem qX1_sortLetters_7 (ls : pu_L) (st : List Value) (M : pu_M) : pu_r 422 ls st M = kX1_sortLetters_7 pu_r ls st M := pu_rfix (c := kX1_sortLetters_7) rfl ls st M
set_option maxRecDepth 20000 in
theorem qX1_sortLetters_33 (ls : pu_L) (st : List Value) (M : pu_M) : pu_r 423 ls st M = kX1_sortLetters_33 pu_r ls st M := pu_rfix (c := kX1_sortLetters_33) rfl ls st M
set_option maxRecDepth 20000 in
theorem qJ7_fill_53178_5 (ls : pu_L) (st : List Value) (M : pu_M) : pu_r 424 ls st M = kJ7_fill_53178_5 pu_r ls st M := pu_rfix (c := kJ7_fill_53178_5) rfl ls st M
set_option maxRecDepth 20000 in
theorem qX5_setWholesOn_7 (ls : pu_L) (st : List Value) (M : pu_M) : pu_r 425 ls st M = kX5_setWholesOn_7 pu_r ls st M := pu_rfix (c := kX5_setWholesOn_7) rfl ls st M
set_option maxRecDepth 20000 in
theorem qX11_list_32 (ls : pu_L) (st : List Value) (M : pu_M) : pu_r 426 ls st M = kX11_list_32 pu_r ls st M := pu_rfix (c := kX11_list_32) rfl ls st M
set_option maxRecDepth 20000 in
theorem qX11_checkRecords_14 (ls : pu_L) (st : List Value) (M : pu_M) : pu_r 427 ls st M = kX11_checkRecords_14 pu_r ls st M := pu_rfix (c := kX11_checkRecords_14) rfl ls st M
set_option maxRecDepth 20000 in
theorem qX11_checkRecords_56 (ls : pu_L) (st : List Value) (M : pu_M) : pu_r 428 ls st M = kX11_checkRecords_56 pu_r ls st M := pu_rfix (c := kX11_checkRecords_56) rfl ls st M
set_option maxRecDepth 20000 in
theorem qX12_init_207 (ls : pu_L) (st : List Value) (M : pu_M) : pu_r 429 ls st M = kX12_init_207 pu_r ls st M := pu_rfix (c := kX12_init_207) rfl ls st M
set_option maxRecDepth 20000 in
theorem qX12_feed_18 (ls : pu_L) (st : List Value) (M : pu_M) : pu_r 430 ls st M = kX12_feed_18 pu_r ls st M := pu_rfix (c := kX12_feed_18) rfl ls st M
set_option maxRecDepth 20000 in
theorem qX12_take_10 (ls : pu_L) (st : List Value) (M : pu_M) : pu_r 431 ls st M = kX12_take_10 pu_r ls st M := pu_rfix (c := kX12_take_10) rfl ls st M
set_option maxRecDepth 20000 in
theorem qX12_takes_10 (ls : pu_L) (st : List Value) (M : pu_M) : pu_r 432 ls st M = kX12_takes_10 pu_r ls st M := pu_rfix (c := kX12_takes_10) rfl ls st M
set_option maxRecDepth 20000 in
theorem qX12_lengthen_2 (ls : pu_L) (st : List Value) (M : pu_M) : pu_r 433 ls st M = kX12_lengthen_2 pu_r ls st M := pu_rfix (c := kX12_lengthen_2) rfl ls st M
set_option maxRecDepth 20000 in
theorem qX12_lengthen_19 (ls : pu_L) (st : List Value) (M : pu_M) : pu_r 434 ls st M = kX12_lengthen_19 pu_r ls st M := pu_rfix (c := kX12_lengthen_19) rfl ls st M
set_option maxRecDepth 20000 in
theorem qX12_lengthen_83 (ls : pu_L) (st : List Value) (M : pu_M) : pu_r 435 ls st M = kX12_lengthen_83 pu_r ls st M := pu_rfix (c := kX12_lengthen_83) rfl ls st M
set_option maxRecDepth 20000 in
theorem qX12_reads_2 (ls : pu_L) (st : List Value) (M : pu_M) : pu_r 436 ls st M = kX12_reads_2 pu_r ls st M := pu_rfix (c := kX12_reads_2) rfl ls st M
set_option maxRecDepth 20000 in
theorem qX12_reads_29 (ls : pu_L) (st : List Value) (M : pu_M) : pu_r 437 ls st M = kX12_reads_29 pu_r ls st M := pu_rfix (c := kX12_reads_29) rfl ls st M
set_option maxRecDepth 20000 in
theorem qX12_readsName_17 (ls : pu_L) (st : List Value) (M : pu_M) : pu_r 438 ls st M = kX12_readsName_17 pu_r ls st M := pu_rfix (c := kX12_readsName_17) rfl ls st M
set_option maxRecDepth 20000 in
theorem qX12_isName_5 (ls : pu_L) (st : List Value) (M : pu_M) : pu_r 439 ls st M = kX12_isName_5 pu_r ls st M := pu_rfix (c := kX12_isName_5) rfl ls st M
set_option maxRecDepth 20000 in
theorem qX12_areAlike_5 (ls : pu_L) (st : List Value) (M : pu_M) : pu_r 440 ls st M = kX12_areAlike_5 pu_r ls st M := pu_rfix (c := kX12_areAlike_5) rfl ls st M
set_option maxRecDepth 20000 in
theorem qX12_keepName_2 (ls : pu_L) (st : List Value) (M : pu_M) : pu_r 441 ls st M = kX12_keepName_2 pu_r ls st M := pu_rfix (c := kX12_keepName_2) rfl ls st M
set_option maxRecDepth 20000 in
theorem qX12_town_12 (ls : pu_L) (st : List Value) (M : pu_M) : pu_r 442 ls st M = kX12_town_12 pu_r ls st M := pu_rfix (c := kX12_town_12) rfl ls st M
set_option maxRecDepth 20000 in
theorem qX12_isWordOf_2 (ls : pu_L) (st : List Value) (M : pu_M) : pu_r 443 ls st M = kX12_isWordOf_2 pu_r ls st M := pu_rfix (c := kX12_isWordOf_2) rfl ls st M
set_option maxRecDepth 20000 in
theorem qX12_isWordOf_12 (ls : pu_L) (st : List Value) (M : pu_M) : pu_r 444 ls st M = kX12_isWordOf_12 pu_r ls st M := pu_rfix (c := kX12_isWordOf_12) rfl ls st M
set_option maxRecDepth 20000 in
theorem qX12_shorten_18 (ls : pu_L) (st : List Value) (M : pu_M) : pu_r 445 ls st M = kX12_shorten_18 pu_r ls st M := pu_rfix (c := kX12_shorten_18) rfl ls st M
set_option maxRecDepth 20000 in
theorem qX12_shorten_47 (ls : pu_L) (st : List Value) (M : pu_M) : pu_r 446 ls st M = kX12_shorten_47 pu_r ls st M := pu_rfix (c := kX12_shorten_47) rfl ls st M
set_option maxRecDepth 20000 in
theorem qX12_shorten_92 (ls : pu_L) (st : List Value) (M : pu_M) : pu_r 447 ls st M = kX12_shorten_92 pu_r ls st M := pu_rfix (c := kX12_shorten_92) rfl ls st M
set_option maxRecDepth 20000 in
theorem qX12_shorten_111 (ls : pu_L) (st : List Value) (M : pu_M) : pu_r 448 ls st M = kX12_shorten_111 pu_r ls st M := pu_rfix (c := kX12_shorten_111) rfl ls st M
set_option maxRecDepth 20000 in
theorem qX12_shorten_178 (ls : pu_L) (st : List Value) (M : pu_M) : pu_r 449 ls st M = kX12_shorten_178 pu_r ls st M := pu_rfix (c := kX12_shorten_178) rfl ls st M
set_option maxRecDepth 20000 in
theorem qX12_openName_4 (ls : pu_L) (st : List Value) (M : pu_M) : pu_r 450 ls st M = kX12_openName_4 pu_r ls st M := pu_rfix (c := kX12_openName_4) rfl ls st M
set_option maxRecDepth 20000 in
theorem qX12_latest_5 (ls : pu_L) (st : List Value) (M : pu_M) : pu_r 451 ls st M = kX12_latest_5 pu_r ls st M := pu_rfix (c := kX12_latest_5) rfl ls st M
set_option maxRecDepth 20000 in
theorem qX12_isTaken_2 (ls : pu_L) (st : List Value) (M : pu_M) : pu_r 452 ls st M = kX12_isTaken_2 pu_r ls st M := pu_rfix (c := kX12_isTaken_2) rfl ls st M
set_option maxRecDepth 20000 in
theorem qX12_join_97 (ls : pu_L) (st : List Value) (M : pu_M) : pu_r 453 ls st M = kX12_join_97 pu_r ls st M := pu_rfix (c := kX12_join_97) rfl ls st M
set_option maxRecDepth 20000 in
theorem qX12_join_169 (ls : pu_L) (st : List Value) (M : pu_M) : pu_r 454 ls st M = kX12_join_169 pu_r ls st M := pu_rfix (c := kX12_join_169) rfl ls st M
set_option maxRecDepth 20000 in
theorem qX12_join_316 (ls : pu_L) (st : List Value) (M : pu_M) : pu_r 455 ls st M = kX12_join_316 pu_r ls st M := pu_rfix (c := kX12_join_316) rfl ls st M
set_option maxRecDepth 20000 in
theorem qX12_front_2 (ls : pu_L) (st : List Value) (M : pu_M) : pu_r 456 ls st M = kX12_front_2 pu_r ls st M := pu_rfix (c := kX12_front_2) rfl ls st M
set_option maxRecDepth 20000 in
theorem qX12_openSpan_10 (ls : pu_L) (st : List Value) (M : pu_M) : pu_r 457 ls st M = kX12_openSpan_10 pu_r ls st M := pu_rfix (c := kX12_openSpan_10) rfl ls st M
set_option maxRecDepth 20000 in
theorem qX12_bounds_42 (ls : pu_L) (st : List Value) (M : pu_M) : pu_r 458 ls st M = kX12_bounds_42 pu_r ls st M := pu_rfix (c := kX12_bounds_42) rfl ls st M
set_option maxRecDepth 20000 in
theorem qX12_bounds_56 (ls : pu_L) (st : List Value) (M : pu_M) : pu_r 459 ls st M = kX12_bounds_56 pu_r ls st M := pu_rfix (c := kX12_bounds_56) rfl ls st M
set_option maxRecDepth 20000 in
theorem qX12_isUsed_2 (ls : pu_L) (st : List Value) (M : pu_M) : pu_r 460 ls st M = kX12_isUsed_2 pu_r ls st M := pu_rfix (c := kX12_isUsed_2) rfl ls st M
set_option maxRecDepth 20000 in
theorem qX12_isUsed_15 (ls : pu_L) (st : List Value) (M : pu_M) : pu_r 461 ls st M = kX12_isUsed_15 pu_r ls st M := pu_rfix (c := kX12_isUsed_15) rfl ls st M
set_option maxRecDepth 20000 in
theorem qX12_least_34 (ls : pu_L) (st : List Value) (M : pu_M) : pu_r 462 ls st M = kX12_least_34 pu_r ls st M := pu_rfix (c := kX12_least_34) rfl ls st M
set_option maxRecDepth 20000 in
theorem qX12_least_50 (ls : pu_L) (st : List Value) (M : pu_M) : pu_r 463 ls st M = kX12_least_50 pu_r ls st M := pu_rfix (c := kX12_least_50) rfl ls st M
set_option maxRecDepth 20000 in
theorem qX12_isOccupied_3 (ls : pu_L) (st : List Value) (M : pu_M) : pu_r 464 ls st M = kX12_isOccupied_3 pu_r ls st M := pu_rfix (c := kX12_isOccupied_3) rfl ls st M
set_option maxRecDepth 20000 in
theorem qX12_isOccupied_17 (ls : pu_L) (st : List Value) (M : pu_M) : pu_r 465 ls st M = kX12_isOccupied_17 pu_r ls st M := pu_rfix (c := kX12_isOccupied_17) rfl ls st M
set_option maxRecDepth 20000 in
theorem qX12_underneath_3 (ls : pu_L) (st : List Value) (M : pu_M) : pu_r 466 ls st M = kX12_underneath_3 pu_r ls st M := pu_rfix (c := kX12_underneath_3) rfl ls st M
set_option maxRecDepth 20000 in
theorem qX12_isUnder_2 (ls : pu_L) (st : List Value) (M : pu_M) : pu_r 467 ls st M = kX12_isUnder_2 pu_r ls st M := pu_rfix (c := kX12_isUnder_2) rfl ls st M
set_option maxRecDepth 20000 in
theorem qX12_gone_67 (ls : pu_L) (st : List Value) (M : pu_M) : pu_r 468 ls st M = kX12_gone_67 pu_r ls st M := pu_rfix (c := kX12_gone_67) rfl ls st M
set_option maxRecDepth 20000 in
theorem qX12_gone_125 (ls : pu_L) (st : List Value) (M : pu_M) : pu_r 469 ls st M = kX12_gone_125 pu_r ls st M := pu_rfix (c := kX12_gone_125) rfl ls st M
set_option maxRecDepth 20000 in
theorem qX12_orders_7 (ls : pu_L) (st : List Value) (M : pu_M) : pu_r 470 ls st M = kX12_orders_7 pu_r ls st M := pu_rfix (c := kX12_orders_7) rfl ls st M
set_option maxRecDepth 20000 in
theorem qX12_orders_20 (ls : pu_L) (st : List Value) (M : pu_M) : pu_r 471 ls st M = kX12_orders_20 pu_r ls st M := pu_rfix (c := kX12_orders_20) rfl ls st M
set_option maxRecDepth 20000 in
theorem qX12_orders_64 (ls : pu_L) (st : List Value) (M : pu_M) : pu_r 472 ls st M = kX12_orders_64 pu_r ls st M := pu_rfix (c := kX12_orders_64) rfl ls st M
set_option maxRecDepth 20000 in
theorem qX12_isRising_2 (ls : pu_L) (st : List Value) (M : pu_M) : pu_r 473 ls st M = kX12_isRising_2 pu_r ls st M := pu_rfix (c := kX12_isRising_2) rfl ls st M
set_option maxRecDepth 20000 in
theorem qX12_isRising_12 (ls : pu_L) (st : List Value) (M : pu_M) : pu_r 474 ls st M = kX12_isRising_12 pu_r ls st M := pu_rfix (c := kX12_isRising_12) rfl ls st M
set_option maxRecDepth 20000 in
theorem qX12_gets_22 (ls : pu_L) (st : List Value) (M : pu_M) : pu_r 475 ls st M = kX12_gets_22 pu_r ls st M := pu_rfix (c := kX12_gets_22) rfl ls st M
set_option maxRecDepth 20000 in
theorem qX12_renumber_59 (ls : pu_L) (st : List Value) (M : pu_M) : pu_r 476 ls st M = kX12_renumber_59 pu_r ls st M := pu_rfix (c := kX12_renumber_59) rfl ls st M
set_option maxRecDepth 20000 in
theorem qX12_renumber_199 (ls : pu_L) (st : List Value) (M : pu_M) : pu_r 477 ls st M = kX12_renumber_199 pu_r ls st M := pu_rfix (c := kX12_renumber_199) rfl ls st M
set_option maxRecDepth 20000 in
theorem qX12_row_65 (ls : pu_L) (st : List Value) (M : pu_M) : pu_r 478 ls st M = kX12_row_65 pu_r ls st M := pu_rfix (c := kX12_row_65) rfl ls st M
set_option maxRecDepth 20000 in
theorem qX12_unmade_66 (ls : pu_L) (st : List Value) (M : pu_M) : pu_r 479 ls st M = kX12_unmade_66 pu_r ls st M := pu_rfix (c := kX12_unmade_66) rfl ls st M
set_option maxRecDepth 20000 in
theorem qX12_undo_29 (ls : pu_L) (st : List Value) (M : pu_M) : pu_r 480 ls st M = kX12_undo_29 pu_r ls st M := pu_rfix (c := kX12_undo_29) rfl ls st M
set_option maxRecDepth 20000 in
theorem qX12_undo_82 (ls : pu_L) (st : List Value) (M : pu_M) : pu_r 481 ls st M = kX12_undo_82 pu_r ls st M := pu_rfix (c := kX12_undo_82) rfl ls st M
set_option maxRecDepth 20000 in
theorem qX12_undo_134 (ls : pu_L) (st : List Value) (M : pu_M) : pu_r 482 ls st M = kX12_undo_134 pu_r ls st M := pu_rfix (c := kX12_undo_134) rfl ls st M
set_option maxRecDepth 20000 in
theorem qX12_undo_186 (ls : pu_L) (st : List Value) (M : pu_M) : pu_r 483 ls st M = kX12_undo_186 pu_r ls st M := pu_rfix (c := kX12_undo_186) rfl ls st M
set_option maxRecDepth 20000 in
theorem qX12_undo_236 (ls : pu_L) (st : List Value) (M : pu_M) : pu_r 484 ls st M = kX12_undo_236 pu_r ls st M := pu_rfix (c := kX12_undo_236) rfl ls st M
set_option maxRecDepth 20000 in
theorem qX12_undo_278 (ls : pu_L) (st : List Value) (M : pu_M) : pu_r 485 ls st M = kX12_undo_278 pu_r ls st M := pu_rfix (c := kX12_undo_278) rfl ls st M
set_option maxRecDepth 20000 in
theorem qX12_undo_302 (ls : pu_L) (st : List Value) (M : pu_M) : pu_r 486 ls st M = kX12_undo_302 pu_r ls st M := pu_rfix (c := kX12_undo_302) rfl ls st M
set_option maxRecDepth 20000 in
theorem qX12_undo_382 (ls : pu_L) (st : List Value) (M : pu_M) : pu_r 487 ls st M = kX12_undo_382 pu_r ls st M := pu_rfix (c := kX12_undo_382) rfl ls st M
set_option maxRecDepth 20000 in
theorem qX12_image_13 (ls : pu_L) (st : List Value) (M : pu_M) : pu_r 488 ls st M = kX12_image_13 pu_r ls st M := pu_rfix (c := kX12_image_13) rfl ls st M
set_option maxRecDepth 20000 in
theorem qX12_back_22 (ls : pu_L) (st : List Value) (M : pu_M) : pu_r 489 ls st M = kX12_back_22 pu_r ls st M := pu_rfix (c := kX12_back_22) rfl ls st M
set_option maxRecDepth 20000 in
theorem qX12_word_2 (ls : pu_L) (st : List Value) (M : pu_M) : pu_r 490 ls st M = kX12_word_2 pu_r ls st M := pu_rfix (c := kX12_word_2) rfl ls st M
set_option maxRecDepth 20000 in
theorem qX12_streetPart_2 (ls : pu_L) (st : List Value) (M : pu_M) : pu_r 491 ls st M = kX12_streetPart_2 pu_r ls st M := pu_rfix (c := kX12_streetPart_2) rfl ls st M
set_option maxRecDepth 20000 in
theorem qX12_numberPart_4 (ls : pu_L) (st : List Value) (M : pu_M) : pu_r 492 ls st M = kX12_numberPart_4 pu_r ls st M := pu_rfix (c := kX12_numberPart_4) rfl ls st M
set_option maxRecDepth 20000 in
theorem qX12_townPart_2 (ls : pu_L) (st : List Value) (M : pu_M) : pu_r 493 ls st M = kX12_townPart_2 pu_r ls st M := pu_rfix (c := kX12_townPart_2) rfl ls st M
set_option maxRecDepth 20000 in
theorem qX12_readsAddress_19 (ls : pu_L) (st : List Value) (M : pu_M) : pu_r 494 ls st M = kX12_readsAddress_19 pu_r ls st M := pu_rfix (c := kX12_readsAddress_19) rfl ls st M
set_option maxRecDepth 20000 in
theorem qX12_readsAddress_95 (ls : pu_L) (st : List Value) (M : pu_M) : pu_r 495 ls st M = kX12_readsAddress_95 pu_r ls st M := pu_rfix (c := kX12_readsAddress_95) rfl ls st M
set_option maxRecDepth 20000 in
theorem qX12_streetOn_2 (ls : pu_L) (st : List Value) (M : pu_M) : pu_r 496 ls st M = kX12_streetOn_2 pu_r ls st M := pu_rfix (c := kX12_streetOn_2) rfl ls st M
set_option maxRecDepth 20000 in
theorem qX12_withExtra_11 (ls : pu_L) (st : List Value) (M : pu_M) : pu_r 497 ls st M = kX12_withExtra_11 pu_r ls st M := pu_rfix (c := kX12_withExtra_11) rfl ls st M
set_option maxRecDepth 20000 in
theorem qX12_sure_20 (ls : pu_L) (st : List Value) (M : pu_M) : pu_r 498 ls st M = kX12_sure_20 pu_r ls st M := pu_rfix (c := kX12_sure_20) rfl ls st M
set_option maxRecDepth 20000 in
theorem qX12_mayHave_73 (ls : pu_L) (st : List Value) (M : pu_M) : pu_r 499 ls st M = kX12_mayHave_73 pu_r ls st M := pu_rfix (c := kX12_mayHave_73) rfl ls st M
set_option maxRecDepth 20000 in
theorem qX12_mayHave_215 (ls : pu_L) (st : List Value) (M : pu_M) : pu_r 500 ls st M = kX12_mayHave_215 pu_r ls st M := pu_rfix (c := kX12_mayHave_215) rfl ls st M
set_option maxRecDepth 20000 in
theorem qX12_likelyOn_5 (ls : pu_L) (st : List Value) (M : pu_M) : pu_r 501 ls st M = kX12_likelyOn_5 pu_r ls st M := pu_rfix (c := kX12_likelyOn_5) rfl ls st M
set_option maxRecDepth 20000 in
theorem qX12_likelyOn_82 (ls : pu_L) (st : List Value) (M : pu_M) : pu_r 502 ls st M = kX12_likelyOn_82 pu_r ls st M := pu_rfix (c := kX12_likelyOn_82) rfl ls st M
set_option maxRecDepth 20000 in
theorem qX12_means_99 (ls : pu_L) (st : List Value) (M : pu_M) : pu_r 503 ls st M = kX12_means_99 pu_r ls st M := pu_rfix (c := kX12_means_99) rfl ls st M
set_option maxRecDepth 20000 in
theorem qX12_call_32 (ls : pu_L) (st : List Value) (M : pu_M) : pu_r 504 ls st M = kX12_call_32 pu_r ls st M := pu_rfix (c := kX12_call_32) rfl ls st M
set_option maxRecDepth 20000 in
theorem qX12_call_52 (ls : pu_L) (st : List Value) (M : pu_M) : pu_r 505 ls st M = kX12_call_52 pu_r ls st M := pu_rfix (c := kX12_call_52) rfl ls st M
set_option maxRecDepth 20000 in
theorem qX12_spanOn_27 (ls : pu_L) (st : List Value) (M : pu_M) : pu_r 506 ls st M = kX12_spanOn_27 pu_r ls st M := pu_rfix (c := kX12_spanOn_27) rfl ls st M
set_option maxRecDepth 20000 in
theorem qX12_putName_2 (ls : pu_L) (st : List Value) (M : pu_M) : pu_r 507 ls st M = kX12_putName_2 pu_r ls st M := pu_rfix (c := kX12_putName_2) rfl ls st M
set_option maxRecDepth 20000 in
theorem qX12_putName_45 (ls : pu_L) (st : List Value) (M : pu_M) : pu_r 508 ls st M = kX12_putName_45 pu_r ls st M := pu_rfix (c := kX12_putName_45) rfl ls st M
set_option maxRecDepth 20000 in
theorem qX12_putNumber_4 (ls : pu_L) (st : List Value) (M : pu_M) : pu_r 509 ls st M = kX12_putNumber_4 pu_r ls st M := pu_rfix (c := kX12_putNumber_4) rfl ls st M
set_option maxRecDepth 20000 in
theorem qX12_putNumber_22 (ls : pu_L) (st : List Value) (M : pu_M) : pu_r 510 ls st M = kX12_putNumber_22 pu_r ls st M := pu_rfix (c := kX12_putNumber_22) rfl ls st M
set_option maxRecDepth 20000 in
theorem qX12_write_69 (ls : pu_L) (st : List Value) (M : pu_M) : pu_r 511 ls st M = kX12_write_69 pu_r ls st M := pu_rfix (c := kX12_write_69) rfl ls st M
set_option maxRecDepth 20000 in
theorem qX12_pairs_2 (ls : pu_L) (st : List Value) (M : pu_M) : pu_r 512 ls st M = kX12_pairs_2 pu_r ls st M := pu_rfix (c := kX12_pairs_2) rfl ls st M
set_option maxRecDepth 20000 in
theorem qX12_pairs_18 (ls : pu_L) (st : List Value) (M : pu_M) : pu_r 513 ls st M = kX12_pairs_18 pu_r ls st M := pu_rfix (c := kX12_pairs_18) rfl ls st M
set_option maxRecDepth 20000 in
theorem qX12_pairs_32 (ls : pu_L) (st : List Value) (M : pu_M) : pu_r 514 ls st M = kX12_pairs_32 pu_r ls st M := pu_rfix (c := kX12_pairs_32) rfl ls st M
set_option maxRecDepth 20000 in
theorem qX12_pairs_134 (ls : pu_L) (st : List Value) (M : pu_M) : pu_r 515 ls st M = kX12_pairs_134 pu_r ls st M := pu_rfix (c := kX12_pairs_134) rfl ls st M
set_option maxRecDepth 20000 in
theorem qX12_pairs_148 (ls : pu_L) (st : List Value) (M : pu_M) : pu_r 516 ls st M = kX12_pairs_148 pu_r ls st M := pu_rfix (c := kX12_pairs_148) rfl ls st M
set_option maxRecDepth 20000 in
theorem qX12_twice_90 (ls : pu_L) (st : List Value) (M : pu_M) : pu_r 517 ls st M = kX12_twice_90 pu_r ls st M := pu_rfix (c := kX12_twice_90) rfl ls st M
set_option maxRecDepth 20000 in
theorem qX12_twice_104 (ls : pu_L) (st : List Value) (M : pu_M) : pu_r 518 ls st M = kX12_twice_104 pu_r ls st M := pu_rfix (c := kX12_twice_104) rfl ls st M
set_option maxRecDepth 20000 in
theorem qX12_near_35 (ls : pu_L) (st : List Value) (M : pu_M) : pu_r 519 ls st M = kX12_near_35 pu_r ls st M := pu_rfix (c := kX12_near_35) rfl ls st M
set_option maxRecDepth 20000 in
theorem qX12_near_49 (ls : pu_L) (st : List Value) (M : pu_M) : pu_r 520 ls st M = kX12_near_49 pu_r ls st M := pu_rfix (c := kX12_near_49) rfl ls st M
set_option maxRecDepth 20000 in
theorem qX12_isWalked_2 (ls : pu_L) (st : List Value) (M : pu_M) : pu_r 521 ls st M = kX12_isWalked_2 pu_r ls st M := pu_rfix (c := kX12_isWalked_2) rfl ls st M
set_option maxRecDepth 20000 in
theorem qX12_comesToAll_7 (ls : pu_L) (st : List Value) (M : pu_M) : pu_r 522 ls st M = kX12_comesToAll_7 pu_r ls st M := pu_rfix (c := kX12_comesToAll_7) rfl ls st M
set_option maxRecDepth 20000 in
theorem qX12_comesToAll_15 (ls : pu_L) (st : List Value) (M : pu_M) : pu_r 523 ls st M = kX12_comesToAll_15 pu_r ls st M := pu_rfix (c := kX12_comesToAll_15) rfl ls st M
set_option maxRecDepth 20000 in
theorem qX12_comesToAll_25 (ls : pu_L) (st : List Value) (M : pu_M) : pu_r 524 ls st M = kX12_comesToAll_25 pu_r ls st M := pu_rfix (c := kX12_comesToAll_25) rfl ls st M
set_option maxRecDepth 20000 in
theorem qX12_walk_28 (ls : pu_L) (st : List Value) (M : pu_M) : pu_r 525 ls st M = kX12_walk_28 pu_r ls st M := pu_rfix (c := kX12_walk_28) rfl ls st M
set_option maxRecDepth 20000 in
theorem qX12_walk_75 (ls : pu_L) (st : List Value) (M : pu_M) : pu_r 526 ls st M = kX12_walk_75 pu_r ls st M := pu_rfix (c := kX12_walk_75) rfl ls st M
set_option maxRecDepth 20000 in
theorem qX12_walk_89 (ls : pu_L) (st : List Value) (M : pu_M) : pu_r 527 ls st M = kX12_walk_89 pu_r ls st M := pu_rfix (c := kX12_walk_89) rfl ls st M
set_option maxRecDepth 20000 in
theorem qX12_walk_103 (ls : pu_L) (st : List Value) (M : pu_M) : pu_r 528 ls st M = kX12_walk_103 pu_r ls st M := pu_rfix (c := kX12_walk_103) rfl ls st M
set_option maxRecDepth 20000 in
theorem qX12_sort_12 (ls : pu_L) (st : List Value) (M : pu_M) : pu_r 529 ls st M = kX12_sort_12 pu_r ls st M := pu_rfix (c := kX12_sort_12) rfl ls st M
set_option maxRecDepth 20000 in
theorem qX12_sort_26 (ls : pu_L) (st : List Value) (M : pu_M) : pu_r 530 ls st M = kX12_sort_26 pu_r ls st M := pu_rfix (c := kX12_sort_26) rfl ls st M
set_option maxRecDepth 20000 in
theorem qX12_sort_115 (ls : pu_L) (st : List Value) (M : pu_M) : pu_r 531 ls st M = kX12_sort_115 pu_r ls st M := pu_rfix (c := kX12_sort_115) rfl ls st M
set_option maxRecDepth 20000 in
theorem qX12_list_17 (ls : pu_L) (st : List Value) (M : pu_M) : pu_r 532 ls st M = kX12_list_17 pu_r ls st M := pu_rfix (c := kX12_list_17) rfl ls st M
set_option maxRecDepth 20000 in
theorem qX12_list_29 (ls : pu_L) (st : List Value) (M : pu_M) : pu_r 533 ls st M = kX12_list_29 pu_r ls st M := pu_rfix (c := kX12_list_29) rfl ls st M
set_option maxRecDepth 20000 in
theorem qX12_check_16 (ls : pu_L) (st : List Value) (M : pu_M) : pu_r 534 ls st M = kX12_check_16 pu_r ls st M := pu_rfix (c := kX12_check_16) rfl ls st M
set_option maxRecDepth 20000 in
theorem qX12_check_38 (ls : pu_L) (st : List Value) (M : pu_M) : pu_r 535 ls st M = kX12_check_38 pu_r ls st M := pu_rfix (c := kX12_check_38) rfl ls st M
set_option maxRecDepth 20000 in
theorem qX12_check_235 (ls : pu_L) (st : List Value) (M : pu_M) : pu_r 536 ls st M = kX12_check_235 pu_r ls st M := pu_rfix (c := kX12_check_235) rfl ls st M
set_option maxRecDepth 20000 in
theorem qX12_check_247 (ls : pu_L) (st : List Value) (M : pu_M) : pu_r 537 ls st M = kX12_check_247 pu_r ls st M := pu_rfix (c := kX12_check_247) rfl ls st M
