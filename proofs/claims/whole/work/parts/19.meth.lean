set_option maxRecDepth 20000 in
theorem hjX0_init : pu_tab[0]? = some mdX0_init := rfl
theorem mwX0_init : pu_mw mdX0_init 0 := ⟨wm2_12, wm1_14, by decide +kernel⟩
set_option maxRecDepth 20000 in
theorem hjX6_init : pu_tab[1]? = some mdX6_init := rfl
theorem mwX6_init : pu_mw mdX6_init 0 := ⟨wm3_23, wm2_20, by decide +kernel⟩
set_option maxRecDepth 20000 in
theorem hjX4_init : pu_tab[2]? = some mdX4_init := rfl
theorem mwX4_init : pu_mw mdX4_init 0 := ⟨wm4_10, wm3_0, by decide +kernel⟩
set_option maxRecDepth 20000 in
theorem hjX3_init : pu_tab[3]? = some mdX3_init := rfl
theorem mwX3_init : pu_mw mdX3_init 0 := ⟨wm4_17, wm3_4, by decide +kernel⟩
set_option maxRecDepth 20000 in
theorem hjX10_init : pu_tab[4]? = some mdX10_init := rfl
theorem mwX10_init : pu_mw mdX10_init 0 := ⟨wm5_2, wm3_8, by decide +kernel⟩
set_option maxRecDepth 20000 in
theorem hjX2_init : pu_tab[5]? = some mdX2_init := rfl
theorem mwX2_init : pu_mw mdX2_init 0 := ⟨wm5_10, wm3_12, by decide +kernel⟩
set_option maxRecDepth 20000 in
theorem hjX8_init : pu_tab[6]? = some mdX8_init := rfl
theorem mwX8_init : pu_mw mdX8_init 0 := ⟨wm5_23, wm3_16, by decide +kernel⟩
set_option maxRecDepth 20000 in
theorem hjX1_init : pu_tab[7]? = some mdX1_init := rfl
theorem mwX1_init : pu_mw mdX1_init 0 := ⟨wm6_4, wm3_20, by decide +kernel⟩
set_option maxRecDepth 20000 in
theorem hjX5_init : pu_tab[8]? = some mdX5_init := rfl
theorem mwX5_init : pu_mw mdX5_init 0 := ⟨wm2_16, wm1_19, by decide +kernel⟩
set_option maxRecDepth 20000 in
theorem hjX7_init : pu_tab[9]? = some mdX7_init := rfl
theorem mwX7_init : pu_mw mdX7_init 0 := ⟨wm6_21, wm2_0, by decide +kernel⟩
set_option maxRecDepth 20000 in
theorem hjX9_init : pu_tab[10]? = some mdX9_init := rfl
theorem mwX9_init : pu_mw mdX9_init 0 := ⟨wm7_3, wm2_4, by decide +kernel⟩
set_option maxRecDepth 20000 in
theorem hjX11_init : pu_tab[11]? = some mdX11_init := rfl
theorem mwX11_init : pu_mw mdX11_init 0 := ⟨wm1_8, wm1_2, by decide +kernel⟩
set_option maxRecDepth 20000 in
theorem hjX0_put : pu_tab[12]? = some mdX0_put := rfl
theorem mwX0_put : pu_mw mdX0_put 1 := ⟨wm9_9, wm1_14, by decide +kernel⟩
set_option maxRecDepth 20000 in
theorem hjX0_putFour : pu_tab[13]? = some mdX0_putFour := rfl
theorem mwX0_putFour : pu_mw mdX0_putFour 1 := ⟨wm9_5, wm1_14, by decide +kernel⟩
set_option maxRecDepth 20000 in
theorem hjX11_feed : pu_tab[14]? = some mdX11_feed := rfl
theorem mwX11_feed : pu_mw mdX11_feed 5 := ⟨wm9_0, wm1_2, by decide +kernel⟩
set_option maxRecDepth 20000 in
theorem hjX11_end : pu_tab[15]? = some mdX11_end := rfl
theorem mwX11_end : pu_mw mdX11_end 1 := ⟨wm9_18, wm1_2, by decide +kernel⟩
set_option maxRecDepth 20000 in
theorem hjX0_copyFrom : pu_tab[16]? = some mdX0_copyFrom := rfl
theorem mwX0_copyFrom : pu_mw mdX0_copyFrom 1 := ⟨wm10_6, wm1_14, by decide +kernel⟩
set_option maxRecDepth 20000 in
theorem hjX11_take : pu_tab[17]? = some mdX11_take := rfl
theorem mwX11_take : pu_mw mdX11_take 0 := ⟨wm10_2, wm1_2, by decide +kernel⟩
set_option maxRecDepth 20000 in
theorem hjX11_isDay : pu_tab[18]? = some mdX11_isDay := rfl
theorem mwX11_isDay : pu_mw mdX11_isDay 1 := ⟨wm10_23, wm1_2, by decide +kernel⟩
set_option maxRecDepth 20000 in
theorem hjX11_day : pu_tab[19]? = some mdX11_day := rfl
theorem mwX11_day : pu_mw mdX11_day 1 := ⟨wm10_18, wm1_2, by decide +kernel⟩
set_option maxRecDepth 20000 in
theorem hjX11_as : pu_tab[20]? = some mdX11_as := rfl
theorem mwX11_as : pu_mw mdX11_as 1 := ⟨wm11_12, wm1_2, by decide +kernel⟩
set_option maxRecDepth 20000 in
theorem hjX7_begin : pu_tab[21]? = some mdX7_begin := rfl
theorem mwX7_begin : pu_mw mdX7_begin 1 := ⟨wm12_13, wm2_0, by decide +kernel⟩
set_option maxRecDepth 20000 in
theorem hjJ7_fill_d0a16 : pu_tab[22]? = some mdJ7_fill_d0a16 := rfl
theorem mwJ7_fill_d0a16 : pu_mw mdJ7_fill_d0a16 2 := ⟨wm13_0, wm12_23, by decide +kernel⟩
set_option maxRecDepth 20000 in
theorem hjX7_isNext : pu_tab[23]? = some mdX7_isNext := rfl
theorem mwX7_isNext : pu_mw mdX7_isNext 2 := ⟨wm13_10, wm2_0, by decide +kernel⟩
set_option maxRecDepth 20000 in
theorem hjX7_readWord : pu_tab[24]? = some mdX7_readWord := rfl
theorem mwX7_readWord : pu_mw mdX7_readWord 0 := ⟨wm13_4, wm2_0, by decide +kernel⟩
set_option maxRecDepth 20000 in
theorem hjX7_readByte : pu_tab[25]? = some mdX7_readByte := rfl
theorem mwX7_readByte : pu_mw mdX7_readByte 1 := ⟨wm13_14, wm2_0, by decide +kernel⟩
set_option maxRecDepth 20000 in
theorem hjX7_readToEnd : pu_tab[26]? = some mdX7_readToEnd := rfl
theorem mwX7_readToEnd : pu_mw mdX7_readToEnd 1 := ⟨wm12_19, wm2_0, by decide +kernel⟩
set_option maxRecDepth 20000 in
theorem hjX8_indexOf : pu_tab[27]? = some mdX8_indexOf := rfl
theorem mwX8_indexOf : pu_mw mdX8_indexOf 1 := ⟨wm14_1, wm3_16, by decide +kernel⟩
set_option maxRecDepth 20000 in
theorem hjX8_full : pu_tab[28]? = some mdX8_full := rfl
theorem mwX8_full : pu_mw mdX8_full 1 := ⟨wm13_21, wm3_16, by decide +kernel⟩
set_option maxRecDepth 20000 in
theorem hjX7_lengthen : pu_tab[29]? = some mdX7_lengthen := rfl
theorem mwX7_lengthen : pu_mw mdX7_lengthen 2 := ⟨wm13_17, wm2_0, by decide +kernel⟩
set_option maxRecDepth 20000 in
theorem hjX7_readName : pu_tab[30]? = some mdX7_readName := rfl
theorem mwX7_readName : pu_mw mdX7_readName 2 := ⟨wm12_9, wm2_0, by decide +kernel⟩
set_option maxRecDepth 20000 in
theorem hjX11_readName : pu_tab[31]? = some mdX11_readName := rfl
theorem mwX11_readName : pu_mw mdX11_readName 0 := ⟨wm12_4, wm1_2, by decide +kernel⟩
set_option maxRecDepth 20000 in
theorem hjX3_areLike : pu_tab[32]? = some mdX3_areLike := rfl
theorem mwX3_areLike : pu_mw mdX3_areLike 4 := ⟨wm14_10, wm3_4, by decide +kernel⟩
set_option maxRecDepth 20000 in
theorem hjX10_townNamed : pu_tab[33]? = some mdX10_townNamed := rfl
theorem mwX10_townNamed : pu_mw mdX10_townNamed 1 := ⟨wm14_6, wm3_8, by decide +kernel⟩
set_option maxRecDepth 20000 in
theorem hjX10_addTown : pu_tab[34]? = some mdX10_addTown := rfl
theorem mwX10_addTown : pu_mw mdX10_addTown 1 := ⟨wm14_14, wm3_8, by decide +kernel⟩
set_option maxRecDepth 20000 in
theorem hjX11_town : pu_tab[35]? = some mdX11_town := rfl
theorem mwX11_town : pu_mw mdX11_town 0 := ⟨wm11_21, wm1_2, by decide +kernel⟩
set_option maxRecDepth 20000 in
theorem hjX7_readPair : pu_tab[36]? = some mdX7_readPair := rfl
theorem mwX7_readPair : pu_mw mdX7_readPair 1 := ⟨wm16_12, wm2_0, by decide +kernel⟩
set_option maxRecDepth 20000 in
theorem hjX10_isWordOfTown : pu_tab[37]? = some mdX10_isWordOfTown := rfl
theorem mwX10_isWordOfTown : pu_mw mdX10_isWordOfTown 1 := ⟨wm16_16, wm3_8, by decide +kernel⟩
set_option maxRecDepth 20000 in
theorem hjX3_isWordOfName : pu_tab[38]? = some mdX3_isWordOfName := rfl
theorem mwX3_isWordOfName : pu_mw mdX3_isWordOfName 1 := ⟨wm16_20, wm3_4, by decide +kernel⟩
set_option maxRecDepth 20000 in
theorem hjX8_keep : pu_tab[39]? = some mdX8_keep := rfl
theorem mwX8_keep : pu_mw mdX8_keep 2 := ⟨wm17_1, wm3_16, by decide +kernel⟩
set_option maxRecDepth 20000 in
theorem hjX11_shorten : pu_tab[40]? = some mdX11_shorten := rfl
theorem mwX11_shorten : pu_mw mdX11_shorten 0 := ⟨wm16_6, wm1_2, by decide +kernel⟩
set_option maxRecDepth 20000 in
theorem hjX10_isTown : pu_tab[41]? = some mdX10_isTown := rfl
theorem mwX10_isTown : pu_mw mdX10_isTown 1 := ⟨wm17_22, wm3_8, by decide +kernel⟩
set_option maxRecDepth 20000 in
theorem hjX6_wasJoined : pu_tab[42]? = some mdX6_wasJoined := rfl
theorem mwX6_wasJoined : pu_mw mdX6_wasJoined 1 := ⟨wm18_2, wm2_20, by decide +kernel⟩
set_option maxRecDepth 20000 in
theorem hjX11_isTownOfItsOwn : pu_tab[43]? = some mdX11_isTownOfItsOwn := rfl
theorem mwX11_isTownOfItsOwn : pu_mw mdX11_isTownOfItsOwn 1 := ⟨wm17_18, wm1_2, by decide +kernel⟩
set_option maxRecDepth 20000 in
theorem hjX11_isRule : pu_tab[44]? = some mdX11_isRule := rfl
theorem mwX11_isRule : pu_mw mdX11_isRule 1 := ⟨wm18_6, wm1_2, by decide +kernel⟩
set_option maxRecDepth 20000 in
theorem hjX6_latestOn : pu_tab[45]? = some mdX6_latestOn := rfl
theorem mwX6_latestOn : pu_mw mdX6_latestOn 2 := ⟨wm18_10, wm2_20, by decide +kernel⟩
set_option maxRecDepth 20000 in
theorem hjX6_isPaper : pu_tab[46]? = some mdX6_isPaper := rfl
theorem mwX6_isPaper : pu_mw mdX6_isPaper 1 := ⟨wm19_4, wm2_20, by decide +kernel⟩
set_option maxRecDepth 20000 in
theorem hjX6_startOf : pu_tab[47]? = some mdX6_startOf := rfl
theorem mwX6_startOf : pu_mw mdX6_startOf 1 := ⟨wm18_23, wm2_20, by decide +kernel⟩
set_option maxRecDepth 20000 in
theorem hjX3_isNamed : pu_tab[48]? = some mdX3_isNamed := rfl
theorem mwX3_isNamed : pu_mw mdX3_isNamed 3 := ⟨wm19_8, wm3_4, by decide +kernel⟩
set_option maxRecDepth 20000 in
theorem hjX6_lastEndOf : pu_tab[49]? = some mdX6_lastEndOf := rfl
theorem mwX6_lastEndOf : pu_mw mdX6_lastEndOf 1 := ⟨wm19_13, wm2_20, by decide +kernel⟩
set_option maxRecDepth 20000 in
theorem hjX3_isHeldFrom : pu_tab[50]? = some mdX3_isHeldFrom := rfl
theorem mwX3_isHeldFrom : pu_mw mdX3_isHeldFrom 4 := ⟨wm18_18, wm3_4, by decide +kernel⟩
set_option maxRecDepth 20000 in
theorem hjX6_hasRoom : pu_tab[51]? = some mdX6_hasRoom := rfl
theorem mwX6_hasRoom : pu_mw mdX6_hasRoom 0 := ⟨wm19_17, wm2_20, by decide +kernel⟩
set_option maxRecDepth 20000 in
theorem hjX6_lay : pu_tab[52]? = some mdX6_lay := rfl
theorem mwX6_lay : pu_mw mdX6_lay 3 := ⟨wm19_21, wm2_20, by decide +kernel⟩
set_option maxRecDepth 20000 in
theorem hjX10_addStreet : pu_tab[53]? = some mdX10_addStreet := rfl
theorem mwX10_addStreet : pu_mw mdX10_addStreet 2 := ⟨wm20_5, wm3_8, by decide +kernel⟩
set_option maxRecDepth 20000 in
theorem hjX3_open : pu_tab[54]? = some mdX3_open := rfl
theorem mwX3_open : pu_mw mdX3_open 5 := ⟨wm20_10, wm3_4, by decide +kernel⟩
set_option maxRecDepth 20000 in
theorem hjX11_street : pu_tab[55]? = some mdX11_street := rfl
theorem mwX11_street : pu_mw mdX11_street 3 := ⟨wm17_13, wm1_2, by decide +kernel⟩
set_option maxRecDepth 20000 in
theorem hjX10_isStreet : pu_tab[56]? = some mdX10_isStreet := rfl
theorem mwX10_isStreet : pu_mw mdX10_isStreet 1 := ⟨wm22_2, wm3_8, by decide +kernel⟩
set_option maxRecDepth 20000 in
theorem hjX11_isSide : pu_tab[57]? = some mdX11_isSide := rfl
theorem mwX11_isSide : pu_mw mdX11_isSide 1 := ⟨wm22_8, wm1_2, by decide +kernel⟩
set_option maxRecDepth 20000 in
theorem hjX11_isPlace : pu_tab[58]? = some mdX11_isPlace := rfl
theorem mwX11_isPlace : pu_mw mdX11_isPlace 2 := ⟨wm22_5, wm1_2, by decide +kernel⟩
set_option maxRecDepth 20000 in
theorem hjX11_isWhole : pu_tab[59]? = some mdX11_isWhole := rfl
theorem mwX11_isWhole : pu_mw mdX11_isWhole 1 := ⟨wm22_14, wm1_2, by decide +kernel⟩
set_option maxRecDepth 20000 in
theorem hjX11_isWholeOrLeast : pu_tab[60]? = some mdX11_isWholeOrLeast := rfl
theorem mwX11_isWholeOrLeast : pu_mw mdX11_isWholeOrLeast 1 := ⟨wm22_11, wm1_2, by decide +kernel⟩
set_option maxRecDepth 20000 in
theorem hjX3_openOf : pu_tab[61]? = some mdX3_openOf := rfl
theorem mwX3_openOf : pu_mw mdX3_openOf 1 := ⟨wm23_2, wm3_4, by decide +kernel⟩
set_option maxRecDepth 20000 in
theorem hjX3_townOf : pu_tab[62]? = some mdX3_townOf := rfl
theorem mwX3_townOf : pu_mw mdX3_townOf 1 := ⟨wm22_22, wm3_4, by decide +kernel⟩
set_option maxRecDepth 20000 in
theorem hjX5_earliestOn : pu_tab[63]? = some mdX5_earliestOn := rfl
theorem mwX5_earliestOn : pu_mw mdX5_earliestOn 1 := ⟨wm22_18, wm1_19, by decide +kernel⟩
set_option maxRecDepth 20000 in
theorem hjX10_ruleOf : pu_tab[64]? = some mdX10_ruleOf := rfl
theorem mwX10_ruleOf : pu_mw mdX10_ruleOf 1 := ⟨wm23_11, wm3_8, by decide +kernel⟩
set_option maxRecDepth 20000 in
theorem hjX11_orderOf : pu_tab[65]? = some mdX11_orderOf := rfl
theorem mwX11_orderOf : pu_mw mdX11_orderOf 1 := ⟨wm23_15, wm1_2, by decide +kernel⟩
set_option maxRecDepth 20000 in
theorem hjX2_streetOf : pu_tab[66]? = some mdX2_streetOf := rfl
theorem mwX2_streetOf : pu_mw mdX2_streetOf 1 := ⟨wm24_9, wm3_12, by decide +kernel⟩
set_option maxRecDepth 20000 in
theorem hjX6_isThere : pu_tab[67]? = some mdX6_isThere := rfl
theorem mwX6_isThere : pu_mw mdX6_isThere 1 := ⟨wm25_0, wm2_20, by decide +kernel⟩
set_option maxRecDepth 20000 in
theorem hjX6_holds : pu_tab[68]? = some mdX6_holds := rfl
theorem mwX6_holds : pu_mw mdX6_holds 3 := ⟨wm24_20, wm2_20, by decide +kernel⟩
set_option maxRecDepth 20000 in
theorem hjX9_isThen : pu_tab[69]? = some mdX9_isThen := rfl
theorem mwX9_isThen : pu_mw mdX9_isThen 3 := ⟨wm24_13, wm2_4, by decide +kernel⟩
set_option maxRecDepth 20000 in
theorem hjX9_rankOf : pu_tab[70]? = some mdX9_rankOf := rfl
theorem mwX9_rankOf : pu_mw mdX9_rankOf 2 := ⟨wm25_10, wm2_4, by decide +kernel⟩
set_option maxRecDepth 20000 in
theorem hjX9_moveUp : pu_tab[71]? = some mdX9_moveUp := rfl
theorem mwX9_moveUp : pu_mw mdX9_moveUp 1 := ⟨wm25_14, wm2_4, by decide +kernel⟩
set_option maxRecDepth 20000 in
theorem hjX9_add : pu_tab[72]? = some mdX9_add := rfl
theorem mwX9_add : pu_mw mdX9_add 4 := ⟨wm25_4, wm2_4, by decide +kernel⟩
set_option maxRecDepth 20000 in
theorem hjX9_fill : pu_tab[73]? = some mdX9_fill := rfl
theorem mwX9_fill : pu_mw mdX9_fill 4 := ⟨wm23_19, wm2_4, by decide +kernel⟩
set_option maxRecDepth 20000 in
theorem hjX9_isInLine : pu_tab[74]? = some mdX9_isInLine := rfl
theorem mwX9_isInLine : pu_mw mdX9_isInLine 2 := ⟨wm26_4, wm2_4, by decide +kernel⟩
set_option maxRecDepth 20000 in
theorem hjX9_lowAt : pu_tab[75]? = some mdX9_lowAt := rfl
theorem mwX9_lowAt : pu_mw mdX9_lowAt 2 := ⟨wm26_0, wm2_4, by decide +kernel⟩
set_option maxRecDepth 20000 in
theorem hjX9_highAt : pu_tab[76]? = some mdX9_highAt := rfl
theorem mwX9_highAt : pu_mw mdX9_highAt 2 := ⟨wm26_8, wm2_4, by decide +kernel⟩
set_option maxRecDepth 20000 in
theorem hjX11_areDigitsOfSide : pu_tab[77]? = some mdX11_areDigitsOfSide := rfl
theorem mwX11_areDigitsOfSide : pu_mw mdX11_areDigitsOfSide 2 := ⟨wm26_15, wm1_2, by decide +kernel⟩
set_option maxRecDepth 20000 in
theorem hjX11_digitsByPaces : pu_tab[78]? = some mdX11_digitsByPaces := rfl
theorem mwX11_digitsByPaces : pu_mw mdX11_digitsByPaces 2 := ⟨wm26_17, wm1_2, by decide +kernel⟩
set_option maxRecDepth 20000 in
theorem hjX9_indexOf : pu_tab[79]? = some mdX9_indexOf := rfl
theorem mwX9_indexOf : pu_mw mdX9_indexOf 1 := ⟨wm26_21, wm2_4, by decide +kernel⟩
set_option maxRecDepth 20000 in
theorem hjX9_isFreeByRule : pu_tab[80]? = some mdX9_isFreeByRule := rfl
theorem mwX9_isFreeByRule : pu_mw mdX9_isFreeByRule 3 := ⟨wm26_13, wm2_4, by decide +kernel⟩
set_option maxRecDepth 20000 in
theorem hjX9_fittingNumber : pu_tab[81]? = some mdX9_fittingNumber := rfl
theorem mwX9_fittingNumber : pu_mw mdX9_fittingNumber 3 := ⟨wm25_18, wm2_4, by decide +kernel⟩
set_option maxRecDepth 20000 in
theorem hjX9_hasDoorAt : pu_tab[82]? = some mdX9_hasDoorAt := rfl
theorem mwX9_hasDoorAt : pu_mw mdX9_hasDoorAt 2 := ⟨wm27_1, wm2_4, by decide +kernel⟩
set_option maxRecDepth 20000 in
theorem hjX11_fittingNumber : pu_tab[83]? = some mdX11_fittingNumber := rfl
theorem mwX11_fittingNumber : pu_mw mdX11_fittingNumber 4 := ⟨wm23_7, wm1_2, by decide +kernel⟩
set_option maxRecDepth 20000 in
theorem hjX5_hasRoomForNumbers : pu_tab[84]? = some mdX5_hasRoomForNumbers := rfl
theorem mwX5_hasRoomForNumbers : pu_mw mdX5_hasRoomForNumbers 1 := ⟨wm27_5, wm1_19, by decide +kernel⟩
set_option maxRecDepth 20000 in
theorem hjX2_isDoor : pu_tab[85]? = some mdX2_isDoor := rfl
theorem mwX2_isDoor : pu_mw mdX2_isDoor 1 := ⟨wm27_15, wm3_12, by decide +kernel⟩
set_option maxRecDepth 20000 in
theorem hjX2_setPlace : pu_tab[86]? = some mdX2_setPlace := rfl
theorem mwX2_setPlace : pu_mw mdX2_setPlace 4 := ⟨wm27_19, wm3_12, by decide +kernel⟩
set_option maxRecDepth 20000 in
theorem hjX2_add : pu_tab[87]? = some mdX2_add := rfl
theorem mwX2_add : pu_mw mdX2_add 4 := ⟨wm27_11, wm3_12, by decide +kernel⟩
set_option maxRecDepth 20000 in
theorem hjX4_open : pu_tab[88]? = some mdX4_open := rfl
theorem mwX4_open : pu_mw mdX4_open 3 := ⟨wm28_0, wm3_0, by decide +kernel⟩
set_option maxRecDepth 20000 in
theorem hjX11_door : pu_tab[89]? = some mdX11_door := rfl
theorem mwX11_door : pu_mw mdX11_door 5 := ⟨wm21_19, wm1_2, by decide +kernel⟩
set_option maxRecDepth 20000 in
theorem hjX2_isOpen : pu_tab[90]? = some mdX2_isOpen := rfl
theorem mwX2_isOpen : pu_mw mdX2_isOpen 1 := ⟨wm32_17, wm3_12, by decide +kernel⟩
set_option maxRecDepth 20000 in
theorem hjX2_sortOf : pu_tab[91]? = some mdX2_sortOf := rfl
theorem mwX2_sortOf : pu_mw mdX2_sortOf 1 := ⟨wm32_21, wm3_12, by decide +kernel⟩
set_option maxRecDepth 20000 in
theorem hjX2_makeCorner : pu_tab[92]? = some mdX2_makeCorner := rfl
theorem mwX2_makeCorner : pu_mw mdX2_makeCorner 2 := ⟨wm33_2, wm3_12, by decide +kernel⟩
set_option maxRecDepth 20000 in
theorem hjX11_corner : pu_tab[93]? = some mdX11_corner := rfl
theorem mwX11_corner : pu_mw mdX11_corner 6 := ⟨wm32_12, wm1_2, by decide +kernel⟩
set_option maxRecDepth 20000 in
theorem hjX11_isUnderSort : pu_tab[94]? = some mdX11_isUnderSort := rfl
theorem mwX11_isUnderSort : pu_mw mdX11_isUnderSort 1 := ⟨wm33_13, wm1_2, by decide +kernel⟩
set_option maxRecDepth 20000 in
theorem hjX11_canHaveUnder : pu_tab[95]? = some mdX11_canHaveUnder := rfl
theorem mwX11_canHaveUnder : pu_mw mdX11_canHaveUnder 2 := ⟨wm33_17, wm1_2, by decide +kernel⟩
set_option maxRecDepth 20000 in
theorem hjX11_isUnderNumber : pu_tab[96]? = some mdX11_isUnderNumber := rfl
theorem mwX11_isUnderNumber : pu_mw mdX11_isUnderNumber 2 := ⟨wm33_20, wm1_2, by decide +kernel⟩
set_option maxRecDepth 20000 in
theorem hjX5_slotOf : pu_tab[97]? = some mdX5_slotOf := rfl
theorem mwX5_slotOf : pu_mw mdX5_slotOf 1 := ⟨wm34_5, wm1_19, by decide +kernel⟩
set_option maxRecDepth 20000 in
theorem hjX5_earliestOnDoor : pu_tab[98]? = some mdX5_earliestOnDoor := rfl
theorem mwX5_earliestOnDoor : pu_mw mdX5_earliestOnDoor 1 := ⟨wm34_0, wm1_19, by decide +kernel⟩
set_option maxRecDepth 20000 in
theorem hjX2_hasOpenUnder : pu_tab[99]? = some mdX2_hasOpenUnder := rfl
theorem mwX2_hasOpenUnder : pu_mw mdX2_hasOpenUnder 3 := ⟨wm34_13, wm3_12, by decide +kernel⟩
set_option maxRecDepth 20000 in
theorem hjX5_layOnDoor : pu_tab[100]? = some mdX5_layOnDoor := rfl
theorem mwX5_layOnDoor : pu_mw mdX5_layOnDoor 2 := ⟨wm34_18, wm1_19, by decide +kernel⟩
set_option maxRecDepth 20000 in
theorem hjX11_under : pu_tab[101]? = some mdX11_under := rfl
theorem mwX11_under : pu_mw mdX11_under 4 := ⟨wm33_10, wm1_2, by decide +kernel⟩
set_option maxRecDepth 20000 in
theorem hjX4_close : pu_tab[102]? = some mdX4_close := rfl
theorem mwX4_close : pu_mw mdX4_close 2 := ⟨wm35_23, wm3_0, by decide +kernel⟩
set_option maxRecDepth 20000 in
theorem hjX2_closeWithUnder : pu_tab[103]? = some mdX2_closeWithUnder := rfl
theorem mwX2_closeWithUnder : pu_mw mdX2_closeWithUnder 2 := ⟨wm36_3, wm3_12, by decide +kernel⟩
set_option maxRecDepth 20000 in
theorem hjX11_gone : pu_tab[104]? = some mdX11_gone := rfl
theorem mwX11_gone : pu_mw mdX11_gone 2 := ⟨wm35_19, wm1_2, by decide +kernel⟩
set_option maxRecDepth 20000 in
theorem hjX11_freshByPaces : pu_tab[105]? = some mdX11_freshByPaces := rfl
theorem mwX11_freshByPaces : pu_mw mdX11_freshByPaces 2 := ⟨wm37_4, wm1_2, by decide +kernel⟩
set_option maxRecDepth 20000 in
theorem hjX10_rowWholeOf : pu_tab[106]? = some mdX10_rowWholeOf := rfl
theorem mwX10_rowWholeOf : pu_mw mdX10_rowWholeOf 3 := ⟨wm37_8, wm3_8, by decide +kernel⟩
set_option maxRecDepth 20000 in
theorem hjX11_setFreshNumbers : pu_tab[107]? = some mdX11_setFreshNumbers := rfl
theorem mwX11_setFreshNumbers : pu_mw mdX11_setFreshNumbers 2 := ⟨wm36_20, wm1_2, by decide +kernel⟩
set_option maxRecDepth 20000 in
theorem hjX11_isAboveAllBehind : pu_tab[108]? = some mdX11_isAboveAllBehind := rfl
theorem mwX11_isAboveAllBehind : pu_mw mdX11_isAboveAllBehind 1 := ⟨wm37_16, wm1_2, by decide +kernel⟩
set_option maxRecDepth 20000 in
theorem hjX11_areFreshRight : pu_tab[109]? = some mdX11_areFreshRight := rfl
theorem mwX11_areFreshRight : pu_mw mdX11_areFreshRight 0 := ⟨wm37_12, wm1_2, by decide +kernel⟩
set_option maxRecDepth 20000 in
theorem hjX11_freshWhole : pu_tab[110]? = some mdX11_freshWhole := rfl
theorem mwX11_freshWhole : pu_mw mdX11_freshWhole 1 := ⟨wm38_1, wm1_2, by decide +kernel⟩
set_option maxRecDepth 20000 in
theorem hjX11_countFreshOthers : pu_tab[111]? = some mdX11_countFreshOthers := rfl
theorem mwX11_countFreshOthers : pu_mw mdX11_countFreshOthers 0 := ⟨wm37_20, wm1_2, by decide +kernel⟩
set_option maxRecDepth 20000 in
theorem hjX10_setRule : pu_tab[112]? = some mdX10_setRule := rfl
theorem mwX10_setRule : pu_mw mdX10_setRule 2 := ⟨wm38_5, wm3_8, by decide +kernel⟩
set_option maxRecDepth 20000 in
theorem hjX11_giveFreshNumbers : pu_tab[113]? = some mdX11_giveFreshNumbers := rfl
theorem mwX11_giveFreshNumbers : pu_mw mdX11_giveFreshNumbers 1 := ⟨wm38_9, wm1_2, by decide +kernel⟩
set_option maxRecDepth 20000 in
theorem hjX11_renumber : pu_tab[114]? = some mdX11_renumber := rfl
theorem mwX11_renumber : pu_mw mdX11_renumber 3 := ⟨wm36_15, wm1_2, by decide +kernel⟩
set_option maxRecDepth 20000 in
theorem hjX11_rename : pu_tab[115]? = some mdX11_rename := rfl
theorem mwX11_rename : pu_mw mdX11_rename 2 := ⟨wm39_8, wm1_2, by decide +kernel⟩
set_option maxRecDepth 20000 in
theorem hjX5_earliestOnTown : pu_tab[116]? = some mdX5_earliestOnTown := rfl
theorem mwX5_earliestOnTown : pu_mw mdX5_earliestOnTown 1 := ⟨wm40_1, wm1_19, by decide +kernel⟩
set_option maxRecDepth 20000 in
theorem hjX3_streetNamedLike : pu_tab[117]? = some mdX3_streetNamedLike := rfl
theorem mwX3_streetNamedLike : pu_mw mdX3_streetNamedLike 2 := ⟨wm40_10, wm3_4, by decide +kernel⟩
set_option maxRecDepth 20000 in
theorem hjX3_haveOneName : pu_tab[118]? = some mdX3_haveOneName := rfl
theorem mwX3_haveOneName : pu_mw mdX3_haveOneName 2 := ⟨wm40_6, wm3_4, by decide +kernel⟩
set_option maxRecDepth 20000 in
theorem hjX3_moveAll : pu_tab[119]? = some mdX3_moveAll := rfl
theorem mwX3_moveAll : pu_mw mdX3_moveAll 3 := ⟨wm40_14, wm3_4, by decide +kernel⟩
set_option maxRecDepth 20000 in
theorem hjX11_join : pu_tab[120]? = some mdX11_join := rfl
theorem mwX11_join : pu_mw mdX11_join 3 := ⟨wm39_19, wm1_2, by decide +kernel⟩
set_option maxRecDepth 20000 in
theorem hjX10_setRowLength : pu_tab[121]? = some mdX10_setRowLength := rfl
theorem mwX10_setRowLength : pu_mw mdX10_setRowLength 3 := ⟨wm41_12, wm3_8, by decide +kernel⟩
set_option maxRecDepth 20000 in
theorem hjX10_setRowWhole : pu_tab[122]? = some mdX10_setRowWhole := rfl
theorem mwX10_setRowWhole : pu_mw mdX10_setRowWhole 4 := ⟨wm41_16, wm3_8, by decide +kernel⟩
set_option maxRecDepth 20000 in
theorem hjX11_keepRow : pu_tab[123]? = some mdX11_keepRow := rfl
theorem mwX11_keepRow : pu_mw mdX11_keepRow 2 := ⟨wm41_7, wm1_2, by decide +kernel⟩
set_option maxRecDepth 20000 in
theorem hjX11_row : pu_tab[124]? = some mdX11_row := rfl
theorem mwX11_row : pu_mw mdX11_row 2 := ⟨wm41_3, wm1_2, by decide +kernel⟩
set_option maxRecDepth 20000 in
theorem hjX10_rowLengthOf : pu_tab[125]? = some mdX10_rowLengthOf := rfl
theorem mwX10_rowLengthOf : pu_mw mdX10_rowLengthOf 2 := ⟨wm42_5, wm3_8, by decide +kernel⟩
set_option maxRecDepth 20000 in
theorem hjX11_tear : pu_tab[126]? = some mdX11_tear := rfl
theorem mwX11_tear : pu_mw mdX11_tear 3 := ⟨wm42_0, wm1_2, by decide +kernel⟩
set_option maxRecDepth 20000 in
theorem hjX6_keptWithout : pu_tab[127]? = some mdX6_keptWithout := rfl
theorem mwX6_keptWithout : pu_mw mdX6_keptWithout 4 := ⟨wm43_4, wm2_20, by decide +kernel⟩
set_option maxRecDepth 20000 in
theorem hjX4_takeBack : pu_tab[128]? = some mdX4_takeBack := rfl
theorem mwX4_takeBack : pu_mw mdX4_takeBack 1 := ⟨wm43_1, wm3_0, by decide +kernel⟩
set_option maxRecDepth 20000 in
theorem hjX3_takeBack : pu_tab[129]? = some mdX3_takeBack := rfl
theorem mwX3_takeBack : pu_mw mdX3_takeBack 1 := ⟨wm43_8, wm3_4, by decide +kernel⟩
set_option maxRecDepth 20000 in
theorem hjX10_takeBack : pu_tab[130]? = some mdX10_takeBack := rfl
theorem mwX10_takeBack : pu_mw mdX10_takeBack 1 := ⟨wm43_13, wm3_8, by decide +kernel⟩
set_option maxRecDepth 20000 in
theorem hjX2_takeBack : pu_tab[131]? = some mdX2_takeBack := rfl
theorem mwX2_takeBack : pu_mw mdX2_takeBack 1 := ⟨wm43_17, wm3_12, by decide +kernel⟩
set_option maxRecDepth 20000 in
theorem hjX5_takeBackLatest : pu_tab[132]? = some mdX5_takeBackLatest := rfl
theorem mwX5_takeBackLatest : pu_mw mdX5_takeBackLatest 0 := ⟨wm42_17, wm1_19, by decide +kernel⟩
set_option maxRecDepth 20000 in
theorem hjX11_undo : pu_tab[133]? = some mdX11_undo := rfl
theorem mwX11_undo : pu_mw mdX11_undo 0 := ⟨wm42_13, wm1_2, by decide +kernel⟩
set_option maxRecDepth 20000 in
theorem hjX6_copyFrom : pu_tab[134]? = some mdX6_copyFrom := rfl
theorem mwX6_copyFrom : pu_mw mdX6_copyFrom 1 := ⟨wm44_14, wm2_20, by decide +kernel⟩
set_option maxRecDepth 20000 in
theorem hjX4_copyFrom : pu_tab[135]? = some mdX4_copyFrom := rfl
theorem mwX4_copyFrom : pu_mw mdX4_copyFrom 1 := ⟨wm44_19, wm3_0, by decide +kernel⟩
set_option maxRecDepth 20000 in
theorem hjX3_copyFrom : pu_tab[136]? = some mdX3_copyFrom := rfl
theorem mwX3_copyFrom : pu_mw mdX3_copyFrom 1 := ⟨wm45_0, wm3_4, by decide +kernel⟩
set_option maxRecDepth 20000 in
theorem hjX10_copyFrom : pu_tab[137]? = some mdX10_copyFrom := rfl
theorem mwX10_copyFrom : pu_mw mdX10_copyFrom 1 := ⟨wm45_4, wm3_8, by decide +kernel⟩
set_option maxRecDepth 20000 in
theorem hjX2_copyFrom : pu_tab[138]? = some mdX2_copyFrom := rfl
theorem mwX2_copyFrom : pu_mw mdX2_copyFrom 1 := ⟨wm45_8, wm3_12, by decide +kernel⟩
set_option maxRecDepth 20000 in
theorem hjX8_copyFrom : pu_tab[139]? = some mdX8_copyFrom := rfl
theorem mwX8_copyFrom : pu_mw mdX8_copyFrom 1 := ⟨wm45_13, wm3_16, by decide +kernel⟩
set_option maxRecDepth 20000 in
theorem hjX1_copyFrom : pu_tab[140]? = some mdX1_copyFrom := rfl
theorem mwX1_copyFrom : pu_mw mdX1_copyFrom 1 := ⟨wm45_18, wm3_20, by decide +kernel⟩
set_option maxRecDepth 20000 in
theorem hjX5_copyFrom : pu_tab[141]? = some mdX5_copyFrom := rfl
theorem mwX5_copyFrom : pu_mw mdX5_copyFrom 1 := ⟨wm44_10, wm1_19, by decide +kernel⟩
set_option maxRecDepth 20000 in
theorem hjX11_image : pu_tab[142]? = some mdX11_image := rfl
theorem mwX11_image : pu_mw mdX11_image 1 := ⟨wm44_6, wm1_2, by decide +kernel⟩
set_option maxRecDepth 20000 in
theorem hjX11_back : pu_tab[143]? = some mdX11_back := rfl
theorem mwX11_back : pu_mw mdX11_back 1 := ⟨wm46_9, wm1_2, by decide +kernel⟩
set_option maxRecDepth 20000 in
theorem hjX11_about : pu_tab[144]? = some mdX11_about := rfl
theorem mwX11_about : pu_mw mdX11_about 2 := ⟨wm46_17, wm1_2, by decide +kernel⟩
set_option maxRecDepth 20000 in
theorem hjX2_isThereOn : pu_tab[145]? = some mdX2_isThereOn := rfl
theorem mwX2_isThereOn : pu_mw mdX2_isThereOn 3 := ⟨wm47_12, wm3_12, by decide +kernel⟩
set_option maxRecDepth 20000 in
theorem hjX11_stands : pu_tab[146]? = some mdX11_stands := rfl
theorem mwX11_stands : pu_mw mdX11_stands 2 := ⟨wm47_8, wm1_2, by decide +kernel⟩
set_option maxRecDepth 20000 in
theorem hjX4_holding : pu_tab[147]? = some mdX4_holding := rfl
theorem mwX4_holding : pu_mw mdX4_holding 3 := ⟨wm48_16, wm3_0, by decide +kernel⟩
set_option maxRecDepth 20000 in
theorem hjX6_endOf : pu_tab[148]? = some mdX6_endOf := rfl
theorem mwX6_endOf : pu_mw mdX6_endOf 1 := ⟨wm48_22, wm2_20, by decide +kernel⟩
set_option maxRecDepth 20000 in
theorem hjX11_number : pu_tab[149]? = some mdX11_number := rfl
theorem mwX11_number : pu_mw mdX11_number 4 := ⟨wm48_9, wm1_2, by decide +kernel⟩
set_option maxRecDepth 20000 in
theorem hjX3_holding : pu_tab[150]? = some mdX3_holding := rfl
theorem mwX3_holding : pu_mw mdX3_holding 3 := ⟨wm49_17, wm3_4, by decide +kernel⟩
set_option maxRecDepth 20000 in
theorem hjX0_putWord : pu_tab[151]? = some mdX0_putWord := rfl
theorem mwX0_putWord : pu_mw mdX0_putWord 1 := ⟨wm50_2, wm1_14, by decide +kernel⟩
set_option maxRecDepth 20000 in
theorem hjX0_putName : pu_tab[152]? = some mdX0_putName := rfl
theorem mwX0_putName : pu_mw mdX0_putName 2 := ⟨wm49_22, wm1_14, by decide +kernel⟩
set_option maxRecDepth 20000 in
theorem hjX0_putDecimal : pu_tab[153]? = some mdX0_putDecimal := rfl
theorem mwX0_putDecimal : pu_mw mdX0_putDecimal 1 := ⟨wm50_13, wm1_14, by decide +kernel⟩
set_option maxRecDepth 20000 in
theorem hjX0_putWhole : pu_tab[154]? = some mdX0_putWhole := rfl
theorem mwX0_putWhole : pu_mw mdX0_putWhole 1 := ⟨wm50_9, wm1_14, by decide +kernel⟩
set_option maxRecDepth 20000 in
theorem hjJ0_coder_7d493 : pu_tab[155]? = some mdJ0_coder_7d493 := rfl
theorem mwJ0_coder_7d493 : pu_mw mdJ0_coder_7d493 0 := ⟨wm51_7, wm51_1, by decide +kernel⟩
set_option maxRecDepth 20000 in
theorem hjJ0_length_8abf5 : pu_tab[156]? = some mdJ0_length_8abf5 := rfl
theorem mwJ0_length_8abf5 : pu_mw mdJ0_length_8abf5 0 := ⟨wm51_2, wm51_1, by decide +kernel⟩
set_option maxRecDepth 20000 in
theorem hjJ0_isLatin1_aae02 : pu_tab[157]? = some mdJ0_isLatin1_aae02 := rfl
theorem mwJ0_isLatin1_aae02 : pu_mw mdJ0_isLatin1_aae02 0 := ⟨wm51_17, wm51_1, by decide +kernel⟩
set_option maxRecDepth 20000 in
theorem hjJ3_checkIndex_8e157 : pu_tab[158]? = some mdJ3_checkIndex_8e157 := rfl
theorem mwJ3_checkIndex_8e157 : pu_mw mdJ3_checkIndex_8e157 3 := ⟨wm52_5, wm52_4, by decide +kernel⟩
set_option maxRecDepth 20000 in
theorem hjJ0_checkIndex_df160 : pu_tab[159]? = some mdJ0_checkIndex_df160 := rfl
theorem mwJ0_checkIndex_df160 : pu_mw mdJ0_checkIndex_df160 2 := ⟨wm52_0, wm51_1, by decide +kernel⟩
set_option maxRecDepth 20000 in
theorem hjJ1_charAt_3b067 : pu_tab[160]? = some mdJ1_charAt_3b067 := rfl
theorem mwJ1_charAt_3b067 : pu_mw mdJ1_charAt_3b067 2 := ⟨wm51_21, wm51_20, by decide +kernel⟩
set_option maxRecDepth 20000 in
theorem hjJ0_charAt_5068e : pu_tab[161]? = some mdJ0_charAt_5068e := rfl
theorem mwJ0_charAt_5068e : pu_mw mdJ0_charAt_5068e 1 := ⟨wm51_13, wm51_1, by decide +kernel⟩
set_option maxRecDepth 20000 in
theorem hjX0_putText : pu_tab[162]? = some mdX0_putText := rfl
theorem mwX0_putText : pu_mw mdX0_putText 1 := ⟨wm50_21, wm1_14, by decide +kernel⟩
set_option maxRecDepth 20000 in
theorem hjX11_putExtra : pu_tab[163]? = some mdX11_putExtra := rfl
theorem mwX11_putExtra : pu_mw mdX11_putExtra 1 := ⟨wm50_17, wm1_2, by decide +kernel⟩
set_option maxRecDepth 20000 in
theorem hjX11_write : pu_tab[164]? = some mdX11_write := rfl
theorem mwX11_write : pu_mw mdX11_write 3 := ⟨wm49_10, wm1_2, by decide +kernel⟩
set_option maxRecDepth 20000 in
theorem hjX7_readStreet : pu_tab[165]? = some mdX7_readStreet := rfl
theorem mwX7_readStreet : pu_mw mdX7_readStreet 0 := ⟨wm54_16, wm2_0, by decide +kernel⟩
set_option maxRecDepth 20000 in
theorem hjX7_readDigits : pu_tab[166]? = some mdX7_readDigits := rfl
theorem mwX7_readDigits : pu_mw mdX7_readDigits 1 := ⟨wm55_1, wm2_0, by decide +kernel⟩
set_option maxRecDepth 20000 in
theorem hjX7_readNumber : pu_tab[167]? = some mdX7_readNumber := rfl
theorem mwX7_readNumber : pu_mw mdX7_readNumber 0 := ⟨wm54_20, wm2_0, by decide +kernel⟩
set_option maxRecDepth 20000 in
theorem hjX7_readText : pu_tab[168]? = some mdX7_readText := rfl
theorem mwX7_readText : pu_mw mdX7_readText 1 := ⟨wm55_11, wm2_0, by decide +kernel⟩
set_option maxRecDepth 20000 in
theorem hjX7_readExtra : pu_tab[169]? = some mdX7_readExtra := rfl
theorem mwX7_readExtra : pu_mw mdX7_readExtra 0 := ⟨wm55_5, wm2_0, by decide +kernel⟩
set_option maxRecDepth 20000 in
theorem hjX7_readAddress : pu_tab[170]? = some mdX7_readAddress := rfl
theorem mwX7_readAddress : pu_mw mdX7_readAddress 2 := ⟨wm54_12, wm2_0, by decide +kernel⟩
set_option maxRecDepth 20000 in
theorem hjX11_readAddress : pu_tab[171]? = some mdX11_readAddress := rfl
theorem mwX11_readAddress : pu_mw mdX11_readAddress 0 := ⟨wm54_6, wm1_2, by decide +kernel⟩
set_option maxRecDepth 20000 in
theorem hjX3_streetOn : pu_tab[172]? = some mdX3_streetOn := rfl
theorem mwX3_streetOn : pu_mw mdX3_streetOn 4 := ⟨wm55_22, wm3_4, by decide +kernel⟩
set_option maxRecDepth 20000 in
theorem hjX11_viewStreetOfAddress : pu_tab[173]? = some mdX11_viewStreetOfAddress := rfl
theorem mwX11_viewStreetOfAddress : pu_mw mdX11_viewStreetOfAddress 1 := ⟨wm55_17, wm1_2, by decide +kernel⟩
set_option maxRecDepth 20000 in
theorem hjX9_couldHave : pu_tab[174]? = some mdX9_couldHave := rfl
theorem mwX9_couldHave : pu_mw mdX9_couldHave 2 := ⟨wm56_7, wm2_4, by decide +kernel⟩
set_option maxRecDepth 20000 in
theorem hjX9_isInGap : pu_tab[175]? = some mdX9_isInGap := rfl
theorem mwX9_isInGap : pu_mw mdX9_isInGap 2 := ⟨wm56_19, wm2_4, by decide +kernel⟩
set_option maxRecDepth 20000 in
theorem hjX9_unknownInGapOf : pu_tab[176]? = some mdX9_unknownInGapOf := rfl
theorem mwX9_unknownInGapOf : pu_mw mdX9_unknownInGapOf 1 := ⟨wm56_15, wm2_4, by decide +kernel⟩
set_option maxRecDepth 20000 in
theorem hjX9_likelyRankOf : pu_tab[177]? = some mdX9_likelyRankOf := rfl
theorem mwX9_likelyRankOf : pu_mw mdX9_likelyRankOf 1 := ⟨wm56_11, wm2_4, by decide +kernel⟩
set_option maxRecDepth 20000 in
theorem hjX11_isTold : pu_tab[178]? = some mdX11_isTold := rfl
theorem mwX11_isTold : pu_mw mdX11_isTold 2 := ⟨wm57_7, wm1_2, by decide +kernel⟩
set_option maxRecDepth 20000 in
theorem hjX11_toldOf : pu_tab[179]? = some mdX11_toldOf := rfl
theorem mwX11_toldOf : pu_mw mdX11_toldOf 2 := ⟨wm57_3, wm1_2, by decide +kernel⟩
set_option maxRecDepth 20000 in
theorem hjX1_addFound : pu_tab[180]? = some mdX1_addFound := rfl
theorem mwX1_addFound : pu_mw mdX1_addFound 3 := ⟨wm57_13, wm3_20, by decide +kernel⟩
set_option maxRecDepth 20000 in
theorem hjX11_findOne : pu_tab[181]? = some mdX11_findOne := rfl
theorem mwX11_findOne : pu_mw mdX11_findOne 4 := ⟨wm56_23, wm1_2, by decide +kernel⟩
set_option maxRecDepth 20000 in
theorem hjX11_findLikely : pu_tab[182]? = some mdX11_findLikely := rfl
theorem mwX11_findLikely : pu_mw mdX11_findLikely 1 := ⟨wm56_3, wm1_2, by decide +kernel⟩
set_option maxRecDepth 20000 in
theorem hjX11_means : pu_tab[183]? = some mdX11_means := rfl
theorem mwX11_means : pu_mw mdX11_means 1 := ⟨wm53_23, wm1_2, by decide +kernel⟩
set_option maxRecDepth 20000 in
theorem hjX11_fault : pu_tab[184]? = some mdX11_fault := rfl
theorem mwX11_fault : pu_mw mdX11_fault 0 := ⟨wm61_2, wm1_2, by decide +kernel⟩
set_option maxRecDepth 20000 in
theorem hjX11_found : pu_tab[185]? = some mdX11_found := rfl
theorem mwX11_found : pu_mw mdX11_found 2 := ⟨wm61_10, wm1_2, by decide +kernel⟩
set_option maxRecDepth 20000 in
theorem hjX11_sureDoor : pu_tab[186]? = some mdX11_sureDoor := rfl
theorem mwX11_sureDoor : pu_mw mdX11_sureDoor 1 := ⟨wm62_1, wm1_2, by decide +kernel⟩
set_option maxRecDepth 20000 in
theorem hjX11_seekOldAt : pu_tab[187]? = some mdX11_seekOldAt := rfl
theorem mwX11_seekOldAt : pu_mw mdX11_seekOldAt 3 := ⟨wm62_20, wm1_2, by decide +kernel⟩
set_option maxRecDepth 20000 in
theorem hjX11_seekOldIn : pu_tab[188]? = some mdX11_seekOldIn := rfl
theorem mwX11_seekOldIn : pu_mw mdX11_seekOldIn 2 := ⟨wm62_13, wm1_2, by decide +kernel⟩
set_option maxRecDepth 20000 in
theorem hjX11_seekOld : pu_tab[189]? = some mdX11_seekOld := rfl
theorem mwX11_seekOld : pu_mw mdX11_seekOld 1 := ⟨wm62_5, wm1_2, by decide +kernel⟩
set_option maxRecDepth 20000 in
theorem hjX11_call : pu_tab[190]? = some mdX11_call := rfl
theorem mwX11_call : pu_mw mdX11_call 1 := ⟨wm61_20, wm1_2, by decide +kernel⟩
set_option maxRecDepth 20000 in
theorem hjX11_ended : pu_tab[191]? = some mdX11_ended := rfl
theorem mwX11_ended : pu_mw mdX11_ended 0 := ⟨wm63_6, wm1_2, by decide +kernel⟩
set_option maxRecDepth 20000 in
theorem hjX5_isOpenKnownNumberIn : pu_tab[192]? = some mdX5_isOpenKnownNumberIn := rfl
theorem mwX5_isOpenKnownNumberIn : pu_mw mdX5_isOpenKnownNumberIn 2 := ⟨wm63_23, wm1_19, by decide +kernel⟩
set_option maxRecDepth 20000 in
theorem hjX1_addPair : pu_tab[193]? = some mdX1_addPair := rfl
theorem mwX1_addPair : pu_mw mdX1_addPair 4 := ⟨wm64_6, wm3_20, by decide +kernel⟩
set_option maxRecDepth 20000 in
theorem hjX11_pairStreets : pu_tab[194]? = some mdX11_pairStreets := rfl
theorem mwX11_pairStreets : pu_mw mdX11_pairStreets 2 := ⟨wm63_19, wm1_2, by decide +kernel⟩
set_option maxRecDepth 20000 in
theorem hjX11_pairTowns : pu_tab[195]? = some mdX11_pairTowns := rfl
theorem mwX11_pairTowns : pu_mw mdX11_pairTowns 2 := ⟨wm64_10, wm1_2, by decide +kernel⟩
set_option maxRecDepth 20000 in
theorem hjX11_twice : pu_tab[196]? = some mdX11_twice := rfl
theorem mwX11_twice : pu_mw mdX11_twice 3 := ⟨wm63_14, wm1_2, by decide +kernel⟩
set_option maxRecDepth 20000 in
theorem hjX11_pair : pu_tab[197]? = some mdX11_pair := rfl
theorem mwX11_pair : pu_mw mdX11_pair 2 := ⟨wm65_1, wm1_2, by decide +kernel⟩
set_option maxRecDepth 20000 in
theorem hjX11_free : pu_tab[198]? = some mdX11_free := rfl
theorem mwX11_free : pu_mw mdX11_free 3 := ⟨wm65_11, wm1_2, by decide +kernel⟩
set_option maxRecDepth 20000 in
theorem hjX11_isNearer : pu_tab[199]? = some mdX11_isNearer := rfl
theorem mwX11_isNearer : pu_mw mdX11_isNearer 4 := ⟨wm65_23, wm1_2, by decide +kernel⟩
set_option maxRecDepth 20000 in
theorem hjX11_near : pu_tab[200]? = some mdX11_near := rfl
theorem mwX11_near : pu_mw mdX11_near 4 := ⟨wm65_19, wm1_2, by decide +kernel⟩
set_option maxRecDepth 20000 in
theorem hjX1_addStop : pu_tab[201]? = some mdX1_addStop := rfl
theorem mwX1_addStop : pu_mw mdX1_addStop 2 := ⟨wm66_19, wm3_20, by decide +kernel⟩
set_option maxRecDepth 20000 in
theorem hjX11_stop : pu_tab[202]? = some mdX11_stop := rfl
theorem mwX11_stop : pu_mw mdX11_stop 2 := ⟨wm66_14, wm1_2, by decide +kernel⟩
set_option maxRecDepth 20000 in
theorem hjX1_whenWalked : pu_tab[203]? = some mdX1_whenWalked := rfl
theorem mwX1_whenWalked : pu_mw mdX1_whenWalked 1 := ⟨wm67_15, wm3_20, by decide +kernel⟩
set_option maxRecDepth 20000 in
theorem hjX1_addWalked : pu_tab[204]? = some mdX1_addWalked := rfl
theorem mwX1_addWalked : pu_mw mdX1_addWalked 1 := ⟨wm67_19, wm3_20, by decide +kernel⟩
set_option maxRecDepth 20000 in
theorem hjX5_rankUnder : pu_tab[205]? = some mdX5_rankUnder := rfl
theorem mwX5_rankUnder : pu_mw mdX5_rankUnder 1 := ⟨wm68_9, wm1_19, by decide +kernel⟩
set_option maxRecDepth 20000 in
theorem hjX5_sinkWalked : pu_tab[206]? = some mdX5_sinkWalked := rfl
theorem mwX5_sinkWalked : pu_mw mdX5_sinkWalked 1 := ⟨wm68_3, wm1_19, by decide +kernel⟩
set_option maxRecDepth 20000 in
theorem hjX11_walkUnder : pu_tab[207]? = some mdX11_walkUnder := rfl
theorem mwX11_walkUnder : pu_mw mdX11_walkUnder 2 := ⟨wm67_23, wm1_2, by decide +kernel⟩
set_option maxRecDepth 20000 in
theorem hjX11_walkView : pu_tab[208]? = some mdX11_walkView := rfl
theorem mwX11_walkView : pu_mw mdX11_walkView 1 := ⟨wm67_11, wm1_2, by decide +kernel⟩
set_option maxRecDepth 20000 in
theorem hjX11_walk : pu_tab[209]? = some mdX11_walk := rfl
theorem mwX11_walk : pu_mw mdX11_walk 1 := ⟨wm67_4, wm1_2, by decide +kernel⟩
set_option maxRecDepth 20000 in
theorem hjX11_walked : pu_tab[210]? = some mdX11_walked := rfl
theorem mwX11_walked : pu_mw mdX11_walked 1 := ⟨wm69_11, wm1_2, by decide +kernel⟩
set_option maxRecDepth 20000 in
theorem hjX1_addLetter : pu_tab[211]? = some mdX1_addLetter := rfl
theorem mwX1_addLetter : pu_mw mdX1_addLetter 1 := ⟨wm70_1, wm3_20, by decide +kernel⟩
set_option maxRecDepth 20000 in
theorem hjX11_letter : pu_tab[212]? = some mdX11_letter := rfl
theorem mwX11_letter : pu_mw mdX11_letter 1 := ⟨wm69_20, wm1_2, by decide +kernel⟩
set_option maxRecDepth 20000 in
theorem hjX1_addSorted : pu_tab[213]? = some mdX1_addSorted := rfl
theorem mwX1_addSorted : pu_mw mdX1_addSorted 1 := ⟨wm70_22, wm3_20, by decide +kernel⟩
set_option maxRecDepth 20000 in
theorem hjX1_sortLettersOf : pu_tab[214]? = some mdX1_sortLettersOf := rfl
theorem mwX1_sortLettersOf : pu_mw mdX1_sortLettersOf 1 := ⟨wm70_18, wm3_20, by decide +kernel⟩
set_option maxRecDepth 20000 in
theorem hjX1_sortLetters : pu_tab[215]? = some mdX1_sortLetters := rfl
theorem mwX1_sortLetters : pu_mw mdX1_sortLetters 0 := ⟨wm70_14, wm3_20, by decide +kernel⟩
set_option maxRecDepth 20000 in
theorem hjX11_sort : pu_tab[216]? = some mdX11_sort := rfl
theorem mwX11_sort : pu_mw mdX11_sort 0 := ⟨wm70_10, wm1_2, by decide +kernel⟩
set_option maxRecDepth 20000 in
theorem hjX11_sorted : pu_tab[217]? = some mdX11_sorted := rfl
theorem mwX11_sorted : pu_mw mdX11_sorted 2 := ⟨wm71_8, wm1_2, by decide +kernel⟩
set_option maxRecDepth 20000 in
theorem hjJ7_fill_53178 : pu_tab[218]? = some mdJ7_fill_53178 := rfl
theorem mwJ7_fill_53178 : pu_mw mdJ7_fill_53178 2 := ⟨wm72_3, wm12_23, by decide +kernel⟩
set_option maxRecDepth 20000 in
theorem hjX5_setWholesOn : pu_tab[219]? = some mdX5_setWholesOn := rfl
theorem mwX5_setWholesOn : pu_mw mdX5_setWholesOn 2 := ⟨wm71_23, wm1_19, by decide +kernel⟩
set_option maxRecDepth 20000 in
theorem hjX11_putRecord : pu_tab[220]? = some mdX11_putRecord := rfl
theorem mwX11_putRecord : pu_mw mdX11_putRecord 1 := ⟨wm72_8, wm1_2, by decide +kernel⟩
set_option maxRecDepth 20000 in
theorem hjX11_list : pu_tab[221]? = some mdX11_list := rfl
theorem mwX11_list : pu_mw mdX11_list 1 := ⟨wm71_19, wm1_2, by decide +kernel⟩
set_option maxRecDepth 20000 in
theorem hjX11_slotOfRecord : pu_tab[222]? = some mdX11_slotOfRecord := rfl
theorem mwX11_slotOfRecord : pu_mw mdX11_slotOfRecord 1 := ⟨wm73_4, wm1_2, by decide +kernel⟩
set_option maxRecDepth 20000 in
theorem hjX11_checkRecords : pu_tab[223]? = some mdX11_checkRecords := rfl
theorem mwX11_checkRecords : pu_mw mdX11_checkRecords 1 := ⟨wm73_0, wm1_2, by decide +kernel⟩
set_option maxRecDepth 20000 in
theorem hjX11_check : pu_tab[224]? = some mdX11_check := rfl
theorem mwX11_check : pu_mw mdX11_check 1 := ⟨wm72_20, wm1_2, by decide +kernel⟩
set_option maxRecDepth 20000 in
theorem hjX0_byteAt : pu_tab[225]? = some mdX0_byteAt := rfl
theorem mwX0_byteAt : pu_mw mdX0_byteAt 1 := ⟨wm73_18, wm1_14, by decide +kernel⟩
set_option maxRecDepth 20000 in
theorem hjX11_out : pu_tab[226]? = some mdX11_out := rfl
theorem mwX11_out : pu_mw mdX11_out 1 := ⟨wm73_14, wm1_2, by decide +kernel⟩
set_option maxRecDepth 20000 in
theorem hjX11_count : pu_tab[227]? = some mdX11_count := rfl
theorem mwX11_count : pu_mw mdX11_count 1 := ⟨wm74_2, wm1_2, by decide +kernel⟩
set_option maxRecDepth 20000 in
theorem hjX12_init : pu_tab[228]? = some mdX12_init := rfl
theorem mwX12_init : pu_mw mdX12_init 0 := ⟨wm7_13, wm1_5, by decide +kernel⟩
set_option maxRecDepth 20000 in
theorem hjX12_feed : pu_tab[229]? = some mdX12_feed := rfl
theorem mwX12_feed : pu_mw mdX12_feed 5 := ⟨wm9_14, wm1_5, by decide +kernel⟩
set_option maxRecDepth 20000 in
theorem hjX12_end : pu_tab[230]? = some mdX12_end := rfl
theorem mwX12_end : pu_mw mdX12_end 1 := ⟨wm9_22, wm1_5, by decide +kernel⟩
set_option maxRecDepth 20000 in
theorem hjX12_take : pu_tab[231]? = some mdX12_take := rfl
theorem mwX12_take : pu_mw mdX12_take 0 := ⟨wm10_14, wm1_5, by decide +kernel⟩
set_option maxRecDepth 20000 in
theorem hjX12_out : pu_tab[232]? = some mdX12_out := rfl
theorem mwX12_out : pu_mw mdX12_out 1 := ⟨wm73_22, wm1_5, by decide +kernel⟩
set_option maxRecDepth 20000 in
theorem hjX12_takes : pu_tab[233]? = some mdX12_takes := rfl
theorem mwX12_takes : pu_mw mdX12_takes 0 := ⟨wm15_3, wm1_5, by decide +kernel⟩
set_option maxRecDepth 20000 in
theorem hjX12_isDay : pu_tab[234]? = some mdX12_isDay := rfl
theorem mwX12_isDay : pu_mw mdX12_isDay 1 := ⟨wm11_7, wm1_5, by decide +kernel⟩
set_option maxRecDepth 20000 in
theorem hjX12_day : pu_tab[235]? = some mdX12_day := rfl
theorem mwX12_day : pu_mw mdX12_day 1 := ⟨wm11_4, wm1_5, by decide +kernel⟩
set_option maxRecDepth 20000 in
theorem hjX12_as : pu_tab[236]? = some mdX12_as := rfl
theorem mwX12_as : pu_mw mdX12_as 1 := ⟨wm11_17, wm1_5, by decide +kernel⟩
set_option maxRecDepth 20000 in
theorem hjX12_isKnown : pu_tab[237]? = some mdX12_isKnown := rfl
theorem mwX12_isKnown : pu_mw mdX12_isKnown 1 := ⟨wm48_5, wm1_5, by decide +kernel⟩
set_option maxRecDepth 20000 in
theorem hjX12_from : pu_tab[238]? = some mdX12_from := rfl
theorem mwX12_from : pu_mw mdX12_from 1 := ⟨wm21_7, wm1_5, by decide +kernel⟩
set_option maxRecDepth 20000 in
theorem hjX12_holds : pu_tab[239]? = some mdX12_holds := rfl
theorem mwX12_holds : pu_mw mdX12_holds 3 := ⟨wm48_1, wm1_5, by decide +kernel⟩
set_option maxRecDepth 20000 in
theorem hjX12_isLetter : pu_tab[240]? = some mdX12_isLetter := rfl
theorem mwX12_isLetter : pu_mw mdX12_isLetter 1 := ⟨wm15_14, wm1_5, by decide +kernel⟩
set_option maxRecDepth 20000 in
theorem hjX12_here : pu_tab[241]? = some mdX12_here := rfl
theorem mwX12_here : pu_mw mdX12_here 1 := ⟨wm15_11, wm1_5, by decide +kernel⟩
set_option maxRecDepth 20000 in
theorem hjX12_lengthen : pu_tab[242]? = some mdX12_lengthen := rfl
theorem mwX12_lengthen : pu_mw mdX12_lengthen 2 := ⟨wm15_18, wm1_5, by decide +kernel⟩
set_option maxRecDepth 20000 in
theorem hjX12_reads : pu_tab[243]? = some mdX12_reads := rfl
theorem mwX12_reads : pu_mw mdX12_reads 2 := ⟨wm15_7, wm1_5, by decide +kernel⟩
set_option maxRecDepth 20000 in
theorem hjX12_readsName : pu_tab[244]? = some mdX12_readsName := rfl
theorem mwX12_readsName : pu_mw mdX12_readsName 0 := ⟨wm14_23, wm1_5, by decide +kernel⟩
set_option maxRecDepth 20000 in
theorem hjX12_isName : pu_tab[245]? = some mdX12_isName := rfl
theorem mwX12_isName : pu_mw mdX12_isName 2 := ⟨wm15_22, wm1_5, by decide +kernel⟩
set_option maxRecDepth 20000 in
theorem hjX12_areAlike : pu_tab[246]? = some mdX12_areAlike := rfl
theorem mwX12_areAlike : pu_mw mdX12_areAlike 2 := ⟨wm40_23, wm1_5, by decide +kernel⟩
set_option maxRecDepth 20000 in
theorem hjX12_keepName : pu_tab[247]? = some mdX12_keepName := rfl
theorem mwX12_keepName : pu_mw mdX12_keepName 1 := ⟨wm16_2, wm1_5, by decide +kernel⟩
set_option maxRecDepth 20000 in
theorem hjX12_town : pu_tab[248]? = some mdX12_town := rfl
theorem mwX12_town : pu_mw mdX12_town 0 := ⟨wm14_19, wm1_5, by decide +kernel⟩
set_option maxRecDepth 20000 in
theorem hjX12_isWordOf : pu_tab[249]? = some mdX12_isWordOf := rfl
theorem mwX12_isWordOf : pu_mw mdX12_isWordOf 1 := ⟨wm17_9, wm1_5, by decide +kernel⟩
set_option maxRecDepth 20000 in
theorem hjX12_shorten : pu_tab[250]? = some mdX12_shorten := rfl
theorem mwX12_shorten : pu_mw mdX12_shorten 0 := ⟨wm17_5, wm1_5, by decide +kernel⟩
set_option maxRecDepth 20000 in
theorem hjX12_isStreet : pu_tab[251]? = some mdX12_isStreet := rfl
theorem mwX12_isStreet : pu_mw mdX12_isStreet 1 := ⟨wm28_9, wm1_5, by decide +kernel⟩
set_option maxRecDepth 20000 in
theorem hjX12_isTown : pu_tab[252]? = some mdX12_isTown := rfl
theorem mwX12_isTown : pu_mw mdX12_isTown 1 := ⟨wm20_19, wm1_5, by decide +kernel⟩
set_option maxRecDepth 20000 in
theorem hjX12_openName : pu_tab[253]? = some mdX12_openName := rfl
theorem mwX12_openName : pu_mw mdX12_openName 1 := ⟨wm29_4, wm1_5, by decide +kernel⟩
set_option maxRecDepth 20000 in
theorem hjX12_townOf : pu_tab[254]? = some mdX12_townOf := rfl
theorem mwX12_townOf : pu_mw mdX12_townOf 1 := ⟨wm29_0, wm1_5, by decide +kernel⟩
set_option maxRecDepth 20000 in
theorem hjX12_latest : pu_tab[255]? = some mdX12_latest := rfl
theorem mwX12_latest : pu_mw mdX12_latest 2 := ⟨wm20_23, wm1_5, by decide +kernel⟩
set_option maxRecDepth 20000 in
theorem hjX12_isEarly : pu_tab[256]? = some mdX12_isEarly := rfl
theorem mwX12_isEarly : pu_mw mdX12_isEarly 2 := ⟨wm28_20, wm1_5, by decide +kernel⟩
set_option maxRecDepth 20000 in
theorem hjX12_paper : pu_tab[257]? = some mdX12_paper := rfl
theorem mwX12_paper : pu_mw mdX12_paper 5 := ⟨wm21_11, wm1_5, by decide +kernel⟩
set_option maxRecDepth 20000 in
theorem hjX12_openName_ : pu_tab[258]? = some mdX12_openName_ := rfl
theorem mwX12_openName_ : pu_mw mdX12_openName_ 4 := ⟨wm21_15, wm1_5, by decide +kernel⟩
set_option maxRecDepth 20000 in
theorem hjX12_isTaken : pu_tab[259]? = some mdX12_isTaken := rfl
theorem mwX12_isTaken : pu_mw mdX12_isTaken 2 := ⟨wm21_3, wm1_5, by decide +kernel⟩
set_option maxRecDepth 20000 in
theorem hjX12_street : pu_tab[260]? = some mdX12_street := rfl
theorem mwX12_street : pu_mw mdX12_street 3 := ⟨wm20_15, wm1_5, by decide +kernel⟩
set_option maxRecDepth 20000 in
theorem hjX12_rename : pu_tab[261]? = some mdX12_rename := rfl
theorem mwX12_rename : pu_mw mdX12_rename 2 := ⟨wm39_15, wm1_5, by decide +kernel⟩
set_option maxRecDepth 20000 in
theorem hjX12_join : pu_tab[262]? = some mdX12_join := rfl
theorem mwX12_join : pu_mw mdX12_join 3 := ⟨wm40_19, wm1_5, by decide +kernel⟩
set_option maxRecDepth 20000 in
theorem hjX12_isWhole : pu_tab[263]? = some mdX12_isWhole := rfl
theorem mwX12_isWhole : pu_mw mdX12_isWhole 1 := ⟨wm28_15, wm1_5, by decide +kernel⟩
set_option maxRecDepth 20000 in
theorem hjX12_isDoor : pu_tab[264]? = some mdX12_isDoor := rfl
theorem mwX12_isDoor : pu_mw mdX12_isDoor 1 := ⟨wm30_2, wm1_5, by decide +kernel⟩
set_option maxRecDepth 20000 in
theorem hjX12_of : pu_tab[265]? = some mdX12_of := rfl
theorem mwX12_of : pu_mw mdX12_of 2 := ⟨wm30_6, wm1_5, by decide +kernel⟩
set_option maxRecDepth 20000 in
theorem hjX12_isOpen : pu_tab[266]? = some mdX12_isOpen := rfl
theorem mwX12_isOpen : pu_mw mdX12_isOpen 1 := ⟨wm29_22, wm1_5, by decide +kernel⟩
set_option maxRecDepth 20000 in
theorem hjX12_hasPlace : pu_tab[267]? = some mdX12_hasPlace := rfl
theorem mwX12_hasPlace : pu_mw mdX12_hasPlace 2 := ⟨wm30_10, wm1_5, by decide +kernel⟩
set_option maxRecDepth 20000 in
theorem hjX12_streetAt : pu_tab[268]? = some mdX12_streetAt := rfl
theorem mwX12_streetAt : pu_mw mdX12_streetAt 2 := ⟨wm30_14, wm1_5, by decide +kernel⟩
set_option maxRecDepth 20000 in
theorem hjX12_sideAt : pu_tab[269]? = some mdX12_sideAt := rfl
theorem mwX12_sideAt : pu_mw mdX12_sideAt 2 := ⟨wm30_18, wm1_5, by decide +kernel⟩
set_option maxRecDepth 20000 in
theorem hjX12_pacesAt : pu_tab[270]? = some mdX12_pacesAt := rfl
theorem mwX12_pacesAt : pu_mw mdX12_pacesAt 2 := ⟨wm31_9, wm1_5, by decide +kernel⟩
set_option maxRecDepth 20000 in
theorem hjX12_front : pu_tab[271]? = some mdX12_front := rfl
theorem mwX12_front : pu_mw mdX12_front 1 := ⟨wm35_3, wm1_5, by decide +kernel⟩
set_option maxRecDepth 20000 in
theorem hjX12_openSpan : pu_tab[272]? = some mdX12_openSpan := rfl
theorem mwX12_openSpan : pu_mw mdX12_openSpan 2 := ⟨wm31_5, wm1_5, by decide +kernel⟩
set_option maxRecDepth 20000 in
theorem hjX12_wholeAt : pu_tab[273]? = some mdX12_wholeAt := rfl
theorem mwX12_wholeAt : pu_mw mdX12_wholeAt 2 := ⟨wm31_1, wm1_5, by decide +kernel⟩
set_option maxRecDepth 20000 in
theorem hjX12_opens : pu_tab[274]? = some mdX12_opens := rfl
theorem mwX12_opens : pu_mw mdX12_opens 5 := ⟨wm32_8, wm1_5, by decide +kernel⟩
set_option maxRecDepth 20000 in
theorem hjX12_along : pu_tab[275]? = some mdX12_along := rfl
theorem mwX12_along : pu_mw mdX12_along 3 := ⟨wm29_17, wm1_5, by decide +kernel⟩
set_option maxRecDepth 20000 in
theorem hjX12_isOrdered : pu_tab[276]? = some mdX12_isOrdered := rfl
theorem mwX12_isOrdered : pu_mw mdX12_isOrdered 3 := ⟨wm30_21, wm1_5, by decide +kernel⟩
set_option maxRecDepth 20000 in
theorem hjX12_bounds : pu_tab[277]? = some mdX12_bounds := rfl
theorem mwX12_bounds : pu_mw mdX12_bounds 3 := ⟨wm29_12, wm1_5, by decide +kernel⟩
set_option maxRecDepth 20000 in
theorem hjX12_isUsed : pu_tab[278]? = some mdX12_isUsed := rfl
theorem mwX12_isUsed : pu_mw mdX12_isUsed 2 := ⟨wm31_20, wm1_5, by decide +kernel⟩
set_option maxRecDepth 20000 in
theorem hjX12_mayBe : pu_tab[279]? = some mdX12_mayBe := rfl
theorem mwX12_mayBe : pu_mw mdX12_mayBe 4 := ⟨wm31_16, wm1_5, by decide +kernel⟩
set_option maxRecDepth 20000 in
theorem hjX12_isCandidate : pu_tab[280]? = some mdX12_isCandidate := rfl
theorem mwX12_isCandidate : pu_mw mdX12_isCandidate 4 := ⟨wm31_13, wm1_5, by decide +kernel⟩
set_option maxRecDepth 20000 in
theorem hjX12_least : pu_tab[281]? = some mdX12_least := rfl
theorem mwX12_least : pu_mw mdX12_least 4 := ⟨wm29_8, wm1_5, by decide +kernel⟩
set_option maxRecDepth 20000 in
theorem hjX12_isOccupied : pu_tab[282]? = some mdX12_isOccupied := rfl
theorem mwX12_isOccupied : pu_mw mdX12_isOccupied 3 := ⟨wm32_0, wm1_5, by decide +kernel⟩
set_option maxRecDepth 20000 in
theorem hjX12_isPlace : pu_tab[283]? = some mdX12_isPlace := rfl
theorem mwX12_isPlace : pu_mw mdX12_isPlace 2 := ⟨wm28_12, wm1_5, by decide +kernel⟩
set_option maxRecDepth 20000 in
theorem hjX12_made : pu_tab[284]? = some mdX12_made := rfl
theorem mwX12_made : pu_mw mdX12_made 7 := ⟨wm32_4, wm1_5, by decide +kernel⟩
set_option maxRecDepth 20000 in
theorem hjX12_door : pu_tab[285]? = some mdX12_door := rfl
theorem mwX12_door : pu_mw mdX12_door 5 := ⟨wm28_5, wm1_5, by decide +kernel⟩
set_option maxRecDepth 20000 in
theorem hjX12_free : pu_tab[286]? = some mdX12_free := rfl
theorem mwX12_free : pu_mw mdX12_free 3 := ⟨wm65_15, wm1_5, by decide +kernel⟩
set_option maxRecDepth 20000 in
theorem hjX12_corner : pu_tab[287]? = some mdX12_corner := rfl
theorem mwX12_corner : pu_mw mdX12_corner 6 := ⟨wm33_6, wm1_5, by decide +kernel⟩
set_option maxRecDepth 20000 in
theorem hjX12_underneath : pu_tab[288]? = some mdX12_underneath := rfl
theorem mwX12_underneath : pu_mw mdX12_underneath 3 := ⟨wm35_11, wm1_5, by decide +kernel⟩
set_option maxRecDepth 20000 in
theorem hjX12_isEarlyAt : pu_tab[289]? = some mdX12_isEarlyAt := rfl
theorem mwX12_isEarlyAt : pu_mw mdX12_isEarlyAt 2 := ⟨wm35_7, wm1_5, by decide +kernel⟩
set_option maxRecDepth 20000 in
theorem hjX12_paperOn : pu_tab[290]? = some mdX12_paperOn := rfl
theorem mwX12_paperOn : pu_mw mdX12_paperOn 2 := ⟨wm35_15, wm1_5, by decide +kernel⟩
set_option maxRecDepth 20000 in
theorem hjX12_under : pu_tab[291]? = some mdX12_under := rfl
theorem mwX12_under : pu_mw mdX12_under 4 := ⟨wm34_23, wm1_5, by decide +kernel⟩
set_option maxRecDepth 20000 in
theorem hjX12_isUnder : pu_tab[292]? = some mdX12_isUnder := rfl
theorem mwX12_isUnder : pu_mw mdX12_isUnder 2 := ⟨wm36_11, wm1_5, by decide +kernel⟩
set_option maxRecDepth 20000 in
theorem hjX12_gone : pu_tab[293]? = some mdX12_gone := rfl
theorem mwX12_gone : pu_mw mdX12_gone 2 := ⟨wm36_7, wm1_5, by decide +kernel⟩
set_option maxRecDepth 20000 in
theorem hjX12_orders : pu_tab[294]? = some mdX12_orders := rfl
theorem mwX12_orders : pu_mw mdX12_orders 2 := ⟨wm39_0, wm1_5, by decide +kernel⟩
set_option maxRecDepth 20000 in
theorem hjX12_isRising : pu_tab[295]? = some mdX12_isRising := rfl
theorem mwX12_isRising : pu_mw mdX12_isRising 0 := ⟨wm39_4, wm1_5, by decide +kernel⟩
set_option maxRecDepth 20000 in
theorem hjX12_gets : pu_tab[296]? = some mdX12_gets := rfl
theorem mwX12_gets : pu_mw mdX12_gets 2 := ⟨wm38_20, wm1_5, by decide +kernel⟩
set_option maxRecDepth 20000 in
theorem hjX12_renumber : pu_tab[297]? = some mdX12_renumber := rfl
theorem mwX12_renumber : pu_mw mdX12_renumber 3 := ⟨wm38_16, wm1_5, by decide +kernel⟩
set_option maxRecDepth 20000 in
theorem hjX12_row : pu_tab[298]? = some mdX12_row := rfl
theorem mwX12_row : pu_mw mdX12_row 2 := ⟨wm41_20, wm1_5, by decide +kernel⟩
set_option maxRecDepth 20000 in
theorem hjX12_tear : pu_tab[299]? = some mdX12_tear := rfl
theorem mwX12_tear : pu_mw mdX12_tear 3 := ⟨wm42_9, wm1_5, by decide +kernel⟩
set_option maxRecDepth 20000 in
theorem hjX12_unmade : pu_tab[300]? = some mdX12_unmade := rfl
theorem mwX12_unmade : pu_mw mdX12_unmade 2 := ⟨wm44_2, wm1_5, by decide +kernel⟩
set_option maxRecDepth 20000 in
theorem hjX12_undo : pu_tab[301]? = some mdX12_undo := rfl
theorem mwX12_undo : pu_mw mdX12_undo 0 := ⟨wm43_22, wm1_5, by decide +kernel⟩
set_option maxRecDepth 20000 in
theorem hjX12_image : pu_tab[302]? = some mdX12_image := rfl
theorem mwX12_image : pu_mw mdX12_image 1 := ⟨wm46_5, wm1_5, by decide +kernel⟩
set_option maxRecDepth 20000 in
theorem hjX12_back : pu_tab[303]? = some mdX12_back := rfl
theorem mwX12_back : pu_mw mdX12_back 1 := ⟨wm46_13, wm1_5, by decide +kernel⟩
set_option maxRecDepth 20000 in
theorem hjX12_faulty : pu_tab[304]? = some mdX12_faulty := rfl
theorem mwX12_faulty : pu_mw mdX12_faulty 1 := ⟨wm58_11, wm1_5, by decide +kernel⟩
set_option maxRecDepth 20000 in
theorem hjX12_word : pu_tab[305]? = some mdX12_word := rfl
theorem mwX12_word : pu_mw mdX12_word 2 := ⟨wm58_7, wm1_5, by decide +kernel⟩
set_option maxRecDepth 20000 in
theorem hjX12_must : pu_tab[306]? = some mdX12_must := rfl
theorem mwX12_must : pu_mw mdX12_must 1 := ⟨wm58_15, wm1_5, by decide +kernel⟩
set_option maxRecDepth 20000 in
theorem hjX12_isDigit : pu_tab[307]? = some mdX12_isDigit := rfl
theorem mwX12_isDigit : pu_mw mdX12_isDigit 1 := ⟨wm58_18, wm1_5, by decide +kernel⟩
set_option maxRecDepth 20000 in
theorem hjX12_streetPart : pu_tab[308]? = some mdX12_streetPart := rfl
theorem mwX12_streetPart : pu_mw mdX12_streetPart 0 := ⟨wm58_3, wm1_5, by decide +kernel⟩
set_option maxRecDepth 20000 in
theorem hjX12_numberPart : pu_tab[309]? = some mdX12_numberPart := rfl
theorem mwX12_numberPart : pu_mw mdX12_numberPart 0 := ⟨wm58_22, wm1_5, by decide +kernel⟩
set_option maxRecDepth 20000 in
theorem hjX12_court : pu_tab[310]? = some mdX12_court := rfl
theorem mwX12_court : pu_mw mdX12_court 0 := ⟨wm59_6, wm1_5, by decide +kernel⟩
set_option maxRecDepth 20000 in
theorem hjX12_floor : pu_tab[311]? = some mdX12_floor := rfl
theorem mwX12_floor : pu_mw mdX12_floor 0 := ⟨wm59_10, wm1_5, by decide +kernel⟩
set_option maxRecDepth 20000 in
theorem hjX12_extraPart : pu_tab[312]? = some mdX12_extraPart := rfl
theorem mwX12_extraPart : pu_mw mdX12_extraPart 0 := ⟨wm59_2, wm1_5, by decide +kernel⟩
set_option maxRecDepth 20000 in
theorem hjX12_townPart : pu_tab[313]? = some mdX12_townPart := rfl
theorem mwX12_townPart : pu_mw mdX12_townPart 0 := ⟨wm59_14, wm1_5, by decide +kernel⟩
set_option maxRecDepth 20000 in
theorem hjX12_readsAddress : pu_tab[314]? = some mdX12_readsAddress := rfl
theorem mwX12_readsAddress : pu_mw mdX12_readsAddress 0 := ⟨wm57_23, wm1_5, by decide +kernel⟩
set_option maxRecDepth 20000 in
theorem hjX12_standsOn : pu_tab[315]? = some mdX12_standsOn := rfl
theorem mwX12_standsOn : pu_mw mdX12_standsOn 2 := ⟨wm47_21, wm1_5, by decide +kernel⟩
set_option maxRecDepth 20000 in
theorem hjX12_streetOn : pu_tab[316]? = some mdX12_streetOn := rfl
theorem mwX12_streetOn : pu_mw mdX12_streetOn 1 := ⟨wm59_22, wm1_5, by decide +kernel⟩
set_option maxRecDepth 20000 in
theorem hjX12_isOn : pu_tab[317]? = some mdX12_isOn := rfl
theorem mwX12_isOn : pu_mw mdX12_isOn 3 := ⟨wm60_2, wm1_5, by decide +kernel⟩
set_option maxRecDepth 20000 in
theorem hjX12_withExtra : pu_tab[318]? = some mdX12_withExtra := rfl
theorem mwX12_withExtra : pu_mw mdX12_withExtra 2 := ⟨wm60_6, wm1_5, by decide +kernel⟩
set_option maxRecDepth 20000 in
theorem hjX12_sure : pu_tab[319]? = some mdX12_sure := rfl
theorem mwX12_sure : pu_mw mdX12_sure 1 := ⟨wm59_18, wm1_5, by decide +kernel⟩
set_option maxRecDepth 20000 in
theorem hjX12_sideOf : pu_tab[320]? = some mdX12_sideOf := rfl
theorem mwX12_sideOf : pu_mw mdX12_sideOf 1 := ⟨wm60_18, wm1_5, by decide +kernel⟩
set_option maxRecDepth 20000 in
theorem hjX12_pacesOf : pu_tab[321]? = some mdX12_pacesOf := rfl
theorem mwX12_pacesOf : pu_mw mdX12_pacesOf 1 := ⟨wm60_22, wm1_5, by decide +kernel⟩
set_option maxRecDepth 20000 in
theorem hjX12_mayHave : pu_tab[322]? = some mdX12_mayHave := rfl
theorem mwX12_mayHave : pu_mw mdX12_mayHave 3 := ⟨wm60_14, wm1_5, by decide +kernel⟩
set_option maxRecDepth 20000 in
theorem hjX12_likelyOn : pu_tab[323]? = some mdX12_likelyOn := rfl
theorem mwX12_likelyOn : pu_mw mdX12_likelyOn 2 := ⟨wm60_10, wm1_5, by decide +kernel⟩
set_option maxRecDepth 20000 in
theorem hjX12_means : pu_tab[324]? = some mdX12_means := rfl
theorem mwX12_means : pu_mw mdX12_means 1 := ⟨wm57_17, wm1_5, by decide +kernel⟩
set_option maxRecDepth 20000 in
theorem hjX12_fault : pu_tab[325]? = some mdX12_fault := rfl
theorem mwX12_fault : pu_mw mdX12_fault 0 := ⟨wm61_6, wm1_5, by decide +kernel⟩
set_option maxRecDepth 20000 in
theorem hjX12_found : pu_tab[326]? = some mdX12_found := rfl
theorem mwX12_found : pu_mw mdX12_found 2 := ⟨wm61_16, wm1_5, by decide +kernel⟩
set_option maxRecDepth 20000 in
theorem hjX12_call : pu_tab[327]? = some mdX12_call := rfl
theorem mwX12_call : pu_mw mdX12_call 1 := ⟨wm63_2, wm1_5, by decide +kernel⟩
set_option maxRecDepth 20000 in
theorem hjX12_ended : pu_tab[328]? = some mdX12_ended := rfl
theorem mwX12_ended : pu_mw mdX12_ended 0 := ⟨wm63_10, wm1_5, by decide +kernel⟩
set_option maxRecDepth 20000 in
theorem hjX12_letter : pu_tab[329]? = some mdX12_letter := rfl
theorem mwX12_letter : pu_mw mdX12_letter 1 := ⟨wm70_5, wm1_5, by decide +kernel⟩
set_option maxRecDepth 20000 in
theorem hjX12_about : pu_tab[330]? = some mdX12_about := rfl
theorem mwX12_about : pu_mw mdX12_about 2 := ⟨wm47_4, wm1_5, by decide +kernel⟩
set_option maxRecDepth 20000 in
theorem hjX12_stands : pu_tab[331]? = some mdX12_stands := rfl
theorem mwX12_stands : pu_mw mdX12_stands 2 := ⟨wm47_17, wm1_5, by decide +kernel⟩
set_option maxRecDepth 20000 in
theorem hjX12_spanOn : pu_tab[332]? = some mdX12_spanOn := rfl
theorem mwX12_spanOn : pu_mw mdX12_spanOn 3 := ⟨wm49_6, wm1_5, by decide +kernel⟩
set_option maxRecDepth 20000 in
theorem hjX12_number : pu_tab[333]? = some mdX12_number := rfl
theorem mwX12_number : pu_mw mdX12_number 4 := ⟨wm49_2, wm1_5, by decide +kernel⟩
set_option maxRecDepth 20000 in
theorem hjX12_put : pu_tab[334]? = some mdX12_put := rfl
theorem mwX12_put : pu_mw mdX12_put 1 := ⟨wm53_11, wm1_5, by decide +kernel⟩
set_option maxRecDepth 20000 in
theorem hjX12_putName : pu_tab[335]? = some mdX12_putName := rfl
theorem mwX12_putName : pu_mw mdX12_putName 1 := ⟨wm53_7, wm1_5, by decide +kernel⟩
set_option maxRecDepth 20000 in
theorem hjX12_putNumber : pu_tab[336]? = some mdX12_putNumber := rfl
theorem mwX12_putNumber : pu_mw mdX12_putNumber 1 := ⟨wm53_15, wm1_5, by decide +kernel⟩
set_option maxRecDepth 20000 in
theorem hjX12_putWords : pu_tab[337]? = some mdX12_putWords := rfl
theorem mwX12_putWords : pu_mw mdX12_putWords 1 := ⟨wm53_19, wm1_5, by decide +kernel⟩
set_option maxRecDepth 20000 in
theorem hjX12_write : pu_tab[338]? = some mdX12_write := rfl
theorem mwX12_write : pu_mw mdX12_write 3 := ⟨wm53_3, wm1_5, by decide +kernel⟩
set_option maxRecDepth 20000 in
theorem hjX12_pairs : pu_tab[339]? = some mdX12_pairs := rfl
theorem mwX12_pairs : pu_mw mdX12_pairs 2 := ⟨wm64_20, wm1_5, by decide +kernel⟩
set_option maxRecDepth 20000 in
theorem hjX12_twice : pu_tab[340]? = some mdX12_twice := rfl
theorem mwX12_twice : pu_mw mdX12_twice 3 := ⟨wm64_16, wm1_5, by decide +kernel⟩
set_option maxRecDepth 20000 in
theorem hjX12_pair : pu_tab[341]? = some mdX12_pair := rfl
theorem mwX12_pair : pu_mw mdX12_pair 2 := ⟨wm65_7, wm1_5, by decide +kernel⟩
set_option maxRecDepth 20000 in
theorem hjX12_isIn : pu_tab[342]? = some mdX12_isIn := rfl
theorem mwX12_isIn : pu_mw mdX12_isIn 4 := ⟨wm66_10, wm1_5, by decide +kernel⟩
set_option maxRecDepth 20000 in
theorem hjX12_near : pu_tab[343]? = some mdX12_near := rfl
theorem mwX12_near : pu_mw mdX12_near 4 := ⟨wm66_6, wm1_5, by decide +kernel⟩
set_option maxRecDepth 20000 in
theorem hjX12_stop : pu_tab[344]? = some mdX12_stop := rfl
theorem mwX12_stop : pu_mw mdX12_stop 2 := ⟨wm66_23, wm1_5, by decide +kernel⟩
set_option maxRecDepth 20000 in
theorem hjX12_walkKey : pu_tab[345]? = some mdX12_walkKey := rfl
theorem mwX12_walkKey : pu_mw mdX12_walkKey 3 := ⟨wm68_23, wm1_5, by decide +kernel⟩
set_option maxRecDepth 20000 in
theorem hjX12_isWalked : pu_tab[346]? = some mdX12_isWalked := rfl
theorem mwX12_isWalked : pu_mw mdX12_isWalked 1 := ⟨wm68_19, wm1_5, by decide +kernel⟩
set_option maxRecDepth 20000 in
theorem hjX12_comesTo : pu_tab[347]? = some mdX12_comesTo := rfl
theorem mwX12_comesTo : pu_mw mdX12_comesTo 1 := ⟨wm69_7, wm1_5, by decide +kernel⟩
set_option maxRecDepth 20000 in
theorem hjX12_comesToAll : pu_tab[348]? = some mdX12_comesToAll := rfl
theorem mwX12_comesToAll : pu_mw mdX12_comesToAll 2 := ⟨wm69_3, wm1_5, by decide +kernel⟩
set_option maxRecDepth 20000 in
theorem hjX12_walk : pu_tab[349]? = some mdX12_walk := rfl
theorem mwX12_walk : pu_mw mdX12_walk 1 := ⟨wm68_15, wm1_5, by decide +kernel⟩
set_option maxRecDepth 20000 in
theorem hjX12_walked : pu_tab[350]? = some mdX12_walked := rfl
theorem mwX12_walked : pu_mw mdX12_walked 1 := ⟨wm69_16, wm1_5, by decide +kernel⟩
set_option maxRecDepth 20000 in
theorem hjX12_sort : pu_tab[351]? = some mdX12_sort := rfl
theorem mwX12_sort : pu_mw mdX12_sort 0 := ⟨wm71_3, wm1_5, by decide +kernel⟩
set_option maxRecDepth 20000 in
theorem hjX12_sorted : pu_tab[352]? = some mdX12_sorted := rfl
theorem mwX12_sorted : pu_mw mdX12_sorted 2 := ⟨wm71_15, wm1_5, by decide +kernel⟩
set_option maxRecDepth 20000 in
theorem hjX12_listed : pu_tab[353]? = some mdX12_listed := rfl
theorem mwX12_listed : pu_mw mdX12_listed 3 := ⟨wm72_16, wm1_5, by decide +kernel⟩
set_option maxRecDepth 20000 in
theorem hjX12_list : pu_tab[354]? = some mdX12_list := rfl
theorem mwX12_list : pu_mw mdX12_list 1 := ⟨wm72_12, wm1_5, by decide +kernel⟩
set_option maxRecDepth 20000 in
theorem hjX12_check : pu_tab[355]? = some mdX12_check := rfl
theorem mwX12_check : pu_mw mdX12_check 1 := ⟨wm73_9, wm1_5, by decide +kernel⟩
set_option maxRecDepth 20000 in
theorem hjX12_count : pu_tab[356]? = some mdX12_count := rfl
theorem mwX12_count : pu_mw mdX12_count 1 := ⟨wm74_7, wm1_5, by decide +kernel⟩
theorem ne0 : (RX11, 11, yX0_init) ∈ pu_nest := List.mem_of_getElem? (i := 0) rfl
theorem ne1 : (RX11, 21, yX5_init) ∈ pu_nest := List.mem_of_getElem? (i := 1) rfl
theorem ne2 : (RX11, 32, yX7_init) ∈ pu_nest := List.mem_of_getElem? (i := 2) rfl
theorem ne3 : (RX11, 39, yX9_init) ∈ pu_nest := List.mem_of_getElem? (i := 3) rfl
theorem ne4 : (RX5, 11, yX6_init) ∈ pu_nest := List.mem_of_getElem? (i := 4) rfl
theorem ne5 : (RX5, 20, yX4_init) ∈ pu_nest := List.mem_of_getElem? (i := 5) rfl
theorem ne6 : (RX5, 27, yX3_init) ∈ pu_nest := List.mem_of_getElem? (i := 6) rfl
theorem ne7 : (RX5, 34, yX10_init) ∈ pu_nest := List.mem_of_getElem? (i := 7) rfl
theorem ne8 : (RX5, 41, yX2_init) ∈ pu_nest := List.mem_of_getElem? (i := 8) rfl
theorem ne9 : (RX5, 48, yX8_init) ∈ pu_nest := List.mem_of_getElem? (i := 9) rfl
theorem ne10 : (RX5, 55, yX1_init) ∈ pu_nest := List.mem_of_getElem? (i := 10) rfl
theorem ne11 : (RX9, 123, yX11_digitsByPaces) ∈ pu_nest := List.mem_of_getElem? (i := 11) rfl
theorem ne12 : (RX9, 129, yX11_areDigitsOfSide) ∈ pu_nest := List.mem_of_getElem? (i := 12) rfl
set_option maxRecDepth 20000 in
theorem hl357 : pu_lp 357 = some (22, 6) := rfl
set_option maxRecDepth 20000 in
theorem hl358 : pu_lp 358 = some (24, 4) := rfl
set_option maxRecDepth 20000 in
theorem hl359 : pu_lp 359 = some (26, 7) := rfl
set_option maxRecDepth 20000 in
theorem hl360 : pu_lp 360 = some (27, 2) := rfl
set_option maxRecDepth 20000 in
theorem hl361 : pu_lp 361 = some (29, 2) := rfl
set_option maxRecDepth 20000 in
theorem hl362 : pu_lp 362 = some (32, 3) := rfl
set_option maxRecDepth 20000 in
theorem hl363 : pu_lp 363 = some (33, 2) := rfl
set_option maxRecDepth 20000 in
theorem hl364 : pu_lp 364 = some (37, 2) := rfl
set_option maxRecDepth 20000 in
theorem hl365 : pu_lp 365 = some (38, 2) := rfl
set_option maxRecDepth 20000 in
theorem hl366 : pu_lp 366 = some (42, 2) := rfl
set_option maxRecDepth 20000 in
theorem hl367 : pu_lp 367 = some (45, 5) := rfl
set_option maxRecDepth 20000 in
theorem hl368 : pu_lp 368 = some (50, 3) := rfl
set_option maxRecDepth 20000 in
theorem hl369 : pu_lp 369 = some (61, 2) := rfl
set_option maxRecDepth 20000 in
theorem hl370 : pu_lp 370 = some (72, 34) := rfl
set_option maxRecDepth 20000 in
theorem hl371 : pu_lp 371 = some (73, 32) := rfl
set_option maxRecDepth 20000 in
theorem hl372 : pu_lp 372 = some (75, 5) := rfl
set_option maxRecDepth 20000 in
theorem hl373 : pu_lp 373 = some (76, 2) := rfl
set_option maxRecDepth 20000 in
theorem hl374 : pu_lp 374 = some (79, 2) := rfl
set_option maxRecDepth 20000 in
theorem hl375 : pu_lp 375 = some (81, 112) := rfl
set_option maxRecDepth 20000 in
theorem hl376 : pu_lp 376 = some (81, 127) := rfl
set_option maxRecDepth 20000 in
theorem hl377 : pu_lp 377 = some (82, 2) := rfl
set_option maxRecDepth 20000 in
theorem hl378 : pu_lp 378 = some (99, 3) := rfl
set_option maxRecDepth 20000 in
theorem hl379 : pu_lp 379 = some (102, 2) := rfl
set_option maxRecDepth 20000 in
theorem hl380 : pu_lp 380 = some (103, 5) := rfl
set_option maxRecDepth 20000 in
theorem hl381 : pu_lp 381 = some (107, 5) := rfl
set_option maxRecDepth 20000 in
theorem hl382 : pu_lp 382 = some (108, 2) := rfl
set_option maxRecDepth 20000 in
theorem hl383 : pu_lp 383 = some (109, 2) := rfl
set_option maxRecDepth 20000 in
theorem hl384 : pu_lp 384 = some (111, 4) := rfl
set_option maxRecDepth 20000 in
theorem hl385 : pu_lp 385 = some (113, 2) := rfl
set_option maxRecDepth 20000 in
theorem hl386 : pu_lp 386 = some (116, 12) := rfl
set_option maxRecDepth 20000 in
theorem hl387 : pu_lp 387 = some (117, 9) := rfl
set_option maxRecDepth 20000 in
theorem hl388 : pu_lp 388 = some (118, 2) := rfl
set_option maxRecDepth 20000 in
theorem hl389 : pu_lp 389 = some (119, 9) := rfl
set_option maxRecDepth 20000 in
theorem hl390 : pu_lp 390 = some (123, 64) := rfl
set_option maxRecDepth 20000 in
theorem hl391 : pu_lp 391 = some (127, 6) := rfl
set_option maxRecDepth 20000 in
theorem hl392 : pu_lp 392 = some (131, 22) := rfl
set_option maxRecDepth 20000 in
theorem hl393 : pu_lp 393 = some (147, 3) := rfl
set_option maxRecDepth 20000 in
theorem hl394 : pu_lp 394 = some (150, 3) := rfl
set_option maxRecDepth 20000 in
theorem hl395 : pu_lp 395 = some (151, 7) := rfl
set_option maxRecDepth 20000 in
theorem hl396 : pu_lp 396 = some (152, 2) := rfl
set_option maxRecDepth 20000 in
theorem hl397 : pu_lp 397 = some (153, 4) := rfl
set_option maxRecDepth 20000 in
theorem hl398 : pu_lp 398 = some (162, 2) := rfl
set_option maxRecDepth 20000 in
theorem hl399 : pu_lp 399 = some (165, 10) := rfl
set_option maxRecDepth 20000 in
theorem hl400 : pu_lp 400 = some (166, 4) := rfl
set_option maxRecDepth 20000 in
theorem hl401 : pu_lp 401 = some (168, 2) := rfl
set_option maxRecDepth 20000 in
theorem hl402 : pu_lp 402 = some (172, 3) := rfl
set_option maxRecDepth 20000 in
theorem hl403 : pu_lp 403 = some (176, 6) := rfl
set_option maxRecDepth 20000 in
theorem hl404 : pu_lp 404 = some (176, 32) := rfl
set_option maxRecDepth 20000 in
theorem hl405 : pu_lp 405 = some (179, 2) := rfl
set_option maxRecDepth 20000 in
theorem hl406 : pu_lp 406 = some (180, 16) := rfl
set_option maxRecDepth 20000 in
theorem hl407 : pu_lp 407 = some (182, 2) := rfl
set_option maxRecDepth 20000 in
theorem hl408 : pu_lp 408 = some (187, 3) := rfl
set_option maxRecDepth 20000 in
theorem hl409 : pu_lp 409 = some (188, 54) := rfl
set_option maxRecDepth 20000 in
theorem hl410 : pu_lp 410 = some (189, 30) := rfl
set_option maxRecDepth 20000 in
theorem hl411 : pu_lp 411 = some (193, 17) := rfl
set_option maxRecDepth 20000 in
theorem hl412 : pu_lp 412 = some (194, 14) := rfl
set_option maxRecDepth 20000 in
theorem hl413 : pu_lp 413 = some (194, 45) := rfl
set_option maxRecDepth 20000 in
theorem hl414 : pu_lp 414 = some (195, 2) := rfl
set_option maxRecDepth 20000 in
theorem hl415 : pu_lp 415 = some (200, 53) := rfl
set_option maxRecDepth 20000 in
theorem hl416 : pu_lp 416 = some (203, 2) := rfl
set_option maxRecDepth 20000 in
theorem hl417 : pu_lp 417 = some (206, 10) := rfl
set_option maxRecDepth 20000 in
theorem hl418 : pu_lp 418 = some (207, 14) := rfl
set_option maxRecDepth 20000 in
theorem hl419 : pu_lp 419 = some (208, 2) := rfl
set_option maxRecDepth 20000 in
theorem hl420 : pu_lp 420 = some (209, 23) := rfl
set_option maxRecDepth 20000 in
theorem hl421 : pu_lp 421 = some (214, 2) := rfl
set_option maxRecDepth 20000 in
theorem hl422 : pu_lp 422 = some (215, 7) := rfl
set_option maxRecDepth 20000 in
theorem hl423 : pu_lp 423 = some (215, 33) := rfl
set_option maxRecDepth 20000 in
theorem hl424 : pu_lp 424 = some (218, 5) := rfl
set_option maxRecDepth 20000 in
theorem hl425 : pu_lp 425 = some (219, 7) := rfl
set_option maxRecDepth 20000 in
theorem hl426 : pu_lp 426 = some (221, 32) := rfl
set_option maxRecDepth 20000 in
theorem hl427 : pu_lp 427 = some (223, 14) := rfl
set_option maxRecDepth 20000 in
theorem hl428 : pu_lp 428 = some (223, 56) := rfl
set_option maxRecDepth 20000 in
theorem hl429 : pu_lp 429 = some (228, 207) := rfl
set_option maxRecDepth 20000 in
theorem hl430 : pu_lp 430 = some (229, 18) := rfl
set_option maxRecDepth 20000 in
theorem hl431 : pu_lp 431 = some (231, 10) := rfl
set_option maxRecDepth 20000 in
theorem hl432 : pu_lp 432 = some (233, 10) := rfl
set_option maxRecDepth 20000 in
theorem hl433 : pu_lp 433 = some (242, 2) := rfl
set_option maxRecDepth 20000 in
theorem hl434 : pu_lp 434 = some (242, 19) := rfl
set_option maxRecDepth 20000 in
theorem hl435 : pu_lp 435 = some (242, 83) := rfl
set_option maxRecDepth 20000 in
theorem hl436 : pu_lp 436 = some (243, 2) := rfl
set_option maxRecDepth 20000 in
theorem hl437 : pu_lp 437 = some (243, 29) := rfl
set_option maxRecDepth 20000 in
theorem hl438 : pu_lp 438 = some (244, 17) := rfl
set_option maxRecDepth 20000 in
theorem hl439 : pu_lp 439 = some (245, 5) := rfl
set_option maxRecDepth 20000 in
theorem hl440 : pu_lp 440 = some (246, 5) := rfl
set_option maxRecDepth 20000 in
theorem hl441 : pu_lp 441 = some (247, 2) := rfl
set_option maxRecDepth 20000 in
theorem hl442 : pu_lp 442 = some (248, 12) := rfl
set_option maxRecDepth 20000 in
theorem hl443 : pu_lp 443 = some (249, 2) := rfl
set_option maxRecDepth 20000 in
theorem hl444 : pu_lp 444 = some (249, 12) := rfl
set_option maxRecDepth 20000 in
theorem hl445 : pu_lp 445 = some (250, 18) := rfl
set_option maxRecDepth 20000 in
theorem hl446 : pu_lp 446 = some (250, 47) := rfl
set_option maxRecDepth 20000 in
theorem hl447 : pu_lp 447 = some (250, 92) := rfl
set_option maxRecDepth 20000 in
theorem hl448 : pu_lp 448 = some (250, 111) := rfl
set_option maxRecDepth 20000 in
theorem hl449 : pu_lp 449 = some (250, 178) := rfl
set_option maxRecDepth 20000 in
theorem hl450 : pu_lp 450 = some (253, 4) := rfl
set_option maxRecDepth 20000 in
theorem hl451 : pu_lp 451 = some (255, 5) := rfl
set_option maxRecDepth 20000 in
theorem hl452 : pu_lp 452 = some (259, 2) := rfl
set_option maxRecDepth 20000 in
theorem hl453 : pu_lp 453 = some (262, 97) := rfl
set_option maxRecDepth 20000 in
theorem hl454 : pu_lp 454 = some (262, 169) := rfl
set_option maxRecDepth 20000 in
theorem hl455 : pu_lp 455 = some (262, 316) := rfl
set_option maxRecDepth 20000 in
theorem hl456 : pu_lp 456 = some (271, 2) := rfl
set_option maxRecDepth 20000 in
theorem hl457 : pu_lp 457 = some (272, 10) := rfl
set_option maxRecDepth 20000 in
theorem hl458 : pu_lp 458 = some (277, 42) := rfl
set_option maxRecDepth 20000 in
theorem hl459 : pu_lp 459 = some (277, 56) := rfl
set_option maxRecDepth 20000 in
theorem hl460 : pu_lp 460 = some (278, 2) := rfl
set_option maxRecDepth 20000 in
theorem hl461 : pu_lp 461 = some (278, 15) := rfl
set_option maxRecDepth 20000 in
theorem hl462 : pu_lp 462 = some (281, 34) := rfl
set_option maxRecDepth 20000 in
theorem hl463 : pu_lp 463 = some (281, 50) := rfl
set_option maxRecDepth 20000 in
theorem hl464 : pu_lp 464 = some (282, 3) := rfl
set_option maxRecDepth 20000 in
theorem hl465 : pu_lp 465 = some (282, 17) := rfl
set_option maxRecDepth 20000 in
theorem hl466 : pu_lp 466 = some (288, 3) := rfl
set_option maxRecDepth 20000 in
theorem hl467 : pu_lp 467 = some (292, 2) := rfl
set_option maxRecDepth 20000 in
theorem hl468 : pu_lp 468 = some (293, 67) := rfl
set_option maxRecDepth 20000 in
theorem hl469 : pu_lp 469 = some (293, 125) := rfl
set_option maxRecDepth 20000 in
theorem hl470 : pu_lp 470 = some (294, 7) := rfl
set_option maxRecDepth 20000 in
theorem hl471 : pu_lp 471 = some (294, 20) := rfl
set_option maxRecDepth 20000 in
theorem hl472 : pu_lp 472 = some (294, 64) := rfl
set_option maxRecDepth 20000 in
theorem hl473 : pu_lp 473 = some (295, 2) := rfl
set_option maxRecDepth 20000 in
theorem hl474 : pu_lp 474 = some (295, 12) := rfl
set_option maxRecDepth 20000 in
theorem hl475 : pu_lp 475 = some (296, 22) := rfl
set_option maxRecDepth 20000 in
theorem hl476 : pu_lp 476 = some (297, 59) := rfl
set_option maxRecDepth 20000 in
theorem hl477 : pu_lp 477 = some (297, 199) := rfl
set_option maxRecDepth 20000 in
theorem hl478 : pu_lp 478 = some (298, 65) := rfl
set_option maxRecDepth 20000 in
theorem hl479 : pu_lp 479 = some (300, 66) := rfl
set_option maxRecDepth 20000 in
theorem hl480 : pu_lp 480 = some (301, 29) := rfl
set_option maxRecDepth 20000 in
theorem hl481 : pu_lp 481 = some (301, 82) := rfl
set_option maxRecDepth 20000 in
theorem hl482 : pu_lp 482 = some (301, 134) := rfl
set_option maxRecDepth 20000 in
theorem hl483 : pu_lp 483 = some (301, 186) := rfl
set_option maxRecDepth 20000 in
theorem hl484 : pu_lp 484 = some (301, 236) := rfl
set_option maxRecDepth 20000 in
theorem hl485 : pu_lp 485 = some (301, 278) := rfl
set_option maxRecDepth 20000 in
theorem hl486 : pu_lp 486 = some (301, 302) := rfl
set_option maxRecDepth 20000 in
theorem hl487 : pu_lp 487 = some (301, 382) := rfl
set_option maxRecDepth 20000 in
theorem hl488 : pu_lp 488 = some (302, 13) := rfl
set_option maxRecDepth 20000 in
theorem hl489 : pu_lp 489 = some (303, 22) := rfl
set_option maxRecDepth 20000 in
theorem hl490 : pu_lp 490 = some (305, 2) := rfl
set_option maxRecDepth 20000 in
theorem hl491 : pu_lp 491 = some (308, 2) := rfl
set_option maxRecDepth 20000 in
theorem hl492 : pu_lp 492 = some (309, 4) := rfl
set_option maxRecDepth 20000 in
theorem hl493 : pu_lp 493 = some (313, 2) := rfl
set_option maxRecDepth 20000 in
theorem hl494 : pu_lp 494 = some (314, 19) := rfl
set_option maxRecDepth 20000 in
theorem hl495 : pu_lp 495 = some (314, 95) := rfl
set_option maxRecDepth 20000 in
theorem hl496 : pu_lp 496 = some (316, 2) := rfl
set_option maxRecDepth 20000 in
theorem hl497 : pu_lp 497 = some (318, 11) := rfl
set_option maxRecDepth 20000 in
theorem hl498 : pu_lp 498 = some (319, 20) := rfl
set_option maxRecDepth 20000 in
theorem hl499 : pu_lp 499 = some (322, 73) := rfl
set_option maxRecDepth 20000 in
theorem hl500 : pu_lp 500 = some (322, 215) := rfl
set_option maxRecDepth 20000 in
theorem hl501 : pu_lp 501 = some (323, 5) := rfl
set_option maxRecDepth 20000 in
theorem hl502 : pu_lp 502 = some (323, 82) := rfl
set_option maxRecDepth 20000 in
theorem hl503 : pu_lp 503 = some (324, 99) := rfl
set_option maxRecDepth 20000 in
theorem hl504 : pu_lp 504 = some (327, 32) := rfl
set_option maxRecDepth 20000 in
theorem hl505 : pu_lp 505 = some (327, 52) := rfl
set_option maxRecDepth 20000 in
theorem hl506 : pu_lp 506 = some (332, 27) := rfl
set_option maxRecDepth 20000 in
theorem hl507 : pu_lp 507 = some (335, 2) := rfl
set_option maxRecDepth 20000 in
theorem hl508 : pu_lp 508 = some (335, 45) := rfl
set_option maxRecDepth 20000 in
theorem hl509 : pu_lp 509 = some (336, 4) := rfl
set_option maxRecDepth 20000 in
theorem hl510 : pu_lp 510 = some (336, 22) := rfl
set_option maxRecDepth 20000 in
theorem hl511 : pu_lp 511 = some (338, 69) := rfl
set_option maxRecDepth 20000 in
theorem hl512 : pu_lp 512 = some (339, 2) := rfl
set_option maxRecDepth 20000 in
theorem hl513 : pu_lp 513 = some (339, 18) := rfl
set_option maxRecDepth 20000 in
theorem hl514 : pu_lp 514 = some (339, 32) := rfl
set_option maxRecDepth 20000 in
theorem hl515 : pu_lp 515 = some (339, 134) := rfl
set_option maxRecDepth 20000 in
theorem hl516 : pu_lp 516 = some (339, 148) := rfl
set_option maxRecDepth 20000 in
theorem hl517 : pu_lp 517 = some (340, 90) := rfl
set_option maxRecDepth 20000 in
theorem hl518 : pu_lp 518 = some (340, 104) := rfl
set_option maxRecDepth 20000 in
theorem hl519 : pu_lp 519 = some (343, 35) := rfl
set_option maxRecDepth 20000 in
theorem hl520 : pu_lp 520 = some (343, 49) := rfl
set_option maxRecDepth 20000 in
theorem hl521 : pu_lp 521 = some (346, 2) := rfl
set_option maxRecDepth 20000 in
theorem hl522 : pu_lp 522 = some (348, 7) := rfl
set_option maxRecDepth 20000 in
theorem hl523 : pu_lp 523 = some (348, 15) := rfl
set_option maxRecDepth 20000 in
theorem hl524 : pu_lp 524 = some (348, 25) := rfl
set_option maxRecDepth 20000 in
theorem hl525 : pu_lp 525 = some (349, 28) := rfl
set_option maxRecDepth 20000 in
theorem hl526 : pu_lp 526 = some (349, 75) := rfl
set_option maxRecDepth 20000 in
theorem hl527 : pu_lp 527 = some (349, 89) := rfl
set_option maxRecDepth 20000 in
theorem hl528 : pu_lp 528 = some (349, 103) := rfl
set_option maxRecDepth 20000 in
theorem hl529 : pu_lp 529 = some (351, 12) := rfl
set_option maxRecDepth 20000 in
theorem hl530 : pu_lp 530 = some (351, 26) := rfl
set_option maxRecDepth 20000 in
theorem hl531 : pu_lp 531 = some (351, 115) := rfl
set_option maxRecDepth 20000 in
theorem hl532 : pu_lp 532 = some (354, 17) := rfl
set_option maxRecDepth 20000 in
theorem hl533 : pu_lp 533 = some (354, 29) := rfl
set_option maxRecDepth 20000 in
theorem hl534 : pu_lp 534 = some (355, 16) := rfl
set_option maxRecDepth 20000 in
theorem hl535 : pu_lp 535 = some (355, 38) := rfl
set_option maxRecDepth 20000 in
theorem hl536 : pu_lp 536 = some (355, 235) := rfl
set_option maxRecDepth 20000 in
theorem hl537 : pu_lp 537 = some (355, 247) := rfl
