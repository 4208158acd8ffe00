set_option maxRecDepth 100000 in
theorem cw_X9_init : lw_tbl[108]? = some (.code ⟨"SeizedGoods", "<init>", "()V"⟩ prog_1_method_1_code 2 none) := rfl
theorem tk_X9_init : chkT 9 true prog_1_method_1_code T_X9_init = true := by decide +kernel
set_option maxRecDepth 100000 in
theorem cw_X9_sheet : lw_tbl[441]? = some (.code ⟨"SeizedGoods", "sheet", "(III)I"⟩ prog_1_method_2_code 4 (some .int)) := rfl
theorem tk_X9_sheet : chkT 9 false prog_1_method_2_code T_X9_sheet = true := by decide +kernel
set_option maxRecDepth 100000 in
theorem cw_X9_set : lw_tbl[471]? = some (.code ⟨"SeizedGoods", "set", "(III)I"⟩ prog_1_method_3_code 4 (some .int)) := rfl
theorem tk_X9_set : chkT 9 false prog_1_method_3_code T_X9_set = true := by decide +kernel
set_option maxRecDepth 100000 in
theorem cw_X9_copy : lw_tbl[487]? = some (.code ⟨"SeizedGoods", "copy", "(IIIII)I"⟩ prog_1_method_4_code 6 (some .int)) := rfl
theorem tk_X9_copy : chkT 9 false prog_1_method_4_code T_X9_copy = true := by decide +kernel
set_option maxRecDepth 100000 in
theorem cw_X9_drop : lw_tbl[502]? = some (.code ⟨"SeizedGoods", "drop", "(I)I"⟩ prog_1_method_5_code 2 (some .int)) := rfl
theorem tk_X9_drop : chkT 9 false prog_1_method_5_code T_X9_drop = true := by decide +kernel
set_option maxRecDepth 100000 in
theorem cw_X9_feed : lw_tbl[510]? = some (.code ⟨"SeizedGoods", "feed", "(JI)I"⟩ prog_1_method_6_code 4 (some .int)) := rfl
theorem tk_X9_feed : chkT 9 false prog_1_method_6_code T_X9_feed = true := by decide +kernel
set_option maxRecDepth 100000 in
theorem cw_X9_land : lw_tbl[524]? = some (.code ⟨"SeizedGoods", "land", "()I"⟩ prog_1_method_7_code 3 (some .int)) := rfl
theorem tk_X9_land : chkT 9 false prog_1_method_7_code T_X9_land = true := by decide +kernel
set_option maxRecDepth 100000 in
theorem cw_X9_fault : lw_tbl[679]? = some (.code ⟨"SeizedGoods", "fault", "()I"⟩ prog_1_method_8_code 1 (some .int)) := rfl
theorem tk_X9_fault : chkT 9 false prog_1_method_8_code T_X9_fault = true := by decide +kernel
set_option maxRecDepth 100000 in
theorem cw_X9_later : lw_tbl[683]? = some (.code ⟨"SeizedGoods", "later", "(I)I"⟩ prog_1_method_9_code 2 (some .int)) := rfl
theorem tk_X9_later : chkT 9 false prog_1_method_9_code T_X9_later = true := by decide +kernel
set_option maxRecDepth 100000 in
theorem cw_X9_goes : lw_tbl[692]? = some (.code ⟨"SeizedGoods", "goes", "(II)I"⟩ prog_1_method_10_code 3 (some .int)) := rfl
theorem tk_X9_goes : chkT 9 false prog_1_method_10_code T_X9_goes = true := by decide +kernel
set_option maxRecDepth 100000 in
theorem cw_X9_man : lw_tbl[708]? = some (.code ⟨"SeizedGoods", "man", "(II)I"⟩ prog_1_method_11_code 3 (some .int)) := rfl
theorem tk_X9_man : chkT 9 false prog_1_method_11_code T_X9_man = true := by decide +kernel
set_option maxRecDepth 100000 in
theorem cw_X9_law : lw_tbl[716]? = some (.code ⟨"SeizedGoods", "law", "(II)I"⟩ prog_1_method_12_code 3 (some .int)) := rfl
theorem tk_X9_law : chkT 9 false prog_1_method_12_code T_X9_law = true := by decide +kernel
set_option maxRecDepth 100000 in
theorem cw_X9_pact : lw_tbl[724]? = some (.code ⟨"SeizedGoods", "pact", "(III)I"⟩ prog_1_method_13_code 5 (some .int)) := rfl
theorem tk_X9_pact : chkT 9 false prog_1_method_13_code T_X9_pact = true := by decide +kernel
set_option maxRecDepth 100000 in
theorem cw_X9_debt : lw_tbl[741]? = some (.code ⟨"SeizedGoods", "debt", "(III)I"⟩ prog_1_method_14_code 4 (some .int)) := rfl
theorem tk_X9_debt : chkT 9 false prog_1_method_14_code T_X9_debt = true := by decide +kernel
set_option maxRecDepth 100000 in
theorem cw_X9_debts : lw_tbl[767]? = some (.code ⟨"SeizedGoods", "debts", "(III)I"⟩ prog_1_method_15_code 6 (some .int)) := rfl
theorem tk_X9_debts_0 : ((T_X9_debts.drop 0).take 60).all (chk1 9 false prog_1_method_15_code) = true := by decide +kernel
theorem tk_X9_debts_60 : ((T_X9_debts.drop 60).take 60).all (chk1 9 false prog_1_method_15_code) = true := by decide +kernel
theorem tk_X9_debts_120 : ((T_X9_debts.drop 120).take 60).all (chk1 9 false prog_1_method_15_code) = true := by decide +kernel
theorem tk_X9_debts : chkT 9 false prog_1_method_15_code T_X9_debts = true := all_cut 60 (all_step tk_X9_debts_0 (all_step tk_X9_debts_60 (all_last tk_X9_debts_120 rfl)))
set_option maxRecDepth 100000 in
theorem cw_X9_ask : lw_tbl[775]? = some (.code ⟨"SeizedGoods", "ask", "(I)I"⟩ prog_1_method_16_code 3 (some .int)) := rfl
theorem tk_X9_ask : chkT 9 false prog_1_method_16_code T_X9_ask = true := by decide +kernel
set_option maxRecDepth 100000 in
theorem cw_X9_letter : lw_tbl[787]? = some (.code ⟨"SeizedGoods", "letter", "(III)I"⟩ prog_1_method_17_code 5 (some .int)) := rfl
theorem tk_X9_letter : chkT 9 false prog_1_method_17_code T_X9_letter = true := by decide +kernel
set_option maxRecDepth 100000 in
theorem cw_X9_pay : lw_tbl[792]? = some (.code ⟨"SeizedGoods", "pay", "(II)I"⟩ prog_1_method_18_code 4 (some .int)) := rfl
theorem tk_X9_pay : chkT 9 false prog_1_method_18_code T_X9_pay = true := by decide +kernel
set_option maxRecDepth 100000 in
theorem cw_X9_claim : lw_tbl[797]? = some (.code ⟨"SeizedGoods", "claim", "(II)I"⟩ prog_1_method_19_code 4 (some .int)) := rfl
theorem tk_X9_claim : chkT 9 false prog_1_method_19_code T_X9_claim = true := by decide +kernel
set_option maxRecDepth 100000 in
theorem cw_X9_may : lw_tbl[805]? = some (.code ⟨"SeizedGoods", "may", "(III)I"⟩ prog_1_method_20_code 6 (some .int)) := rfl
theorem tk_X9_may : chkT 9 false prog_1_method_20_code T_X9_may = true := by decide +kernel
set_option maxRecDepth 100000 in
theorem cw_X9_seize : lw_tbl[836]? = some (.code ⟨"SeizedGoods", "seize", "(III)I"⟩ prog_1_method_21_code 6 (some .int)) := rfl
theorem tk_X9_seize : chkT 9 false prog_1_method_21_code T_X9_seize = true := by decide +kernel
set_option maxRecDepth 100000 in
theorem cw_X9_swear : lw_tbl[847]? = some (.code ⟨"SeizedGoods", "swear", "(III)I"⟩ prog_1_method_22_code 6 (some .int)) := rfl
theorem tk_X9_swear : chkT 9 false prog_1_method_22_code T_X9_swear = true := by decide +kernel
set_option maxRecDepth 100000 in
theorem cw_X9_says : lw_tbl[859]? = some (.code ⟨"SeizedGoods", "says", "(I)I"⟩ prog_1_method_23_code 2 (some .int)) := rfl
theorem tk_X9_says : chkT 9 false prog_1_method_23_code T_X9_says = true := by decide +kernel
set_option maxRecDepth 100000 in
theorem cw_X9_grown : lw_tbl[868]? = some (.code ⟨"SeizedGoods", "grown", "(II)I"⟩ prog_1_method_24_code 3 (some .int)) := rfl
theorem tk_X9_grown : chkT 9 false prog_1_method_24_code T_X9_grown = true := by decide +kernel
set_option maxRecDepth 100000 in
theorem cw_X9_net : lw_tbl[901]? = some (.code ⟨"SeizedGoods", "net", "(I)I"⟩ prog_1_method_25_code 2 (some .int)) := rfl
theorem tk_X9_net : chkT 9 false prog_1_method_25_code T_X9_net = true := by decide +kernel
set_option maxRecDepth 100000 in
theorem cw_X9_way : lw_tbl[922]? = some (.code ⟨"SeizedGoods", "way", "(II)I"⟩ prog_1_method_26_code 3 (some .int)) := rfl
theorem tk_X9_way : chkT 9 false prog_1_method_26_code T_X9_way = true := by decide +kernel
set_option maxRecDepth 100000 in
theorem cw_X9_opened : lw_tbl[940]? = some (.code ⟨"SeizedGoods", "opened", "(II)I"⟩ prog_1_method_27_code 3 (some .int)) := rfl
theorem tk_X9_opened : chkT 9 false prog_1_method_27_code T_X9_opened = true := by decide +kernel
set_option maxRecDepth 100000 in
theorem cw_X9_shut : lw_tbl[966]? = some (.code ⟨"SeizedGoods", "shut", "(II)I"⟩ prog_1_method_28_code 3 (some .int)) := rfl
theorem tk_X9_shut : chkT 9 false prog_1_method_28_code T_X9_shut = true := by decide +kernel
set_option maxRecDepth 100000 in
theorem cw_X9_dead : lw_tbl[974]? = some (.code ⟨"SeizedGoods", "dead", "()I"⟩ prog_1_method_29_code 1 (some .int)) := rfl
theorem tk_X9_dead : chkT 9 false prog_1_method_29_code T_X9_dead = true := by decide +kernel
set_option maxRecDepth 100000 in
theorem cw_X9_owes : lw_tbl[982]? = some (.code ⟨"SeizedGoods", "owes", "(I)I"⟩ prog_1_method_30_code 2 (some .int)) := rfl
theorem tk_X9_owes : chkT 9 false prog_1_method_30_code T_X9_owes = true := by decide +kernel
set_option maxRecDepth 100000 in
theorem cw_X9_rest : lw_tbl[999]? = some (.code ⟨"SeizedGoods", "rest", "(I)I"⟩ prog_1_method_31_code 2 (some .int)) := rfl
theorem tk_X9_rest : chkT 9 false prog_1_method_31_code T_X9_rest = true := by decide +kernel
set_option maxRecDepth 100000 in
theorem cw_X9_has : lw_tbl[1029]? = some (.code ⟨"SeizedGoods", "has", "(II)I"⟩ prog_1_method_32_code 3 (some .int)) := rfl
theorem tk_X9_has : chkT 9 false prog_1_method_32_code T_X9_has = true := by decide +kernel
set_option maxRecDepth 100000 in
theorem cw_X9_holds : lw_tbl[1042]? = some (.code ⟨"SeizedGoods", "holds", "(III)I"⟩ prog_1_method_33_code 4 (some .int)) := rfl
theorem tk_X9_holds : chkT 9 false prog_1_method_33_code T_X9_holds = true := by decide +kernel
set_option maxRecDepth 100000 in
theorem cw_X9_reform : lw_tbl[1050]? = some (.code ⟨"SeizedGoods", "reform", "(I)I"⟩ prog_1_method_34_code 2 (some .int)) := rfl
theorem tk_X9_reform : chkT 9 false prog_1_method_34_code T_X9_reform = true := by decide +kernel
set_option maxRecDepth 100000 in
theorem cw_X9_image : lw_tbl[1063]? = some (.code ⟨"SeizedGoods", "image", "(I)I"⟩ prog_1_method_35_code 2 (some .int)) := rfl
theorem tk_X9_image : chkT 9 false prog_1_method_35_code T_X9_image = true := by decide +kernel
set_option maxRecDepth 100000 in
theorem cw_X9_restore : lw_tbl[1068]? = some (.code ⟨"SeizedGoods", "restore", "(I)I"⟩ prog_1_method_36_code 2 (some .int)) := rfl
theorem tk_X9_restore : chkT 9 false prog_1_method_36_code T_X9_restore = true := by decide +kernel
set_option maxRecDepth 100000 in
theorem cw_X9_kind : lw_tbl[1072]? = some (.code ⟨"SeizedGoods", "kind", "(I)I"⟩ prog_1_method_37_code 2 (some .int)) := rfl
theorem tk_X9_kind : chkT 9 false prog_1_method_37_code T_X9_kind = true := by decide +kernel
set_option maxRecDepth 100000 in
theorem cw_X9_as : lw_tbl[1081]? = some (.code ⟨"SeizedGoods", "as", "(II)I"⟩ prog_1_method_38_code 3 (some .int)) := rfl
theorem tk_X9_as : chkT 9 false prog_1_method_38_code T_X9_as = true := by decide +kernel
set_option maxRecDepth 100000 in
theorem cw_X9_asks : lw_tbl[1090]? = some (.code ⟨"SeizedGoods", "asks", "(II)I"⟩ prog_1_method_39_code 3 (some .int)) := rfl
theorem tk_X9_asks : chkT 9 false prog_1_method_39_code T_X9_asks = true := by decide +kernel
set_option maxRecDepth 100000 in
theorem cw_X9_trace : lw_tbl[1111]? = some (.code ⟨"SeizedGoods", "trace", "(I)I"⟩ prog_1_method_40_code 2 (some .int)) := rfl
theorem tk_X9_trace : chkT 9 false prog_1_method_40_code T_X9_trace = true := by decide +kernel
set_option maxRecDepth 100000 in
theorem cw_X9_count : lw_tbl[1120]? = some (.code ⟨"SeizedGoods", "count", "(I)I"⟩ prog_1_method_41_code 2 (some .int)) := rfl
theorem tk_X9_count : chkT 9 false prog_1_method_41_code T_X9_count = true := by decide +kernel
set_option maxRecDepth 100000 in
theorem cw_X9_status : lw_tbl[1138]? = some (.code ⟨"SeizedGoods", "status", "()I"⟩ prog_1_method_42_code 1 (some .int)) := rfl
theorem tk_X9_status : chkT 9 false prog_1_method_42_code T_X9_status = true := by decide +kernel
set_option maxRecDepth 100000 in
theorem cw_X9_found : lw_tbl[452]? = some (.code ⟨"SeizedGoods", "found", "(I)I"⟩ prog_1_method_43_code 2 (some .int)) := rfl
theorem tk_X9_found : chkT 9 false prog_1_method_43_code T_X9_found = true := by decide +kernel
set_option maxRecDepth 100000 in
theorem cw_X9_unfound : lw_tbl[467]? = some (.code ⟨"SeizedGoods", "unfound", "(I)I"⟩ prog_1_method_44_code 2 (some .int)) := rfl
theorem tk_X9_unfound : chkT 9 false prog_1_method_44_code T_X9_unfound = true := by decide +kernel
set_option maxRecDepth 100000 in
theorem cw_X9_isYesOrNo : lw_tbl[732]? = some (.code ⟨"SeizedGoods", "isYesOrNo", "(I)Z"⟩ prog_1_method_45_code 1 (some .boolean)) := rfl
theorem tk_X9_isYesOrNo : chkT 9 false prog_1_method_45_code T_X9_isYesOrNo = true := by decide +kernel
set_option maxRecDepth 100000 in
theorem cw_X9_isSum : lw_tbl[749]? = some (.code ⟨"SeizedGoods", "isSum", "(I)Z"⟩ prog_1_method_46_code 1 (some .boolean)) := rfl
theorem tk_X9_isSum : chkT 9 false prog_1_method_46_code T_X9_isSum = true := by decide +kernel
set_option maxRecDepth 100000 in
theorem cw_X9_isKindOf : lw_tbl[1084]? = some (.code ⟨"SeizedGoods", "isKindOf", "(II)Z"⟩ prog_1_method_47_code 4 (some .boolean)) := rfl
theorem tk_X9_isKindOf : chkT 9 false prog_1_method_47_code T_X9_isKindOf = true := by decide +kernel
set_option maxRecDepth 100000 in
theorem cw_X10_init : lw_tbl[1143]? = some (.code ⟨"SeizedGoodsModel", "<init>", "()V"⟩ prog_12_method_1_code 1 none) := rfl
theorem tk_X10_init_0 : ((T_X10_init.drop 0).take 60).all (chk1 10 true prog_12_method_1_code) = true := by decide +kernel
theorem tk_X10_init_60 : ((T_X10_init.drop 60).take 60).all (chk1 10 true prog_12_method_1_code) = true := by decide +kernel
theorem tk_X10_init : chkT 10 true prog_12_method_1_code T_X10_init = true := all_cut 60 (all_step tk_X10_init_0 (all_last tk_X10_init_60 rfl))
set_option maxRecDepth 100000 in
theorem cw_X10_in : lw_tbl[1256]? = some (.code ⟨"SeizedGoodsModel", "in", "(JJJ)Z"⟩ prog_12_method_3_code 6 (some .boolean)) := rfl
theorem tk_X10_in : chkT 10 false prog_12_method_3_code T_X10_in = true := by decide +kernel
set_option maxRecDepth 100000 in
theorem cw_X10_finding : lw_tbl[1262]? = some (.code ⟨"SeizedGoodsModel", "finding", "(I)I"⟩ prog_12_method_4_code 2 (some .int)) := rfl
theorem tk_X10_finding : chkT 10 false prog_12_method_4_code T_X10_finding = true := by decide +kernel
set_option maxRecDepth 100000 in
theorem cw_X10_isSheet : lw_tbl[1252]? = some (.code ⟨"SeizedGoodsModel", "isSheet", "(I)Z"⟩ prog_12_method_5_code 1 (some .boolean)) := rfl
theorem tk_X10_isSheet : chkT 10 false prog_12_method_5_code T_X10_isSheet = true := by decide +kernel
set_option maxRecDepth 100000 in
theorem cw_X10_sheet : lw_tbl[1249]? = some (.code ⟨"SeizedGoodsModel", "sheet", "(III)I"⟩ prog_12_method_6_code 5 (some .int)) := rfl
theorem tk_X10_sheet : chkT 10 false prog_12_method_6_code T_X10_sheet = true := by decide +kernel
set_option maxRecDepth 100000 in
theorem cw_X10_set : lw_tbl[1267]? = some (.code ⟨"SeizedGoodsModel", "set", "(III)I"⟩ prog_12_method_7_code 4 (some .int)) := rfl
theorem tk_X10_set : chkT 10 false prog_12_method_7_code T_X10_set = true := by decide +kernel
set_option maxRecDepth 100000 in
theorem cw_X10_copy : lw_tbl[1271]? = some (.code ⟨"SeizedGoodsModel", "copy", "(IIIII)I"⟩ prog_12_method_8_code 9 (some .int)) := rfl
theorem tk_X10_copy_0 : ((T_X10_copy.drop 0).take 60).all (chk1 10 false prog_12_method_8_code) = true := by decide +kernel
theorem tk_X10_copy_60 : ((T_X10_copy.drop 60).take 60).all (chk1 10 false prog_12_method_8_code) = true := by decide +kernel
theorem tk_X10_copy_120 : ((T_X10_copy.drop 120).take 60).all (chk1 10 false prog_12_method_8_code) = true := by decide +kernel
theorem tk_X10_copy : chkT 10 false prog_12_method_8_code T_X10_copy = true := all_cut 60 (all_step tk_X10_copy_0 (all_step tk_X10_copy_60 (all_last tk_X10_copy_120 rfl)))
set_option maxRecDepth 100000 in
theorem cw_X10_drop : lw_tbl[1275]? = some (.code ⟨"SeizedGoodsModel", "drop", "(I)I"⟩ prog_12_method_9_code 2 (some .int)) := rfl
theorem tk_X10_drop : chkT 10 false prog_12_method_9_code T_X10_drop = true := by decide +kernel
set_option maxRecDepth 100000 in
theorem cw_X10_feed : lw_tbl[1279]? = some (.code ⟨"SeizedGoodsModel", "feed", "(JI)I"⟩ prog_12_method_10_code 5 (some .int)) := rfl
theorem tk_X10_feed : chkT 10 false prog_12_method_10_code T_X10_feed = true := by decide +kernel
set_option maxRecDepth 100000 in
theorem cw_X10_byteAt : lw_tbl[1294]? = some (.code ⟨"SeizedGoodsModel", "byteAt", "(I)I"⟩ prog_12_method_11_code 2 (some .int)) := rfl
theorem tk_X10_byteAt : chkT 10 false prog_12_method_11_code T_X10_byteAt = true := by decide +kernel
set_option maxRecDepth 100000 in
theorem cw_X10_isLetter : lw_tbl[1298]? = some (.code ⟨"SeizedGoodsModel", "isLetter", "(I)Z"⟩ prog_12_method_12_code 1 (some .boolean)) := rfl
theorem tk_X10_isLetter : chkT 10 false prog_12_method_12_code T_X10_isLetter = true := by decide +kernel
set_option maxRecDepth 100000 in
theorem cw_X10_isFigure : lw_tbl[1301]? = some (.code ⟨"SeizedGoodsModel", "isFigure", "(I)Z"⟩ prog_12_method_13_code 1 (some .boolean)) := rfl
theorem tk_X10_isFigure : chkT 10 false prog_12_method_13_code T_X10_isFigure = true := by decide +kernel
set_option maxRecDepth 100000 in
theorem cw_X10_next : lw_tbl[1290]? = some (.code ⟨"SeizedGoodsModel", "next", "()V"⟩ prog_12_method_14_code 2 none) := rfl
theorem tk_X10_next_0 : ((T_X10_next.drop 0).take 60).all (chk1 10 false prog_12_method_14_code) = true := by decide +kernel
theorem tk_X10_next_60 : ((T_X10_next.drop 60).take 60).all (chk1 10 false prog_12_method_14_code) = true := by decide +kernel
theorem tk_X10_next : chkT 10 false prog_12_method_14_code T_X10_next = true := all_cut 60 (all_step tk_X10_next_0 (all_last tk_X10_next_60 rfl))
set_option maxRecDepth 100000 in
theorem cw_X10_bad : lw_tbl[1310]? = some (.code ⟨"SeizedGoodsModel", "bad", "(I)V"⟩ prog_12_method_15_code 2 none) := rfl
theorem tk_X10_bad : chkT 10 false prog_12_method_15_code T_X10_bad = true := by decide +kernel
set_option maxRecDepth 100000 in
theorem cw_X10_must : lw_tbl[1322]? = some (.code ⟨"SeizedGoodsModel", "must", "(Z)V"⟩ prog_12_method_16_code 2 none) := rfl
theorem tk_X10_must : chkT 10 false prog_12_method_16_code T_X10_must = true := by decide +kernel
set_option maxRecDepth 100000 in
theorem cw_X10_word : lw_tbl[1305]? = some (.code ⟨"SeizedGoodsModel", "word", "()J"⟩ prog_12_method_17_code 4 (some .long)) := rfl
theorem tk_X10_word : chkT 10 false prog_12_method_17_code T_X10_word = true := by decide +kernel
set_option maxRecDepth 100000 in
theorem cw_X10_numberIn : lw_tbl[1326]? = some (.code ⟨"SeizedGoodsModel", "numberIn", "(III)I"⟩ prog_12_method_18_code 6 (some .int)) := rfl
theorem tk_X10_numberIn : chkT 10 false prog_12_method_18_code T_X10_numberIn = true := by decide +kernel
set_option maxRecDepth 100000 in
theorem cw_X10_town : lw_tbl[1339]? = some (.code ⟨"SeizedGoodsModel", "town", "(I)I"⟩ prog_12_method_19_code 2 (some .int)) := rfl
theorem tk_X10_town : chkT 10 false prog_12_method_19_code T_X10_town = true := by decide +kernel
set_option maxRecDepth 100000 in
theorem cw_X10_begins : lw_tbl[1318]? = some (.code ⟨"SeizedGoodsModel", "begins", "(II)V"⟩ prog_12_method_20_code 3 none) := rfl
theorem tk_X10_begins : chkT 10 false prog_12_method_20_code T_X10_begins = true := by decide +kernel
set_option maxRecDepth 100000 in
theorem cw_X10_ends : lw_tbl[1330]? = some (.code ⟨"SeizedGoodsModel", "ends", "(I)V"⟩ prog_12_method_21_code 2 none) := rfl
theorem tk_X10_ends : chkT 10 false prog_12_method_21_code T_X10_ends = true := by decide +kernel
set_option maxRecDepth 100000 in
theorem cw_X10_readTown : lw_tbl[1314]? = some (.code ⟨"SeizedGoodsModel", "readTown", "()V"⟩ prog_12_method_22_code 3 none) := rfl
theorem tk_X10_readTown : chkT 10 false prog_12_method_22_code T_X10_readTown = true := by decide +kernel
set_option maxRecDepth 100000 in
theorem cw_X10_readMan : lw_tbl[1335]? = some (.code ⟨"SeizedGoodsModel", "readMan", "()V"⟩ prog_12_method_23_code 2 none) := rfl
theorem tk_X10_readMan : chkT 10 false prog_12_method_23_code T_X10_readMan = true := by decide +kernel
set_option maxRecDepth 100000 in
theorem cw_X10_readTwo : lw_tbl[1344]? = some (.code ⟨"SeizedGoodsModel", "readTwo", "(II)V"⟩ prog_12_method_24_code 5 none) := rfl
theorem tk_X10_readTwo : chkT 10 false prog_12_method_24_code T_X10_readTwo = true := by decide +kernel
set_option maxRecDepth 100000 in
theorem cw_X10_readLaw : lw_tbl[1349]? = some (.code ⟨"SeizedGoodsModel", "readLaw", "()V"⟩ prog_12_method_25_code 6 none) := rfl
theorem tk_X10_readLaw_0 : ((T_X10_readLaw.drop 0).take 60).all (chk1 10 false prog_12_method_25_code) = true := by decide +kernel
theorem tk_X10_readLaw_60 : ((T_X10_readLaw.drop 60).take 60).all (chk1 10 false prog_12_method_25_code) = true := by decide +kernel
theorem tk_X10_readLaw : chkT 10 false prog_12_method_25_code T_X10_readLaw = true := all_cut 60 (all_step tk_X10_readLaw_0 (all_last tk_X10_readLaw_60 rfl))
set_option maxRecDepth 100000 in
theorem cw_X10_readFair : lw_tbl[1354]? = some (.code ⟨"SeizedGoodsModel", "readFair", "()V"⟩ prog_12_method_26_code 5 none) := rfl
theorem tk_X10_readFair : chkT 10 false prog_12_method_26_code T_X10_readFair = true := by decide +kernel
set_option maxRecDepth 100000 in
theorem cw_X10_land : lw_tbl[1286]? = some (.code ⟨"SeizedGoodsModel", "land", "()I"⟩ prog_12_method_27_code 2 (some .int)) := rfl
theorem tk_X10_land_0 : ((T_X10_land.drop 0).take 60).all (chk1 10 false prog_12_method_27_code) = true := by decide +kernel
theorem tk_X10_land_60 : ((T_X10_land.drop 60).take 60).all (chk1 10 false prog_12_method_27_code) = true := by decide +kernel
theorem tk_X10_land_120 : ((T_X10_land.drop 120).take 60).all (chk1 10 false prog_12_method_27_code) = true := by decide +kernel
theorem tk_X10_land_180 : ((T_X10_land.drop 180).take 60).all (chk1 10 false prog_12_method_27_code) = true := by decide +kernel
theorem tk_X10_land : chkT 10 false prog_12_method_27_code T_X10_land = true := all_cut 60 (all_step tk_X10_land_0 (all_step tk_X10_land_60 (all_step tk_X10_land_120 (all_last tk_X10_land_180 rfl))))
set_option maxRecDepth 100000 in
theorem cw_X10_fault : lw_tbl[1360]? = some (.code ⟨"SeizedGoodsModel", "fault", "()I"⟩ prog_12_method_28_code 1 (some .int)) := rfl
theorem tk_X10_fault : chkT 10 false prog_12_method_28_code T_X10_fault = true := by decide +kernel
set_option maxRecDepth 100000 in
theorem cw_X10_isTown : lw_tbl[1378]? = some (.code ⟨"SeizedGoodsModel", "isTown", "(I)Z"⟩ prog_12_method_29_code 2 (some .boolean)) := rfl
theorem tk_X10_isTown : chkT 10 false prog_12_method_29_code T_X10_isTown = true := by decide +kernel
set_option maxRecDepth 100000 in
theorem cw_X10_isMan : lw_tbl[1374]? = some (.code ⟨"SeizedGoodsModel", "isMan", "(I)Z"⟩ prog_12_method_30_code 2 (some .boolean)) := rfl
theorem tk_X10_isMan : chkT 10 false prog_12_method_30_code T_X10_isMan = true := by decide +kernel
set_option maxRecDepth 100000 in
theorem cw_X10_isClaim : lw_tbl[1437]? = some (.code ⟨"SeizedGoodsModel", "isClaim", "(I)Z"⟩ prog_12_method_31_code 2 (some .boolean)) := rfl
theorem tk_X10_isClaim : chkT 10 false prog_12_method_31_code T_X10_isClaim = true := by decide +kernel
set_option maxRecDepth 100000 in
theorem cw_X10_of : lw_tbl[1386]? = some (.code ⟨"SeizedGoodsModel", "of", "(I)I"⟩ prog_12_method_32_code 2 (some .int)) := rfl
theorem tk_X10_of : chkT 10 false prog_12_method_32_code T_X10_of = true := by decide +kernel
set_option maxRecDepth 100000 in
theorem cw_X10_told : lw_tbl[1394]? = some (.code ⟨"SeizedGoodsModel", "told", "(II)I"⟩ prog_12_method_33_code 3 (some .int)) := rfl
theorem tk_X10_told : chkT 10 false prog_12_method_33_code T_X10_told = true := by decide +kernel
set_option maxRecDepth 100000 in
theorem cw_X10_tell : lw_tbl[1424]? = some (.code ⟨"SeizedGoodsModel", "tell", "(III)V"⟩ prog_12_method_34_code 4 none) := rfl
theorem tk_X10_tell : chkT 10 false prog_12_method_34_code T_X10_tell = true := by decide +kernel
set_option maxRecDepth 100000 in
theorem cw_X10_lawOf : lw_tbl[1403]? = some (.code ⟨"SeizedGoodsModel", "lawOf", "(II)I"⟩ prog_12_method_35_code 3 (some .int)) := rfl
theorem tk_X10_lawOf : chkT 10 false prog_12_method_35_code T_X10_lawOf = true := by decide +kernel
set_option maxRecDepth 100000 in
theorem cw_X10_havePact : lw_tbl[1466]? = some (.code ⟨"SeizedGoodsModel", "havePact", "(II)Z"⟩ prog_12_method_36_code 3 (some .boolean)) := rfl
theorem tk_X10_havePact : chkT 10 false prog_12_method_36_code T_X10_havePact = true := by decide +kernel
set_option maxRecDepth 100000 in
theorem cw_X10_later : lw_tbl[1364]? = some (.code ⟨"SeizedGoodsModel", "later", "(I)I"⟩ prog_12_method_37_code 2 (some .int)) := rfl
theorem tk_X10_later : chkT 10 false prog_12_method_37_code T_X10_later = true := by decide +kernel
set_option maxRecDepth 100000 in
theorem cw_X10_goes : lw_tbl[1370]? = some (.code ⟨"SeizedGoodsModel", "goes", "(II)I"⟩ prog_12_method_38_code 3 (some .int)) := rfl
theorem tk_X10_goes : chkT 10 false prog_12_method_38_code T_X10_goes = true := by decide +kernel
set_option maxRecDepth 100000 in
theorem cw_X10_balance : lw_tbl[1390]? = some (.code ⟨"SeizedGoodsModel", "balance", "(I)I"⟩ prog_12_method_39_code 4 (some .int)) := rfl
theorem tk_X10_balance : chkT 10 false prog_12_method_39_code T_X10_balance = true := by decide +kernel
set_option maxRecDepth 100000 in
theorem cw_X10_man : lw_tbl[1382]? = some (.code ⟨"SeizedGoodsModel", "man", "(II)I"⟩ prog_12_method_40_code 3 (some .int)) := rfl
theorem tk_X10_man : chkT 10 false prog_12_method_40_code T_X10_man = true := by decide +kernel
set_option maxRecDepth 100000 in
theorem cw_X10_law : lw_tbl[1398]? = some (.code ⟨"SeizedGoodsModel", "law", "(II)I"⟩ prog_12_method_41_code 3 (some .int)) := rfl
theorem tk_X10_law : chkT 10 false prog_12_method_41_code T_X10_law = true := by decide +kernel
set_option maxRecDepth 100000 in
theorem cw_X10_pact : lw_tbl[1407]? = some (.code ⟨"SeizedGoodsModel", "pact", "(III)I"⟩ prog_12_method_42_code 5 (some .int)) := rfl
theorem tk_X10_pact : chkT 10 false prog_12_method_42_code T_X10_pact = true := by decide +kernel
set_option maxRecDepth 100000 in
theorem cw_X10_newClaim : lw_tbl[1420]? = some (.code ⟨"SeizedGoodsModel", "newClaim", "(IIII)I"⟩ prog_12_method_43_code 7 (some .int)) := rfl
theorem tk_X10_newClaim : chkT 10 false prog_12_method_43_code T_X10_newClaim = true := by decide +kernel
set_option maxRecDepth 100000 in
theorem cw_X10_isDebt : lw_tbl[1415]? = some (.code ⟨"SeizedGoodsModel", "isDebt", "(III)Z"⟩ prog_12_method_44_code 4 (some .boolean)) := rfl
theorem tk_X10_isDebt : chkT 10 false prog_12_method_44_code T_X10_isDebt = true := by decide +kernel
set_option maxRecDepth 100000 in
theorem cw_X10_debt : lw_tbl[1411]? = some (.code ⟨"SeizedGoodsModel", "debt", "(III)I"⟩ prog_12_method_45_code 4 (some .int)) := rfl
theorem tk_X10_debt : chkT 10 false prog_12_method_45_code T_X10_debt = true := by decide +kernel
