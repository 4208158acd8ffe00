set_option maxRecDepth 100000 in
theorem cw_X10_debts : lw_tbl[1428]? = some (.code ⟨"SeizedGoodsModel", "debts", "(III)I"⟩ prog_12_method_46_code 6 (some .int)) := rfl
theorem tk_X10_debts_0 : ((T_X10_debts.drop 0).take 60).all (chk1 10 false prog_12_method_46_code) = true := by decide +kernel
theorem tk_X10_debts_60 : ((T_X10_debts.drop 60).take 60).all (chk1 10 false prog_12_method_46_code) = true := by decide +kernel
theorem tk_X10_debts_120 : ((T_X10_debts.drop 120).take 60).all (chk1 10 false prog_12_method_46_code) = true := by decide +kernel
theorem tk_X10_debts : chkT 10 false prog_12_method_46_code T_X10_debts = true := all_cut 60 (all_step tk_X10_debts_0 (all_step tk_X10_debts_60 (all_last tk_X10_debts_120 rfl)))
set_option maxRecDepth 100000 in
theorem cw_X10_ask : lw_tbl[1433]? = some (.code ⟨"SeizedGoodsModel", "ask", "(I)I"⟩ prog_12_method_47_code 2 (some .int)) := rfl
theorem tk_X10_ask : chkT 10 false prog_12_method_47_code T_X10_ask = true := by decide +kernel
set_option maxRecDepth 100000 in
theorem cw_X10_letter : lw_tbl[1441]? = some (.code ⟨"SeizedGoodsModel", "letter", "(III)I"⟩ prog_12_method_48_code 4 (some .int)) := rfl
theorem tk_X10_letter : chkT 10 false prog_12_method_48_code T_X10_letter = true := by decide +kernel
set_option maxRecDepth 100000 in
theorem cw_X10_pay : lw_tbl[1446]? = some (.code ⟨"SeizedGoodsModel", "pay", "(II)I"⟩ prog_12_method_49_code 4 (some .int)) := rfl
theorem tk_X10_pay : chkT 10 false prog_12_method_49_code T_X10_pay = true := by decide +kernel
set_option maxRecDepth 100000 in
theorem cw_X10_claim : lw_tbl[1450]? = some (.code ⟨"SeizedGoodsModel", "claim", "(II)I"⟩ prog_12_method_50_code 3 (some .int)) := rfl
theorem tk_X10_claim : chkT 10 false prog_12_method_50_code T_X10_claim = true := by decide +kernel
set_option maxRecDepth 100000 in
theorem cw_X10_isFair : lw_tbl[1470]? = some (.code ⟨"SeizedGoodsModel", "isFair", "(I)Z"⟩ prog_12_method_51_code 5 (some .boolean)) := rfl
theorem tk_X10_isFair : chkT 10 false prog_12_method_51_code T_X10_isFair = true := by decide +kernel
set_option maxRecDepth 100000 in
theorem cw_X10_isLetterGood : lw_tbl[1474]? = some (.code ⟨"SeizedGoodsModel", "isLetterGood", "(I)Z"⟩ prog_12_method_52_code 2 (some .boolean)) := rfl
theorem tk_X10_isLetterGood : chkT 10 false prog_12_method_52_code T_X10_isLetterGood = true := by decide +kernel
set_option maxRecDepth 100000 in
theorem cw_X10_lacks : lw_tbl[1462]? = some (.code ⟨"SeizedGoodsModel", "lacks", "(IIII)I"⟩ prog_12_method_53_code 7 (some .int)) := rfl
theorem tk_X10_lacks_0 : ((T_X10_lacks.drop 0).take 60).all (chk1 10 false prog_12_method_53_code) = true := by decide +kernel
theorem tk_X10_lacks_60 : ((T_X10_lacks.drop 60).take 60).all (chk1 10 false prog_12_method_53_code) = true := by decide +kernel
theorem tk_X10_lacks : chkT 10 false prog_12_method_53_code T_X10_lacks = true := all_cut 60 (all_step tk_X10_lacks_0 (all_last tk_X10_lacks_60 rfl))
set_option maxRecDepth 100000 in
theorem cw_X10_lacksOf : lw_tbl[1458]? = some (.code ⟨"SeizedGoodsModel", "lacksOf", "(II)I"⟩ prog_12_method_54_code 3 (some .int)) := rfl
theorem tk_X10_lacksOf : chkT 10 false prog_12_method_54_code T_X10_lacksOf = true := by decide +kernel
set_option maxRecDepth 100000 in
theorem cw_X10_mostOf : lw_tbl[1478]? = some (.code ⟨"SeizedGoodsModel", "mostOf", "(II)I"⟩ prog_12_method_55_code 4 (some .int)) := rfl
theorem tk_X10_mostOf : chkT 10 false prog_12_method_55_code T_X10_mostOf = true := by decide +kernel
set_option maxRecDepth 100000 in
theorem cw_X10_may : lw_tbl[1454]? = some (.code ⟨"SeizedGoodsModel", "may", "(III)I"⟩ prog_12_method_56_code 5 (some .int)) := rfl
theorem tk_X10_may : chkT 10 false prog_12_method_56_code T_X10_may = true := by decide +kernel
set_option maxRecDepth 100000 in
theorem cw_X10_take : lw_tbl[1486]? = some (.code ⟨"SeizedGoodsModel", "take", "(III)I"⟩ prog_12_method_57_code 6 (some .int)) := rfl
theorem tk_X10_take : chkT 10 false prog_12_method_57_code T_X10_take = true := by decide +kernel
set_option maxRecDepth 100000 in
theorem cw_X10_seize : lw_tbl[1482]? = some (.code ⟨"SeizedGoodsModel", "seize", "(III)I"⟩ prog_12_method_58_code 4 (some .int)) := rfl
theorem tk_X10_seize : chkT 10 false prog_12_method_58_code T_X10_seize = true := by decide +kernel
set_option maxRecDepth 100000 in
theorem cw_X10_swear : lw_tbl[1490]? = some (.code ⟨"SeizedGoodsModel", "swear", "(III)I"⟩ prog_12_method_59_code 5 (some .int)) := rfl
theorem tk_X10_swear : chkT 10 false prog_12_method_59_code T_X10_swear = true := by decide +kernel
set_option maxRecDepth 100000 in
theorem cw_X10_says : lw_tbl[1494]? = some (.code ⟨"SeizedGoodsModel", "says", "(I)I"⟩ prog_12_method_60_code 7 (some .int)) := rfl
theorem tk_X10_says_0 : ((T_X10_says.drop 0).take 60).all (chk1 10 false prog_12_method_60_code) = true := by decide +kernel
theorem tk_X10_says_60 : ((T_X10_says.drop 60).take 60).all (chk1 10 false prog_12_method_60_code) = true := by decide +kernel
theorem tk_X10_says : chkT 10 false prog_12_method_60_code T_X10_says = true := all_cut 60 (all_step tk_X10_says_0 (all_last tk_X10_says_60 rfl))
set_option maxRecDepth 100000 in
theorem cw_X10_hold : lw_tbl[1503]? = some (.code ⟨"SeizedGoodsModel", "hold", "()V"⟩ prog_12_method_61_code 2 none) := rfl
theorem tk_X10_hold : chkT 10 false prog_12_method_61_code T_X10_hold = true := by decide +kernel
set_option maxRecDepth 100000 in
theorem cw_X10_layBack : lw_tbl[1515]? = some (.code ⟨"SeizedGoodsModel", "layBack", "()V"⟩ prog_12_method_62_code 2 none) := rfl
theorem tk_X10_layBack : chkT 10 false prog_12_method_62_code T_X10_layBack = true := by decide +kernel
set_option maxRecDepth 100000 in
theorem cw_X10_grow : lw_tbl[1507]? = some (.code ⟨"SeizedGoodsModel", "grow", "(I)V"⟩ prog_12_method_63_code 7 none) := rfl
theorem tk_X10_grow : chkT 10 false prog_12_method_63_code T_X10_grow = true := by decide +kernel
set_option maxRecDepth 100000 in
theorem cw_X10_allLeft : lw_tbl[1511]? = some (.code ⟨"SeizedGoodsModel", "allLeft", "()I"⟩ prog_12_method_64_code 3 (some .int)) := rfl
theorem tk_X10_allLeft : chkT 10 false prog_12_method_64_code T_X10_allLeft = true := by decide +kernel
set_option maxRecDepth 100000 in
theorem cw_X10_grown : lw_tbl[1498]? = some (.code ⟨"SeizedGoodsModel", "grown", "(II)I"⟩ prog_12_method_65_code 4 (some .int)) := rfl
theorem tk_X10_grown : chkT 10 false prog_12_method_65_code T_X10_grown = true := by decide +kernel
set_option maxRecDepth 100000 in
theorem cw_X10_reform : lw_tbl[1519]? = some (.code ⟨"SeizedGoodsModel", "reform", "(I)I"⟩ prog_12_method_66_code 8 (some .int)) := rfl
theorem tk_X10_reform_0 : ((T_X10_reform.drop 0).take 60).all (chk1 10 false prog_12_method_66_code) = true := by decide +kernel
theorem tk_X10_reform_60 : ((T_X10_reform.drop 60).take 60).all (chk1 10 false prog_12_method_66_code) = true := by decide +kernel
theorem tk_X10_reform_120 : ((T_X10_reform.drop 120).take 60).all (chk1 10 false prog_12_method_66_code) = true := by decide +kernel
theorem tk_X10_reform : chkT 10 false prog_12_method_66_code T_X10_reform = true := all_cut 60 (all_step tk_X10_reform_0 (all_step tk_X10_reform_60 (all_last tk_X10_reform_120 rfl)))
set_option maxRecDepth 100000 in
theorem cw_X10_hasOpen : lw_tbl[1527]? = some (.code ⟨"SeizedGoodsModel", "hasOpen", "(I)Z"⟩ prog_12_method_67_code 4 (some .boolean)) := rfl
theorem tk_X10_hasOpen : chkT 10 false prog_12_method_67_code T_X10_hasOpen = true := by decide +kernel
set_option maxRecDepth 100000 in
theorem cw_X10_payments : lw_tbl[1531]? = some (.code ⟨"SeizedGoodsModel", "payments", "()I"⟩ prog_12_method_68_code 6 (some .int)) := rfl
theorem tk_X10_payments_0 : ((T_X10_payments.drop 0).take 60).all (chk1 10 false prog_12_method_68_code) = true := by decide +kernel
theorem tk_X10_payments_60 : ((T_X10_payments.drop 60).take 60).all (chk1 10 false prog_12_method_68_code) = true := by decide +kernel
theorem tk_X10_payments_120 : ((T_X10_payments.drop 120).take 60).all (chk1 10 false prog_12_method_68_code) = true := by decide +kernel
theorem tk_X10_payments : chkT 10 false prog_12_method_68_code T_X10_payments = true := all_cut 60 (all_step tk_X10_payments_0 (all_step tk_X10_payments_60 (all_last tk_X10_payments_120 rfl)))
set_option maxRecDepth 100000 in
theorem cw_X10_net : lw_tbl[1523]? = some (.code ⟨"SeizedGoodsModel", "net", "(I)I"⟩ prog_12_method_69_code 6 (some .int)) := rfl
theorem tk_X10_net : chkT 10 false prog_12_method_69_code T_X10_net = true := by decide +kernel
set_option maxRecDepth 100000 in
theorem cw_X10_against : lw_tbl[1543]? = some (.code ⟨"SeizedGoodsModel", "against", "(II)I"⟩ prog_12_method_70_code 5 (some .int)) := rfl
theorem tk_X10_against : chkT 10 false prog_12_method_70_code T_X10_against = true := by decide +kernel
set_option maxRecDepth 100000 in
theorem cw_X10_isRoad : lw_tbl[1539]? = some (.code ⟨"SeizedGoodsModel", "isRoad", "(II)Z"⟩ prog_12_method_71_code 3 (some .boolean)) := rfl
theorem tk_X10_isRoad : chkT 10 false prog_12_method_71_code T_X10_isRoad = true := by decide +kernel
set_option maxRecDepth 100000 in
theorem cw_X10_way : lw_tbl[1535]? = some (.code ⟨"SeizedGoodsModel", "way", "(II)I"⟩ prog_12_method_72_code 8 (some .int)) := rfl
theorem tk_X10_way_0 : ((T_X10_way.drop 0).take 60).all (chk1 10 false prog_12_method_72_code) = true := by decide +kernel
theorem tk_X10_way_60 : ((T_X10_way.drop 60).take 60).all (chk1 10 false prog_12_method_72_code) = true := by decide +kernel
theorem tk_X10_way : chkT 10 false prog_12_method_72_code T_X10_way = true := all_cut 60 (all_step tk_X10_way_0 (all_last tk_X10_way_60 rfl))
set_option maxRecDepth 100000 in
theorem cw_X10_bits : lw_tbl[1550]? = some (.code ⟨"SeizedGoodsModel", "bits", "(I)I"⟩ prog_12_method_73_code 3 (some .int)) := rfl
theorem tk_X10_bits : chkT 10 false prog_12_method_73_code T_X10_bits = true := by decide +kernel
set_option maxRecDepth 100000 in
theorem cw_X10_opened : lw_tbl[1547]? = some (.code ⟨"SeizedGoodsModel", "opened", "(II)I"⟩ prog_12_method_74_code 7 (some .int)) := rfl
theorem tk_X10_opened_0 : ((T_X10_opened.drop 0).take 60).all (chk1 10 false prog_12_method_74_code) = true := by decide +kernel
theorem tk_X10_opened_60 : ((T_X10_opened.drop 60).take 60).all (chk1 10 false prog_12_method_74_code) = true := by decide +kernel
theorem tk_X10_opened_120 : ((T_X10_opened.drop 120).take 60).all (chk1 10 false prog_12_method_74_code) = true := by decide +kernel
theorem tk_X10_opened_180 : ((T_X10_opened.drop 180).take 60).all (chk1 10 false prog_12_method_74_code) = true := by decide +kernel
theorem tk_X10_opened : chkT 10 false prog_12_method_74_code T_X10_opened = true := all_cut 60 (all_step tk_X10_opened_0 (all_step tk_X10_opened_60 (all_step tk_X10_opened_120 (all_last tk_X10_opened_180 rfl))))
set_option maxRecDepth 100000 in
theorem cw_X10_isShut : lw_tbl[1558]? = some (.code ⟨"SeizedGoodsModel", "isShut", "(II)Z"⟩ prog_12_method_75_code 5 (some .boolean)) := rfl
theorem tk_X10_isShut : chkT 10 false prog_12_method_75_code T_X10_isShut = true := by decide +kernel
set_option maxRecDepth 100000 in
theorem cw_X10_shut : lw_tbl[1554]? = some (.code ⟨"SeizedGoodsModel", "shut", "(II)I"⟩ prog_12_method_76_code 3 (some .int)) := rfl
theorem tk_X10_shut : chkT 10 false prog_12_method_76_code T_X10_shut = true := by decide +kernel
set_option maxRecDepth 100000 in
theorem cw_X10_dead : lw_tbl[1562]? = some (.code ⟨"SeizedGoodsModel", "dead", "()I"⟩ prog_12_method_77_code 4 (some .int)) := rfl
theorem tk_X10_dead : chkT 10 false prog_12_method_77_code T_X10_dead = true := by decide +kernel
set_option maxRecDepth 100000 in
theorem cw_X10_layBetween : lw_tbl[1570]? = some (.code ⟨"SeizedGoodsModel", "layBetween", "()V"⟩ prog_12_method_78_code 4 none) := rfl
theorem tk_X10_layBetween : chkT 10 false prog_12_method_78_code T_X10_layBetween = true := by decide +kernel
set_option maxRecDepth 100000 in
theorem cw_X10_owesOf : lw_tbl[1574]? = some (.code ⟨"SeizedGoodsModel", "owesOf", "(I)I"⟩ prog_12_method_79_code 4 (some .int)) := rfl
theorem tk_X10_owesOf : chkT 10 false prog_12_method_79_code T_X10_owesOf = true := by decide +kernel
set_option maxRecDepth 100000 in
theorem cw_X10_owes : lw_tbl[1566]? = some (.code ⟨"SeizedGoodsModel", "owes", "(I)I"⟩ prog_12_method_80_code 2 (some .int)) := rfl
theorem tk_X10_owes : chkT 10 false prog_12_method_80_code T_X10_owes = true := by decide +kernel
set_option maxRecDepth 100000 in
theorem cw_X10_hasOf : lw_tbl[1594]? = some (.code ⟨"SeizedGoodsModel", "hasOf", "(I)I"⟩ prog_12_method_81_code 6 (some .int)) := rfl
theorem tk_X10_hasOf_0 : ((T_X10_hasOf.drop 0).take 60).all (chk1 10 false prog_12_method_81_code) = true := by decide +kernel
theorem tk_X10_hasOf_60 : ((T_X10_hasOf.drop 60).take 60).all (chk1 10 false prog_12_method_81_code) = true := by decide +kernel
theorem tk_X10_hasOf : chkT 10 false prog_12_method_81_code T_X10_hasOf = true := all_cut 60 (all_step tk_X10_hasOf_0 (all_last tk_X10_hasOf_60 rfl))
set_option maxRecDepth 100000 in
theorem cw_X10_allChoices : lw_tbl[1582]? = some (.code ⟨"SeizedGoodsModel", "allChoices", "()I"⟩ prog_12_method_82_code 3 (some .int)) := rfl
theorem tk_X10_allChoices : chkT 10 false prog_12_method_82_code T_X10_allChoices = true := by decide +kernel
set_option maxRecDepth 100000 in
theorem cw_X10_layChoices : lw_tbl[1590]? = some (.code ⟨"SeizedGoodsModel", "layChoices", "(I)V"⟩ prog_12_method_83_code 4 none) := rfl
theorem tk_X10_layChoices : chkT 10 false prog_12_method_83_code T_X10_layChoices = true := by decide +kernel
set_option maxRecDepth 100000 in
theorem cw_X10_isAtRest : lw_tbl[1586]? = some (.code ⟨"SeizedGoodsModel", "isAtRest", "(I)Z"⟩ prog_12_method_84_code 7 (some .boolean)) := rfl
theorem tk_X10_isAtRest : chkT 10 false prog_12_method_84_code T_X10_isAtRest = true := by decide +kernel
set_option maxRecDepth 100000 in
theorem cw_X10_rest : lw_tbl[1578]? = some (.code ⟨"SeizedGoodsModel", "rest", "(I)I"⟩ prog_12_method_85_code 5 (some .int)) := rfl
theorem tk_X10_rest : chkT 10 false prog_12_method_85_code T_X10_rest = true := by decide +kernel
set_option maxRecDepth 100000 in
theorem cw_X10_has : lw_tbl[1598]? = some (.code ⟨"SeizedGoodsModel", "has", "(II)I"⟩ prog_12_method_86_code 3 (some .int)) := rfl
theorem tk_X10_has : chkT 10 false prog_12_method_86_code T_X10_has = true := by decide +kernel
set_option maxRecDepth 100000 in
theorem cw_X10_bears : lw_tbl[1606]? = some (.code ⟨"SeizedGoodsModel", "bears", "(III)Z"⟩ prog_12_method_87_code 4 (some .boolean)) := rfl
theorem tk_X10_bears : chkT 10 false prog_12_method_87_code T_X10_bears = true := by decide +kernel
set_option maxRecDepth 100000 in
theorem cw_X10_holds : lw_tbl[1602]? = some (.code ⟨"SeizedGoodsModel", "holds", "(III)I"⟩ prog_12_method_88_code 4 (some .int)) := rfl
theorem tk_X10_holds : chkT 10 false prog_12_method_88_code T_X10_holds = true := by decide +kernel
set_option maxRecDepth 100000 in
theorem cw_X10_image : lw_tbl[1610]? = some (.code ⟨"SeizedGoodsModel", "image", "(I)I"⟩ prog_12_method_89_code 3 (some .int)) := rfl
theorem tk_X10_image : chkT 10 false prog_12_method_89_code T_X10_image = true := by decide +kernel
set_option maxRecDepth 100000 in
theorem cw_X10_restore : lw_tbl[1614]? = some (.code ⟨"SeizedGoodsModel", "restore", "(I)I"⟩ prog_12_method_90_code 3 (some .int)) := rfl
theorem tk_X10_restore : chkT 10 false prog_12_method_90_code T_X10_restore = true := by decide +kernel
set_option maxRecDepth 100000 in
theorem cw_X10_kindOf : lw_tbl[1622]? = some (.code ⟨"SeizedGoodsModel", "kindOf", "(I)I"⟩ prog_12_method_91_code 3 (some .int)) := rfl
theorem tk_X10_kindOf : chkT 10 false prog_12_method_91_code T_X10_kindOf = true := by decide +kernel
set_option maxRecDepth 100000 in
theorem cw_X10_isOf : lw_tbl[1630]? = some (.code ⟨"SeizedGoodsModel", "isOf", "(II)Z"⟩ prog_12_method_92_code 2 (some .boolean)) := rfl
theorem tk_X10_isOf : chkT 10 false prog_12_method_92_code T_X10_isOf = true := by decide +kernel
set_option maxRecDepth 100000 in
theorem cw_X10_kind : lw_tbl[1618]? = some (.code ⟨"SeizedGoodsModel", "kind", "(I)I"⟩ prog_12_method_93_code 2 (some .int)) := rfl
theorem tk_X10_kind : chkT 10 false prog_12_method_93_code T_X10_kind = true := by decide +kernel
set_option maxRecDepth 100000 in
theorem cw_X10_as : lw_tbl[1626]? = some (.code ⟨"SeizedGoodsModel", "as", "(II)I"⟩ prog_12_method_94_code 3 (some .int)) := rfl
theorem tk_X10_as : chkT 10 false prog_12_method_94_code T_X10_as = true := by decide +kernel
set_option maxRecDepth 100000 in
theorem cw_X10_began : lw_tbl[1646]? = some (.code ⟨"SeizedGoodsModel", "began", "(I)V"⟩ prog_12_method_95_code 2 none) := rfl
theorem tk_X10_began : chkT 10 false prog_12_method_95_code T_X10_began = true := by decide +kernel
set_option maxRecDepth 100000 in
theorem cw_X10_townSize : lw_tbl[1642]? = some (.code ⟨"SeizedGoodsModel", "townSize", "(II)I"⟩ prog_12_method_96_code 4 (some .int)) := rfl
theorem tk_X10_townSize : chkT 10 false prog_12_method_96_code T_X10_townSize = true := by decide +kernel
set_option maxRecDepth 100000 in
theorem cw_X10_ownMark : lw_tbl[1650]? = some (.code ⟨"SeizedGoodsModel", "ownMark", "(I)I"⟩ prog_12_method_97_code 2 (some .int)) := rfl
theorem tk_X10_ownMark : chkT 10 false prog_12_method_97_code T_X10_ownMark = true := by decide +kernel
set_option maxRecDepth 100000 in
theorem cw_X10_sizeOf : lw_tbl[1638]? = some (.code ⟨"SeizedGoodsModel", "sizeOf", "(II)I"⟩ prog_12_method_98_code 4 (some .int)) := rfl
theorem tk_X10_sizeOf : chkT 10 false prog_12_method_98_code T_X10_sizeOf = true := by decide +kernel
set_option maxRecDepth 100000 in
theorem cw_X10_markOf : lw_tbl[1654]? = some (.code ⟨"SeizedGoodsModel", "markOf", "(II)I"⟩ prog_12_method_99_code 4 (some .int)) := rfl
theorem tk_X10_markOf : chkT 10 false prog_12_method_99_code T_X10_markOf = true := by decide +kernel
set_option maxRecDepth 100000 in
theorem cw_X10_asks : lw_tbl[1634]? = some (.code ⟨"SeizedGoodsModel", "asks", "(II)I"⟩ prog_12_method_100_code 3 (some .int)) := rfl
theorem tk_X10_asks : chkT 10 false prog_12_method_100_code T_X10_asks = true := by decide +kernel
set_option maxRecDepth 100000 in
theorem cw_X10_trace : lw_tbl[1658]? = some (.code ⟨"SeizedGoodsModel", "trace", "(I)I"⟩ prog_12_method_101_code 2 (some .int)) := rfl
theorem tk_X10_trace : chkT 10 false prog_12_method_101_code T_X10_trace = true := by decide +kernel
set_option maxRecDepth 100000 in
theorem cw_X10_pairs : lw_tbl[1666]? = some (.code ⟨"SeizedGoodsModel", "pairs", "([II)I"⟩ prog_12_method_102_code 6 (some .int)) := rfl
theorem tk_X10_pairs : chkT 10 false prog_12_method_102_code T_X10_pairs = true := by decide +kernel
set_option maxRecDepth 100000 in
theorem cw_X10_count : lw_tbl[1662]? = some (.code ⟨"SeizedGoodsModel", "count", "(I)I"⟩ prog_12_method_103_code 4 (some .int)) := rfl
theorem tk_X10_count_0 : ((T_X10_count.drop 0).take 60).all (chk1 10 false prog_12_method_103_code) = true := by decide +kernel
theorem tk_X10_count_60 : ((T_X10_count.drop 60).take 60).all (chk1 10 false prog_12_method_103_code) = true := by decide +kernel
theorem tk_X10_count : chkT 10 false prog_12_method_103_code T_X10_count = true := all_cut 60 (all_step tk_X10_count_0 (all_last tk_X10_count_60 rfl))
set_option maxRecDepth 100000 in
theorem cw_X10_status : lw_tbl[1670]? = some (.code ⟨"SeizedGoodsModel", "status", "()I"⟩ prog_12_method_104_code 1 (some .int)) := rfl
theorem tk_X10_status : chkT 10 false prog_12_method_104_code T_X10_status = true := by decide +kernel
set_option maxRecDepth 100000 in
theorem cw_J6_compare_7cf53 : lw_tbl[961]? = some (.code ⟨"java/lang/Integer", "compare", "(II)I"⟩ prog_13_method_40_code 2 (some .int)) := rfl
theorem tk_J6_compare_7cf53 : chkT 13 false prog_13_method_40_code T_J6_compare_7cf53 = true := by decide +kernel
set_option maxRecDepth 100000 in
theorem cw_J6_bitCount_0f7a4 : lw_tbl[955]? = some (.code ⟨"java/lang/Integer", "bitCount", "(I)I"⟩ prog_13_method_49_code 1 (some .int)) := rfl
theorem tk_J6_bitCount_0f7a4 : chkT 13 false prog_13_method_49_code T_J6_bitCount_0f7a4 = true := by decide +kernel
set_option maxRecDepth 100000 in
theorem cw_J0_length_8abf5 : lw_tbl[558]? = some (.code ⟨"java/lang/String", "length", "()I"⟩ prog_15_method_54_code 1 (some .int)) := rfl
theorem tk_J0_length_8abf5 : chkT 15 false prog_15_method_54_code T_J0_length_8abf5 = true := by decide +kernel
set_option maxRecDepth 100000 in
theorem cw_J0_charAt_5068e : lw_tbl[568]? = some (.code ⟨"java/lang/String", "charAt", "(I)C"⟩ prog_15_method_56_code 2 (some .char)) := rfl
theorem tk_J0_charAt_5068e : chkT 15 false prog_15_method_56_code T_J0_charAt_5068e = true := by decide +kernel
set_option maxRecDepth 100000 in
theorem cw_J0_coder_7d493 : lw_tbl[562]? = some (.code ⟨"java/lang/String", "coder", "()B"⟩ prog_15_method_152_code 1 (some .byte)) := rfl
theorem tk_J0_coder_7d493 : chkT 15 false prog_15_method_152_code T_J0_coder_7d493 = true := by decide +kernel
set_option maxRecDepth 100000 in
theorem cw_J0_isLatin1_aae02 : lw_tbl[572]? = some (.code ⟨"java/lang/String", "isLatin1", "()Z"⟩ prog_15_method_154_code 1 (some .boolean)) := rfl
theorem tk_J0_isLatin1_aae02 : chkT 15 false prog_15_method_154_code T_J0_isLatin1_aae02 = true := by decide +kernel
set_option maxRecDepth 100000 in
theorem cw_J1_charAt_3b067 : lw_tbl[575]? = some (.code ⟨"java/lang/StringLatin1", "charAt", "([BI)C"⟩ prog_16_method_2_code 2 (some .char)) := rfl
theorem tk_J1_charAt_3b067 : chkT 16 false prog_16_method_2_code T_J1_charAt_3b067 = true := by decide +kernel
set_option maxRecDepth 100000 in
theorem cw_J7_rangeCheck_23922 : lw_tbl[463]? = some (.code ⟨"java/util/Arrays", "rangeCheck", "(III)V"⟩ prog_19_method_30_code 3 none) := rfl
theorem tk_J7_rangeCheck_23922 : chkT 17 false prog_19_method_30_code T_J7_rangeCheck_23922 = true := by decide +kernel
set_option maxRecDepth 100000 in
theorem cw_J7_fill_53178 : lw_tbl[120]? = some (.code ⟨"java/util/Arrays", "fill", "([II)V"⟩ prog_19_method_103_code 4 none) := rfl
theorem tk_J7_fill_53178 : chkT 17 false prog_19_method_103_code T_J7_fill_53178 = true := by decide +kernel
set_option maxRecDepth 100000 in
theorem cw_J7_fill_fda19 : lw_tbl[460]? = some (.code ⟨"java/util/Arrays", "fill", "([IIII)V"⟩ prog_19_method_104_code 5 none) := rfl
theorem tk_J7_fill_fda19 : chkT 17 false prog_19_method_104_code T_J7_fill_fda19 = true := by decide +kernel
