theorem all_step {α : Type} {f : α → Bool} {l : List α} {k n : Nat} (h : ((l.drop k).take n).all f = true) (h2 : (l.drop (k + n)).all f = true) : (l.drop k).all f = true := by
  rw [← List.take_append_drop n (l.drop k), List.all_append, h, List.drop_drop, h2]
  rfl
theorem all_last {α : Type} {f : α → Bool} {l : List α} {k n : Nat} (h : ((l.drop k).take n).all f = true) (h2 : (l.drop k).take n = l.drop k) : (l.drop k).all f = true := by
  rw [← h2]
  exact h
theorem all_cut {α : Type} {f : α → Bool} {l : List α} (_ : Nat) (h : (l.drop 0).all f = true) : l.all f = true := h
set_option maxRecDepth 100000 in
theorem cw_X0_init : lw_tbl[377]? = some (.code ⟨"SeizedGoods$Asker", "<init>", "()V"⟩ prog_2_method_1_code 1 none) := rfl
theorem tk_X0_init : chkT 0 true prog_2_method_1_code T_X0_init = true := by decide +kernel
set_option maxRecDepth 100000 in
theorem cw_X0_answer : lw_tbl[1094]? = some (.code ⟨"SeizedGoods$Asker", "answer", "(LSeizedGoods$Land;II)I"⟩ prog_2_method_2_code 5 (some .int)) := rfl
theorem tk_X0_answer : chkT 0 false prog_2_method_2_code T_X0_answer = true := by decide +kernel
set_option maxRecDepth 100000 in
theorem cw_X0_traced : lw_tbl[1115]? = some (.code ⟨"SeizedGoods$Asker", "traced", "(I)I"⟩ prog_2_method_3_code 2 (some .int)) := rfl
theorem tk_X0_traced : chkT 0 false prog_2_method_3_code T_X0_traced = true := by decide +kernel
set_option maxRecDepth 100000 in
theorem cw_X0_nearestBody : lw_tbl[1100]? = some (.code ⟨"SeizedGoods$Asker", "nearestBody", "([II)I"⟩ prog_2_method_4_code 4 (some .int)) := rfl
theorem tk_X0_nearestBody : chkT 0 false prog_2_method_4_code T_X0_nearestBody = true := by decide +kernel
set_option maxRecDepth 100000 in
theorem cw_X0_given : lw_tbl[1107]? = some (.code ⟨"SeizedGoods$Asker", "given", "(II)I"⟩ prog_2_method_5_code 4 (some .int)) := rfl
theorem tk_X0_given_0 : ((T_X0_given.drop 0).take 60).all (chk1 0 false prog_2_method_5_code) = true := by decide +kernel
theorem tk_X0_given_60 : ((T_X0_given.drop 60).take 60).all (chk1 0 false prog_2_method_5_code) = true := by decide +kernel
theorem tk_X0_given : chkT 0 false prog_2_method_5_code T_X0_given = true := all_cut 60 (all_step tk_X0_given_0 (all_last tk_X0_given_60 rfl))
set_option maxRecDepth 100000 in
theorem cw_X1_init : lw_tbl[186]? = some (.code ⟨"SeizedGoods$Claim", "<init>", "()V"⟩ prog_3_method_1_code 1 none) := rfl
theorem tk_X1_init : chkT 1 true prog_3_method_1_code T_X1_init = true := by decide +kernel
set_option maxRecDepth 100000 in
theorem cw_X1_begin : lw_tbl[762]? = some (.code ⟨"SeizedGoods$Claim", "begin", "(IIII)V"⟩ prog_3_method_2_code 5 none) := rfl
theorem tk_X1_begin : chkT 1 false prog_3_method_2_code T_X1_begin = true := by decide +kernel
set_option maxRecDepth 100000 in
theorem cw_X1_becomeLike : lw_tbl[881]? = some (.code ⟨"SeizedGoods$Claim", "becomeLike", "(LSeizedGoods$Claim;)V"⟩ prog_3_method_3_code 2 none) := rfl
theorem tk_X1_becomeLike : chkT 1 false prog_3_method_3_code T_X1_becomeLike = true := by decide +kernel
set_option maxRecDepth 100000 in
theorem cw_X1_isPaid : lw_tbl[783]? = some (.code ⟨"SeizedGoods$Claim", "isPaid", "()Z"⟩ prog_3_method_4_code 1 (some .boolean)) := rfl
theorem tk_X1_isPaid : chkT 1 false prog_3_method_4_code T_X1_isPaid = true := by decide +kernel
set_option maxRecDepth 100000 in
theorem cw_X1_isBred : lw_tbl[801]? = some (.code ⟨"SeizedGoods$Claim", "isBred", "()Z"⟩ prog_3_method_5_code 1 (some .boolean)) := rfl
theorem tk_X1_isBred : chkT 1 false prog_3_method_5_code T_X1_isBred = true := by decide +kernel
set_option maxRecDepth 100000 in
theorem cw_X1_hasLetterOn : lw_tbl[824]? = some (.code ⟨"SeizedGoods$Claim", "hasLetterOn", "(I)Z"⟩ prog_3_method_6_code 2 (some .boolean)) := rfl
theorem tk_X1_hasLetterOn : chkT 1 false prog_3_method_6_code T_X1_hasLetterOn = true := by decide +kernel
set_option maxRecDepth 100000 in
theorem cw_X1_oathOf : lw_tbl[851]? = some (.code ⟨"SeizedGoods$Claim", "oathOf", "(I)I"⟩ prog_3_method_7_code 2 (some .int)) := rfl
theorem tk_X1_oathOf : chkT 1 false prog_3_method_7_code T_X1_oathOf = true := by decide +kernel
set_option maxRecDepth 100000 in
theorem cw_X1_setOath : lw_tbl[855]? = some (.code ⟨"SeizedGoods$Claim", "setOath", "(II)V"⟩ prog_3_method_8_code 3 none) := rfl
theorem tk_X1_setOath : chkT 1 false prog_3_method_8_code T_X1_setOath = true := by decide +kernel
set_option maxRecDepth 100000 in
theorem cw_X2_init : lw_tbl[354]? = some (.code ⟨"SeizedGoods$Council", "<init>", "()V"⟩ prog_4_method_1_code 1 none) := rfl
theorem tk_X2_init : chkT 2 true prog_4_method_1_code T_X2_init = true := by decide +kernel
set_option maxRecDepth 100000 in
theorem cw_X2_gather : lw_tbl[986]? = some (.code ⟨"SeizedGoods$Council", "gather", "(LSeizedGoods$Land;)V"⟩ prog_4_method_2_code 6 none) := rfl
theorem tk_X2_gather : chkT 2 false prog_4_method_2_code T_X2_gather = true := by decide +kernel
set_option maxRecDepth 100000 in
theorem cw_X2_dueTo : lw_tbl[995]? = some (.code ⟨"SeizedGoods$Council", "dueTo", "(II)I"⟩ prog_4_method_3_code 3 (some .int)) := rfl
theorem tk_X2_dueTo : chkT 2 false prog_4_method_3_code T_X2_dueTo = true := by decide +kernel
set_option maxRecDepth 100000 in
theorem cw_X2_owedBy : lw_tbl[991]? = some (.code ⟨"SeizedGoods$Council", "owedBy", "(I)I"⟩ prog_4_method_4_code 4 (some .int)) := rfl
theorem tk_X2_owedBy : chkT 2 false prog_4_method_4_code T_X2_owedBy = true := by decide +kernel
set_option maxRecDepth 100000 in
theorem cw_X2_choose : lw_tbl[1011]? = some (.code ⟨"SeizedGoods$Council", "choose", "(I)V"⟩ prog_4_method_5_code 4 none) := rfl
theorem tk_X2_choose : chkT 2 false prog_4_method_5_code T_X2_choose = true := by decide +kernel
set_option maxRecDepth 100000 in
theorem cw_X2_worthOf : lw_tbl[1034]? = some (.code ⟨"SeizedGoods$Council", "worthOf", "(I)I"⟩ prog_4_method_6_code 2 (some .int)) := rfl
theorem tk_X2_worthOf : chkT 2 false prog_4_method_6_code T_X2_worthOf = true := by decide +kernel
set_option maxRecDepth 100000 in
theorem cw_X2_gain : lw_tbl[1038]? = some (.code ⟨"SeizedGoods$Council", "gain", "(I)I"⟩ prog_4_method_7_code 4 (some .int)) := rfl
theorem tk_X2_gain : chkT 2 false prog_4_method_7_code T_X2_gain = true := by decide +kernel
set_option maxRecDepth 100000 in
theorem cw_X2_loss : lw_tbl[1015]? = some (.code ⟨"SeizedGoods$Council", "loss", "(II)I"⟩ prog_4_method_8_code 3 (some .int)) := rfl
theorem tk_X2_loss : chkT 2 false prog_4_method_8_code T_X2_loss = true := by decide +kernel
set_option maxRecDepth 100000 in
theorem cw_X2_tradeLost : lw_tbl[1020]? = some (.code ⟨"SeizedGoods$Council", "tradeLost", "(I)I"⟩ prog_4_method_9_code 4 (some .int)) := rfl
theorem tk_X2_tradeLost : chkT 2 false prog_4_method_9_code T_X2_tradeLost = true := by decide +kernel
set_option maxRecDepth 100000 in
theorem cw_X2_rowsAtRest : lw_tbl[1003]? = some (.code ⟨"SeizedGoods$Council", "rowsAtRest", "()I"⟩ prog_4_method_10_code 3 (some .int)) := rfl
theorem tk_X2_rowsAtRest : chkT 2 false prog_4_method_10_code T_X2_rowsAtRest = true := by decide +kernel
set_option maxRecDepth 100000 in
theorem cw_X2_rowAtRest : lw_tbl[1024]? = some (.code ⟨"SeizedGoods$Council", "rowAtRest", "(I)I"⟩ prog_4_method_11_code 4 (some .int)) := rfl
theorem tk_X2_rowAtRest : chkT 2 false prog_4_method_11_code T_X2_rowAtRest = true := by decide +kernel
set_option maxRecDepth 100000 in
theorem cw_X2_isAtRest : lw_tbl[1007]? = some (.code ⟨"SeizedGoods$Council", "isAtRest", "(I)Z"⟩ prog_4_method_12_code 5 (some .boolean)) := rfl
theorem tk_X2_isAtRest : chkT 2 false prog_4_method_12_code T_X2_isAtRest = true := by decide +kernel
set_option maxRecDepth 100000 in
theorem cw_X2_isKept : lw_tbl[1046]? = some (.code ⟨"SeizedGoods$Council", "isKept", "(III)Z"⟩ prog_4_method_13_code 4 (some .boolean)) := rfl
theorem tk_X2_isKept : chkT 2 false prog_4_method_13_code T_X2_isKept = true := by decide +kernel
set_option maxRecDepth 100000 in
theorem cw_X3_init : lw_tbl[173]? = some (.code ⟨"SeizedGoods$Future", "<init>", "()V"⟩ prog_5_method_1_code 1 none) := rfl
theorem tk_X3_init : chkT 3 true prog_5_method_1_code T_X3_init = true := by decide +kernel
set_option maxRecDepth 100000 in
theorem cw_X3_foretell : lw_tbl[872]? = some (.code ⟨"SeizedGoods$Future", "foretell", "(LSeizedGoods$Land;II)I"⟩ prog_5_method_2_code 4 (some .int)) := rfl
theorem tk_X3_foretell : chkT 3 false prog_5_method_2_code T_X3_foretell = true := by decide +kernel
set_option maxRecDepth 100000 in
theorem cw_X3_bestLaw : lw_tbl[1054]? = some (.code ⟨"SeizedGoods$Future", "bestLaw", "(LSeizedGoods$Land;I)I"⟩ prog_5_method_3_code 10 (some .int)) := rfl
theorem tk_X3_bestLaw : chkT 3 false prog_5_method_3_code T_X3_bestLaw = true := by decide +kernel
set_option maxRecDepth 100000 in
theorem cw_X3_giveLaw : lw_tbl[1058]? = some (.code ⟨"SeizedGoods$Future", "giveLaw", "(I)V"⟩ prog_5_method_4_code 4 none) := rfl
theorem tk_X3_giveLaw : chkT 3 false prog_5_method_4_code T_X3_giveLaw = true := by decide +kernel
set_option maxRecDepth 100000 in
theorem cw_X3_growBy : lw_tbl[885]? = some (.code ⟨"SeizedGoods$Future", "growBy", "(I)V"⟩ prog_5_method_5_code 5 none) := rfl
theorem tk_X3_growBy : chkT 3 false prog_5_method_5_code T_X3_growBy = true := by decide +kernel
set_option maxRecDepth 100000 in
theorem cw_X3_seizeFor : lw_tbl[889]? = some (.code ⟨"SeizedGoods$Future", "seizeFor", "(I)V"⟩ prog_5_method_6_code 5 none) := rfl
theorem tk_X3_seizeFor : chkT 3 false prog_5_method_6_code T_X3_seizeFor = true := by decide +kernel
set_option maxRecDepth 100000 in
theorem cw_X4_init : lw_tbl[179]? = some (.code ⟨"SeizedGoods$Land", "<init>", "()V"⟩ prog_6_method_1_code 2 none) := rfl
theorem tk_X4_init : chkT 4 true prog_6_method_1_code T_X4_init = true := by decide +kernel
set_option maxRecDepth 100000 in
theorem cw_X4_clear : lw_tbl[532]? = some (.code ⟨"SeizedGoods$Land", "clear", "()V"⟩ prog_6_method_2_code 1 none) := rfl
theorem tk_X4_clear : chkT 4 false prog_6_method_2_code T_X4_clear = true := by decide +kernel
set_option maxRecDepth 100000 in
theorem cw_X4_becomeLike : lw_tbl[876]? = some (.code ⟨"SeizedGoods$Land", "becomeLike", "(LSeizedGoods$Land;)V"⟩ prog_6_method_3_code 3 none) := rfl
theorem tk_X4_becomeLike_0 : ((T_X4_becomeLike.drop 0).take 60).all (chk1 4 false prog_6_method_3_code) = true := by decide +kernel
theorem tk_X4_becomeLike_60 : ((T_X4_becomeLike.drop 60).take 60).all (chk1 4 false prog_6_method_3_code) = true := by decide +kernel
theorem tk_X4_becomeLike : chkT 4 false prog_6_method_3_code T_X4_becomeLike = true := all_cut 60 (all_step tk_X4_becomeLike_0 (all_last tk_X4_becomeLike_60 rfl))
set_option maxRecDepth 100000 in
theorem cw_X4_isNone : lw_tbl[687]? = some (.code ⟨"SeizedGoods$Land", "isNone", "()Z"⟩ prog_6_method_4_code 1 (some .boolean)) := rfl
theorem tk_X4_isNone : chkT 4 false prog_6_method_4_code T_X4_isNone = true := by decide +kernel
set_option maxRecDepth 100000 in
theorem cw_X4_isTown : lw_tbl[700]? = some (.code ⟨"SeizedGoods$Land", "isTown", "(I)Z"⟩ prog_6_method_5_code 2 (some .boolean)) := rfl
theorem tk_X4_isTown : chkT 4 false prog_6_method_5_code T_X4_isTown = true := by decide +kernel
set_option maxRecDepth 100000 in
theorem cw_X4_areTwoTowns : lw_tbl[728]? = some (.code ⟨"SeizedGoods$Land", "areTwoTowns", "(II)Z"⟩ prog_6_method_6_code 3 (some .boolean)) := rfl
theorem tk_X4_areTwoTowns : chkT 4 false prog_6_method_6_code T_X4_areTwoTowns = true := by decide +kernel
set_option maxRecDepth 100000 in
theorem cw_X4_isMan : lw_tbl[696]? = some (.code ⟨"SeizedGoods$Land", "isMan", "(I)Z"⟩ prog_6_method_7_code 2 (some .boolean)) := rfl
theorem tk_X4_isMan : chkT 4 false prog_6_method_7_code T_X4_isMan = true := by decide +kernel
set_option maxRecDepth 100000 in
theorem cw_X4_isClaim : lw_tbl[779]? = some (.code ⟨"SeizedGoods$Land", "isClaim", "(I)Z"⟩ prog_6_method_8_code 2 (some .boolean)) := rfl
theorem tk_X4_isClaim : chkT 4 false prog_6_method_8_code T_X4_isClaim = true := by decide +kernel
set_option maxRecDepth 100000 in
theorem cw_X4_addTown : lw_tbl[629]? = some (.code ⟨"SeizedGoods$Land", "addTown", "(I)V"⟩ prog_6_method_9_code 2 none) := rfl
theorem tk_X4_addTown : chkT 4 false prog_6_method_9_code T_X4_addTown = true := by decide +kernel
set_option maxRecDepth 100000 in
theorem cw_X4_addMan : lw_tbl[641]? = some (.code ⟨"SeizedGoods$Land", "addMan", "(I)V"⟩ prog_6_method_10_code 2 none) := rfl
theorem tk_X4_addMan : chkT 4 false prog_6_method_10_code T_X4_addMan = true := by decide +kernel
set_option maxRecDepth 100000 in
theorem cw_X4_addRoad : lw_tbl[662]? = some (.code ⟨"SeizedGoods$Land", "addRoad", "(II)V"⟩ prog_6_method_11_code 3 none) := rfl
theorem tk_X4_addRoad : chkT 4 false prog_6_method_11_code T_X4_addRoad = true := by decide +kernel
set_option maxRecDepth 100000 in
theorem cw_X4_hasRoad : lw_tbl[704]? = some (.code ⟨"SeizedGoods$Land", "hasRoad", "(II)Z"⟩ prog_6_method_12_code 3 (some .boolean)) := rfl
theorem tk_X4_hasRoad : chkT 4 false prog_6_method_12_code T_X4_hasRoad = true := by decide +kernel
set_option maxRecDepth 100000 in
theorem cw_X4_setLaw : lw_tbl[633]? = some (.code ⟨"SeizedGoods$Land", "setLaw", "(IIIII)V"⟩ prog_6_method_13_code 7 none) := rfl
theorem tk_X4_setLaw : chkT 4 false prog_6_method_13_code T_X4_setLaw = true := by decide +kernel
set_option maxRecDepth 100000 in
theorem cw_X4_lawOf : lw_tbl[720]? = some (.code ⟨"SeizedGoods$Land", "lawOf", "(II)I"⟩ prog_6_method_14_code 3 (some .int)) := rfl
theorem tk_X4_lawOf : chkT 4 false prog_6_method_14_code T_X4_lawOf = true := by decide +kernel
set_option maxRecDepth 100000 in
theorem cw_X4_addFair : lw_tbl[654]? = some (.code ⟨"SeizedGoods$Land", "addFair", "(III)V"⟩ prog_6_method_15_code 5 none) := rfl
theorem tk_X4_addFair : chkT 4 false prog_6_method_15_code T_X4_addFair = true := by decide +kernel
set_option maxRecDepth 100000 in
theorem cw_X4_hasFair : lw_tbl[819]? = some (.code ⟨"SeizedGoods$Land", "hasFair", "(I)Z"⟩ prog_6_method_16_code 4 (some .boolean)) := rfl
theorem tk_X4_hasFair : chkT 4 false prog_6_method_16_code T_X4_hasFair = true := by decide +kernel
set_option maxRecDepth 100000 in
theorem cw_X4_setPact : lw_tbl[666]? = some (.code ⟨"SeizedGoods$Land", "setPact", "(IIZ)V"⟩ prog_6_method_17_code 4 none) := rfl
theorem tk_X4_setPact : chkT 4 false prog_6_method_17_code T_X4_setPact = true := by decide +kernel
set_option maxRecDepth 100000 in
theorem cw_X4_hasPact : lw_tbl[736]? = some (.code ⟨"SeizedGoods$Land", "hasPact", "(II)Z"⟩ prog_6_method_18_code 3 (some .boolean)) := rfl
theorem tk_X4_hasPact : chkT 4 false prog_6_method_18_code T_X4_hasPact = true := by decide +kernel
set_option maxRecDepth 100000 in
theorem cw_X4_pairsIn : lw_tbl[1129]? = some (.code ⟨"SeizedGoods$Land", "pairsIn", "([I)I"⟩ prog_6_method_19_code 4 (some .int)) := rfl
theorem tk_X4_pairsIn : chkT 4 false prog_6_method_19_code T_X4_pairsIn = true := by decide +kernel
set_option maxRecDepth 100000 in
theorem cw_X4_canOwe : lw_tbl[745]? = some (.code ⟨"SeizedGoods$Land", "canOwe", "(III)Z"⟩ prog_6_method_20_code 4 (some .boolean)) := rfl
theorem tk_X4_canOwe : chkT 4 false prog_6_method_20_code T_X4_canOwe = true := by decide +kernel
set_option maxRecDepth 100000 in
theorem cw_X4_hasRoom : lw_tbl[753]? = some (.code ⟨"SeizedGoods$Land", "hasRoom", "(I)Z"⟩ prog_6_method_21_code 2 (some .boolean)) := rfl
theorem tk_X4_hasRoom : chkT 4 false prog_6_method_21_code T_X4_hasRoom = true := by decide +kernel
set_option maxRecDepth 100000 in
theorem cw_X4_addClaim : lw_tbl[758]? = some (.code ⟨"SeizedGoods$Land", "addClaim", "(IIII)I"⟩ prog_6_method_22_code 5 (some .int)) := rfl
theorem tk_X4_addClaim : chkT 4 false prog_6_method_22_code T_X4_addClaim = true := by decide +kernel
set_option maxRecDepth 100000 in
theorem cw_X4_paidClaims : lw_tbl[1134]? = some (.code ⟨"SeizedGoods$Land", "paidClaims", "()I"⟩ prog_6_method_23_code 3 (some .int)) := rfl
theorem tk_X4_paidClaims : chkT 4 false prog_6_method_23_code T_X4_paidClaims = true := by decide +kernel
set_option maxRecDepth 100000 in
theorem cw_X4_leftInAll : lw_tbl[897]? = some (.code ⟨"SeizedGoods$Land", "leftInAll", "()I"⟩ prog_6_method_24_code 3 (some .int)) := rfl
theorem tk_X4_leftInAll : chkT 4 false prog_6_method_24_code T_X4_leftInAll = true := by decide +kernel
set_option maxRecDepth 100000 in
theorem cw_X4_balanceOf : lw_tbl[712]? = some (.code ⟨"SeizedGoods$Land", "balanceOf", "(I)I"⟩ prog_6_method_25_code 4 (some .int)) := rfl
theorem tk_X4_balanceOf : chkT 4 false prog_6_method_25_code T_X4_balanceOf = true := by decide +kernel
set_option maxRecDepth 100000 in
theorem cw_X4_wordLacked : lw_tbl[809]? = some (.code ⟨"SeizedGoods$Land", "wordLacked", "(LSeizedGoods$Claim;II)I"⟩ prog_6_method_26_code 4 (some .int)) := rfl
theorem tk_X4_wordLacked : chkT 4 false prog_6_method_26_code T_X4_wordLacked = true := by decide +kernel
set_option maxRecDepth 100000 in
theorem cw_X4_wordLacked_ : lw_tbl[813]? = some (.code ⟨"SeizedGoods$Land", "wordLacked", "(LSeizedGoods$Claim;III)I"⟩ prog_6_method_27_code 7 (some .int)) := rfl
theorem tk_X4_wordLacked__0 : ((T_X4_wordLacked_.drop 0).take 60).all (chk1 4 false prog_6_method_27_code) = true := by decide +kernel
theorem tk_X4_wordLacked__60 : ((T_X4_wordLacked_.drop 60).take 60).all (chk1 4 false prog_6_method_27_code) = true := by decide +kernel
theorem tk_X4_wordLacked_ : chkT 4 false prog_6_method_27_code T_X4_wordLacked_ = true := all_cut 60 (all_step tk_X4_wordLacked__0 (all_last tk_X4_wordLacked__60 rfl))
set_option maxRecDepth 100000 in
theorem cw_X4_mostOf : lw_tbl[828]? = some (.code ⟨"SeizedGoods$Land", "mostOf", "(LSeizedGoods$Claim;I)I"⟩ prog_6_method_28_code 4 (some .int)) := rfl
theorem tk_X4_mostOf : chkT 4 false prog_6_method_28_code T_X4_mostOf = true := by decide +kernel
set_option maxRecDepth 100000 in
theorem cw_X4_takeGoods : lw_tbl[840]? = some (.code ⟨"SeizedGoods$Land", "takeGoods", "(III)I"⟩ prog_6_method_29_code 6 (some .int)) := rfl
theorem tk_X4_takeGoods : chkT 4 false prog_6_method_29_code T_X4_takeGoods = true := by decide +kernel
set_option maxRecDepth 100000 in
theorem cw_X4_saying : lw_tbl[863]? = some (.code ⟨"SeizedGoods$Land", "saying", "(LSeizedGoods$Claim;)I"⟩ prog_6_method_30_code 8 (some .int)) := rfl
theorem tk_X4_saying : chkT 4 false prog_6_method_30_code T_X4_saying = true := by decide +kernel
set_option maxRecDepth 100000 in
theorem cw_X4_kindTold : lw_tbl[1076]? = some (.code ⟨"SeizedGoods$Land", "kindTold", "(LSeizedGoods$Claim;)I"⟩ prog_6_method_31_code 3 (some .int)) := rfl
theorem tk_X4_kindTold : chkT 4 false prog_6_method_31_code T_X4_kindTold = true := by decide +kernel
set_option maxRecDepth 100000 in
theorem cw_X5_init : lw_tbl[327]? = some (.code ⟨"SeizedGoods$Ledger", "<init>", "()V"⟩ prog_7_method_1_code 1 none) := rfl
theorem tk_X5_init : chkT 5 true prog_7_method_1_code T_X5_init = true := by decide +kernel
set_option maxRecDepth 100000 in
theorem cw_X5_coinOf : lw_tbl[904]? = some (.code ⟨"SeizedGoods$Ledger", "coinOf", "(LSeizedGoods$Land;)I"⟩ prog_7_method_2_code 3 (some .int)) := rfl
theorem tk_X5_coinOf : chkT 5 false prog_7_method_2_code T_X5_coinOf = true := by decide +kernel
set_option maxRecDepth 100000 in
theorem cw_X5_menOut : lw_tbl[909]? = some (.code ⟨"SeizedGoods$Ledger", "menOut", "(LSeizedGoods$Land;)I"⟩ prog_7_method_3_code 4 (some .int)) := rfl
theorem tk_X5_menOut : chkT 5 false prog_7_method_3_code T_X5_menOut = true := by decide +kernel
set_option maxRecDepth 100000 in
theorem cw_X5_fewestPayments : lw_tbl[914]? = some (.code ⟨"SeizedGoods$Ledger", "fewestPayments", "(LSeizedGoods$Land;)I"⟩ prog_7_method_4_code 5 (some .int)) := rfl
theorem tk_X5_fewestPayments : chkT 5 false prog_7_method_4_code T_X5_fewestPayments = true := by decide +kernel
set_option maxRecDepth 100000 in
theorem cw_X5_mostGroups : lw_tbl[918]? = some (.code ⟨"SeizedGoods$Ledger", "mostGroups", "(I)I"⟩ prog_7_method_5_code 7 (some .int)) := rfl
theorem tk_X5_mostGroups : chkT 5 false prog_7_method_5_code T_X5_mostGroups = true := by decide +kernel
set_option maxRecDepth 100000 in
theorem cw_X6_init : lw_tbl[136]? = some (.code ⟨"SeizedGoods$Reader", "<init>", "()V"⟩ prog_8_method_1_code 1 none) := rfl
theorem tk_X6_init : chkT 6 true prog_8_method_1_code T_X6_init = true := by decide +kernel
set_option maxRecDepth 100000 in
theorem cw_X6_hasRoom : lw_tbl[514]? = some (.code ⟨"SeizedGoods$Reader", "hasRoom", "(I)Z"⟩ prog_8_method_2_code 2 (some .boolean)) := rfl
theorem tk_X6_hasRoom : chkT 6 false prog_8_method_2_code T_X6_hasRoom = true := by decide +kernel
set_option maxRecDepth 100000 in
theorem cw_X6_take : lw_tbl[519]? = some (.code ⟨"SeizedGoods$Reader", "take", "(JI)I"⟩ prog_8_method_3_code 5 (some .int)) := rfl
theorem tk_X6_take : chkT 6 false prog_8_method_3_code T_X6_take = true := by decide +kernel
set_option maxRecDepth 100000 in
theorem cw_X6_empty : lw_tbl[674]? = some (.code ⟨"SeizedGoods$Reader", "empty", "()V"⟩ prog_8_method_4_code 1 none) := rfl
theorem tk_X6_empty : chkT 6 false prog_8_method_4_code T_X6_empty = true := by decide +kernel
set_option maxRecDepth 100000 in
theorem cw_X6_readLand : lw_tbl[528]? = some (.code ⟨"SeizedGoods$Reader", "readLand", "(LSeizedGoods$Land;)Z"⟩ prog_8_method_5_code 5 (some .boolean)) := rfl
theorem tk_X6_readLand_0 : ((T_X6_readLand.drop 0).take 60).all (chk1 6 false prog_8_method_5_code) = true := by decide +kernel
theorem tk_X6_readLand_60 : ((T_X6_readLand.drop 60).take 60).all (chk1 6 false prog_8_method_5_code) = true := by decide +kernel
theorem tk_X6_readLand : chkT 6 false prog_8_method_5_code T_X6_readLand = true := all_cut 60 (all_step tk_X6_readLand_0 (all_last tk_X6_readLand_60 rfl))
set_option maxRecDepth 100000 in
theorem cw_X6_fails : lw_tbl[611]? = some (.code ⟨"SeizedGoods$Reader", "fails", "(I)Z"⟩ prog_8_method_6_code 2 (some .boolean)) := rfl
theorem tk_X6_fails : chkT 6 false prog_8_method_6_code T_X6_fails = true := by decide +kernel
set_option maxRecDepth 100000 in
theorem cw_X6_wordTold : lw_tbl[549]? = some (.code ⟨"SeizedGoods$Reader", "wordTold", "()I"⟩ prog_8_method_7_code 1 (some .int)) := rfl
theorem tk_X6_wordTold : chkT 6 false prog_8_method_7_code T_X6_wordTold = true := by decide +kernel
set_option maxRecDepth 100000 in
theorem cw_X6_isName : lw_tbl[554]? = some (.code ⟨"SeizedGoods$Reader", "isName", "(Ljava/lang/String;)Z"⟩ prog_8_method_8_code 3 (some .boolean)) := rfl
theorem tk_X6_isName : chkT 6 false prog_8_method_8_code T_X6_isName = true := by decide +kernel
set_option maxRecDepth 100000 in
theorem cw_X6_readRow : lw_tbl[617]? = some (.code ⟨"SeizedGoods$Reader", "readRow", "(I)Z"⟩ prog_8_method_9_code 2 (some .boolean)) := rfl
theorem tk_X6_readRow : chkT 6 false prog_8_method_9_code T_X6_readRow = true := by decide +kernel
set_option maxRecDepth 100000 in
theorem cw_X6_readTown : lw_tbl[621]? = some (.code ⟨"SeizedGoods$Reader", "readTown", "()Z"⟩ prog_8_method_10_code 2 (some .boolean)) := rfl
theorem tk_X6_readTown : chkT 6 false prog_8_method_10_code T_X6_readTown = true := by decide +kernel
set_option maxRecDepth 100000 in
theorem cw_X6_readMan : lw_tbl[637]? = some (.code ⟨"SeizedGoods$Reader", "readMan", "()Z"⟩ prog_8_method_11_code 2 (some .boolean)) := rfl
theorem tk_X6_readMan : chkT 6 false prog_8_method_11_code T_X6_readMan = true := by decide +kernel
set_option maxRecDepth 100000 in
theorem cw_X6_readPair : lw_tbl[658]? = some (.code ⟨"SeizedGoods$Reader", "readPair", "(Z)Z"⟩ prog_8_method_12_code 4 (some .boolean)) := rfl
theorem tk_X6_readPair : chkT 6 false prog_8_method_12_code T_X6_readPair = true := by decide +kernel
set_option maxRecDepth 100000 in
theorem cw_X6_readLaw : lw_tbl[645]? = some (.code ⟨"SeizedGoods$Reader", "readLaw", "()Z"⟩ prog_8_method_13_code 6 (some .boolean)) := rfl
theorem tk_X6_readLaw : chkT 6 false prog_8_method_13_code T_X6_readLaw = true := by decide +kernel
set_option maxRecDepth 100000 in
theorem cw_X6_readFair : lw_tbl[650]? = some (.code ⟨"SeizedGoods$Reader", "readFair", "()Z"⟩ prog_8_method_14_code 4 (some .boolean)) := rfl
theorem tk_X6_readFair : chkT 6 false prog_8_method_14_code T_X6_readFair = true := by decide +kernel
set_option maxRecDepth 100000 in
theorem cw_X6_readNumber : lw_tbl[625]? = some (.code ⟨"SeizedGoods$Reader", "readNumber", "(II)I"⟩ prog_8_method_15_code 4 (some .int)) := rfl
theorem tk_X6_readNumber : chkT 6 false prog_8_method_15_code T_X6_readNumber = true := by decide +kernel
set_option maxRecDepth 100000 in
theorem cw_X6_readSemicolon : lw_tbl[670]? = some (.code ⟨"SeizedGoods$Reader", "readSemicolon", "()Z"⟩ prog_8_method_16_code 1 (some .boolean)) := rfl
theorem tk_X6_readSemicolon : chkT 6 false prog_8_method_16_code T_X6_readSemicolon = true := by decide +kernel
set_option maxRecDepth 100000 in
theorem cw_X6_nextToken : lw_tbl[538]? = some (.code ⟨"SeizedGoods$Reader", "nextToken", "()V"⟩ prog_8_method_17_code 3 none) := rfl
theorem tk_X6_nextToken_0 : ((T_X6_nextToken.drop 0).take 60).all (chk1 6 false prog_8_method_17_code) = true := by decide +kernel
theorem tk_X6_nextToken_60 : ((T_X6_nextToken.drop 60).take 60).all (chk1 6 false prog_8_method_17_code) = true := by decide +kernel
theorem tk_X6_nextToken : chkT 6 false prog_8_method_17_code T_X6_nextToken = true := all_cut 60 (all_step tk_X6_nextToken_0 (all_last tk_X6_nextToken_60 rfl))
set_option maxRecDepth 100000 in
theorem cw_X6_sortAt : lw_tbl[542]? = some (.code ⟨"SeizedGoods$Reader", "sortAt", "(I)I"⟩ prog_8_method_18_code 3 (some .int)) := rfl
theorem tk_X6_sortAt : chkT 6 false prog_8_method_18_code T_X6_sortAt = true := by decide +kernel
set_option maxRecDepth 100000 in
theorem cw_X7_init : lw_tbl[116]? = some (.code ⟨"SeizedGoods$Sheets", "<init>", "()V"⟩ prog_9_method_1_code 1 none) := rfl
theorem tk_X7_init : chkT 7 true prog_9_method_1_code T_X7_init = true := by decide +kernel
set_option maxRecDepth 100000 in
theorem cw_X7_isNumber : lw_tbl[444]? = some (.code ⟨"SeizedGoods$Sheets", "isNumber", "(I)Z"⟩ prog_9_method_2_code 1 (some .boolean)) := rfl
theorem tk_X7_isNumber : chkT 7 false prog_9_method_2_code T_X7_isNumber = true := by decide +kernel
set_option maxRecDepth 100000 in
theorem cw_X7_isLane : lw_tbl[447]? = some (.code ⟨"SeizedGoods$Sheets", "isLane", "(I)Z"⟩ prog_9_method_3_code 1 (some .boolean)) := rfl
theorem tk_X7_isLane : chkT 7 false prog_9_method_3_code T_X7_isLane = true := by decide +kernel
set_option maxRecDepth 100000 in
theorem cw_X7_isMissing : lw_tbl[475]? = some (.code ⟨"SeizedGoods$Sheets", "isMissing", "(I)Z"⟩ prog_9_method_4_code 2 (some .boolean)) := rfl
theorem tk_X7_isMissing : chkT 7 false prog_9_method_4_code T_X7_isMissing = true := by decide +kernel
set_option maxRecDepth 100000 in
theorem cw_X7_laneOf : lw_tbl[491]? = some (.code ⟨"SeizedGoods$Sheets", "laneOf", "(I)I"⟩ prog_9_method_5_code 2 (some .int)) := rfl
theorem tk_X7_laneOf : chkT 7 false prog_9_method_5_code T_X7_laneOf = true := by decide +kernel
set_option maxRecDepth 100000 in
theorem cw_X7_hasRange : lw_tbl[479]? = some (.code ⟨"SeizedGoods$Sheets", "hasRange", "(III)Z"⟩ prog_9_method_6_code 4 (some .boolean)) := rfl
theorem tk_X7_hasRange : chkT 7 false prog_9_method_6_code T_X7_hasRange = true := by decide +kernel
set_option maxRecDepth 100000 in
theorem cw_X7_item : lw_tbl[771]? = some (.code ⟨"SeizedGoods$Sheets", "item", "(II)I"⟩ prog_9_method_7_code 3 (some .int)) := rfl
theorem tk_X7_item : chkT 7 false prog_9_method_7_code T_X7_item = true := by decide +kernel
set_option maxRecDepth 100000 in
theorem cw_X7_renew : lw_tbl[457]? = some (.code ⟨"SeizedGoods$Sheets", "renew", "(III)V"⟩ prog_9_method_8_code 5 none) := rfl
theorem tk_X7_renew : chkT 7 false prog_9_method_8_code T_X7_renew = true := by decide +kernel
set_option maxRecDepth 100000 in
theorem cw_X7_put : lw_tbl[483]? = some (.code ⟨"SeizedGoods$Sheets", "put", "(III)I"⟩ prog_9_method_9_code 5 (some .int)) := rfl
theorem tk_X7_put : chkT 7 false prog_9_method_9_code T_X7_put = true := by decide +kernel
set_option maxRecDepth 100000 in
theorem cw_X7_move : lw_tbl[495]? = some (.code ⟨"SeizedGoods$Sheets", "move", "(IIIII)V"⟩ prog_9_method_10_code 6 none) := rfl
theorem tk_X7_move : chkT 7 false prog_9_method_10_code T_X7_move = true := by decide +kernel
set_option maxRecDepth 100000 in
theorem cw_X7_remove : lw_tbl[506]? = some (.code ⟨"SeizedGoods$Sheets", "remove", "(I)I"⟩ prog_9_method_11_code 3 (some .int)) := rfl
theorem tk_X7_remove : chkT 7 false prog_9_method_11_code T_X7_remove = true := by decide +kernel
set_option maxRecDepth 100000 in
theorem cw_X7_present : lw_tbl[1124]? = some (.code ⟨"SeizedGoods$Sheets", "present", "()I"⟩ prog_9_method_12_code 3 (some .int)) := rfl
theorem tk_X7_present : chkT 7 false prog_9_method_12_code T_X7_present = true := by decide +kernel
set_option maxRecDepth 100000 in
theorem cw_X8_init : lw_tbl[341]? = some (.code ⟨"SeizedGoods$Travel", "<init>", "()V"⟩ prog_10_method_1_code 1 none) := rfl
theorem tk_X8_init : chkT 8 true prog_10_method_1_code T_X8_init = true := by decide +kernel
set_option maxRecDepth 100000 in
theorem cw_X8_fewestRoads : lw_tbl[926]? = some (.code ⟨"SeizedGoods$Travel", "fewestRoads", "(LSeizedGoods$Land;II)I"⟩ prog_10_method_2_code 6 (some .int)) := rfl
theorem tk_X8_fewestRoads : chkT 8 false prog_10_method_2_code T_X8_fewestRoads = true := by decide +kernel
set_option maxRecDepth 100000 in
theorem cw_X8_openNeighbours : lw_tbl[935]? = some (.code ⟨"SeizedGoods$Travel", "openNeighbours", "(LSeizedGoods$Land;I)I"⟩ prog_10_method_3_code 5 (some .int)) := rfl
theorem tk_X8_openNeighbours : chkT 8 false prog_10_method_3_code T_X8_openNeighbours = true := by decide +kernel
set_option maxRecDepth 100000 in
theorem cw_X8_fewestBars : lw_tbl[944]? = some (.code ⟨"SeizedGoods$Travel", "fewestBars", "(LSeizedGoods$Land;II)I"⟩ prog_10_method_4_code 5 (some .int)) := rfl
theorem tk_X8_fewestBars : chkT 8 false prog_10_method_4_code T_X8_fewestBars = true := by decide +kernel
set_option maxRecDepth 100000 in
theorem cw_X8_walk : lw_tbl[948]? = some (.code ⟨"SeizedGoods$Travel", "walk", "(LSeizedGoods$Land;IIII)V"⟩ prog_10_method_5_code 8 none) := rfl
theorem tk_X8_walk : chkT 8 false prog_10_method_5_code T_X8_walk = true := by decide +kernel
set_option maxRecDepth 100000 in
theorem cw_X8_choose : lw_tbl[952]? = some (.code ⟨"SeizedGoods$Travel", "choose", "(I)V"⟩ prog_10_method_6_code 3 none) := rfl
theorem tk_X8_choose : chkT 8 false prog_10_method_6_code T_X8_choose = true := by decide +kernel
set_option maxRecDepth 100000 in
theorem cw_X8_findBars : lw_tbl[930]? = some (.code ⟨"SeizedGoods$Travel", "findBars", "(LSeizedGoods$Land;I)V"⟩ prog_10_method_7_code 5 none) := rfl
theorem tk_X8_findBars : chkT 8 false prog_10_method_7_code T_X8_findBars = true := by decide +kernel
set_option maxRecDepth 100000 in
theorem cw_X8_isShutAt : lw_tbl[969]? = some (.code ⟨"SeizedGoods$Travel", "isShutAt", "(LSeizedGoods$Land;II)Z"⟩ prog_10_method_8_code 4 (some .boolean)) := rfl
theorem tk_X8_isShutAt : chkT 8 false prog_10_method_8_code T_X8_isShutAt = true := by decide +kernel
set_option maxRecDepth 100000 in
theorem cw_X8_deadPairs : lw_tbl[977]? = some (.code ⟨"SeizedGoods$Travel", "deadPairs", "(LSeizedGoods$Land;)I"⟩ prog_10_method_9_code 4 (some .int)) := rfl
theorem tk_X8_deadPairs : chkT 8 false prog_10_method_9_code T_X8_deadPairs = true := by decide +kernel
