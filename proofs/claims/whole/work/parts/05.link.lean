def OWNS : List String := ["SeizedGoods$Asker", "SeizedGoods$Claim", "SeizedGoods$Council", "SeizedGoods$Future", "SeizedGoods$Land", "SeizedGoods$Ledger", "SeizedGoods$Reader", "SeizedGoods$Sheets", "SeizedGoods$Travel", "SeizedGoods", "SeizedGoodsModel", 
  "SeizedGoodsLaw", "java/lang/Object", "java/lang/Integer", "java/lang/Math", "java/lang/String", "java/lang/StringLatin1", "java/util/Arrays"]
def MB : List (Nat × MethodName × ByteArray × Nat × Option FieldType × Nat) := [(0, ⟨"SeizedGoods$Asker", "<init>", "()V"⟩, prog_2_method_1_code, 1, none, 2), (0, ⟨"SeizedGoods$Asker", "answer", "(LSeizedGoods$Land;II)I"⟩, prog_2_method_2_code, 5, (some .int), 1), 
  (0, ⟨"SeizedGoods$Asker", "traced", "(I)I"⟩, prog_2_method_3_code, 2, (some .int), 1), (0, ⟨"SeizedGoods$Asker", "nearestBody", "([II)I"⟩, prog_2_method_4_code, 4, (some .int), 0), 
  (0, ⟨"SeizedGoods$Asker", "given", "(II)I"⟩, prog_2_method_5_code, 4, (some .int), 1), (1, ⟨"SeizedGoods$Claim", "<init>", "()V"⟩, prog_3_method_1_code, 1, none, 2), 
  (1, ⟨"SeizedGoods$Claim", "begin", "(IIII)V"⟩, prog_3_method_2_code, 5, none, 1), (1, ⟨"SeizedGoods$Claim", "becomeLike", "(LSeizedGoods$Claim;)V"⟩, prog_3_method_3_code, 2, none, 1), 
  (1, ⟨"SeizedGoods$Claim", "isPaid", "()Z"⟩, prog_3_method_4_code, 1, (some .boolean), 1), (1, ⟨"SeizedGoods$Claim", "isBred", "()Z"⟩, prog_3_method_5_code, 1, (some .boolean), 1), 
  (1, ⟨"SeizedGoods$Claim", "hasLetterOn", "(I)Z"⟩, prog_3_method_6_code, 2, (some .boolean), 1), (1, ⟨"SeizedGoods$Claim", "oathOf", "(I)I"⟩, prog_3_method_7_code, 2, (some .int), 1), 
  (1, ⟨"SeizedGoods$Claim", "setOath", "(II)V"⟩, prog_3_method_8_code, 3, none, 1), (2, ⟨"SeizedGoods$Council", "<init>", "()V"⟩, prog_4_method_1_code, 1, none, 2), 
  (2, ⟨"SeizedGoods$Council", "gather", "(LSeizedGoods$Land;)V"⟩, prog_4_method_2_code, 6, none, 1), (2, ⟨"SeizedGoods$Council", "dueTo", "(II)I"⟩, prog_4_method_3_code, 3, (some .int), 1), 
  (2, ⟨"SeizedGoods$Council", "owedBy", "(I)I"⟩, prog_4_method_4_code, 4, (some .int), 1), (2, ⟨"SeizedGoods$Council", "choose", "(I)V"⟩, prog_4_method_5_code, 4, none, 1), 
  (2, ⟨"SeizedGoods$Council", "worthOf", "(I)I"⟩, prog_4_method_6_code, 2, (some .int), 1), (2, ⟨"SeizedGoods$Council", "gain", "(I)I"⟩, prog_4_method_7_code, 4, (some .int), 1), 
  (2, ⟨"SeizedGoods$Council", "loss", "(II)I"⟩, prog_4_method_8_code, 3, (some .int), 1), (2, ⟨"SeizedGoods$Council", "tradeLost", "(I)I"⟩, prog_4_method_9_code, 4, (some .int), 1), 
  (2, ⟨"SeizedGoods$Council", "rowsAtRest", "()I"⟩, prog_4_method_10_code, 3, (some .int), 1), (2, ⟨"SeizedGoods$Council", "rowAtRest", "(I)I"⟩, prog_4_method_11_code, 4, (some .int), 1), 
  (2, ⟨"SeizedGoods$Council", "isAtRest", "(I)Z"⟩, prog_4_method_12_code, 5, (some .boolean), 1), (2, ⟨"SeizedGoods$Council", "isKept", "(III)Z"⟩, prog_4_method_13_code, 4, (some .boolean), 1), 
  (3, ⟨"SeizedGoods$Future", "<init>", "()V"⟩, prog_5_method_1_code, 1, none, 2), (3, ⟨"SeizedGoods$Future", "foretell", "(LSeizedGoods$Land;II)I"⟩, prog_5_method_2_code, 4, (some .int), 1), 
  (3, ⟨"SeizedGoods$Future", "bestLaw", "(LSeizedGoods$Land;I)I"⟩, prog_5_method_3_code, 10, (some .int), 1), (3, ⟨"SeizedGoods$Future", "giveLaw", "(I)V"⟩, prog_5_method_4_code, 4, none, 1), 
  (3, ⟨"SeizedGoods$Future", "growBy", "(I)V"⟩, prog_5_method_5_code, 5, none, 1), (3, ⟨"SeizedGoods$Future", "seizeFor", "(I)V"⟩, prog_5_method_6_code, 5, none, 1), 
  (4, ⟨"SeizedGoods$Land", "<init>", "()V"⟩, prog_6_method_1_code, 2, none, 2), (4, ⟨"SeizedGoods$Land", "clear", "()V"⟩, prog_6_method_2_code, 1, none, 1), 
  (4, ⟨"SeizedGoods$Land", "becomeLike", "(LSeizedGoods$Land;)V"⟩, prog_6_method_3_code, 3, none, 1), (4, ⟨"SeizedGoods$Land", "isNone", "()Z"⟩, prog_6_method_4_code, 1, (some .boolean), 1), 
  (4, ⟨"SeizedGoods$Land", "isTown", "(I)Z"⟩, prog_6_method_5_code, 2, (some .boolean), 1), (4, ⟨"SeizedGoods$Land", "areTwoTowns", "(II)Z"⟩, prog_6_method_6_code, 3, (some .boolean), 1), 
  (4, ⟨"SeizedGoods$Land", "isMan", "(I)Z"⟩, prog_6_method_7_code, 2, (some .boolean), 1), (4, ⟨"SeizedGoods$Land", "isClaim", "(I)Z"⟩, prog_6_method_8_code, 2, (some .boolean), 1), 
  (4, ⟨"SeizedGoods$Land", "addTown", "(I)V"⟩, prog_6_method_9_code, 2, none, 1), (4, ⟨"SeizedGoods$Land", "addMan", "(I)V"⟩, prog_6_method_10_code, 2, none, 1), 
  (4, ⟨"SeizedGoods$Land", "addRoad", "(II)V"⟩, prog_6_method_11_code, 3, none, 1), (4, ⟨"SeizedGoods$Land", "hasRoad", "(II)Z"⟩, prog_6_method_12_code, 3, (some .boolean), 1), 
  (4, ⟨"SeizedGoods$Land", "setLaw", "(IIIII)V"⟩, prog_6_method_13_code, 7, none, 1), (4, ⟨"SeizedGoods$Land", "lawOf", "(II)I"⟩, prog_6_method_14_code, 3, (some .int), 1), 
  (4, ⟨"SeizedGoods$Land", "addFair", "(III)V"⟩, prog_6_method_15_code, 5, none, 1), (4, ⟨"SeizedGoods$Land", "hasFair", "(I)Z"⟩, prog_6_method_16_code, 4, (some .boolean), 1), 
  (4, ⟨"SeizedGoods$Land", "setPact", "(IIZ)V"⟩, prog_6_method_17_code, 4, none, 1), (4, ⟨"SeizedGoods$Land", "hasPact", "(II)Z"⟩, prog_6_method_18_code, 3, (some .boolean), 1), 
  (4, ⟨"SeizedGoods$Land", "pairsIn", "([I)I"⟩, prog_6_method_19_code, 4, (some .int), 1), (4, ⟨"SeizedGoods$Land", "canOwe", "(III)Z"⟩, prog_6_method_20_code, 4, (some .boolean), 1), 
  (4, ⟨"SeizedGoods$Land", "hasRoom", "(I)Z"⟩, prog_6_method_21_code, 2, (some .boolean), 1), (4, ⟨"SeizedGoods$Land", "addClaim", "(IIII)I"⟩, prog_6_method_22_code, 5, (some .int), 1), 
  (4, ⟨"SeizedGoods$Land", "paidClaims", "()I"⟩, prog_6_method_23_code, 3, (some .int), 1), (4, ⟨"SeizedGoods$Land", "leftInAll", "()I"⟩, prog_6_method_24_code, 3, (some .int), 1), 
  (4, ⟨"SeizedGoods$Land", "balanceOf", "(I)I"⟩, prog_6_method_25_code, 4, (some .int), 1), (4, ⟨"SeizedGoods$Land", "wordLacked", "(LSeizedGoods$Claim;II)I"⟩, prog_6_method_26_code, 4, (some .int), 1), 
  (4, ⟨"SeizedGoods$Land", "wordLacked", "(LSeizedGoods$Claim;III)I"⟩, prog_6_method_27_code, 7, (some .int), 1), (4, ⟨"SeizedGoods$Land", "mostOf", "(LSeizedGoods$Claim;I)I"⟩, prog_6_method_28_code, 4, (some .int), 1), 
  (4, ⟨"SeizedGoods$Land", "takeGoods", "(III)I"⟩, prog_6_method_29_code, 6, (some .int), 1), (4, ⟨"SeizedGoods$Land", "saying", "(LSeizedGoods$Claim;)I"⟩, prog_6_method_30_code, 8, (some .int), 1), 
  (4, ⟨"SeizedGoods$Land", "kindTold", "(LSeizedGoods$Claim;)I"⟩, prog_6_method_31_code, 3, (some .int), 1), (5, ⟨"SeizedGoods$Ledger", "<init>", "()V"⟩, prog_7_method_1_code, 1, none, 2), 
  (5, ⟨"SeizedGoods$Ledger", "coinOf", "(LSeizedGoods$Land;)I"⟩, prog_7_method_2_code, 3, (some .int), 0), (5, ⟨"SeizedGoods$Ledger", "menOut", "(LSeizedGoods$Land;)I"⟩, prog_7_method_3_code, 4, (some .int), 0), 
  (5, ⟨"SeizedGoods$Ledger", "fewestPayments", "(LSeizedGoods$Land;)I"⟩, prog_7_method_4_code, 5, (some .int), 1), (5, ⟨"SeizedGoods$Ledger", "mostGroups", "(I)I"⟩, prog_7_method_5_code, 7, (some .int), 1), 
  (6, ⟨"SeizedGoods$Reader", "<init>", "()V"⟩, prog_8_method_1_code, 1, none, 2), (6, ⟨"SeizedGoods$Reader", "hasRoom", "(I)Z"⟩, prog_8_method_2_code, 2, (some .boolean), 1), 
  (6, ⟨"SeizedGoods$Reader", "take", "(JI)I"⟩, prog_8_method_3_code, 5, (some .int), 1), (6, ⟨"SeizedGoods$Reader", "empty", "()V"⟩, prog_8_method_4_code, 1, none, 1), 
  (6, ⟨"SeizedGoods$Reader", "readLand", "(LSeizedGoods$Land;)Z"⟩, prog_8_method_5_code, 5, (some .boolean), 1), (6, ⟨"SeizedGoods$Reader", "fails", "(I)Z"⟩, prog_8_method_6_code, 2, (some .boolean), 1), 
  (6, ⟨"SeizedGoods$Reader", "wordTold", "()I"⟩, prog_8_method_7_code, 1, (some .int), 1), (6, ⟨"SeizedGoods$Reader", "isName", "(Ljava/lang/String;)Z"⟩, prog_8_method_8_code, 3, (some .boolean), 1), 
  (6, ⟨"SeizedGoods$Reader", "readRow", "(I)Z"⟩, prog_8_method_9_code, 2, (some .boolean), 1), (6, ⟨"SeizedGoods$Reader", "readTown", "()Z"⟩, prog_8_method_10_code, 2, (some .boolean), 1), 
  (6, ⟨"SeizedGoods$Reader", "readMan", "()Z"⟩, prog_8_method_11_code, 2, (some .boolean), 1), (6, ⟨"SeizedGoods$Reader", "readPair", "(Z)Z"⟩, prog_8_method_12_code, 4, (some .boolean), 1), 
  (6, ⟨"SeizedGoods$Reader", "readLaw", "()Z"⟩, prog_8_method_13_code, 6, (some .boolean), 1), (6, ⟨"SeizedGoods$Reader", "readFair", "()Z"⟩, prog_8_method_14_code, 4, (some .boolean), 1), 
  (6, ⟨"SeizedGoods$Reader", "readNumber", "(II)I"⟩, prog_8_method_15_code, 4, (some .int), 1), (6, ⟨"SeizedGoods$Reader", "readSemicolon", "()Z"⟩, prog_8_method_16_code, 1, (some .boolean), 1), 
  (6, ⟨"SeizedGoods$Reader", "nextToken", "()V"⟩, prog_8_method_17_code, 3, none, 1), (6, ⟨"SeizedGoods$Reader", "sortAt", "(I)I"⟩, prog_8_method_18_code, 3, (some .int), 1), 
  (7, ⟨"SeizedGoods$Sheets", "<init>", "()V"⟩, prog_9_method_1_code, 1, none, 2), (7, ⟨"SeizedGoods$Sheets", "isNumber", "(I)Z"⟩, prog_9_method_2_code, 1, (some .boolean), 0), 
  (7, ⟨"SeizedGoods$Sheets", "isLane", "(I)Z"⟩, prog_9_method_3_code, 1, (some .boolean), 0), (7, ⟨"SeizedGoods$Sheets", "isMissing", "(I)Z"⟩, prog_9_method_4_code, 2, (some .boolean), 1), 
  (7, ⟨"SeizedGoods$Sheets", "laneOf", "(I)I"⟩, prog_9_method_5_code, 2, (some .int), 1), (7, ⟨"SeizedGoods$Sheets", "hasRange", "(III)Z"⟩, prog_9_method_6_code, 4, (some .boolean), 1), 
  (7, ⟨"SeizedGoods$Sheets", "item", "(II)I"⟩, prog_9_method_7_code, 3, (some .int), 1), (7, ⟨"SeizedGoods$Sheets", "renew", "(III)V"⟩, prog_9_method_8_code, 5, none, 1), 
  (7, ⟨"SeizedGoods$Sheets", "put", "(III)I"⟩, prog_9_method_9_code, 5, (some .int), 1), (7, ⟨"SeizedGoods$Sheets", "move", "(IIIII)V"⟩, prog_9_method_10_code, 6, none, 1), 
  (7, ⟨"SeizedGoods$Sheets", "remove", "(I)I"⟩, prog_9_method_11_code, 3, (some .int), 1), (7, ⟨"SeizedGoods$Sheets", "present", "()I"⟩, prog_9_method_12_code, 3, (some .int), 1), 
  (8, ⟨"SeizedGoods$Travel", "<init>", "()V"⟩, prog_10_method_1_code, 1, none, 2), (8, ⟨"SeizedGoods$Travel", "fewestRoads", "(LSeizedGoods$Land;II)I"⟩, prog_10_method_2_code, 6, (some .int), 1), 
  (8, ⟨"SeizedGoods$Travel", "openNeighbours", "(LSeizedGoods$Land;I)I"⟩, prog_10_method_3_code, 5, (some .int), 1), (8, ⟨"SeizedGoods$Travel", "fewestBars", "(LSeizedGoods$Land;II)I"⟩, prog_10_method_4_code, 5, (some .int), 1), 
  (8, ⟨"SeizedGoods$Travel", "walk", "(LSeizedGoods$Land;IIII)V"⟩, prog_10_method_5_code, 8, none, 1), (8, ⟨"SeizedGoods$Travel", "choose", "(I)V"⟩, prog_10_method_6_code, 3, none, 1), 
  (8, ⟨"SeizedGoods$Travel", "findBars", "(LSeizedGoods$Land;I)V"⟩, prog_10_method_7_code, 5, none, 1), (8, ⟨"SeizedGoods$Travel", "isShutAt", "(LSeizedGoods$Land;II)Z"⟩, prog_10_method_8_code, 4, (some .boolean), 0), 
  (8, ⟨"SeizedGoods$Travel", "deadPairs", "(LSeizedGoods$Land;)I"⟩, prog_10_method_9_code, 4, (some .int), 0), (9, ⟨"SeizedGoods", "<init>", "()V"⟩, prog_1_method_1_code, 2, none, 2), 
  (9, ⟨"SeizedGoods", "sheet", "(III)I"⟩, prog_1_method_2_code, 4, (some .int), 1), (9, ⟨"SeizedGoods", "set", "(III)I"⟩, prog_1_method_3_code, 4, (some .int), 1), 
  (9, ⟨"SeizedGoods", "copy", "(IIIII)I"⟩, prog_1_method_4_code, 6, (some .int), 1), (9, ⟨"SeizedGoods", "drop", "(I)I"⟩, prog_1_method_5_code, 2, (some .int), 1), 
  (9, ⟨"SeizedGoods", "feed", "(JI)I"⟩, prog_1_method_6_code, 4, (some .int), 1), (9, ⟨"SeizedGoods", "land", "()I"⟩, prog_1_method_7_code, 3, (some .int), 1), 
  (9, ⟨"SeizedGoods", "fault", "()I"⟩, prog_1_method_8_code, 1, (some .int), 1), (9, ⟨"SeizedGoods", "later", "(I)I"⟩, prog_1_method_9_code, 2, (some .int), 1), 
  (9, ⟨"SeizedGoods", "goes", "(II)I"⟩, prog_1_method_10_code, 3, (some .int), 1), (9, ⟨"SeizedGoods", "man", "(II)I"⟩, prog_1_method_11_code, 3, (some .int), 1), 
  (9, ⟨"SeizedGoods", "law", "(II)I"⟩, prog_1_method_12_code, 3, (some .int), 1), (9, ⟨"SeizedGoods", "pact", "(III)I"⟩, prog_1_method_13_code, 5, (some .int), 1), 
  (9, ⟨"SeizedGoods", "debt", "(III)I"⟩, prog_1_method_14_code, 4, (some .int), 1), (9, ⟨"SeizedGoods", "debts", "(III)I"⟩, prog_1_method_15_code, 6, (some .int), 1), 
  (9, ⟨"SeizedGoods", "ask", "(I)I"⟩, prog_1_method_16_code, 3, (some .int), 1), (9, ⟨"SeizedGoods", "letter", "(III)I"⟩, prog_1_method_17_code, 5, (some .int), 1), 
  (9, ⟨"SeizedGoods", "pay", "(II)I"⟩, prog_1_method_18_code, 4, (some .int), 1), (9, ⟨"SeizedGoods", "claim", "(II)I"⟩, prog_1_method_19_code, 4, (some .int), 1), 
  (9, ⟨"SeizedGoods", "may", "(III)I"⟩, prog_1_method_20_code, 6, (some .int), 1), (9, ⟨"SeizedGoods", "seize", "(III)I"⟩, prog_1_method_21_code, 6, (some .int), 1), 
  (9, ⟨"SeizedGoods", "swear", "(III)I"⟩, prog_1_method_22_code, 6, (some .int), 1), (9, ⟨"SeizedGoods", "says", "(I)I"⟩, prog_1_method_23_code, 2, (some .int), 1), 
  (9, ⟨"SeizedGoods", "grown", "(II)I"⟩, prog_1_method_24_code, 3, (some .int), 1), (9, ⟨"SeizedGoods", "net", "(I)I"⟩, prog_1_method_25_code, 2, (some .int), 1), 
  (9, ⟨"SeizedGoods", "way", "(II)I"⟩, prog_1_method_26_code, 3, (some .int), 1), (9, ⟨"SeizedGoods", "opened", "(II)I"⟩, prog_1_method_27_code, 3, (some .int), 1), 
  (9, ⟨"SeizedGoods", "shut", "(II)I"⟩, prog_1_method_28_code, 3, (some .int), 1), (9, ⟨"SeizedGoods", "dead", "()I"⟩, prog_1_method_29_code, 1, (some .int), 1), 
  (9, ⟨"SeizedGoods", "owes", "(I)I"⟩, prog_1_method_30_code, 2, (some .int), 1), (9, ⟨"SeizedGoods", "rest", "(I)I"⟩, prog_1_method_31_code, 2, (some .int), 1), 
  (9, ⟨"SeizedGoods", "has", "(II)I"⟩, prog_1_method_32_code, 3, (some .int), 1), (9, ⟨"SeizedGoods", "holds", "(III)I"⟩, prog_1_method_33_code, 4, (some .int), 1), 
  (9, ⟨"SeizedGoods", "reform", "(I)I"⟩, prog_1_method_34_code, 2, (some .int), 1), (9, ⟨"SeizedGoods", "image", "(I)I"⟩, prog_1_method_35_code, 2, (some .int), 1), 
  (9, ⟨"SeizedGoods", "restore", "(I)I"⟩, prog_1_method_36_code, 2, (some .int), 1), (9, ⟨"SeizedGoods", "kind", "(I)I"⟩, prog_1_method_37_code, 2, (some .int), 1), 
  (9, ⟨"SeizedGoods", "as", "(II)I"⟩, prog_1_method_38_code, 3, (some .int), 1), (9, ⟨"SeizedGoods", "asks", "(II)I"⟩, prog_1_method_39_code, 3, (some .int), 1), 
  (9, ⟨"SeizedGoods", "trace", "(I)I"⟩, prog_1_method_40_code, 2, (some .int), 1), (9, ⟨"SeizedGoods", "count", "(I)I"⟩, prog_1_method_41_code, 2, (some .int), 1), 
  (9, ⟨"SeizedGoods", "status", "()I"⟩, prog_1_method_42_code, 1, (some .int), 1), (9, ⟨"SeizedGoods", "found", "(I)I"⟩, prog_1_method_43_code, 2, (some .int), 1), 
  (9, ⟨"SeizedGoods", "unfound", "(I)I"⟩, prog_1_method_44_code, 2, (some .int), 1), (9, ⟨"SeizedGoods", "isYesOrNo", "(I)Z"⟩, prog_1_method_45_code, 1, (some .boolean), 0), 
  (9, ⟨"SeizedGoods", "isSum", "(I)Z"⟩, prog_1_method_46_code, 1, (some .boolean), 0), (9, ⟨"SeizedGoods", "isKindOf", "(II)Z"⟩, prog_1_method_47_code, 4, (some .boolean), 0), 
  (10, ⟨"SeizedGoodsModel", "<init>", "()V"⟩, prog_12_method_1_code, 1, none, 2), (10, ⟨"SeizedGoodsModel", "in", "(JJJ)Z"⟩, prog_12_method_3_code, 6, (some .boolean), 0), 
  (10, ⟨"SeizedGoodsModel", "finding", "(I)I"⟩, prog_12_method_4_code, 2, (some .int), 1), (10, ⟨"SeizedGoodsModel", "isSheet", "(I)Z"⟩, prog_12_method_5_code, 1, (some .boolean), 0), 
  (10, ⟨"SeizedGoodsModel", "sheet", "(III)I"⟩, prog_12_method_6_code, 5, (some .int), 1), (10, ⟨"SeizedGoodsModel", "set", "(III)I"⟩, prog_12_method_7_code, 4, (some .int), 1), 
  (10, ⟨"SeizedGoodsModel", "copy", "(IIIII)I"⟩, prog_12_method_8_code, 9, (some .int), 1), (10, ⟨"SeizedGoodsModel", "drop", "(I)I"⟩, prog_12_method_9_code, 2, (some .int), 1), 
  (10, ⟨"SeizedGoodsModel", "feed", "(JI)I"⟩, prog_12_method_10_code, 5, (some .int), 1), (10, ⟨"SeizedGoodsModel", "byteAt", "(I)I"⟩, prog_12_method_11_code, 2, (some .int), 1), 
  (10, ⟨"SeizedGoodsModel", "isLetter", "(I)Z"⟩, prog_12_method_12_code, 1, (some .boolean), 0), (10, ⟨"SeizedGoodsModel", "isFigure", "(I)Z"⟩, prog_12_method_13_code, 1, (some .boolean), 0), 
  (10, ⟨"SeizedGoodsModel", "next", "()V"⟩, prog_12_method_14_code, 2, none, 1), (10, ⟨"SeizedGoodsModel", "bad", "(I)V"⟩, prog_12_method_15_code, 2, none, 1), 
  (10, ⟨"SeizedGoodsModel", "must", "(Z)V"⟩, prog_12_method_16_code, 2, none, 1), (10, ⟨"SeizedGoodsModel", "word", "()J"⟩, prog_12_method_17_code, 4, (some .long), 1), 
  (10, ⟨"SeizedGoodsModel", "numberIn", "(III)I"⟩, prog_12_method_18_code, 6, (some .int), 1), (10, ⟨"SeizedGoodsModel", "town", "(I)I"⟩, prog_12_method_19_code, 2, (some .int), 1), 
  (10, ⟨"SeizedGoodsModel", "begins", "(II)V"⟩, prog_12_method_20_code, 3, none, 1), (10, ⟨"SeizedGoodsModel", "ends", "(I)V"⟩, prog_12_method_21_code, 2, none, 1), 
  (10, ⟨"SeizedGoodsModel", "readTown", "()V"⟩, prog_12_method_22_code, 3, none, 1), (10, ⟨"SeizedGoodsModel", "readMan", "()V"⟩, prog_12_method_23_code, 2, none, 1), 
  (10, ⟨"SeizedGoodsModel", "readTwo", "(II)V"⟩, prog_12_method_24_code, 5, none, 1), (10, ⟨"SeizedGoodsModel", "readLaw", "()V"⟩, prog_12_method_25_code, 6, none, 1), 
  (10, ⟨"SeizedGoodsModel", "readFair", "()V"⟩, prog_12_method_26_code, 5, none, 1), (10, ⟨"SeizedGoodsModel", "land", "()I"⟩, prog_12_method_27_code, 2, (some .int), 1), 
  (10, ⟨"SeizedGoodsModel", "fault", "()I"⟩, prog_12_method_28_code, 1, (some .int), 1), (10, ⟨"SeizedGoodsModel", "isTown", "(I)Z"⟩, prog_12_method_29_code, 2, (some .boolean), 1), 
  (10, ⟨"SeizedGoodsModel", "isMan", "(I)Z"⟩, prog_12_method_30_code, 2, (some .boolean), 1), (10, ⟨"SeizedGoodsModel", "isClaim", "(I)Z"⟩, prog_12_method_31_code, 2, (some .boolean), 1), 
  (10, ⟨"SeizedGoodsModel", "of", "(I)I"⟩, prog_12_method_32_code, 2, (some .int), 1), (10, ⟨"SeizedGoodsModel", "told", "(II)I"⟩, prog_12_method_33_code, 3, (some .int), 1), 
  (10, ⟨"SeizedGoodsModel", "tell", "(III)V"⟩, prog_12_method_34_code, 4, none, 1), (10, ⟨"SeizedGoodsModel", "lawOf", "(II)I"⟩, prog_12_method_35_code, 3, (some .int), 1), 
  (10, ⟨"SeizedGoodsModel", "havePact", "(II)Z"⟩, prog_12_method_36_code, 3, (some .boolean), 1), (10, ⟨"SeizedGoodsModel", "later", "(I)I"⟩, prog_12_method_37_code, 2, (some .int), 1), 
  (10, ⟨"SeizedGoodsModel", "goes", "(II)I"⟩, prog_12_method_38_code, 3, (some .int), 1), (10, ⟨"SeizedGoodsModel", "balance", "(I)I"⟩, prog_12_method_39_code, 4, (some .int), 1), 
  (10, ⟨"SeizedGoodsModel", "man", "(II)I"⟩, prog_12_method_40_code, 3, (some .int), 1), (10, ⟨"SeizedGoodsModel", "law", "(II)I"⟩, prog_12_method_41_code, 3, (some .int), 1), 
  (10, ⟨"SeizedGoodsModel", "pact", "(III)I"⟩, prog_12_method_42_code, 5, (some .int), 1), (10, ⟨"SeizedGoodsModel", "newClaim", "(IIII)I"⟩, prog_12_method_43_code, 7, (some .int), 1), 
  (10, ⟨"SeizedGoodsModel", "isDebt", "(III)Z"⟩, prog_12_method_44_code, 4, (some .boolean), 1), (10, ⟨"SeizedGoodsModel", "debt", "(III)I"⟩, prog_12_method_45_code, 4, (some .int), 1), 
  (10, ⟨"SeizedGoodsModel", "debts", "(III)I"⟩, prog_12_method_46_code, 6, (some .int), 1), (10, ⟨"SeizedGoodsModel", "ask", "(I)I"⟩, prog_12_method_47_code, 2, (some .int), 1), 
  (10, ⟨"SeizedGoodsModel", "letter", "(III)I"⟩, prog_12_method_48_code, 4, (some .int), 1), (10, ⟨"SeizedGoodsModel", "pay", "(II)I"⟩, prog_12_method_49_code, 4, (some .int), 1), 
  (10, ⟨"SeizedGoodsModel", "claim", "(II)I"⟩, prog_12_method_50_code, 3, (some .int), 1), (10, ⟨"SeizedGoodsModel", "isFair", "(I)Z"⟩, prog_12_method_51_code, 5, (some .boolean), 1), 
  (10, ⟨"SeizedGoodsModel", "isLetterGood", "(I)Z"⟩, prog_12_method_52_code, 2, (some .boolean), 1), (10, ⟨"SeizedGoodsModel", "lacks", "(IIII)I"⟩, prog_12_method_53_code, 7, (some .int), 1), 
  (10, ⟨"SeizedGoodsModel", "lacksOf", "(II)I"⟩, prog_12_method_54_code, 3, (some .int), 1), (10, ⟨"SeizedGoodsModel", "mostOf", "(II)I"⟩, prog_12_method_55_code, 4, (some .int), 1), 
  (10, ⟨"SeizedGoodsModel", "may", "(III)I"⟩, prog_12_method_56_code, 5, (some .int), 1), (10, ⟨"SeizedGoodsModel", "take", "(III)I"⟩, prog_12_method_57_code, 6, (some .int), 1), 
  (10, ⟨"SeizedGoodsModel", "seize", "(III)I"⟩, prog_12_method_58_code, 4, (some .int), 1), (10, ⟨"SeizedGoodsModel", "swear", "(III)I"⟩, prog_12_method_59_code, 5, (some .int), 1), 
  (10, ⟨"SeizedGoodsModel", "says", "(I)I"⟩, prog_12_method_60_code, 7, (some .int), 1), (10, ⟨"SeizedGoodsModel", "hold", "()V"⟩, prog_12_method_61_code, 2, none, 1), 
  (10, ⟨"SeizedGoodsModel", "layBack", "()V"⟩, prog_12_method_62_code, 2, none, 1), (10, ⟨"SeizedGoodsModel", "grow", "(I)V"⟩, prog_12_method_63_code, 7, none, 1), 
  (10, ⟨"SeizedGoodsModel", "allLeft", "()I"⟩, prog_12_method_64_code, 3, (some .int), 1), (10, ⟨"SeizedGoodsModel", "grown", "(II)I"⟩, prog_12_method_65_code, 4, (some .int), 1), 
  (10, ⟨"SeizedGoodsModel", "reform", "(I)I"⟩, prog_12_method_66_code, 8, (some .int), 1), (10, ⟨"SeizedGoodsModel", "hasOpen", "(I)Z"⟩, prog_12_method_67_code, 4, (some .boolean), 1), 
  (10, ⟨"SeizedGoodsModel", "payments", "()I"⟩, prog_12_method_68_code, 6, (some .int), 1), (10, ⟨"SeizedGoodsModel", "net", "(I)I"⟩, prog_12_method_69_code, 6, (some .int), 1), 
  (10, ⟨"SeizedGoodsModel", "against", "(II)I"⟩, prog_12_method_70_code, 5, (some .int), 1), (10, ⟨"SeizedGoodsModel", "isRoad", "(II)Z"⟩, prog_12_method_71_code, 3, (some .boolean), 1), 
  (10, ⟨"SeizedGoodsModel", "way", "(II)I"⟩, prog_12_method_72_code, 8, (some .int), 1), (10, ⟨"SeizedGoodsModel", "bits", "(I)I"⟩, prog_12_method_73_code, 3, (some .int), 0), 
  (10, ⟨"SeizedGoodsModel", "opened", "(II)I"⟩, prog_12_method_74_code, 7, (some .int), 1), (10, ⟨"SeizedGoodsModel", "isShut", "(II)Z"⟩, prog_12_method_75_code, 5, (some .boolean), 1), 
  (10, ⟨"SeizedGoodsModel", "shut", "(II)I"⟩, prog_12_method_76_code, 3, (some .int), 1), (10, ⟨"SeizedGoodsModel", "dead", "()I"⟩, prog_12_method_77_code, 4, (some .int), 1), 
  (10, ⟨"SeizedGoodsModel", "layBetween", "()V"⟩, prog_12_method_78_code, 4, none, 1), (10, ⟨"SeizedGoodsModel", "owesOf", "(I)I"⟩, prog_12_method_79_code, 4, (some .int), 1), 
  (10, ⟨"SeizedGoodsModel", "owes", "(I)I"⟩, prog_12_method_80_code, 2, (some .int), 1), (10, ⟨"SeizedGoodsModel", "hasOf", "(I)I"⟩, prog_12_method_81_code, 6, (some .int), 1), 
  (10, ⟨"SeizedGoodsModel", "allChoices", "()I"⟩, prog_12_method_82_code, 3, (some .int), 1), (10, ⟨"SeizedGoodsModel", "layChoices", "(I)V"⟩, prog_12_method_83_code, 4, none, 1), 
  (10, ⟨"SeizedGoodsModel", "isAtRest", "(I)Z"⟩, prog_12_method_84_code, 7, (some .boolean), 1), (10, ⟨"SeizedGoodsModel", "rest", "(I)I"⟩, prog_12_method_85_code, 5, (some .int), 1), 
  (10, ⟨"SeizedGoodsModel", "has", "(II)I"⟩, prog_12_method_86_code, 3, (some .int), 1), (10, ⟨"SeizedGoodsModel", "bears", "(III)Z"⟩, prog_12_method_87_code, 4, (some .boolean), 1), 
  (10, ⟨"SeizedGoodsModel", "holds", "(III)I"⟩, prog_12_method_88_code, 4, (some .int), 1), (10, ⟨"SeizedGoodsModel", "image", "(I)I"⟩, prog_12_method_89_code, 3, (some .int), 1), 
  (10, ⟨"SeizedGoodsModel", "restore", "(I)I"⟩, prog_12_method_90_code, 3, (some .int), 1), (10, ⟨"SeizedGoodsModel", "kindOf", "(I)I"⟩, prog_12_method_91_code, 3, (some .int), 1), 
  (10, ⟨"SeizedGoodsModel", "isOf", "(II)Z"⟩, prog_12_method_92_code, 2, (some .boolean), 0), (10, ⟨"SeizedGoodsModel", "kind", "(I)I"⟩, prog_12_method_93_code, 2, (some .int), 1), 
  (10, ⟨"SeizedGoodsModel", "as", "(II)I"⟩, prog_12_method_94_code, 3, (some .int), 1), (10, ⟨"SeizedGoodsModel", "began", "(I)V"⟩, prog_12_method_95_code, 2, none, 1), 
  (10, ⟨"SeizedGoodsModel", "townSize", "(II)I"⟩, prog_12_method_96_code, 4, (some .int), 1), (10, ⟨"SeizedGoodsModel", "ownMark", "(I)I"⟩, prog_12_method_97_code, 2, (some .int), 1), 
  (10, ⟨"SeizedGoodsModel", "sizeOf", "(II)I"⟩, prog_12_method_98_code, 4, (some .int), 1), (10, ⟨"SeizedGoodsModel", "markOf", "(II)I"⟩, prog_12_method_99_code, 4, (some .int), 1), 
  (10, ⟨"SeizedGoodsModel", "asks", "(II)I"⟩, prog_12_method_100_code, 3, (some .int), 1), (10, ⟨"SeizedGoodsModel", "trace", "(I)I"⟩, prog_12_method_101_code, 2, (some .int), 1), 
  (10, ⟨"SeizedGoodsModel", "pairs", "([II)I"⟩, prog_12_method_102_code, 6, (some .int), 1), (10, ⟨"SeizedGoodsModel", "count", "(I)I"⟩, prog_12_method_103_code, 4, (some .int), 1), 
  (10, ⟨"SeizedGoodsModel", "status", "()I"⟩, prog_12_method_104_code, 1, (some .int), 1), (13, ⟨"java/lang/Integer", "compare", "(II)I"⟩, prog_13_method_40_code, 2, (some .int), 0), 
  (13, ⟨"java/lang/Integer", "bitCount", "(I)I"⟩, prog_13_method_49_code, 1, (some .int), 0), (15, ⟨"java/lang/String", "length", "()I"⟩, prog_15_method_54_code, 1, (some .int), 1), 
  (15, ⟨"java/lang/String", "charAt", "(I)C"⟩, prog_15_method_56_code, 2, (some .char), 1), (15, ⟨"java/lang/String", "coder", "()B"⟩, prog_15_method_152_code, 1, (some .byte), 1), 
  (15, ⟨"java/lang/String", "isLatin1", "()Z"⟩, prog_15_method_154_code, 1, (some .boolean), 1), (16, ⟨"java/lang/StringLatin1", "charAt", "([BI)C"⟩, prog_16_method_2_code, 2, (some .char), 0), 
  (17, ⟨"java/util/Arrays", "rangeCheck", "(III)V"⟩, prog_19_method_30_code, 3, none, 0), (17, ⟨"java/util/Arrays", "fill", "([II)V"⟩, prog_19_method_103_code, 4, none, 0), 
  (17, ⟨"java/util/Arrays", "fill", "([IIII)V"⟩, prog_19_method_104_code, 5, none, 0), (11, ⟨"SeizedGoodsLaw", "law", "([I)Z"⟩, code, 4, (some .boolean), 0)]
def PF : List (Nat × Nat) := [(11, 0), (15, 1), (19, 263), (25, 2), (29, 3), (43, 4), (49, 5), (60, 67), (64, 66), (67, 68), (69, 70), (72, 65), (1009, 64), (1015, 65), (1018, 66), (1021, 67), (1024, 68), (1028, 69), (1031, 70), (1034, 71), (1037, 72), 
  (1040, 73), (2009, 128), (2015, 129), (2018, 130), (2021, 264), (2027, 131), (2030, 132), (2033, 256), (2040, 267), (2043, 263), (2047, 261), (2050, 64), (2055, 65), (2058, 67), (3010, 192), (3024, 267), (3028, 269), (3038, 264), 
  (3048, 268), (3051, 263), (3061, 265), (3064, 262), (4009, 256), (4015, 257), (4018, 258), (4021, 259), (4024, 260), (4027, 261), (4030, 262), (4035, 263), (4046, 264), (4050, 265), (4053, 266), (4056, 267), (4059, 268), 
  (4062, 269), (4103, 67), (4106, 64), (4109, 65), (4123, 68), (4138, 70), (5009, 320), (5015, 321), (5019, 265), (5035, 267), (5038, 263), (5048, 64), (5051, 65), (6011, 384), (6015, 385), (6018, 390), (6024, 386), (6039, 392), 
  (6042, 388), (6048, 387), (6085, 391), (6120, 264), (6126, 389), (7009, 448), (7013, 449), (7016, 450), (8009, 512), (8019, 262), (8029, 264), (8033, 258), (8036, 513), (8061, 267), (8064, 263), (9010, 576), (9019, 577), 
  (9026, 578), (9033, 579), (9040, 580), (9047, 581), (9054, 582), (9060, 583), (9065, 584), (9069, 585), (9072, 586), (9076, 587), (9134, 392), (9138, 391), (9141, 264), (9144, 268), (9158, 262), (9166, 261), (9172, 256), 
  (9204, 267), (9210, 263), (9219, 68), (9225, 69), (9228, 70), (9231, 67), (9239, 64), (9242, 65), (9245, 66), (9251, 71), (9317, 132), (9352, 265), (9355, 258), (9362, 266), (9365, 259), (9371, 269), (9374, 390), (10007, 642), 
  (10013, 643), (10016, 644), (10019, 645), (10022, 646), (10025, 648), (10028, 649), (10031, 659), (10034, 660), (10037, 661), (10040, 662), (10043, 663), (10046, 664), (10049, 665), (10052, 666), (10055, 667), (10058, 668), 
  (10062, 669), (10065, 670), (10068, 671), (10071, 640), (10075, 641), (10098, 650), (10104, 652), (10108, 653), (10114, 655), (10117, 654), (10126, 656), (10129, 657), (10132, 658), (10191, 651), (10195, 647), (10328, 672)]
def PFp : List Nat := [379, 380, 260, 381, 382, 383, 384, 204, 200, 208, 214, 196, 188, 193, 199, 202, 207, 211, 213, 217, 219, 220, 356, 357, 358, 266, 359, 360, 243, 280, 261, 253, 189, 194, 203, 319, 279, 288, 269, 285, 263, 274, 257, 242, 245, 246, 
  249, 251, 252, 255, 259, 267, 273, 276, 278, 284, 287, 206, 192, 198, 210, 216, 329, 330, 272, 281, 262, 190, 195, 138, 139, 144, 140, 148, 142, 141, 147, 271, 143, 121, 122, 123, 343, 256, 268, 247, 344, 282, 264, 401, 402, 403, 
  404, 405, 406, 407, 408, 409, 410, 411, 412, 149, 146, 270, 286, 258, 254, 244, 283, 265, 209, 212, 215, 205, 191, 197, 201, 218, 361, 275, 248, 277, 250, 289, 145, 1147, 1148, 1149, 1150, 1151, 1153, 1154, 1164, 1165, 1166, 1167, 
  1168, 1169, 1170, 1171, 1172, 1173, 1174, 1175, 1176, 1145, 1146, 1155, 1157, 1158, 1160, 1159, 1161, 1162, 1163, 1156, 1152, 1177]
def PM : List (Nat × Nat) := [(3, 998), (32, 62), (39, 3), (52, 4), (1003, 998), (2003, 998), (2034, 265), (2061, 15), (2065, 19), (2069, 20), (2072, 16), (2075, 21), (2078, 24), (2083, 17), (3001, 998), (3009, 32), (3016, 34), (3020, 30), (3031, 55), 
  (3035, 29), (3041, 44), (3045, 31), (3055, 8), (3068, 57), (3072, 59), (3076, 60), (4003, 998), (4039, 5), (4040, 265), (4065, 999), (4071, 7), (4075, 36), (4079, 44), (4083, 258), (4089, 38), (4092, 152), (4095, 6), (4099, 8), 
  (4112, 58), (4116, 49), (4120, 47), (4126, 45), (4130, 10), (4133, 996), (4141, 997), (4144, 52), (4148, 53), (4152, 11), (4155, 9), (5003, 998), (5025, 56), (5029, 996), (5042, 8), (5054, 67), (6003, 998), (6028, 33), (6033, 265), 
  (6045, 84), (6051, 74), (6055, 73), (6062, 76), (6065, 83), (6071, 75), (6088, 259), (6092, 260), (6096, 77), (6099, 78), (6102, 80), (6105, 81), (6108, 79), (6112, 82), (6116, 40), (6123, 41), (6129, 42), (6133, 48), (6137, 44), 
  (6141, 46), (6145, 85), (6149, 997), (7001, 998), (7019, 265), (7025, 266), (7028, 999), (7034, 89), (8003, 998), (8015, 104), (8024, 100), (8039, 102), (8043, 103), (8047, 43), (8051, 258), (8057, 257), (8068, 57), (8072, 58), 
  (8075, 105), (9001, 998), (9009, 86), (9018, 68), (9025, 26), (9032, 63), (9039, 98), (9046, 13), (9053, 0), (9064, 32), (9079, 87), (9083, 88), (9087, 149), (9091, 93), (9095, 150), (9098, 89), (9101, 91), (9105, 94), (9109, 90), 
  (9112, 95), (9116, 96), (9119, 69), (9123, 70), (9127, 72), (9131, 71), (9147, 35), (9152, 38), (9155, 36), (9162, 43), (9169, 56), (9175, 45), (9179, 37), (9182, 151), (9185, 49), (9188, 48), (9192, 51), (9195, 52), (9197, 53), 
  (9201, 92), (9207, 39), (9214, 8), (9222, 152), (9234, 997), (9248, 9), (9254, 57), (9258, 59), (9262, 60), (9265, 11), (9268, 12), (9272, 61), (9276, 27), (9280, 64), (9284, 65), (9287, 66), (9290, 99), (9293, 101), (9296, 105), 
  (9300, 106), (9303, 14), (9307, 16), (9310, 22), (9314, 23), (9320, 17), (9324, 18), (9327, 25), (9330, 28), (9334, 34), (9337, 62), (9340, 153), (9343, 1), (9346, 2), (9349, 97), (9358, 50), (9368, 54), (10001, 998), (10081, 155), 
  (10085, 157), (10092, 156), (10111, 163), (10120, 164), (10123, 165), (10135, 167), (10139, 166), (10142, 168), (10146, 170), (10150, 172), (10154, 173), (10157, 171), (10160, 169), (10166, 174), (10171, 175), (10176, 176), 
  (10181, 177), (10186, 178), (10202, 182), (10205, 181), (10208, 185), (10212, 184), (10215, 191), (10220, 187), (10223, 186), (10229, 196), (10233, 195), (10239, 183), (10244, 188), (10248, 203), (10251, 204), (10254, 205), 
  (10257, 206), (10260, 207), (10263, 209), (10268, 213), (10271, 215), (10274, 216), (10278, 214), (10281, 219), (10284, 220), (10287, 223), (10290, 222), (10293, 225), (10296, 227), (10299, 230), (10302, 231), (10305, 235), 
  (10308, 233), (10311, 234), (10314, 236), (10317, 239), (10320, 243), (10325, 244), (10331, 247), (10334, 248), (10337, 249), (10340, 250), (10343, 251), (10346, 254), (11009, 107), (11012, 154), (11013, 108), (11017, 158), 
  (11018, 109), (11021, 159), (11022, 110), (11026, 160), (11027, 111), (11031, 161), (11034, 112), (11038, 162), (11039, 113), (11043, 179), (11044, 114), (11047, 180), (11048, 115), (11051, 189), (11052, 116), (11056, 190), 
  (11057, 117), (11060, 192), (11061, 118), (11064, 193), (11065, 119), (11068, 194), (11069, 120), (11072, 197), (11073, 121), (11076, 198), (11077, 122), (11080, 199), (11081, 123), (11084, 200), (11085, 124), (11088, 201), 
  (11089, 125), (11092, 202), (11093, 126), (11096, 208), (11097, 127), (11100, 210), (11101, 128), (11104, 211), (11105, 129), (11108, 212), (11109, 130), (11112, 217), (11113, 131), (11116, 221), (11117, 132), (11120, 224), 
  (11121, 133), (11124, 226), (11125, 134), (11128, 228), (11129, 135), (11132, 229), (11133, 136), (11136, 232), (11137, 137), (11140, 237), (11141, 138), (11144, 238), (11145, 139), (11148, 240), (11149, 140), (11152, 218), 
  (11153, 141), (11156, 241), (11157, 142), (11160, 242), (11161, 143), (11164, 245), (11165, 144), (11168, 246), (11169, 145), (11172, 252), (11173, 146), (11176, 253), (11177, 147), (11180, 255), (11181, 148), (11184, 256), 
  (15335, 261), (15492, 262), (15495, 263), (16009, 995), (17013, 264)]
def PMp : List (Nat × Bool) := [(378, false), (1095, false), (1098, false), (1104, false), (187, false), (355, false), (987, false), (992, false), (1035, false), (1012, false), (1016, false), (1017, false), (1004, false), (1008, false), (174, false), 
  (177, false), (873, false), (882, false), (894, false), (1055, false), (1059, false), (886, false), (890, false), (891, false), (892, false), (893, false), (180, false), (184, true), (533, false), (877, false), (878, false), 
  (729, false), (630, false), (1130, false), (746, false), (747, true), (759, false), (814, false), (810, false), (815, false), (816, false), (820, false), (821, false), (829, false), (832, false), (841, false), (843, false), 
  (864, false), (1077, false), (328, false), (905, false), (906, false), (910, false), (915, false), (137, false), (529, false), (534, false), (535, false), (546, false), (608, false), (614, false), (667, false), (551, false), 
  (555, false), (565, false), (618, false), (634, false), (642, false), (647, false), (655, false), (622, false), (626, false), (638, false), (659, false), (663, false), (646, false), (651, false), (539, false), (543, false), 
  (117, false), (118, false), (458, false), (496, false), (1125, false), (342, false), (927, false), (932, false), (945, false), (949, false), (962, false), (953, false), (959, false), (931, false), (970, false), (978, false), 
  (109, false), (114, false), (134, true), (171, true), (325, true), (339, true), (352, true), (375, true), (400, false), (442, false), (445, false), (449, false), (454, false), (464, false), (472, false), (476, false), (480, false), 
  (488, false), (492, false), (503, false), (511, false), (516, false), (525, false), (671, false), (684, false), (693, false), (697, false), (701, false), (709, false), (717, false), (725, false), (730, false), (733, false), 
  (737, false), (742, false), (750, false), (755, false), (768, false), (776, false), (780, false), (788, false), (793, false), (798, false), (806, false), (825, false), (837, false), (848, false), (852, false), (860, false), 
  (869, false), (902, false), (907, false), (911, false), (923, false), (941, false), (967, false), (975, false), (983, false), (988, false), (1000, false), (1021, false), (1030, false), (1031, false), (1043, false), (1051, false), 
  (1064, false), (1073, false), (1082, false), (1091, false), (1112, false), (1121, false), (1126, false), (1131, false), (1144, false), (1254, false), (1250, false), (1259, false), (1291, false), (1296, false), (1299, false), 
  (1307, false), (1287, false), (1319, false), (1323, false), (1315, false), (1327, false), (1336, false), (1302, false), (1311, false), (1332, false), (1341, false), (1346, false), (1351, false), (1371, false), (1375, false), 
  (1391, false), (1383, false), (1387, false), (1400, false), (1421, false), (1412, false), (1417, false), (1434, false), (1463, false), (1467, false), (1471, false), (1459, false), (1455, false), (1475, false), (1483, false), 
  (1500, false), (1504, false), (1508, false), (1512, false), (1524, false), (1528, false), (1536, false), (1540, false), (1548, false), (1555, false), (1567, false), (1571, false), (1587, false), (1591, false), (1579, false), 
  (1583, false), (1603, false), (1619, false), (1628, false), (1643, false), (1639, false), (1647, false), (1635, false), (1651, false), (1663, false), (106, false), (1141, false), (438, false), (1246, false), (468, false), 
  (1264, false), (484, false), (1268, false), (499, false), (1272, false), (507, false), (1276, false), (521, false), (1283, false), (676, false), (1357, false), (680, false), (1361, false), (689, false), (1367, false), (705, false), 
  (1379, false), (713, false), (1395, false), (721, false), (1404, false), (738, false), (1408, false), (764, false), (1425, false), (772, false), (1430, false), (784, false), (1438, false), (789, false), (1443, false), (794, false), 
  (1447, false), (802, false), (1451, false), (833, false), (1479, false), (844, false), (1487, false), (856, false), (1491, false), (865, false), (1495, false), (898, false), (1520, false), (919, false), (1532, false), (937, false), 
  (1544, false), (963, false), (1551, false), (971, false), (1559, false), (979, false), (1563, false), (996, false), (1575, false), (1026, false), (1595, false), (1039, false), (1599, false), (1047, false), (1516, false), 
  (1060, false), (1607, false), (1065, false), (1611, false), (1069, false), (1615, false), (1078, false), (1623, false), (1087, false), (1631, false), (1108, false), (1655, false), (1117, false), (1659, false), (1135, false), 
  (1667, false), (559, false), (569, false), (573, false), (576, false), (461, false)]
def PC : List (Nat × Int) := [(56, -1000000), (1027, -1000000), (2082, -1000000), (4147, -1000000), (8028, -1000000), (9086, -1000001), (9122, -1000003), (9137, -1000100), (9151, -1000002), (9196, -1000000), (9377, -1000010), (10078, -1000010), 
  (10091, -1000001), (10101, -1000003), (10107, -1000000), (10194, -1000100), (10201, -1000002), (13265, 1431655765), (13266, 858993459), (13267, 252645135)]
def PCp : List Nat := [1116, 763, 1025, 842, 936, 448, 515, 675, 688, 754, 453, 1263, 1258, 1281, 1295, 1356, 1366, 956, 957, 958]
def PL : List (Nat × Nat) := [(6022, 255), (10079, 7), (10089, 2), (10096, 8), (10102, 255), (10164, 1953462126), (10169, 7168366), (10174, 1919902052), (10179, 7102839), (10184, 1717660018), (10189, 1885430644), (10199, 100), (10218, 4), (10227, 999), 
  (10237, 10), (10242, 99), (10266, 30), (10323, 6), (11032, 4294967295)]
def PLp : List Nat := [520, 1253, 1257, 1280, 1282, 1306, 1331, 1340, 1345, 1350, 1355, 1365, 1399, 1416, 1429, 1442, 1499, 1627, 1671]
def PN : List (Nat × Nat) := [(3007, 4), (4033, 1), (9007, 7), (9016, 6), (9023, 3), (9030, 5), (9037, 8), (9044, 2), (9051, 0), (9058, 4), (11007, 9), (11010, 10)]
def PNp : List Nat := [175, 181, 112, 132, 169, 323, 337, 350, 373, 398, 104, 1139]
def PS : List (Nat × Nat) := [(36, 2), (46, 3), (57, 0), (6059, 1), (9378, 0), (15038, 4)]
def PSp : List (Nat × Bool) := [(1096, false), (1102, false), (1101, true), (612, false), (1085, false), (563, false)]
def PT : List (Nat × Nat) := [(6069, 0), (6075, 1), (6077, 2), (6079, 3), (6081, 4), (6083, 5)]
def PTs : List (Nat × String) := [(69, "town"), (75, "man"), (77, "road"), (79, "law"), (81, "fair"), (83, "pact")]
def STt : List (String × String × String) := [("SeizedGoods", "KIND_ABOVE", "[I"), ("SeizedGoods$Reader", "ROOM", "[I"), ("SeizedGoods$Asker", "SIZE_BODIES", "[I"), ("SeizedGoods$Asker", "MARK_BODIES", "[I"), ("java/lang/String", "COMPACT_STRINGS", "Z")]
def PV : List (Nat × Nat) := [(15009, 704), (15015, 705)]
def PVp : List Nat := [1672, 1673]
def MBp : List (Nat × Nat × Nat × Nat) := [(377, 95, 376, 0), (1094, 95, 1092, 1093), (1115, 95, 1113, 1114), (1100, 95, 1099, 0), (1107, 95, 1106, 28), (186, 91, 185, 0), (762, 91, 760, 761), (881, 91, 879, 880), (783, 91, 781, 782), (801, 91, 799, 800), 
  (824, 91, 822, 823), (851, 91, 849, 850), (855, 91, 853, 854), (354, 94, 353, 0), (986, 94, 984, 985), (995, 94, 994, 22), (991, 94, 989, 990), (1011, 94, 1009, 1010), (1034, 94, 1032, 1033), (1038, 94, 1037, 26), 
  (1015, 94, 1014, 24), (1020, 94, 1019, 25), (1003, 94, 1001, 1002), (1024, 94, 1022, 1023), (1007, 94, 1006, 23), (1046, 94, 1044, 1045), (173, 89, 172, 0), (872, 89, 870, 871), (1054, 89, 1052, 1053), (1058, 89, 1057, 27), 
  (885, 89, 884, 15), (889, 89, 888, 16), (179, 90, 178, 0), (532, 90, 530, 531), (876, 90, 874, 875), (687, 90, 685, 686), (700, 90, 698, 699), (728, 90, 726, 727), (696, 90, 694, 695), (779, 90, 777, 778), (629, 90, 627, 628), 
  (641, 90, 639, 640), (662, 90, 660, 661), (704, 90, 702, 703), (633, 90, 631, 632), (720, 90, 718, 719), (654, 90, 652, 653), (819, 90, 817, 818), (666, 90, 664, 665), (736, 90, 734, 735), (1129, 90, 1127, 1128), 
  (745, 90, 743, 744), (753, 90, 751, 752), (758, 90, 756, 757), (1134, 90, 1132, 1133), (897, 90, 895, 896), (712, 90, 710, 711), (809, 90, 807, 808), (813, 90, 811, 812), (828, 90, 826, 827), (840, 90, 838, 839), 
  (863, 90, 861, 862), (1076, 90, 1074, 1075), (327, 92, 326, 0), (904, 92, 903, 0), (909, 92, 908, 0), (914, 92, 912, 913), (918, 92, 917, 17), (136, 88, 135, 0), (514, 88, 512, 513), (519, 88, 517, 518), (674, 88, 672, 673), 
  (528, 88, 526, 527), (611, 88, 610, 6), (549, 88, 548, 4), (554, 88, 553, 5), (617, 88, 616, 7), (621, 88, 620, 8), (637, 88, 636, 10), (658, 88, 657, 13), (645, 88, 644, 11), (650, 88, 649, 12), (625, 88, 624, 9), 
  (670, 88, 669, 14), (538, 88, 537, 2), (542, 88, 541, 3), (116, 86, 115, 0), (444, 86, 443, 0), (447, 86, 446, 0), (475, 86, 473, 474), (491, 86, 489, 490), (479, 86, 477, 478), (771, 86, 769, 770), (457, 86, 455, 456), 
  (483, 86, 481, 482), (495, 86, 493, 494), (506, 86, 504, 505), (1124, 86, 1122, 1123), (341, 93, 340, 0), (926, 93, 924, 925), (935, 93, 934, 19), (944, 93, 942, 943), (948, 93, 947, 20), (952, 93, 951, 21), (930, 93, 929, 18), 
  (969, 93, 968, 0), (977, 93, 976, 0), (108, 85, 107, 0), (441, 85, 439, 440), (471, 85, 469, 470), (487, 85, 485, 486), (502, 85, 500, 501), (510, 85, 508, 509), (524, 85, 522, 523), (679, 85, 677, 678), (683, 85, 681, 682), 
  (692, 85, 690, 691), (708, 85, 706, 707), (716, 85, 714, 715), (724, 85, 722, 723), (741, 85, 739, 740), (767, 85, 765, 766), (775, 85, 773, 774), (787, 85, 785, 786), (792, 85, 790, 791), (797, 85, 795, 796), (805, 85, 803, 804), 
  (836, 85, 834, 835), (847, 85, 845, 846), (859, 85, 857, 858), (868, 85, 866, 867), (901, 85, 899, 900), (922, 85, 920, 921), (940, 85, 938, 939), (966, 85, 964, 965), (974, 85, 972, 973), (982, 85, 980, 981), (999, 85, 997, 998), 
  (1029, 85, 1027, 1028), (1042, 85, 1040, 1041), (1050, 85, 1048, 1049), (1063, 85, 1061, 1062), (1068, 85, 1066, 1067), (1072, 85, 1070, 1071), (1081, 85, 1079, 1080), (1090, 85, 1088, 1089), (1111, 85, 1109, 1110), 
  (1120, 85, 1118, 1119), (1138, 85, 1136, 1137), (452, 85, 451, 0), (467, 85, 466, 1), (732, 85, 731, 0), (749, 85, 748, 0), (1084, 85, 1083, 0), (1143, 96, 1142, 0), (1256, 96, 1255, 0), (1262, 96, 1261, 29), (1252, 96, 1251, 0), 
  (1249, 96, 1247, 1248), (1267, 96, 1265, 1266), (1271, 96, 1269, 1270), (1275, 96, 1273, 1274), (1279, 96, 1277, 1278), (1294, 96, 1293, 31), (1298, 96, 1297, 0), (1301, 96, 1300, 0), (1290, 96, 1289, 30), (1310, 96, 1309, 33), 
  (1322, 96, 1321, 36), (1305, 96, 1304, 32), (1326, 96, 1325, 37), (1339, 96, 1338, 40), (1318, 96, 1317, 35), (1330, 96, 1329, 38), (1314, 96, 1313, 34), (1335, 96, 1334, 39), (1344, 96, 1343, 41), (1349, 96, 1348, 42), 
  (1354, 96, 1353, 43), (1286, 96, 1284, 1285), (1360, 96, 1358, 1359), (1378, 96, 1377, 45), (1374, 96, 1373, 44), (1437, 96, 1436, 53), (1386, 96, 1385, 46), (1394, 96, 1393, 48), (1424, 96, 1423, 52), (1403, 96, 1402, 49), 
  (1466, 96, 1465, 56), (1364, 96, 1362, 1363), (1370, 96, 1368, 1369), (1390, 96, 1389, 47), (1382, 96, 1380, 1381), (1398, 96, 1396, 1397), (1407, 96, 1405, 1406), (1420, 96, 1419, 51), (1415, 96, 1414, 50), (1411, 96, 1409, 1410), 
  (1428, 96, 1426, 1427), (1433, 96, 1431, 1432), (1441, 96, 1439, 1440), (1446, 96, 1444, 1445), (1450, 96, 1448, 1449), (1470, 96, 1469, 57), (1474, 96, 1473, 58), (1462, 96, 1461, 55), (1458, 96, 1457, 54), (1478, 96, 1477, 59), 
  (1454, 96, 1452, 1453), (1486, 96, 1485, 60), (1482, 96, 1480, 1481), (1490, 96, 1488, 1489), (1494, 96, 1492, 1493), (1503, 96, 1502, 61), (1515, 96, 1514, 64), (1507, 96, 1506, 62), (1511, 96, 1510, 63), (1498, 96, 1496, 1497), 
  (1519, 96, 1517, 1518), (1527, 96, 1526, 65), (1531, 96, 1530, 66), (1523, 96, 1521, 1522), (1543, 96, 1542, 68), (1539, 96, 1538, 67), (1535, 96, 1533, 1534), (1550, 96, 1549, 0), (1547, 96, 1545, 1546), (1558, 96, 1557, 69), 
  (1554, 96, 1552, 1553), (1562, 96, 1560, 1561), (1570, 96, 1569, 70), (1574, 96, 1573, 71), (1566, 96, 1564, 1565), (1594, 96, 1593, 75), (1582, 96, 1581, 72), (1590, 96, 1589, 74), (1586, 96, 1585, 73), (1578, 96, 1576, 1577), 
  (1598, 96, 1596, 1597), (1606, 96, 1605, 76), (1602, 96, 1600, 1601), (1610, 96, 1608, 1609), (1614, 96, 1612, 1613), (1622, 96, 1621, 77), (1630, 96, 1629, 0), (1618, 96, 1616, 1617), (1626, 96, 1624, 1625), (1646, 96, 1645, 80), 
  (1642, 96, 1641, 79), (1650, 96, 1649, 81), (1638, 96, 1637, 78), (1654, 96, 1653, 82), (1634, 96, 1632, 1633), (1658, 96, 1656, 1657), (1666, 96, 1665, 83), (1662, 96, 1660, 1661), (1670, 96, 1668, 1669), (961, 103, 960, 0), 
  (955, 103, 954, 0), (558, 99, 556, 557), (568, 99, 566, 567), (562, 99, 560, 561), (572, 99, 570, 571), (575, 100, 574, 0), (463, 87, 462, 0), (120, 87, 119, 0), (460, 87, 459, 0), (0, 0, 0, 0)]
def ownS (i : Nat) : String := OWNS.getD i ""
def plook {α : Type} : List (Nat × α) → Nat → Option α
  | [], _ => none
  | q :: t, k => cond (Nat.beq q.1 k) (some q.2) (plook t k)
theorem plook_mem {α : Type} {l : List (Nat × α)} {k : Nat} {v : α} (h : plook l k = some v) : (k, v) ∈ l := by
  induction l with
  | nil => cases h
  | cons q t ih =>
    rw [plook] at h
    cases hb : Nat.beq q.1 k with
    | true =>
      rw [hb] at h
      have e := Nat.eq_of_beq_eq_true hb
      cases h
      rw [← e]
      exact List.mem_cons_self
    | false =>
      rw [hb] at h
      exact List.mem_cons_of_mem _ (ih h)
theorem look_mem {l : TB} {k : Nat} {v : Instr × Nat} (h : look l k = some v) : (k, v) ∈ l := by
  induction l with
  | nil => cases h
  | cons q t ih =>
    rw [look] at h
    cases hb : Nat.beq q.1 k with
    | true =>
      rw [hb] at h
      have e := Nat.eq_of_beq_eq_true hb
      cases h
      rw [← e]
      exact List.mem_cons_self
    | false =>
      rw [hb] at h
      exact List.mem_cons_of_mem _ (ih h)
def pl {α : Type} (l : List (Nat × α)) (own i : Nat) : Option α := if i < 1000 then plook l (own * 1000 + i) else none
def jmp (pc : Nat) (off : Int) (f : Int → Instr) : Option Instr := if 0 ≤ (pc : Int) + off then some (f ((pc : Int) + off)) else none
def kst (v w : Int32) (n : Int) : Option Instr := if v = w then some (.sipush n) else none
def fin? (q : Nat) : Bool := match vwCl[q / 64]? with
  | some r => (r.2.1 (q % 64)).2.2.2
  | none => true
/-- what an instruction is to the small machine: its method's class and whether that is a constructor, its place -/
def tr (own : Nat) (ini : Bool) (pc : Nat) (ins : Instr) : Option Instr :=
  match ins with
  | .iload_n k => some (.iload k)
  | .aload_n k => some (.aload k)
  | .lload_n k => some (.lload k)
  | .iload k => some (.iload k)
  | .aload k => some (.aload k)
  | .lload k => some (.lload k)
  | .istore_n k => some (.istore k)
  | .astore_n k => some (.astore k)
  | .istore k => some (.istore k)
  | .astore k => some (.astore k)
  | .lstore_n k => some (.lstore k)
  | .lstore k => some (.lstore k)
  | .iconst n => some (.sipush n)
  | .bipush n => kst (Int8.ofInt n).toInt32 (Int32.ofInt n) n
  | .sipush n => kst (Int16.ofInt n).toInt32 (Int32.ofInt n) n
  | .ldc i => match pl PC own i with
    | some n => some (.sipush n)
    | none => (pl PT own i).map .ldc
  | .ldc_w i => (pl PC own i).map .sipush
  | .lconst n => some (.ldc2_w n)
  | .ldc2_w i => (pl PL own i).map .ldc2_w
  | .iinc i n => some (.iinc i n)
  | .goto o => jmp pc o .goto
  | .ifCond c o => jmp pc o (.ifCond c)
  | .if_icmp c o => jmp pc o (.if_icmp c)
  | .tableswitch d lo hi offs => if hi = lo + ((offs.size : Int) - 1) ∧ 0 ≤ (pc : Int) + d ∧ (∀ o ∈ offs.toList, 0 ≤ (pc : Int) + o) then some (.lookupswitch ((pc : Int) + d) ((offs.toList.zipIdx).map (fun q => (lo + (q.2 : Int), (pc : Int) + q.1))).toArray) else none
  | .lookupswitch d ps => if (ps.toList.zip (ps.toList.drop 1)).all (fun (a, next) => a.1 < next.1) = true ∧ 0 ≤ (pc : Int) + d ∧ (∀ q ∈ ps.toList, 0 ≤ (pc : Int) + q.2) then some (.lookupswitch ((pc : Int) + d) (ps.toList.map (fun q => (q.1, (pc : Int) + q.2))).toArray) else none
  | .getfield i => match pl PF own i with
    | some q => some (.getfield q)
    | none => (pl PV own i).map .getfield
  | .putfield i => match pl PF own i with
    | some q => if fin? q = false ∨ (ini = true ∧ q / 64 = own) then some (.putfield q) else none
    | none => none
  | .getstatic i => (pl PS own i).map .getstatic
  | .new i => (pl PN own i).map .new
  | .anewarray i => (pl PN own i).map .anewarray
  | .newarray t => some (.newarray t)
  | .invokevirtual i => match pl PM own i with
    | some z => match MB[z]? with
      | some b => if b.2.2.2.2.2 = 1 then some (.invokestatic z) else none
      | none => none
    | none => none
  | .invokestatic i => match pl PM own i with
    | some 999 => some (.invokeinterface 0 0)
    | some 996 => some (.invokeinterface 2 0)
    | some 997 => some (.invokeinterface 3 0)
    | some 995 => some (.invokeinterface 4 0)
    | some z => match MB[z]? with
      | some b => if b.2.2.2.2.2 = 0 then some (.invokestatic z) else none
      | none => none
    | none => none
  | .invokespecial i => match pl PM own i with
    | some 998 => some (.invokeinterface 1 0)
    | some z => match MB[z]? with
      | some b => if b.2.2.2.2.2 = 2 then some (.invokestatic z) else none
      | none => none
    | none => none
  | .iadd => some .iadd | .isub => some .isub | .imul => some .imul | .iand => some .iand | .ior => some .ior | .ixor => some .ixor | .ishl => some .ishl | .ishr => some .ishr | .iushr => some .iushr | .idiv => some .idiv | .irem => some .irem | .ineg => some .ineg
  | .i2b => some .i2b | .i2s => some .i2s | .i2c => some .i2c | .i2l => some .i2l | .l2i => some .l2i | .ladd => some .ladd | .land => some .land | .lor => some .lor | .lshl => some .lshl | .lshr => some .lshr | .lcmp => some .lcmp
  | .dup => some .dup | .pop => some .pop | .dup2 => some .dup2 | .iaload => some .iaload | .baload => some .baload | .aaload => some .aaload | .iastore => some .iastore | .bastore => some .bastore | .aastore => some .aastore | .arraylength => some .arraylength
  | .ireturn => some .ireturn | .lreturn => some .lreturn | .return_ => some .return_
  | _ => none
def lenOf : Instr → Nat
  | .iload_n _ => 1 | .aload_n _ => 1 | .lload_n _ => 1 | .iload _ => 2 | .aload _ => 2 | .lload _ => 2 | .istore_n _ => 1 | .astore_n _ => 1 | .istore _ => 2 | .astore _ => 2 | .lstore_n _ => 1 | .lstore _ => 2
  | .iconst _ => 1 | .bipush _ => 2 | .sipush _ => 3 | .ldc _ => 2 | .ldc_w _ => 3 | .lconst _ => 1 | .ldc2_w _ => 3 | .iinc _ _ => 3 | .goto _ => 3 | .ifCond _ _ => 3 | .if_icmp _ _ => 3 | .tableswitch _ _ _ _ => 0 | .lookupswitch _ _ => 0
  | .getfield _ => 3 | .putfield _ => 3 | .getstatic _ => 3 | .new _ => 3 | .anewarray _ => 3 | .newarray _ => 2 | .invokevirtual _ => 3 | .invokestatic _ => 3 | .invokespecial _ => 3
  | _ => 1
def chk1 (own : Nat) (ini : Bool) (cc : ByteArray) (q : Nat × Instr × Nat) : Bool := match decode cc q.1 with
  | .ok (ins, len) => decide (q.2.2 = q.1 + len) && decide (lenOf ins = 0 ∨ len = lenOf ins) && decide (tr own ini q.1 ins = some q.2.1)
  | _ => false
/-- the table of a method tells its bytes -/
def chkT (own : Nat) (ini : Bool) (cc : ByteArray) (tb : TB) : Bool := tb.all (chk1 own ini cc)
