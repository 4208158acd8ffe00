-- ===== PART A: goes FIRST, ahead of the names: the tables' words, and 'selects' of the private methods out of them =====
/-- a private method of a class that the tables say can be made, by its rows of tables_1 -/
def lw_okq (q : MethodName × Nat) : Prop := (q.1.cls ≠ "java/lang/invoke/MethodHandle" ∧ q.1.cls ≠ "java/lang/invoke/VarHandle") ∧ Cond.instantiable q.1.cls q.2 ∈ tables_1 ∧ Cond.privateMethod q.1 ∈ tables_1 ∧ Cond.instanceMethod q.1 ∈ tables_1
theorem lw_p0 : lw_okq (⟨"SeizedGoods", "found", "(I)I"⟩, 12) := ⟨⟨by decide +kernel, by decide +kernel⟩, List.mem_of_getElem? (i := 21) (by decide +kernel), List.mem_of_getElem? (i := 366) (by decide +kernel), List.mem_of_getElem? (i := 367) (by decide +kernel)⟩
theorem lw_p1 : lw_okq (⟨"SeizedGoods", "unfound", "(I)I"⟩, 12) := ⟨⟨by decide +kernel, by decide +kernel⟩, List.mem_of_getElem? (i := 21) (by decide +kernel), List.mem_of_getElem? (i := 381) (by decide +kernel), List.mem_of_getElem? (i := 382) (by decide +kernel)⟩
theorem lw_p2 : lw_okq (⟨"SeizedGoods$Reader", "nextToken", "()V"⟩, 9) := ⟨⟨by decide +kernel, by decide +kernel⟩, List.mem_of_getElem? (i := 49) (by decide +kernel), List.mem_of_getElem? (i := 452) (by decide +kernel), List.mem_of_getElem? (i := 453) (by decide +kernel)⟩
theorem lw_p3 : lw_okq (⟨"SeizedGoods$Reader", "sortAt", "(I)I"⟩, 9) := ⟨⟨by decide +kernel, by decide +kernel⟩, List.mem_of_getElem? (i := 49) (by decide +kernel), List.mem_of_getElem? (i := 456) (by decide +kernel), List.mem_of_getElem? (i := 457) (by decide +kernel)⟩
theorem lw_p4 : lw_okq (⟨"SeizedGoods$Reader", "wordTold", "()I"⟩, 9) := ⟨⟨by decide +kernel, by decide +kernel⟩, List.mem_of_getElem? (i := 49) (by decide +kernel), List.mem_of_getElem? (i := 463) (by decide +kernel), List.mem_of_getElem? (i := 464) (by decide +kernel)⟩
theorem lw_p5 : lw_okq (⟨"SeizedGoods$Reader", "isName", "(Ljava/lang/String;)Z"⟩, 9) := ⟨⟨by decide +kernel, by decide +kernel⟩, List.mem_of_getElem? (i := 49) (by decide +kernel), List.mem_of_getElem? (i := 468) (by decide +kernel), List.mem_of_getElem? (i := 469) (by decide +kernel)⟩
theorem lw_p6 : lw_okq (⟨"SeizedGoods$Reader", "fails", "(I)Z"⟩, 9) := ⟨⟨by decide +kernel, by decide +kernel⟩, List.mem_of_getElem? (i := 49) (by decide +kernel), List.mem_of_getElem? (i := 525) (by decide +kernel), List.mem_of_getElem? (i := 526) (by decide +kernel)⟩
theorem lw_p7 : lw_okq (⟨"SeizedGoods$Reader", "readRow", "(I)Z"⟩, 9) := ⟨⟨by decide +kernel, by decide +kernel⟩, List.mem_of_getElem? (i := 49) (by decide +kernel), List.mem_of_getElem? (i := 531) (by decide +kernel), List.mem_of_getElem? (i := 532) (by decide +kernel)⟩
theorem lw_p8 : lw_okq (⟨"SeizedGoods$Reader", "readTown", "()Z"⟩, 9) := ⟨⟨by decide +kernel, by decide +kernel⟩, List.mem_of_getElem? (i := 49) (by decide +kernel), List.mem_of_getElem? (i := 535) (by decide +kernel), List.mem_of_getElem? (i := 536) (by decide +kernel)⟩
theorem lw_p9 : lw_okq (⟨"SeizedGoods$Reader", "readNumber", "(II)I"⟩, 9) := ⟨⟨by decide +kernel, by decide +kernel⟩, List.mem_of_getElem? (i := 49) (by decide +kernel), List.mem_of_getElem? (i := 539) (by decide +kernel), List.mem_of_getElem? (i := 540) (by decide +kernel)⟩
theorem lw_p10 : lw_okq (⟨"SeizedGoods$Reader", "readMan", "()Z"⟩, 9) := ⟨⟨by decide +kernel, by decide +kernel⟩, List.mem_of_getElem? (i := 49) (by decide +kernel), List.mem_of_getElem? (i := 551) (by decide +kernel), List.mem_of_getElem? (i := 552) (by decide +kernel)⟩
theorem lw_p11 : lw_okq (⟨"SeizedGoods$Reader", "readLaw", "()Z"⟩, 9) := ⟨⟨by decide +kernel, by decide +kernel⟩, List.mem_of_getElem? (i := 49) (by decide +kernel), List.mem_of_getElem? (i := 559) (by decide +kernel), List.mem_of_getElem? (i := 560) (by decide +kernel)⟩
theorem lw_p12 : lw_okq (⟨"SeizedGoods$Reader", "readFair", "()Z"⟩, 9) := ⟨⟨by decide +kernel, by decide +kernel⟩, List.mem_of_getElem? (i := 49) (by decide +kernel), List.mem_of_getElem? (i := 564) (by decide +kernel), List.mem_of_getElem? (i := 565) (by decide +kernel)⟩
theorem lw_p13 : lw_okq (⟨"SeizedGoods$Reader", "readPair", "(Z)Z"⟩, 9) := ⟨⟨by decide +kernel, by decide +kernel⟩, List.mem_of_getElem? (i := 49) (by decide +kernel), List.mem_of_getElem? (i := 572) (by decide +kernel), List.mem_of_getElem? (i := 573) (by decide +kernel)⟩
theorem lw_p14 : lw_okq (⟨"SeizedGoods$Reader", "readSemicolon", "()Z"⟩, 9) := ⟨⟨by decide +kernel, by decide +kernel⟩, List.mem_of_getElem? (i := 49) (by decide +kernel), List.mem_of_getElem? (i := 584) (by decide +kernel), List.mem_of_getElem? (i := 585) (by decide +kernel)⟩
theorem lw_p15 : lw_okq (⟨"SeizedGoods$Future", "growBy", "(I)V"⟩, 1) := ⟨⟨by decide +kernel, by decide +kernel⟩, List.mem_of_getElem? (i := 86) (by decide +kernel), List.mem_of_getElem? (i := 799) (by decide +kernel), List.mem_of_getElem? (i := 800) (by decide +kernel)⟩
def lw_privs_1 : List (MethodName × Nat) := [(⟨"SeizedGoods", "found", "(I)I"⟩, 12), (⟨"SeizedGoods", "unfound", "(I)I"⟩, 12), (⟨"SeizedGoods$Reader", "nextToken", "()V"⟩, 9), (⟨"SeizedGoods$Reader", "sortAt", "(I)I"⟩, 9), (⟨"SeizedGoods$Reader", "wordTold", "()I"⟩, 9), (⟨"SeizedGoods$Reader", "isName", "(Ljava/lang/String;)Z"⟩, 9), (⟨"SeizedGoods$Reader", "fails", "(I)Z"⟩, 9), (⟨"SeizedGoods$Reader", "readRow", "(I)Z"⟩, 9), (⟨"SeizedGoods$Reader", "readTown", "()Z"⟩, 9), (⟨"SeizedGoods$Reader", "readNumber", "(II)I"⟩, 9), (⟨"SeizedGoods$Reader", "readMan", "()Z"⟩, 9), (⟨"SeizedGoods$Reader", "readLaw", "()Z"⟩, 9), (⟨"SeizedGoods$Reader", "readFair", "()Z"⟩, 9), (⟨"SeizedGoods$Reader", "readPair", "(Z)Z"⟩, 9), (⟨"SeizedGoods$Reader", "readSemicolon", "()Z"⟩, 9), (⟨"SeizedGoods$Future", "growBy", "(I)V"⟩, 1)]
theorem lw_r1 : ∀ q ∈ lw_privs_1, lw_okq q := List.forall_mem_cons.mpr ⟨lw_p0, List.forall_mem_cons.mpr ⟨lw_p1, List.forall_mem_cons.mpr ⟨lw_p2, List.forall_mem_cons.mpr ⟨lw_p3, List.forall_mem_cons.mpr ⟨lw_p4, List.forall_mem_cons.mpr ⟨lw_p5, List.forall_mem_cons.mpr ⟨lw_p6, List.forall_mem_cons.mpr ⟨lw_p7, List.forall_mem_cons.mpr ⟨lw_p8, List.forall_mem_cons.mpr ⟨lw_p9, List.forall_mem_cons.mpr ⟨lw_p10, List.forall_mem_cons.mpr ⟨lw_p11, List.forall_mem_cons.mpr ⟨lw_p12, List.forall_mem_cons.mpr ⟨lw_p13, List.forall_mem_cons.mpr ⟨lw_p14, List.forall_mem_cons.mpr ⟨lw_p15, fun _ h => absurd h List.not_mem_nil⟩⟩⟩⟩⟩⟩⟩⟩⟩⟩⟩⟩⟩⟩⟩⟩
theorem lw_p16 : lw_okq (⟨"SeizedGoods$Future", "seizeFor", "(I)V"⟩, 1) := ⟨⟨by decide +kernel, by decide +kernel⟩, List.mem_of_getElem? (i := 86) (by decide +kernel), List.mem_of_getElem? (i := 803) (by decide +kernel), List.mem_of_getElem? (i := 804) (by decide +kernel)⟩
theorem lw_p17 : lw_okq (⟨"SeizedGoods$Ledger", "mostGroups", "(I)I"⟩, 2) := ⟨⟨by decide +kernel, by decide +kernel⟩, List.mem_of_getElem? (i := 240) (by decide +kernel), List.mem_of_getElem? (i := 832) (by decide +kernel), List.mem_of_getElem? (i := 833) (by decide +kernel)⟩
theorem lw_p18 : lw_okq (⟨"SeizedGoods$Travel", "findBars", "(LSeizedGoods$Land;I)V"⟩, 2) := ⟨⟨by decide +kernel, by decide +kernel⟩, List.mem_of_getElem? (i := 254) (by decide +kernel), List.mem_of_getElem? (i := 844) (by decide +kernel), List.mem_of_getElem? (i := 845) (by decide +kernel)⟩
theorem lw_p19 : lw_okq (⟨"SeizedGoods$Travel", "openNeighbours", "(LSeizedGoods$Land;I)I"⟩, 2) := ⟨⟨by decide +kernel, by decide +kernel⟩, List.mem_of_getElem? (i := 254) (by decide +kernel), List.mem_of_getElem? (i := 849) (by decide +kernel), List.mem_of_getElem? (i := 850) (by decide +kernel)⟩
theorem lw_p20 : lw_okq (⟨"SeizedGoods$Travel", "walk", "(LSeizedGoods$Land;IIII)V"⟩, 2) := ⟨⟨by decide +kernel, by decide +kernel⟩, List.mem_of_getElem? (i := 254) (by decide +kernel), List.mem_of_getElem? (i := 862) (by decide +kernel), List.mem_of_getElem? (i := 863) (by decide +kernel)⟩
theorem lw_p21 : lw_okq (⟨"SeizedGoods$Travel", "choose", "(I)V"⟩, 2) := ⟨⟨by decide +kernel, by decide +kernel⟩, List.mem_of_getElem? (i := 254) (by decide +kernel), List.mem_of_getElem? (i := 866) (by decide +kernel), List.mem_of_getElem? (i := 867) (by decide +kernel)⟩
theorem lw_p22 : lw_okq (⟨"SeizedGoods$Council", "dueTo", "(II)I"⟩, 5) := ⟨⟨by decide +kernel, by decide +kernel⟩, List.mem_of_getElem? (i := 267) (by decide +kernel), List.mem_of_getElem? (i := 909) (by decide +kernel), List.mem_of_getElem? (i := 910) (by decide +kernel)⟩
theorem lw_p23 : lw_okq (⟨"SeizedGoods$Council", "isAtRest", "(I)Z"⟩, 5) := ⟨⟨by decide +kernel, by decide +kernel⟩, List.mem_of_getElem? (i := 267) (by decide +kernel), List.mem_of_getElem? (i := 921) (by decide +kernel), List.mem_of_getElem? (i := 922) (by decide +kernel)⟩
theorem lw_p24 : lw_okq (⟨"SeizedGoods$Council", "loss", "(II)I"⟩, 5) := ⟨⟨by decide +kernel, by decide +kernel⟩, List.mem_of_getElem? (i := 267) (by decide +kernel), List.mem_of_getElem? (i := 929) (by decide +kernel), List.mem_of_getElem? (i := 930) (by decide +kernel)⟩
theorem lw_p25 : lw_okq (⟨"SeizedGoods$Council", "tradeLost", "(I)I"⟩, 5) := ⟨⟨by decide +kernel, by decide +kernel⟩, List.mem_of_getElem? (i := 267) (by decide +kernel), List.mem_of_getElem? (i := 934) (by decide +kernel), List.mem_of_getElem? (i := 935) (by decide +kernel)⟩
theorem lw_p26 : lw_okq (⟨"SeizedGoods$Council", "gain", "(I)I"⟩, 5) := ⟨⟨by decide +kernel, by decide +kernel⟩, List.mem_of_getElem? (i := 267) (by decide +kernel), List.mem_of_getElem? (i := 952) (by decide +kernel), List.mem_of_getElem? (i := 953) (by decide +kernel)⟩
theorem lw_p27 : lw_okq (⟨"SeizedGoods$Future", "giveLaw", "(I)V"⟩, 1) := ⟨⟨by decide +kernel, by decide +kernel⟩, List.mem_of_getElem? (i := 86) (by decide +kernel), List.mem_of_getElem? (i := 972) (by decide +kernel), List.mem_of_getElem? (i := 973) (by decide +kernel)⟩
theorem lw_p28 : lw_okq (⟨"SeizedGoods$Asker", "given", "(II)I"⟩, 6) := ⟨⟨by decide +kernel, by decide +kernel⟩, List.mem_of_getElem? (i := 290) (by decide +kernel), List.mem_of_getElem? (i := 1021) (by decide +kernel), List.mem_of_getElem? (i := 1022) (by decide +kernel)⟩
theorem lw_p29 : lw_okq (⟨"SeizedGoodsModel", "finding", "(I)I"⟩, 33) := ⟨⟨by decide +kernel, by decide +kernel⟩, List.mem_of_getElem? (i := 1056) (by decide +kernel), List.mem_of_getElem? (i := 1176) (by decide +kernel), List.mem_of_getElem? (i := 1177) (by decide +kernel)⟩
theorem lw_p30 : lw_okq (⟨"SeizedGoodsModel", "next", "()V"⟩, 33) := ⟨⟨by decide +kernel, by decide +kernel⟩, List.mem_of_getElem? (i := 1056) (by decide +kernel), List.mem_of_getElem? (i := 1204) (by decide +kernel), List.mem_of_getElem? (i := 1205) (by decide +kernel)⟩
theorem lw_p31 : lw_okq (⟨"SeizedGoodsModel", "byteAt", "(I)I"⟩, 33) := ⟨⟨by decide +kernel, by decide +kernel⟩, List.mem_of_getElem? (i := 1056) (by decide +kernel), List.mem_of_getElem? (i := 1208) (by decide +kernel), List.mem_of_getElem? (i := 1209) (by decide +kernel)⟩
def lw_privs_2 : List (MethodName × Nat) := [(⟨"SeizedGoods$Future", "seizeFor", "(I)V"⟩, 1), (⟨"SeizedGoods$Ledger", "mostGroups", "(I)I"⟩, 2), (⟨"SeizedGoods$Travel", "findBars", "(LSeizedGoods$Land;I)V"⟩, 2), (⟨"SeizedGoods$Travel", "openNeighbours", "(LSeizedGoods$Land;I)I"⟩, 2), (⟨"SeizedGoods$Travel", "walk", "(LSeizedGoods$Land;IIII)V"⟩, 2), (⟨"SeizedGoods$Travel", "choose", "(I)V"⟩, 2), (⟨"SeizedGoods$Council", "dueTo", "(II)I"⟩, 5), (⟨"SeizedGoods$Council", "isAtRest", "(I)Z"⟩, 5), (⟨"SeizedGoods$Council", "loss", "(II)I"⟩, 5), (⟨"SeizedGoods$Council", "tradeLost", "(I)I"⟩, 5), (⟨"SeizedGoods$Council", "gain", "(I)I"⟩, 5), (⟨"SeizedGoods$Future", "giveLaw", "(I)V"⟩, 1), (⟨"SeizedGoods$Asker", "given", "(II)I"⟩, 6), (⟨"SeizedGoodsModel", "finding", "(I)I"⟩, 33), (⟨"SeizedGoodsModel", "next", "()V"⟩, 33), (⟨"SeizedGoodsModel", "byteAt", "(I)I"⟩, 33)]
theorem lw_r2 : ∀ q ∈ lw_privs_2, lw_okq q := List.forall_mem_cons.mpr ⟨lw_p16, List.forall_mem_cons.mpr ⟨lw_p17, List.forall_mem_cons.mpr ⟨lw_p18, List.forall_mem_cons.mpr ⟨lw_p19, List.forall_mem_cons.mpr ⟨lw_p20, List.forall_mem_cons.mpr ⟨lw_p21, List.forall_mem_cons.mpr ⟨lw_p22, List.forall_mem_cons.mpr ⟨lw_p23, List.forall_mem_cons.mpr ⟨lw_p24, List.forall_mem_cons.mpr ⟨lw_p25, List.forall_mem_cons.mpr ⟨lw_p26, List.forall_mem_cons.mpr ⟨lw_p27, List.forall_mem_cons.mpr ⟨lw_p28, List.forall_mem_cons.mpr ⟨lw_p29, List.forall_mem_cons.mpr ⟨lw_p30, List.forall_mem_cons.mpr ⟨lw_p31, fun _ h => absurd h List.not_mem_nil⟩⟩⟩⟩⟩⟩⟩⟩⟩⟩⟩⟩⟩⟩⟩⟩
theorem lw_p32 : lw_okq (⟨"SeizedGoodsModel", "word", "()J"⟩, 33) := ⟨⟨by decide +kernel, by decide +kernel⟩, List.mem_of_getElem? (i := 1056) (by decide +kernel), List.mem_of_getElem? (i := 1219) (by decide +kernel), List.mem_of_getElem? (i := 1220) (by decide +kernel)⟩
theorem lw_p33 : lw_okq (⟨"SeizedGoodsModel", "bad", "(I)V"⟩, 33) := ⟨⟨by decide +kernel, by decide +kernel⟩, List.mem_of_getElem? (i := 1056) (by decide +kernel), List.mem_of_getElem? (i := 1224) (by decide +kernel), List.mem_of_getElem? (i := 1225) (by decide +kernel)⟩
theorem lw_p34 : lw_okq (⟨"SeizedGoodsModel", "readTown", "()V"⟩, 33) := ⟨⟨by decide +kernel, by decide +kernel⟩, List.mem_of_getElem? (i := 1056) (by decide +kernel), List.mem_of_getElem? (i := 1228) (by decide +kernel), List.mem_of_getElem? (i := 1229) (by decide +kernel)⟩
theorem lw_p35 : lw_okq (⟨"SeizedGoodsModel", "begins", "(II)V"⟩, 33) := ⟨⟨by decide +kernel, by decide +kernel⟩, List.mem_of_getElem? (i := 1056) (by decide +kernel), List.mem_of_getElem? (i := 1232) (by decide +kernel), List.mem_of_getElem? (i := 1233) (by decide +kernel)⟩
theorem lw_p36 : lw_okq (⟨"SeizedGoodsModel", "must", "(Z)V"⟩, 33) := ⟨⟨by decide +kernel, by decide +kernel⟩, List.mem_of_getElem? (i := 1056) (by decide +kernel), List.mem_of_getElem? (i := 1236) (by decide +kernel), List.mem_of_getElem? (i := 1237) (by decide +kernel)⟩
theorem lw_p37 : lw_okq (⟨"SeizedGoodsModel", "numberIn", "(III)I"⟩, 33) := ⟨⟨by decide +kernel, by decide +kernel⟩, List.mem_of_getElem? (i := 1056) (by decide +kernel), List.mem_of_getElem? (i := 1240) (by decide +kernel), List.mem_of_getElem? (i := 1241) (by decide +kernel)⟩
theorem lw_p38 : lw_okq (⟨"SeizedGoodsModel", "ends", "(I)V"⟩, 33) := ⟨⟨by decide +kernel, by decide +kernel⟩, List.mem_of_getElem? (i := 1056) (by decide +kernel), List.mem_of_getElem? (i := 1244) (by decide +kernel), List.mem_of_getElem? (i := 1245) (by decide +kernel)⟩
theorem lw_p39 : lw_okq (⟨"SeizedGoodsModel", "readMan", "()V"⟩, 33) := ⟨⟨by decide +kernel, by decide +kernel⟩, List.mem_of_getElem? (i := 1056) (by decide +kernel), List.mem_of_getElem? (i := 1249) (by decide +kernel), List.mem_of_getElem? (i := 1250) (by decide +kernel)⟩
theorem lw_p40 : lw_okq (⟨"SeizedGoodsModel", "town", "(I)I"⟩, 33) := ⟨⟨by decide +kernel, by decide +kernel⟩, List.mem_of_getElem? (i := 1056) (by decide +kernel), List.mem_of_getElem? (i := 1253) (by decide +kernel), List.mem_of_getElem? (i := 1254) (by decide +kernel)⟩
theorem lw_p41 : lw_okq (⟨"SeizedGoodsModel", "readTwo", "(II)V"⟩, 33) := ⟨⟨by decide +kernel, by decide +kernel⟩, List.mem_of_getElem? (i := 1056) (by decide +kernel), List.mem_of_getElem? (i := 1258) (by decide +kernel), List.mem_of_getElem? (i := 1259) (by decide +kernel)⟩
theorem lw_p42 : lw_okq (⟨"SeizedGoodsModel", "readLaw", "()V"⟩, 33) := ⟨⟨by decide +kernel, by decide +kernel⟩, List.mem_of_getElem? (i := 1056) (by decide +kernel), List.mem_of_getElem? (i := 1263) (by decide +kernel), List.mem_of_getElem? (i := 1264) (by decide +kernel)⟩
theorem lw_p43 : lw_okq (⟨"SeizedGoodsModel", "readFair", "()V"⟩, 33) := ⟨⟨by decide +kernel, by decide +kernel⟩, List.mem_of_getElem? (i := 1056) (by decide +kernel), List.mem_of_getElem? (i := 1268) (by decide +kernel), List.mem_of_getElem? (i := 1269) (by decide +kernel)⟩
theorem lw_p44 : lw_okq (⟨"SeizedGoodsModel", "isMan", "(I)Z"⟩, 33) := ⟨⟨by decide +kernel, by decide +kernel⟩, List.mem_of_getElem? (i := 1056) (by decide +kernel), List.mem_of_getElem? (i := 1288) (by decide +kernel), List.mem_of_getElem? (i := 1289) (by decide +kernel)⟩
theorem lw_p45 : lw_okq (⟨"SeizedGoodsModel", "isTown", "(I)Z"⟩, 33) := ⟨⟨by decide +kernel, by decide +kernel⟩, List.mem_of_getElem? (i := 1056) (by decide +kernel), List.mem_of_getElem? (i := 1292) (by decide +kernel), List.mem_of_getElem? (i := 1293) (by decide +kernel)⟩
theorem lw_p46 : lw_okq (⟨"SeizedGoodsModel", "of", "(I)I"⟩, 33) := ⟨⟨by decide +kernel, by decide +kernel⟩, List.mem_of_getElem? (i := 1056) (by decide +kernel), List.mem_of_getElem? (i := 1300) (by decide +kernel), List.mem_of_getElem? (i := 1301) (by decide +kernel)⟩
theorem lw_p47 : lw_okq (⟨"SeizedGoodsModel", "balance", "(I)I"⟩, 33) := ⟨⟨by decide +kernel, by decide +kernel⟩, List.mem_of_getElem? (i := 1056) (by decide +kernel), List.mem_of_getElem? (i := 1304) (by decide +kernel), List.mem_of_getElem? (i := 1305) (by decide +kernel)⟩
def lw_privs_3 : List (MethodName × Nat) := [(⟨"SeizedGoodsModel", "word", "()J"⟩, 33), (⟨"SeizedGoodsModel", "bad", "(I)V"⟩, 33), (⟨"SeizedGoodsModel", "readTown", "()V"⟩, 33), (⟨"SeizedGoodsModel", "begins", "(II)V"⟩, 33), (⟨"SeizedGoodsModel", "must", "(Z)V"⟩, 33), (⟨"SeizedGoodsModel", "numberIn", "(III)I"⟩, 33), (⟨"SeizedGoodsModel", "ends", "(I)V"⟩, 33), (⟨"SeizedGoodsModel", "readMan", "()V"⟩, 33), (⟨"SeizedGoodsModel", "town", "(I)I"⟩, 33), (⟨"SeizedGoodsModel", "readTwo", "(II)V"⟩, 33), (⟨"SeizedGoodsModel", "readLaw", "()V"⟩, 33), (⟨"SeizedGoodsModel", "readFair", "()V"⟩, 33), (⟨"SeizedGoodsModel", "isMan", "(I)Z"⟩, 33), (⟨"SeizedGoodsModel", "isTown", "(I)Z"⟩, 33), (⟨"SeizedGoodsModel", "of", "(I)I"⟩, 33), (⟨"SeizedGoodsModel", "balance", "(I)I"⟩, 33)]
theorem lw_r3 : ∀ q ∈ lw_privs_3, lw_okq q := List.forall_mem_cons.mpr ⟨lw_p32, List.forall_mem_cons.mpr ⟨lw_p33, List.forall_mem_cons.mpr ⟨lw_p34, List.forall_mem_cons.mpr ⟨lw_p35, List.forall_mem_cons.mpr ⟨lw_p36, List.forall_mem_cons.mpr ⟨lw_p37, List.forall_mem_cons.mpr ⟨lw_p38, List.forall_mem_cons.mpr ⟨lw_p39, List.forall_mem_cons.mpr ⟨lw_p40, List.forall_mem_cons.mpr ⟨lw_p41, List.forall_mem_cons.mpr ⟨lw_p42, List.forall_mem_cons.mpr ⟨lw_p43, List.forall_mem_cons.mpr ⟨lw_p44, List.forall_mem_cons.mpr ⟨lw_p45, List.forall_mem_cons.mpr ⟨lw_p46, List.forall_mem_cons.mpr ⟨lw_p47, fun _ h => absurd h List.not_mem_nil⟩⟩⟩⟩⟩⟩⟩⟩⟩⟩⟩⟩⟩⟩⟩⟩
theorem lw_p48 : lw_okq (⟨"SeizedGoodsModel", "told", "(II)I"⟩, 33) := ⟨⟨by decide +kernel, by decide +kernel⟩, List.mem_of_getElem? (i := 1056) (by decide +kernel), List.mem_of_getElem? (i := 1308) (by decide +kernel), List.mem_of_getElem? (i := 1309) (by decide +kernel)⟩
theorem lw_p49 : lw_okq (⟨"SeizedGoodsModel", "lawOf", "(II)I"⟩, 33) := ⟨⟨by decide +kernel, by decide +kernel⟩, List.mem_of_getElem? (i := 1056) (by decide +kernel), List.mem_of_getElem? (i := 1317) (by decide +kernel), List.mem_of_getElem? (i := 1318) (by decide +kernel)⟩
theorem lw_p50 : lw_okq (⟨"SeizedGoodsModel", "isDebt", "(III)Z"⟩, 33) := ⟨⟨by decide +kernel, by decide +kernel⟩, List.mem_of_getElem? (i := 1056) (by decide +kernel), List.mem_of_getElem? (i := 1329) (by decide +kernel), List.mem_of_getElem? (i := 1330) (by decide +kernel)⟩
theorem lw_p51 : lw_okq (⟨"SeizedGoodsModel", "newClaim", "(IIII)I"⟩, 33) := ⟨⟨by decide +kernel, by decide +kernel⟩, List.mem_of_getElem? (i := 1056) (by decide +kernel), List.mem_of_getElem? (i := 1334) (by decide +kernel), List.mem_of_getElem? (i := 1335) (by decide +kernel)⟩
theorem lw_p52 : lw_okq (⟨"SeizedGoodsModel", "tell", "(III)V"⟩, 33) := ⟨⟨by decide +kernel, by decide +kernel⟩, List.mem_of_getElem? (i := 1056) (by decide +kernel), List.mem_of_getElem? (i := 1338) (by decide +kernel), List.mem_of_getElem? (i := 1339) (by decide +kernel)⟩
theorem lw_p53 : lw_okq (⟨"SeizedGoodsModel", "isClaim", "(I)Z"⟩, 33) := ⟨⟨by decide +kernel, by decide +kernel⟩, List.mem_of_getElem? (i := 1056) (by decide +kernel), List.mem_of_getElem? (i := 1351) (by decide +kernel), List.mem_of_getElem? (i := 1352) (by decide +kernel)⟩
theorem lw_p54 : lw_okq (⟨"SeizedGoodsModel", "lacksOf", "(II)I"⟩, 33) := ⟨⟨by decide +kernel, by decide +kernel⟩, List.mem_of_getElem? (i := 1056) (by decide +kernel), List.mem_of_getElem? (i := 1372) (by decide +kernel), List.mem_of_getElem? (i := 1373) (by decide +kernel)⟩
theorem lw_p55 : lw_okq (⟨"SeizedGoodsModel", "lacks", "(IIII)I"⟩, 33) := ⟨⟨by decide +kernel, by decide +kernel⟩, List.mem_of_getElem? (i := 1056) (by decide +kernel), List.mem_of_getElem? (i := 1376) (by decide +kernel), List.mem_of_getElem? (i := 1377) (by decide +kernel)⟩
theorem lw_p56 : lw_okq (⟨"SeizedGoodsModel", "havePact", "(II)Z"⟩, 33) := ⟨⟨by decide +kernel, by decide +kernel⟩, List.mem_of_getElem? (i := 1056) (by decide +kernel), List.mem_of_getElem? (i := 1380) (by decide +kernel), List.mem_of_getElem? (i := 1381) (by decide +kernel)⟩
theorem lw_p57 : lw_okq (⟨"SeizedGoodsModel", "isFair", "(I)Z"⟩, 33) := ⟨⟨by decide +kernel, by decide +kernel⟩, List.mem_of_getElem? (i := 1056) (by decide +kernel), List.mem_of_getElem? (i := 1384) (by decide +kernel), List.mem_of_getElem? (i := 1385) (by decide +kernel)⟩
theorem lw_p58 : lw_okq (⟨"SeizedGoodsModel", "isLetterGood", "(I)Z"⟩, 33) := ⟨⟨by decide +kernel, by decide +kernel⟩, List.mem_of_getElem? (i := 1056) (by decide +kernel), List.mem_of_getElem? (i := 1388) (by decide +kernel), List.mem_of_getElem? (i := 1389) (by decide +kernel)⟩
theorem lw_p59 : lw_okq (⟨"SeizedGoodsModel", "mostOf", "(II)I"⟩, 33) := ⟨⟨by decide +kernel, by decide +kernel⟩, List.mem_of_getElem? (i := 1056) (by decide +kernel), List.mem_of_getElem? (i := 1392) (by decide +kernel), List.mem_of_getElem? (i := 1393) (by decide +kernel)⟩
theorem lw_p60 : lw_okq (⟨"SeizedGoodsModel", "take", "(III)I"⟩, 33) := ⟨⟨by decide +kernel, by decide +kernel⟩, List.mem_of_getElem? (i := 1056) (by decide +kernel), List.mem_of_getElem? (i := 1400) (by decide +kernel), List.mem_of_getElem? (i := 1401) (by decide +kernel)⟩
theorem lw_p61 : lw_okq (⟨"SeizedGoodsModel", "hold", "()V"⟩, 33) := ⟨⟨by decide +kernel, by decide +kernel⟩, List.mem_of_getElem? (i := 1056) (by decide +kernel), List.mem_of_getElem? (i := 1417) (by decide +kernel), List.mem_of_getElem? (i := 1418) (by decide +kernel)⟩
theorem lw_p62 : lw_okq (⟨"SeizedGoodsModel", "grow", "(I)V"⟩, 33) := ⟨⟨by decide +kernel, by decide +kernel⟩, List.mem_of_getElem? (i := 1056) (by decide +kernel), List.mem_of_getElem? (i := 1421) (by decide +kernel), List.mem_of_getElem? (i := 1422) (by decide +kernel)⟩
theorem lw_p63 : lw_okq (⟨"SeizedGoodsModel", "allLeft", "()I"⟩, 33) := ⟨⟨by decide +kernel, by decide +kernel⟩, List.mem_of_getElem? (i := 1056) (by decide +kernel), List.mem_of_getElem? (i := 1425) (by decide +kernel), List.mem_of_getElem? (i := 1426) (by decide +kernel)⟩
def lw_privs_4 : List (MethodName × Nat) := [(⟨"SeizedGoodsModel", "told", "(II)I"⟩, 33), (⟨"SeizedGoodsModel", "lawOf", "(II)I"⟩, 33), (⟨"SeizedGoodsModel", "isDebt", "(III)Z"⟩, 33), (⟨"SeizedGoodsModel", "newClaim", "(IIII)I"⟩, 33), (⟨"SeizedGoodsModel", "tell", "(III)V"⟩, 33), (⟨"SeizedGoodsModel", "isClaim", "(I)Z"⟩, 33), (⟨"SeizedGoodsModel", "lacksOf", "(II)I"⟩, 33), (⟨"SeizedGoodsModel", "lacks", "(IIII)I"⟩, 33), (⟨"SeizedGoodsModel", "havePact", "(II)Z"⟩, 33), (⟨"SeizedGoodsModel", "isFair", "(I)Z"⟩, 33), (⟨"SeizedGoodsModel", "isLetterGood", "(I)Z"⟩, 33), (⟨"SeizedGoodsModel", "mostOf", "(II)I"⟩, 33), (⟨"SeizedGoodsModel", "take", "(III)I"⟩, 33), (⟨"SeizedGoodsModel", "hold", "()V"⟩, 33), (⟨"SeizedGoodsModel", "grow", "(I)V"⟩, 33), (⟨"SeizedGoodsModel", "allLeft", "()I"⟩, 33)]
theorem lw_r4 : ∀ q ∈ lw_privs_4, lw_okq q := List.forall_mem_cons.mpr ⟨lw_p48, List.forall_mem_cons.mpr ⟨lw_p49, List.forall_mem_cons.mpr ⟨lw_p50, List.forall_mem_cons.mpr ⟨lw_p51, List.forall_mem_cons.mpr ⟨lw_p52, List.forall_mem_cons.mpr ⟨lw_p53, List.forall_mem_cons.mpr ⟨lw_p54, List.forall_mem_cons.mpr ⟨lw_p55, List.forall_mem_cons.mpr ⟨lw_p56, List.forall_mem_cons.mpr ⟨lw_p57, List.forall_mem_cons.mpr ⟨lw_p58, List.forall_mem_cons.mpr ⟨lw_p59, List.forall_mem_cons.mpr ⟨lw_p60, List.forall_mem_cons.mpr ⟨lw_p61, List.forall_mem_cons.mpr ⟨lw_p62, List.forall_mem_cons.mpr ⟨lw_p63, fun _ h => absurd h List.not_mem_nil⟩⟩⟩⟩⟩⟩⟩⟩⟩⟩⟩⟩⟩⟩⟩⟩
theorem lw_p64 : lw_okq (⟨"SeizedGoodsModel", "layBack", "()V"⟩, 33) := ⟨⟨by decide +kernel, by decide +kernel⟩, List.mem_of_getElem? (i := 1056) (by decide +kernel), List.mem_of_getElem? (i := 1429) (by decide +kernel), List.mem_of_getElem? (i := 1430) (by decide +kernel)⟩
theorem lw_p65 : lw_okq (⟨"SeizedGoodsModel", "hasOpen", "(I)Z"⟩, 33) := ⟨⟨by decide +kernel, by decide +kernel⟩, List.mem_of_getElem? (i := 1056) (by decide +kernel), List.mem_of_getElem? (i := 1441) (by decide +kernel), List.mem_of_getElem? (i := 1442) (by decide +kernel)⟩
theorem lw_p66 : lw_okq (⟨"SeizedGoodsModel", "payments", "()I"⟩, 33) := ⟨⟨by decide +kernel, by decide +kernel⟩, List.mem_of_getElem? (i := 1056) (by decide +kernel), List.mem_of_getElem? (i := 1445) (by decide +kernel), List.mem_of_getElem? (i := 1446) (by decide +kernel)⟩
theorem lw_p67 : lw_okq (⟨"SeizedGoodsModel", "isRoad", "(II)Z"⟩, 33) := ⟨⟨by decide +kernel, by decide +kernel⟩, List.mem_of_getElem? (i := 1056) (by decide +kernel), List.mem_of_getElem? (i := 1453) (by decide +kernel), List.mem_of_getElem? (i := 1454) (by decide +kernel)⟩
theorem lw_p68 : lw_okq (⟨"SeizedGoodsModel", "against", "(II)I"⟩, 33) := ⟨⟨by decide +kernel, by decide +kernel⟩, List.mem_of_getElem? (i := 1056) (by decide +kernel), List.mem_of_getElem? (i := 1457) (by decide +kernel), List.mem_of_getElem? (i := 1458) (by decide +kernel)⟩
theorem lw_p69 : lw_okq (⟨"SeizedGoodsModel", "isShut", "(II)Z"⟩, 33) := ⟨⟨by decide +kernel, by decide +kernel⟩, List.mem_of_getElem? (i := 1056) (by decide +kernel), List.mem_of_getElem? (i := 1472) (by decide +kernel), List.mem_of_getElem? (i := 1473) (by decide +kernel)⟩
theorem lw_p70 : lw_okq (⟨"SeizedGoodsModel", "layBetween", "()V"⟩, 33) := ⟨⟨by decide +kernel, by decide +kernel⟩, List.mem_of_getElem? (i := 1056) (by decide +kernel), List.mem_of_getElem? (i := 1484) (by decide +kernel), List.mem_of_getElem? (i := 1485) (by decide +kernel)⟩
theorem lw_p71 : lw_okq (⟨"SeizedGoodsModel", "owesOf", "(I)I"⟩, 33) := ⟨⟨by decide +kernel, by decide +kernel⟩, List.mem_of_getElem? (i := 1056) (by decide +kernel), List.mem_of_getElem? (i := 1488) (by decide +kernel), List.mem_of_getElem? (i := 1489) (by decide +kernel)⟩
theorem lw_p72 : lw_okq (⟨"SeizedGoodsModel", "allChoices", "()I"⟩, 33) := ⟨⟨by decide +kernel, by decide +kernel⟩, List.mem_of_getElem? (i := 1056) (by decide +kernel), List.mem_of_getElem? (i := 1496) (by decide +kernel), List.mem_of_getElem? (i := 1497) (by decide +kernel)⟩
theorem lw_p73 : lw_okq (⟨"SeizedGoodsModel", "isAtRest", "(I)Z"⟩, 33) := ⟨⟨by decide +kernel, by decide +kernel⟩, List.mem_of_getElem? (i := 1056) (by decide +kernel), List.mem_of_getElem? (i := 1500) (by decide +kernel), List.mem_of_getElem? (i := 1501) (by decide +kernel)⟩
theorem lw_p74 : lw_okq (⟨"SeizedGoodsModel", "layChoices", "(I)V"⟩, 33) := ⟨⟨by decide +kernel, by decide +kernel⟩, List.mem_of_getElem? (i := 1056) (by decide +kernel), List.mem_of_getElem? (i := 1504) (by decide +kernel), List.mem_of_getElem? (i := 1505) (by decide +kernel)⟩
theorem lw_p75 : lw_okq (⟨"SeizedGoodsModel", "hasOf", "(I)I"⟩, 33) := ⟨⟨by decide +kernel, by decide +kernel⟩, List.mem_of_getElem? (i := 1056) (by decide +kernel), List.mem_of_getElem? (i := 1508) (by decide +kernel), List.mem_of_getElem? (i := 1509) (by decide +kernel)⟩
theorem lw_p76 : lw_okq (⟨"SeizedGoodsModel", "bears", "(III)Z"⟩, 33) := ⟨⟨by decide +kernel, by decide +kernel⟩, List.mem_of_getElem? (i := 1056) (by decide +kernel), List.mem_of_getElem? (i := 1520) (by decide +kernel), List.mem_of_getElem? (i := 1521) (by decide +kernel)⟩
theorem lw_p77 : lw_okq (⟨"SeizedGoodsModel", "kindOf", "(I)I"⟩, 33) := ⟨⟨by decide +kernel, by decide +kernel⟩, List.mem_of_getElem? (i := 1056) (by decide +kernel), List.mem_of_getElem? (i := 1536) (by decide +kernel), List.mem_of_getElem? (i := 1537) (by decide +kernel)⟩
theorem lw_p78 : lw_okq (⟨"SeizedGoodsModel", "sizeOf", "(II)I"⟩, 33) := ⟨⟨by decide +kernel, by decide +kernel⟩, List.mem_of_getElem? (i := 1056) (by decide +kernel), List.mem_of_getElem? (i := 1552) (by decide +kernel), List.mem_of_getElem? (i := 1553) (by decide +kernel)⟩
theorem lw_p79 : lw_okq (⟨"SeizedGoodsModel", "townSize", "(II)I"⟩, 33) := ⟨⟨by decide +kernel, by decide +kernel⟩, List.mem_of_getElem? (i := 1056) (by decide +kernel), List.mem_of_getElem? (i := 1556) (by decide +kernel), List.mem_of_getElem? (i := 1557) (by decide +kernel)⟩
def lw_privs_5 : List (MethodName × Nat) := [(⟨"SeizedGoodsModel", "layBack", "()V"⟩, 33), (⟨"SeizedGoodsModel", "hasOpen", "(I)Z"⟩, 33), (⟨"SeizedGoodsModel", "payments", "()I"⟩, 33), (⟨"SeizedGoodsModel", "isRoad", "(II)Z"⟩, 33), (⟨"SeizedGoodsModel", "against", "(II)I"⟩, 33), (⟨"SeizedGoodsModel", "isShut", "(II)Z"⟩, 33), (⟨"SeizedGoodsModel", "layBetween", "()V"⟩, 33), (⟨"SeizedGoodsModel", "owesOf", "(I)I"⟩, 33), (⟨"SeizedGoodsModel", "allChoices", "()I"⟩, 33), (⟨"SeizedGoodsModel", "isAtRest", "(I)Z"⟩, 33), (⟨"SeizedGoodsModel", "layChoices", "(I)V"⟩, 33), (⟨"SeizedGoodsModel", "hasOf", "(I)I"⟩, 33), (⟨"SeizedGoodsModel", "bears", "(III)Z"⟩, 33), (⟨"SeizedGoodsModel", "kindOf", "(I)I"⟩, 33), (⟨"SeizedGoodsModel", "sizeOf", "(II)I"⟩, 33), (⟨"SeizedGoodsModel", "townSize", "(II)I"⟩, 33)]
theorem lw_r5 : ∀ q ∈ lw_privs_5, lw_okq q := List.forall_mem_cons.mpr ⟨lw_p64, List.forall_mem_cons.mpr ⟨lw_p65, List.forall_mem_cons.mpr ⟨lw_p66, List.forall_mem_cons.mpr ⟨lw_p67, List.forall_mem_cons.mpr ⟨lw_p68, List.forall_mem_cons.mpr ⟨lw_p69, List.forall_mem_cons.mpr ⟨lw_p70, List.forall_mem_cons.mpr ⟨lw_p71, List.forall_mem_cons.mpr ⟨lw_p72, List.forall_mem_cons.mpr ⟨lw_p73, List.forall_mem_cons.mpr ⟨lw_p74, List.forall_mem_cons.mpr ⟨lw_p75, List.forall_mem_cons.mpr ⟨lw_p76, List.forall_mem_cons.mpr ⟨lw_p77, List.forall_mem_cons.mpr ⟨lw_p78, List.forall_mem_cons.mpr ⟨lw_p79, fun _ h => absurd h List.not_mem_nil⟩⟩⟩⟩⟩⟩⟩⟩⟩⟩⟩⟩⟩⟩⟩⟩
theorem lw_p80 : lw_okq (⟨"SeizedGoodsModel", "began", "(I)V"⟩, 33) := ⟨⟨by decide +kernel, by decide +kernel⟩, List.mem_of_getElem? (i := 1056) (by decide +kernel), List.mem_of_getElem? (i := 1560) (by decide +kernel), List.mem_of_getElem? (i := 1561) (by decide +kernel)⟩
theorem lw_p81 : lw_okq (⟨"SeizedGoodsModel", "ownMark", "(I)I"⟩, 33) := ⟨⟨by decide +kernel, by decide +kernel⟩, List.mem_of_getElem? (i := 1056) (by decide +kernel), List.mem_of_getElem? (i := 1564) (by decide +kernel), List.mem_of_getElem? (i := 1565) (by decide +kernel)⟩
theorem lw_p82 : lw_okq (⟨"SeizedGoodsModel", "markOf", "(II)I"⟩, 33) := ⟨⟨by decide +kernel, by decide +kernel⟩, List.mem_of_getElem? (i := 1056) (by decide +kernel), List.mem_of_getElem? (i := 1568) (by decide +kernel), List.mem_of_getElem? (i := 1569) (by decide +kernel)⟩
theorem lw_p83 : lw_okq (⟨"SeizedGoodsModel", "pairs", "([II)I"⟩, 33) := ⟨⟨by decide +kernel, by decide +kernel⟩, List.mem_of_getElem? (i := 1056) (by decide +kernel), List.mem_of_getElem? (i := 1580) (by decide +kernel), List.mem_of_getElem? (i := 1581) (by decide +kernel)⟩
def lw_privs_6 : List (MethodName × Nat) := [(⟨"SeizedGoodsModel", "began", "(I)V"⟩, 33), (⟨"SeizedGoodsModel", "ownMark", "(I)I"⟩, 33), (⟨"SeizedGoodsModel", "markOf", "(II)I"⟩, 33), (⟨"SeizedGoodsModel", "pairs", "([II)I"⟩, 33)]
theorem lw_r6 : ∀ q ∈ lw_privs_6, lw_okq q := List.forall_mem_cons.mpr ⟨lw_p80, List.forall_mem_cons.mpr ⟨lw_p81, List.forall_mem_cons.mpr ⟨lw_p82, List.forall_mem_cons.mpr ⟨lw_p83, fun _ h => absurd h List.not_mem_nil⟩⟩⟩⟩
def lw_privs : List (MethodName × Nat) := lw_privs_1 ++ (lw_privs_2 ++ (lw_privs_3 ++ (lw_privs_4 ++ (lw_privs_5 ++ (lw_privs_6)))))
def lw_tbl : List Cond := k2_sels lw_privs ++ tables_1
theorem lw_privs_ok : ∀ q ∈ lw_privs, lw_okq q := by
  show ∀ q ∈ lw_privs_1 ++ (lw_privs_2 ++ (lw_privs_3 ++ (lw_privs_4 ++ (lw_privs_5 ++ (lw_privs_6))))), lw_okq q
  exact List.forall_mem_append.mpr ⟨lw_r1, List.forall_mem_append.mpr ⟨lw_r2, List.forall_mem_append.mpr ⟨lw_r3, List.forall_mem_append.mpr ⟨lw_r4, List.forall_mem_append.mpr ⟨lw_r5, lw_r6⟩⟩⟩⟩⟩


def RX0 : String := "SeizedGoods$Asker"
def TX0 : u_T := fun k => match k with
  | 0 => ("SeizedGoods$Asker", "left", "[I", true)
  | 1 => ("SeizedGoods$Asker", "leftCount", "I", false)
  | 2 => ("SeizedGoods$Asker", "asked", "LSeizedGoods$Claim;", false)
  | 3 => ("SeizedGoods$Asker", "number", "I", false)
  | 4 => ("SeizedGoods$Asker", "sizeBody", "I", false)
  | _ => ("SeizedGoods$Asker", "markBody", "I", false)
def tyX0 : Nat → FieldType := fun k => match k with
  | 0 => .array .int
  | 1 => .int
  | 2 => .object "SeizedGoods$Claim"
  | 3 => .int
  | 4 => .int
  | _ => .int
abbrev wsX00 : List Cond := u_ws RX0 TX0 6
theorem nmX0 : ∀ a, a < 6 → ∀ b, b < 6 → a ≠ b → (TX0 a).2.1 ≠ (TX0 b).2.1 := by decide +kernel
theorem tyX0_ok : ∀ k, k < 6 → parseFieldDescriptor (TX0 k).2.2.1 = some (tyX0 k) := by decide +kernel
def RX1 : String := "SeizedGoods$Claim"
def TX1 : u_T := fun k => match k with
  | 0 => ("SeizedGoods$Claim", "holder", "I", false)
  | 1 => ("SeizedGoods$Claim", "debtor", "I", false)
  | 2 => ("SeizedGoods$Claim", "sum", "I", false)
  | 3 => ("SeizedGoods$Claim", "left", "I", false)
  | 4 => ("SeizedGoods$Claim", "asked", "I", false)
  | 5 => ("SeizedGoods$Claim", "letterDay", "I", false)
  | 6 => ("SeizedGoods$Claim", "letterLeft", "I", false)
  | 7 => ("SeizedGoods$Claim", "source", "I", false)
  | 8 => ("SeizedGoods$Claim", "swornTowns", "I", false)
  | _ => ("SeizedGoods$Claim", "paidTowns", "I", false)
def tyX1 : Nat → FieldType := fun k => match k with
  | 0 => .int
  | 1 => .int
  | 2 => .int
  | 3 => .int
  | 4 => .int
  | 5 => .int
  | 6 => .int
  | 7 => .int
  | 8 => .int
  | _ => .int
abbrev wsX10 : List Cond := u_ws RX1 TX1 10
theorem nmX1 : ∀ a, a < 10 → ∀ b, b < 10 → a ≠ b → (TX1 a).2.1 ≠ (TX1 b).2.1 := by decide +kernel
theorem tyX1_ok : ∀ k, k < 10 → parseFieldDescriptor (TX1 k).2.2.1 = some (tyX1 k) := by decide +kernel
def RX2 : String := "SeizedGoods$Council"
def TX2 : u_T := fun k => match k with
  | 0 => ("SeizedGoods$Council", "due", "[I", true)
  | 1 => ("SeizedGoods$Council", "trades", "[I", true)
  | 2 => ("SeizedGoods$Council", "chosen", "[I", true)
  | 3 => ("SeizedGoods$Council", "towns", "I", false)
  | _ => ("SeizedGoods$Council", "rows", "I", false)
def tyX2 : Nat → FieldType := fun k => match k with
  | 0 => .array .int
  | 1 => .array .int
  | 2 => .array .int
  | 3 => .int
  | _ => .int
abbrev wsX20 : List Cond := u_ws RX2 TX2 5
theorem nmX2 : ∀ a, a < 5 → ∀ b, b < 5 → a ≠ b → (TX2 a).2.1 ≠ (TX2 b).2.1 := by decide +kernel
theorem tyX2_ok : ∀ k, k < 5 → parseFieldDescriptor (TX2 k).2.2.1 = some (tyX2 k) := by decide +kernel
def RX3 : String := "SeizedGoods$Future"
def TX3 : u_T := fun k => match k with
  | _ => ("SeizedGoods$Future", "copied", "LSeizedGoods$Land;", true)
def tyX3 : Nat → FieldType := fun k => match k with
  | _ => .object "SeizedGoods$Land"
abbrev wsX30 : List Cond := u_ws RX3 TX3 1
theorem nmX3 : ∀ a, a < 1 → ∀ b, b < 1 → a ≠ b → (TX3 a).2.1 ≠ (TX3 b).2.1 := by decide +kernel
theorem tyX3_ok : ∀ k, k < 1 → parseFieldDescriptor (TX3 k).2.2.1 = some (tyX3 k) := by decide +kernel
def RX4 : String := "SeizedGoods$Land"
def TX4 : u_T := fun k => match k with
  | 0 => ("SeizedGoods$Land", "trades", "[I", true)
  | 1 => ("SeizedGoods$Land", "laws", "[I", true)
  | 2 => ("SeizedGoods$Land", "roads", "[I", true)
  | 3 => ("SeizedGoods$Land", "pacts", "[I", true)
  | 4 => ("SeizedGoods$Land", "fairs", "[I", true)
  | 5 => ("SeizedGoods$Land", "homes", "[I", true)
  | 6 => ("SeizedGoods$Land", "places", "[I", true)
  | 7 => ("SeizedGoods$Land", "claims", "[LSeizedGoods$Claim;", true)
  | 8 => ("SeizedGoods$Land", "townCount", "I", false)
  | 9 => ("SeizedGoods$Land", "manCount", "I", false)
  | 10 => ("SeizedGoods$Land", "fairCount", "I", false)
  | 11 => ("SeizedGoods$Land", "claimCount", "I", false)
  | 12 => ("SeizedGoods$Land", "day", "I", false)
  | _ => ("SeizedGoods$Land", "seized", "I", false)
def tyX4 : Nat → FieldType := fun k => match k with
  | 0 => .array .int
  | 1 => .array .int
  | 2 => .array .int
  | 3 => .array .int
  | 4 => .array .int
  | 5 => .array .int
  | 6 => .array .int
  | 7 => .array (.object "SeizedGoods$Claim")
  | 8 => .int
  | 9 => .int
  | 10 => .int
  | 11 => .int
  | 12 => .int
  | _ => .int
abbrev wsX40 : List Cond := u_ws RX4 TX4 14
theorem nmX4 : ∀ a, a < 14 → ∀ b, b < 14 → a ≠ b → (TX4 a).2.1 ≠ (TX4 b).2.1 := by decide +kernel
theorem tyX4_ok : ∀ k, k < 14 → parseFieldDescriptor (TX4 k).2.2.1 = some (tyX4 k) := by decide +kernel
def RX5 : String := "SeizedGoods$Ledger"
def TX5 : u_T := fun k => match k with
  | 0 => ("SeizedGoods$Ledger", "open", "[I", true)
  | _ => ("SeizedGoods$Ledger", "groups", "[B", true)
def tyX5 : Nat → FieldType := fun k => match k with
  | 0 => .array .int
  | _ => .array .byte
abbrev wsX50 : List Cond := u_ws RX5 TX5 2
theorem nmX5 : ∀ a, a < 2 → ∀ b, b < 2 → a ≠ b → (TX5 a).2.1 ≠ (TX5 b).2.1 := by decide +kernel
theorem tyX5_ok : ∀ k, k < 2 → parseFieldDescriptor (TX5 k).2.2.1 = some (tyX5 k) := by decide +kernel
def RX6 : String := "SeizedGoods$Reader"
def TX6 : u_T := fun k => match k with
  | 0 => ("SeizedGoods$Reader", "tape", "[I", true)
  | 1 => ("SeizedGoods$Reader", "told", "[I", true)
  | 2 => ("SeizedGoods$Reader", "into", "LSeizedGoods$Land;", false)
  | 3 => ("SeizedGoods$Reader", "token", "I", false)
  | 4 => ("SeizedGoods$Reader", "end", "I", false)
  | 5 => ("SeizedGoods$Reader", "value", "I", false)
  | 6 => ("SeizedGoods$Reader", "length", "I", false)
  | 7 => ("SeizedGoods$Reader", "start", "I", false)
  | _ => ("SeizedGoods$Reader", "fault", "I", false)
def tyX6 : Nat → FieldType := fun k => match k with
  | 0 => .array .int
  | 1 => .array .int
  | 2 => .object "SeizedGoods$Land"
  | 3 => .int
  | 4 => .int
  | 5 => .int
  | 6 => .int
  | 7 => .int
  | _ => .int
abbrev wsX60 : List Cond := u_ws RX6 TX6 9
theorem nmX6 : ∀ a, a < 9 → ∀ b, b < 9 → a ≠ b → (TX6 a).2.1 ≠ (TX6 b).2.1 := by decide +kernel
theorem tyX6_ok : ∀ k, k < 9 → parseFieldDescriptor (TX6 k).2.2.1 = some (tyX6 k) := by decide +kernel
def RX7 : String := "SeizedGoods$Sheets"
def TX7 : u_T := fun k => match k with
  | 0 => ("SeizedGoods$Sheets", "items", "[I", true)
  | 1 => ("SeizedGoods$Sheets", "lanes", "[I", true)
  | _ => ("SeizedGoods$Sheets", "sizes", "[I", true)
def tyX7 : Nat → FieldType := fun k => match k with
  | 0 => .array .int
  | 1 => .array .int
  | _ => .array .int
abbrev wsX70 : List Cond := u_ws RX7 TX7 3
theorem nmX7 : ∀ a, a < 3 → ∀ b, b < 3 → a ≠ b → (TX7 a).2.1 ≠ (TX7 b).2.1 := by decide +kernel
theorem tyX7_ok : ∀ k, k < 3 → parseFieldDescriptor (TX7 k).2.2.1 = some (tyX7 k) := by decide +kernel
def RX8 : String := "SeizedGoods$Travel"
def TX8 : u_T := fun k => match k with
  | 0 => ("SeizedGoods$Travel", "bars", "[I", true)
  | _ => ("SeizedGoods$Travel", "best", "I", false)
def tyX8 : Nat → FieldType := fun k => match k with
  | 0 => .array .int
  | _ => .int
abbrev wsX80 : List Cond := u_ws RX8 TX8 2
theorem nmX8 : ∀ a, a < 2 → ∀ b, b < 2 → a ≠ b → (TX8 a).2.1 ≠ (TX8 b).2.1 := by decide +kernel
theorem tyX8_ok : ∀ k, k < 2 → parseFieldDescriptor (TX8 k).2.2.1 = some (tyX8 k) := by decide +kernel
def RX9 : String := "SeizedGoods"
def TX9 : u_T := fun k => match k with
  | 0 => ("SeizedGoods", "sheets", "LSeizedGoods$Sheets;", true)
  | 1 => ("SeizedGoods", "reader", "LSeizedGoods$Reader;", true)
  | 2 => ("SeizedGoods", "future", "LSeizedGoods$Future;", true)
  | 3 => ("SeizedGoods", "ledger", "LSeizedGoods$Ledger;", true)
  | 4 => ("SeizedGoods", "travel", "LSeizedGoods$Travel;", true)
  | 5 => ("SeizedGoods", "council", "LSeizedGoods$Council;", true)
  | 6 => ("SeizedGoods", "asker", "LSeizedGoods$Asker;", true)
  | 7 => ("SeizedGoods", "images", "[LSeizedGoods$Land;", true)
  | 8 => ("SeizedGoods", "land", "LSeizedGoods$Land;", false)
  | 9 => ("SeizedGoods", "unread", "LSeizedGoods$Land;", false)
  | 10 => ("SeizedGoods", "latestFault", "I", false)
  | _ => ("SeizedGoods", "latestFinding", "I", false)
def tyX9 : Nat → FieldType := fun k => match k with
  | 0 => .object "SeizedGoods$Sheets"
  | 1 => .object "SeizedGoods$Reader"
  | 2 => .object "SeizedGoods$Future"
  | 3 => .object "SeizedGoods$Ledger"
  | 4 => .object "SeizedGoods$Travel"
  | 5 => .object "SeizedGoods$Council"
  | 6 => .object "SeizedGoods$Asker"
  | 7 => .array (.object "SeizedGoods$Land")
  | 8 => .object "SeizedGoods$Land"
  | 9 => .object "SeizedGoods$Land"
  | 10 => .int
  | _ => .int
abbrev wsX90 : List Cond := u_ws RX9 TX9 12
theorem nmX9 : ∀ a, a < 12 → ∀ b, b < 12 → a ≠ b → (TX9 a).2.1 ≠ (TX9 b).2.1 := by decide +kernel
theorem tyX9_ok : ∀ k, k < 12 → parseFieldDescriptor (TX9 k).2.2.1 = some (tyX9 k) := by decide +kernel
def RX10 : String := "SeizedGoodsModel"
def TX10 : u_T := fun k => match k with
  | 0 => ("SeizedGoodsModel", "thrown", "I", false)
  | 1 => ("SeizedGoodsModel", "status", "I", false)
  | 2 => ("SeizedGoodsModel", "lane", "[I", true)
  | 3 => ("SeizedGoodsModel", "many", "[I", true)
  | 4 => ("SeizedGoodsModel", "item", "[I", true)
  | 5 => ("SeizedGoodsModel", "land", "[I", true)
  | 6 => ("SeizedGoodsModel", "fresh", "[I", true)
  | 7 => ("SeizedGoodsModel", "isThere", "Z", false)
  | 8 => ("SeizedGoodsModel", "now", "[I", true)
  | 9 => ("SeizedGoodsModel", "tape", "[I", true)
  | 10 => ("SeizedGoodsModel", "taped", "I", false)
  | 11 => ("SeizedGoodsModel", "latest", "I", false)
  | 12 => ("SeizedGoodsModel", "length", "I", false)
  | 13 => ("SeizedGoodsModel", "cursor", "I", false)
  | 14 => ("SeizedGoodsModel", "token", "I", false)
  | 15 => ("SeizedGoodsModel", "from", "I", false)
  | 16 => ("SeizedGoodsModel", "till", "I", false)
  | 17 => ("SeizedGoodsModel", "fault", "I", false)
  | 18 => ("SeizedGoodsModel", "faultAt", "I", false)
  | 19 => ("SeizedGoodsModel", "was", "[I", true)
  | 20 => ("SeizedGoodsModel", "lawsWere", "[I", true)
  | 21 => ("SeizedGoodsModel", "sums", "[I", true)
  | 22 => ("SeizedGoodsModel", "groups", "[I", true)
  | 23 => ("SeizedGoodsModel", "path", "[I", true)
  | 24 => ("SeizedGoodsModel", "opens", "[I", true)
  | 25 => ("SeizedGoodsModel", "byTown", "[I", true)
  | 26 => ("SeizedGoodsModel", "between", "[I", true)
  | 27 => ("SeizedGoodsModel", "choice", "[I", true)
  | 28 => ("SeizedGoodsModel", "isKept", "[Z", true)
  | 29 => ("SeizedGoodsModel", "keptLand", "[I", true)
  | 30 => ("SeizedGoodsModel", "keptNow", "[I", true)
  | 31 => ("SeizedGoodsModel", "trace", "[I", true)
  | _ => ("SeizedGoodsModel", "traced", "I", false)
def tyX10 : Nat → FieldType := fun k => match k with
  | 0 => .int
  | 1 => .int
  | 2 => .array .int
  | 3 => .array .int
  | 4 => .array .int
  | 5 => .array .int
  | 6 => .array .int
  | 7 => .boolean
  | 8 => .array .int
  | 9 => .array .int
  | 10 => .int
  | 11 => .int
  | 12 => .int
  | 13 => .int
  | 14 => .int
  | 15 => .int
  | 16 => .int
  | 17 => .int
  | 18 => .int
  | 19 => .array .int
  | 20 => .array .int
  | 21 => .array .int
  | 22 => .array .int
  | 23 => .array .int
  | 24 => .array .int
  | 25 => .array .int
  | 26 => .array .int
  | 27 => .array .int
  | 28 => .array .boolean
  | 29 => .array .int
  | 30 => .array .int
  | 31 => .array .int
  | _ => .int
abbrev wsX100 : List Cond := u_ws RX10 TX10 33
theorem nmX10 : ∀ a, a < 33 → ∀ b, b < 33 → a ≠ b → (TX10 a).2.1 ≠ (TX10 b).2.1 := by decide +kernel
theorem tyX10_ok : ∀ k, k < 33 → parseFieldDescriptor (TX10 k).2.2.1 = some (tyX10 k) := by decide +kernel
abbrev vwCl : List vw_C := [(RX0, TX0, 6), (RX1, TX1, 10), (RX2, TX2, 5), (RX3, TX3, 1), (RX4, TX4, 14), (RX5, TX5, 2), (RX6, TX6, 9), (RX7, TX7, 3), (RX8, TX8, 2), (RX9, TX9, 12), (RX10, TX10, 33)]
theorem mem_r {big : List Cond} (ws : List Cond) (ps : List Nat) (hp : ws = ps.filterMap (fun i => big[i]?)) : ∀ w ∈ ws, w ∈ big := by
  intro w hw
  rw [hp] at hw
  obtain ⟨i, -, hi⟩ := List.mem_filterMap.mp hw
  first | exact List.mem_of_getElem? hi | exact List.getElem?_mem hi
set_option maxRecDepth 100000 in
theorem inX0 : ∀ w ∈ u_ws RX0 TX0 6, w ∈ lw_tbl := mem_r _ [385, 387, 389, 391, 393, 395] rfl
set_option maxRecDepth 100000 in
theorem inX1 : ∀ w ∈ u_ws RX1 TX1 10, w ∈ lw_tbl := mem_r _ [221, 223, 225, 227, 229, 231, 233, 235, 237, 239] rfl
set_option maxRecDepth 100000 in
theorem inX2 : ∀ w ∈ u_ws RX2 TX2 5, w ∈ lw_tbl := mem_r _ [362, 364, 366, 368, 370] rfl
set_option maxRecDepth 100000 in
theorem inX3 : ∀ w ∈ u_ws RX3 TX3 1, w ∈ lw_tbl := mem_r _ [320] rfl
set_option maxRecDepth 100000 in
theorem inX4 : ∀ w ∈ u_ws RX4 TX4 14, w ∈ lw_tbl := mem_r _ [290, 292, 294, 296, 298, 300, 302, 304, 306, 308, 310, 312, 314, 316] rfl
set_option maxRecDepth 100000 in
theorem inX5 : ∀ w ∈ u_ws RX5 TX5 2, w ∈ lw_tbl := mem_r _ [331, 333] rfl
set_option maxRecDepth 100000 in
theorem inX6 : ∀ w ∈ u_ws RX6 TX6 9, w ∈ lw_tbl := mem_r _ [150, 152, 154, 156, 158, 160, 162, 164, 166] rfl
set_option maxRecDepth 100000 in
theorem inX7 : ∀ w ∈ u_ws RX7 TX7 3, w ∈ lw_tbl := mem_r _ [124, 126, 128] rfl
set_option maxRecDepth 100000 in
theorem inX8 : ∀ w ∈ u_ws RX8 TX8 2, w ∈ lw_tbl := mem_r _ [345, 347] rfl
set_option maxRecDepth 100000 in
theorem inX9 : ∀ w ∈ u_ws RX9 TX9 12, w ∈ lw_tbl := mem_r _ [413, 415, 417, 419, 421, 423, 425, 427, 429, 431, 433, 435] rfl
set_option maxRecDepth 100000 in
theorem inX10 : ∀ w ∈ u_ws RX10 TX10 33, w ∈ lw_tbl := mem_r _ [1178, 1180, 1182, 1184, 1186, 1188, 1190, 1192, 1194, 1196, 1198, 1200, 1202, 1204, 1206, 1208, 1210, 1212, 1214, 1216, 1218, 1220, 1222, 1224, 1226, 1228, 1230, 1232, 1234, 1236, 1238, 1240, 1242] rfl
