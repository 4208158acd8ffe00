/-! ===== all methods' tables and words ===== -/
def GA (z : Nat) : Prop := ∀ (mz : MT) (bz : MBr), MS[z]? = some mz → MB[z]? = some bz → chkT bz.1 (decide (bz.2.2.2.2.2 = 2)) bz.2.2.1 mz.2.2.2.2 = true ∧ Cond.code bz.2.1 bz.2.2.1 bz.2.2.2.1 bz.2.2.2.2.1 ∈ gtb
theorem cw_in {p : Nat} {w : Cond} (h : lw_tbl[p]? = some w) (hg : goodWord w = true) : w ∈ gtb := List.mem_filter.mpr ⟨List.mem_of_getElem? h, hg⟩
theorem all_take {α : Type} {f : α → Bool} {l : List α} {n z : Nat} {x : α} (h : (l.take n).all f = true) (hz : z < n) (hx : l[z]? = some x) : f x = true := List.all_eq_true.mp h x (List.mem_of_getElem? (i := z) (by rw [List.getElem?_take_of_lt hz]; exact hx))
theorem all_drop {α : Type} {f : α → Bool} {l : List α} {m n z : Nat} {x : α} (h : ((l.drop m).take n).all f = true) (hm : m ≤ z) (hz : z < m + n) (hx : l[z]? = some x) : f x = true := List.all_eq_true.mp h x (List.mem_of_getElem? (i := z - m) (by rw [List.getElem?_take_of_lt (by omega), List.getElem?_drop, show m + (z - m) = z by omega]; exact hx))
theorem mok_gen (ok : MT → MBr → (Nat × Nat × Nat × Nat) → Bool) {ms : List MT} {mb : List MBr} {mp : List (Nat × Nat × Nat × Nat)} (c1 : (((ms.zip mb).zip mp).take 100).all (fun q => ok q.1.1 q.1.2 q.2) = true) (c2 : ((((ms.zip mb).zip mp).drop 100).take 167).all (fun q => ok q.1.1 q.1.2 q.2) = true) (hl : mp.length = 268) {z : Nat} {mz : MT} {bz : MBr} (hz : z < 267) (hmz : ms[z]? = some mz) (hbz : mb[z]? = some bz) : ∃ p, ok mz bz p = true := by
  have hp : mp[z]? = some (mp[z]'(by omega)) := List.getElem?_eq_getElem _
  generalize mp[z]'(by omega) = pp at hp
  have h1 : (ms.zip mb)[z]? = some (mz, bz) := List.getElem?_zip_eq_some.mpr ⟨hmz, hbz⟩
  have h2 : ((ms.zip mb).zip mp)[z]? = some ((mz, bz), pp) := List.getElem?_zip_eq_some.mpr ⟨h1, hp⟩
  rcases Nat.lt_or_ge z 100 with h | h
  · have e := all_take (f := fun (q : (MT × MBr) × (Nat × Nat × Nat × Nat)) => ok q.1.1 q.1.2 q.2) c1 h h2
    exact ⟨pp, e⟩
  · have e := all_drop (f := fun (q : (MT × MBr) × (Nat × Nat × Nat × Nat)) => ok q.1.1 q.1.2 q.2) (n := 167) c2 h (by omega) h2
    exact ⟨pp, e⟩
theorem mok_at {z : Nat} {mz : MT} {bz : MBr} (hz : z < 267) (hmz : MS[z]? = some mz) (hbz : MB[z]? = some bz) : ∃ p, mokA mz bz p = true := mok_gen mokA (ms := MS) (mb := MB) (mp := MBp) MB_chk1 MB_chk2 (by decide +kernel) hz hmz hbz

theorem g_0 : GA 0 := fun mz bz h1 h2 => by cases h1; cases h2; exact ⟨tk_X0_init, cw_in cw_X0_init rfl⟩
theorem G_1 : ∀ a, a < 1 → GA a := lt_s lt_0 g_0
theorem g_1 : GA 1 := fun mz bz h1 h2 => by cases h1; cases h2; exact ⟨tk_X0_answer, cw_in cw_X0_answer rfl⟩
theorem G_2 : ∀ a, a < 2 → GA a := lt_s G_1 g_1
theorem g_2 : GA 2 := fun mz bz h1 h2 => by cases h1; cases h2; exact ⟨tk_X0_traced, cw_in cw_X0_traced rfl⟩
theorem G_3 : ∀ a, a < 3 → GA a := lt_s G_2 g_2
theorem g_3 : GA 3 := fun mz bz h1 h2 => by cases h1; cases h2; exact ⟨tk_X0_nearestBody, cw_in cw_X0_nearestBody rfl⟩
theorem G_4 : ∀ a, a < 4 → GA a := lt_s G_3 g_3
theorem g_4 : GA 4 := fun mz bz h1 h2 => by cases h1; cases h2; exact ⟨tk_X0_given, cw_in cw_X0_given rfl⟩
theorem G_5 : ∀ a, a < 5 → GA a := lt_s G_4 g_4
theorem g_5 : GA 5 := fun mz bz h1 h2 => by cases h1; cases h2; exact ⟨tk_X1_init, cw_in cw_X1_init rfl⟩
theorem G_6 : ∀ a, a < 6 → GA a := lt_s G_5 g_5
theorem g_6 : GA 6 := fun mz bz h1 h2 => by cases h1; cases h2; exact ⟨tk_X1_begin, cw_in cw_X1_begin rfl⟩
theorem G_7 : ∀ a, a < 7 → GA a := lt_s G_6 g_6
theorem g_7 : GA 7 := fun mz bz h1 h2 => by cases h1; cases h2; exact ⟨tk_X1_becomeLike, cw_in cw_X1_becomeLike rfl⟩
theorem G_8 : ∀ a, a < 8 → GA a := lt_s G_7 g_7
theorem g_8 : GA 8 := fun mz bz h1 h2 => by cases h1; cases h2; exact ⟨tk_X1_isPaid, cw_in cw_X1_isPaid rfl⟩
theorem G_9 : ∀ a, a < 9 → GA a := lt_s G_8 g_8
theorem g_9 : GA 9 := fun mz bz h1 h2 => by cases h1; cases h2; exact ⟨tk_X1_isBred, cw_in cw_X1_isBred rfl⟩
theorem G_10 : ∀ a, a < 10 → GA a := lt_s G_9 g_9
theorem g_10 : GA 10 := fun mz bz h1 h2 => by cases h1; cases h2; exact ⟨tk_X1_hasLetterOn, cw_in cw_X1_hasLetterOn rfl⟩
theorem G_11 : ∀ a, a < 11 → GA a := lt_s G_10 g_10
theorem g_11 : GA 11 := fun mz bz h1 h2 => by cases h1; cases h2; exact ⟨tk_X1_oathOf, cw_in cw_X1_oathOf rfl⟩
theorem G_12 : ∀ a, a < 12 → GA a := lt_s G_11 g_11
theorem g_12 : GA 12 := fun mz bz h1 h2 => by cases h1; cases h2; exact ⟨tk_X1_setOath, cw_in cw_X1_setOath rfl⟩
theorem G_13 : ∀ a, a < 13 → GA a := lt_s G_12 g_12
theorem g_13 : GA 13 := fun mz bz h1 h2 => by cases h1; cases h2; exact ⟨tk_X2_init, cw_in cw_X2_init rfl⟩
theorem G_14 : ∀ a, a < 14 → GA a := lt_s G_13 g_13
theorem g_14 : GA 14 := fun mz bz h1 h2 => by cases h1; cases h2; exact ⟨tk_X2_gather, cw_in cw_X2_gather rfl⟩
theorem G_15 : ∀ a, a < 15 → GA a := lt_s G_14 g_14
theorem g_15 : GA 15 := fun mz bz h1 h2 => by cases h1; cases h2; exact ⟨tk_X2_dueTo, cw_in cw_X2_dueTo rfl⟩
theorem G_16 : ∀ a, a < 16 → GA a := lt_s G_15 g_15
theorem g_16 : GA 16 := fun mz bz h1 h2 => by cases h1; cases h2; exact ⟨tk_X2_owedBy, cw_in cw_X2_owedBy rfl⟩
theorem G_17 : ∀ a, a < 17 → GA a := lt_s G_16 g_16
theorem g_17 : GA 17 := fun mz bz h1 h2 => by cases h1; cases h2; exact ⟨tk_X2_choose, cw_in cw_X2_choose rfl⟩
theorem G_18 : ∀ a, a < 18 → GA a := lt_s G_17 g_17
theorem g_18 : GA 18 := fun mz bz h1 h2 => by cases h1; cases h2; exact ⟨tk_X2_worthOf, cw_in cw_X2_worthOf rfl⟩
theorem G_19 : ∀ a, a < 19 → GA a := lt_s G_18 g_18
theorem g_19 : GA 19 := fun mz bz h1 h2 => by cases h1; cases h2; exact ⟨tk_X2_gain, cw_in cw_X2_gain rfl⟩
theorem G_20 : ∀ a, a < 20 → GA a := lt_s G_19 g_19
theorem g_20 : GA 20 := fun mz bz h1 h2 => by cases h1; cases h2; exact ⟨tk_X2_loss, cw_in cw_X2_loss rfl⟩
theorem G_21 : ∀ a, a < 21 → GA a := lt_s G_20 g_20
theorem g_21 : GA 21 := fun mz bz h1 h2 => by cases h1; cases h2; exact ⟨tk_X2_tradeLost, cw_in cw_X2_tradeLost rfl⟩
theorem G_22 : ∀ a, a < 22 → GA a := lt_s G_21 g_21
theorem g_22 : GA 22 := fun mz bz h1 h2 => by cases h1; cases h2; exact ⟨tk_X2_rowsAtRest, cw_in cw_X2_rowsAtRest rfl⟩
theorem G_23 : ∀ a, a < 23 → GA a := lt_s G_22 g_22
theorem g_23 : GA 23 := fun mz bz h1 h2 => by cases h1; cases h2; exact ⟨tk_X2_rowAtRest, cw_in cw_X2_rowAtRest rfl⟩
theorem G_24 : ∀ a, a < 24 → GA a := lt_s G_23 g_23
theorem g_24 : GA 24 := fun mz bz h1 h2 => by cases h1; cases h2; exact ⟨tk_X2_isAtRest, cw_in cw_X2_isAtRest rfl⟩
theorem G_25 : ∀ a, a < 25 → GA a := lt_s G_24 g_24
theorem g_25 : GA 25 := fun mz bz h1 h2 => by cases h1; cases h2; exact ⟨tk_X2_isKept, cw_in cw_X2_isKept rfl⟩
theorem G_26 : ∀ a, a < 26 → GA a := lt_s G_25 g_25
theorem g_26 : GA 26 := fun mz bz h1 h2 => by cases h1; cases h2; exact ⟨tk_X3_init, cw_in cw_X3_init rfl⟩
theorem G_27 : ∀ a, a < 27 → GA a := lt_s G_26 g_26
theorem g_27 : GA 27 := fun mz bz h1 h2 => by cases h1; cases h2; exact ⟨tk_X3_foretell, cw_in cw_X3_foretell rfl⟩
theorem G_28 : ∀ a, a < 28 → GA a := lt_s G_27 g_27
theorem g_28 : GA 28 := fun mz bz h1 h2 => by cases h1; cases h2; exact ⟨tk_X3_bestLaw, cw_in cw_X3_bestLaw rfl⟩
theorem G_29 : ∀ a, a < 29 → GA a := lt_s G_28 g_28
theorem g_29 : GA 29 := fun mz bz h1 h2 => by cases h1; cases h2; exact ⟨tk_X3_giveLaw, cw_in cw_X3_giveLaw rfl⟩
theorem G_30 : ∀ a, a < 30 → GA a := lt_s G_29 g_29
theorem g_30 : GA 30 := fun mz bz h1 h2 => by cases h1; cases h2; exact ⟨tk_X3_growBy, cw_in cw_X3_growBy rfl⟩
theorem G_31 : ∀ a, a < 31 → GA a := lt_s G_30 g_30
theorem g_31 : GA 31 := fun mz bz h1 h2 => by cases h1; cases h2; exact ⟨tk_X3_seizeFor, cw_in cw_X3_seizeFor rfl⟩
theorem G_32 : ∀ a, a < 32 → GA a := lt_s G_31 g_31
theorem g_32 : GA 32 := fun mz bz h1 h2 => by cases h1; cases h2; exact ⟨tk_X4_init, cw_in cw_X4_init rfl⟩
theorem G_33 : ∀ a, a < 33 → GA a := lt_s G_32 g_32
theorem g_33 : GA 33 := fun mz bz h1 h2 => by cases h1; cases h2; exact ⟨tk_X4_clear, cw_in cw_X4_clear rfl⟩
theorem G_34 : ∀ a, a < 34 → GA a := lt_s G_33 g_33
theorem g_34 : GA 34 := fun mz bz h1 h2 => by cases h1; cases h2; exact ⟨tk_X4_becomeLike, cw_in cw_X4_becomeLike rfl⟩
theorem G_35 : ∀ a, a < 35 → GA a := lt_s G_34 g_34
theorem g_35 : GA 35 := fun mz bz h1 h2 => by cases h1; cases h2; exact ⟨tk_X4_isNone, cw_in cw_X4_isNone rfl⟩
theorem G_36 : ∀ a, a < 36 → GA a := lt_s G_35 g_35
theorem g_36 : GA 36 := fun mz bz h1 h2 => by cases h1; cases h2; exact ⟨tk_X4_isTown, cw_in cw_X4_isTown rfl⟩
theorem G_37 : ∀ a, a < 37 → GA a := lt_s G_36 g_36
theorem g_37 : GA 37 := fun mz bz h1 h2 => by cases h1; cases h2; exact ⟨tk_X4_areTwoTowns, cw_in cw_X4_areTwoTowns rfl⟩
theorem G_38 : ∀ a, a < 38 → GA a := lt_s G_37 g_37
theorem g_38 : GA 38 := fun mz bz h1 h2 => by cases h1; cases h2; exact ⟨tk_X4_isMan, cw_in cw_X4_isMan rfl⟩
theorem G_39 : ∀ a, a < 39 → GA a := lt_s G_38 g_38
theorem g_39 : GA 39 := fun mz bz h1 h2 => by cases h1; cases h2; exact ⟨tk_X4_isClaim, cw_in cw_X4_isClaim rfl⟩
theorem G_40 : ∀ a, a < 40 → GA a := lt_s G_39 g_39
theorem g_40 : GA 40 := fun mz bz h1 h2 => by cases h1; cases h2; exact ⟨tk_X4_addTown, cw_in cw_X4_addTown rfl⟩
theorem G_41 : ∀ a, a < 41 → GA a := lt_s G_40 g_40
theorem g_41 : GA 41 := fun mz bz h1 h2 => by cases h1; cases h2; exact ⟨tk_X4_addMan, cw_in cw_X4_addMan rfl⟩
theorem G_42 : ∀ a, a < 42 → GA a := lt_s G_41 g_41
theorem g_42 : GA 42 := fun mz bz h1 h2 => by cases h1; cases h2; exact ⟨tk_X4_addRoad, cw_in cw_X4_addRoad rfl⟩
theorem G_43 : ∀ a, a < 43 → GA a := lt_s G_42 g_42
theorem g_43 : GA 43 := fun mz bz h1 h2 => by cases h1; cases h2; exact ⟨tk_X4_hasRoad, cw_in cw_X4_hasRoad rfl⟩
theorem G_44 : ∀ a, a < 44 → GA a := lt_s G_43 g_43
theorem g_44 : GA 44 := fun mz bz h1 h2 => by cases h1; cases h2; exact ⟨tk_X4_setLaw, cw_in cw_X4_setLaw rfl⟩
theorem G_45 : ∀ a, a < 45 → GA a := lt_s G_44 g_44
theorem g_45 : GA 45 := fun mz bz h1 h2 => by cases h1; cases h2; exact ⟨tk_X4_lawOf, cw_in cw_X4_lawOf rfl⟩
theorem G_46 : ∀ a, a < 46 → GA a := lt_s G_45 g_45
theorem g_46 : GA 46 := fun mz bz h1 h2 => by cases h1; cases h2; exact ⟨tk_X4_addFair, cw_in cw_X4_addFair rfl⟩
theorem G_47 : ∀ a, a < 47 → GA a := lt_s G_46 g_46
theorem g_47 : GA 47 := fun mz bz h1 h2 => by cases h1; cases h2; exact ⟨tk_X4_hasFair, cw_in cw_X4_hasFair rfl⟩
theorem G_48 : ∀ a, a < 48 → GA a := lt_s G_47 g_47
theorem g_48 : GA 48 := fun mz bz h1 h2 => by cases h1; cases h2; exact ⟨tk_X4_setPact, cw_in cw_X4_setPact rfl⟩
theorem G_49 : ∀ a, a < 49 → GA a := lt_s G_48 g_48
theorem g_49 : GA 49 := fun mz bz h1 h2 => by cases h1; cases h2; exact ⟨tk_X4_hasPact, cw_in cw_X4_hasPact rfl⟩
theorem G_50 : ∀ a, a < 50 → GA a := lt_s G_49 g_49
theorem g_50 : GA 50 := fun mz bz h1 h2 => by cases h1; cases h2; exact ⟨tk_X4_pairsIn, cw_in cw_X4_pairsIn rfl⟩
theorem G_51 : ∀ a, a < 51 → GA a := lt_s G_50 g_50
theorem g_51 : GA 51 := fun mz bz h1 h2 => by cases h1; cases h2; exact ⟨tk_X4_canOwe, cw_in cw_X4_canOwe rfl⟩
theorem G_52 : ∀ a, a < 52 → GA a := lt_s G_51 g_51
theorem g_52 : GA 52 := fun mz bz h1 h2 => by cases h1; cases h2; exact ⟨tk_X4_hasRoom, cw_in cw_X4_hasRoom rfl⟩
theorem G_53 : ∀ a, a < 53 → GA a := lt_s G_52 g_52
theorem g_53 : GA 53 := fun mz bz h1 h2 => by cases h1; cases h2; exact ⟨tk_X4_addClaim, cw_in cw_X4_addClaim rfl⟩
theorem G_54 : ∀ a, a < 54 → GA a := lt_s G_53 g_53
theorem g_54 : GA 54 := fun mz bz h1 h2 => by cases h1; cases h2; exact ⟨tk_X4_paidClaims, cw_in cw_X4_paidClaims rfl⟩
theorem G_55 : ∀ a, a < 55 → GA a := lt_s G_54 g_54
theorem g_55 : GA 55 := fun mz bz h1 h2 => by cases h1; cases h2; exact ⟨tk_X4_leftInAll, cw_in cw_X4_leftInAll rfl⟩
theorem G_56 : ∀ a, a < 56 → GA a := lt_s G_55 g_55
theorem g_56 : GA 56 := fun mz bz h1 h2 => by cases h1; cases h2; exact ⟨tk_X4_balanceOf, cw_in cw_X4_balanceOf rfl⟩
theorem G_57 : ∀ a, a < 57 → GA a := lt_s G_56 g_56
theorem g_57 : GA 57 := fun mz bz h1 h2 => by cases h1; cases h2; exact ⟨tk_X4_wordLacked, cw_in cw_X4_wordLacked rfl⟩
theorem G_58 : ∀ a, a < 58 → GA a := lt_s G_57 g_57
theorem g_58 : GA 58 := fun mz bz h1 h2 => by cases h1; cases h2; exact ⟨tk_X4_wordLacked_, cw_in cw_X4_wordLacked_ rfl⟩
theorem G_59 : ∀ a, a < 59 → GA a := lt_s G_58 g_58
theorem g_59 : GA 59 := fun mz bz h1 h2 => by cases h1; cases h2; exact ⟨tk_X4_mostOf, cw_in cw_X4_mostOf rfl⟩
theorem G_60 : ∀ a, a < 60 → GA a := lt_s G_59 g_59
theorem g_60 : GA 60 := fun mz bz h1 h2 => by cases h1; cases h2; exact ⟨tk_X4_takeGoods, cw_in cw_X4_takeGoods rfl⟩
theorem G_61 : ∀ a, a < 61 → GA a := lt_s G_60 g_60
theorem g_61 : GA 61 := fun mz bz h1 h2 => by cases h1; cases h2; exact ⟨tk_X4_saying, cw_in cw_X4_saying rfl⟩
theorem G_62 : ∀ a, a < 62 → GA a := lt_s G_61 g_61
theorem g_62 : GA 62 := fun mz bz h1 h2 => by cases h1; cases h2; exact ⟨tk_X4_kindTold, cw_in cw_X4_kindTold rfl⟩
theorem G_63 : ∀ a, a < 63 → GA a := lt_s G_62 g_62
theorem g_63 : GA 63 := fun mz bz h1 h2 => by cases h1; cases h2; exact ⟨tk_X5_init, cw_in cw_X5_init rfl⟩
theorem G_64 : ∀ a, a < 64 → GA a := lt_s G_63 g_63
theorem g_64 : GA 64 := fun mz bz h1 h2 => by cases h1; cases h2; exact ⟨tk_X5_coinOf, cw_in cw_X5_coinOf rfl⟩
theorem G_65 : ∀ a, a < 65 → GA a := lt_s G_64 g_64
theorem g_65 : GA 65 := fun mz bz h1 h2 => by cases h1; cases h2; exact ⟨tk_X5_menOut, cw_in cw_X5_menOut rfl⟩
theorem G_66 : ∀ a, a < 66 → GA a := lt_s G_65 g_65
theorem g_66 : GA 66 := fun mz bz h1 h2 => by cases h1; cases h2; exact ⟨tk_X5_fewestPayments, cw_in cw_X5_fewestPayments rfl⟩
theorem G_67 : ∀ a, a < 67 → GA a := lt_s G_66 g_66
theorem g_67 : GA 67 := fun mz bz h1 h2 => by cases h1; cases h2; exact ⟨tk_X5_mostGroups, cw_in cw_X5_mostGroups rfl⟩
theorem G_68 : ∀ a, a < 68 → GA a := lt_s G_67 g_67
theorem g_68 : GA 68 := fun mz bz h1 h2 => by cases h1; cases h2; exact ⟨tk_X6_init, cw_in cw_X6_init rfl⟩
theorem G_69 : ∀ a, a < 69 → GA a := lt_s G_68 g_68
theorem g_69 : GA 69 := fun mz bz h1 h2 => by cases h1; cases h2; exact ⟨tk_X6_hasRoom, cw_in cw_X6_hasRoom rfl⟩
theorem G_70 : ∀ a, a < 70 → GA a := lt_s G_69 g_69
theorem g_70 : GA 70 := fun mz bz h1 h2 => by cases h1; cases h2; exact ⟨tk_X6_take, cw_in cw_X6_take rfl⟩
theorem G_71 : ∀ a, a < 71 → GA a := lt_s G_70 g_70
theorem g_71 : GA 71 := fun mz bz h1 h2 => by cases h1; cases h2; exact ⟨tk_X6_empty, cw_in cw_X6_empty rfl⟩
theorem G_72 : ∀ a, a < 72 → GA a := lt_s G_71 g_71
theorem g_72 : GA 72 := fun mz bz h1 h2 => by cases h1; cases h2; exact ⟨tk_X6_readLand, cw_in cw_X6_readLand rfl⟩
theorem G_73 : ∀ a, a < 73 → GA a := lt_s G_72 g_72
theorem g_73 : GA 73 := fun mz bz h1 h2 => by cases h1; cases h2; exact ⟨tk_X6_fails, cw_in cw_X6_fails rfl⟩
theorem G_74 : ∀ a, a < 74 → GA a := lt_s G_73 g_73
theorem g_74 : GA 74 := fun mz bz h1 h2 => by cases h1; cases h2; exact ⟨tk_X6_wordTold, cw_in cw_X6_wordTold rfl⟩
theorem G_75 : ∀ a, a < 75 → GA a := lt_s G_74 g_74
theorem g_75 : GA 75 := fun mz bz h1 h2 => by cases h1; cases h2; exact ⟨tk_X6_isName, cw_in cw_X6_isName rfl⟩
theorem G_76 : ∀ a, a < 76 → GA a := lt_s G_75 g_75
theorem g_76 : GA 76 := fun mz bz h1 h2 => by cases h1; cases h2; exact ⟨tk_X6_readRow, cw_in cw_X6_readRow rfl⟩
theorem G_77 : ∀ a, a < 77 → GA a := lt_s G_76 g_76
theorem g_77 : GA 77 := fun mz bz h1 h2 => by cases h1; cases h2; exact ⟨tk_X6_readTown, cw_in cw_X6_readTown rfl⟩
theorem G_78 : ∀ a, a < 78 → GA a := lt_s G_77 g_77
theorem g_78 : GA 78 := fun mz bz h1 h2 => by cases h1; cases h2; exact ⟨tk_X6_readMan, cw_in cw_X6_readMan rfl⟩
theorem G_79 : ∀ a, a < 79 → GA a := lt_s G_78 g_78
theorem g_79 : GA 79 := fun mz bz h1 h2 => by cases h1; cases h2; exact ⟨tk_X6_readPair, cw_in cw_X6_readPair rfl⟩
theorem G_80 : ∀ a, a < 80 → GA a := lt_s G_79 g_79
theorem g_80 : GA 80 := fun mz bz h1 h2 => by cases h1; cases h2; exact ⟨tk_X6_readLaw, cw_in cw_X6_readLaw rfl⟩
theorem G_81 : ∀ a, a < 81 → GA a := lt_s G_80 g_80
theorem g_81 : GA 81 := fun mz bz h1 h2 => by cases h1; cases h2; exact ⟨tk_X6_readFair, cw_in cw_X6_readFair rfl⟩
theorem G_82 : ∀ a, a < 82 → GA a := lt_s G_81 g_81
theorem g_82 : GA 82 := fun mz bz h1 h2 => by cases h1; cases h2; exact ⟨tk_X6_readNumber, cw_in cw_X6_readNumber rfl⟩
theorem G_83 : ∀ a, a < 83 → GA a := lt_s G_82 g_82
theorem g_83 : GA 83 := fun mz bz h1 h2 => by cases h1; cases h2; exact ⟨tk_X6_readSemicolon, cw_in cw_X6_readSemicolon rfl⟩
theorem G_84 : ∀ a, a < 84 → GA a := lt_s G_83 g_83
theorem g_84 : GA 84 := fun mz bz h1 h2 => by cases h1; cases h2; exact ⟨tk_X6_nextToken, cw_in cw_X6_nextToken rfl⟩
theorem G_85 : ∀ a, a < 85 → GA a := lt_s G_84 g_84
theorem g_85 : GA 85 := fun mz bz h1 h2 => by cases h1; cases h2; exact ⟨tk_X6_sortAt, cw_in cw_X6_sortAt rfl⟩
theorem G_86 : ∀ a, a < 86 → GA a := lt_s G_85 g_85
theorem g_86 : GA 86 := fun mz bz h1 h2 => by cases h1; cases h2; exact ⟨tk_X7_init, cw_in cw_X7_init rfl⟩
theorem G_87 : ∀ a, a < 87 → GA a := lt_s G_86 g_86
theorem g_87 : GA 87 := fun mz bz h1 h2 => by cases h1; cases h2; exact ⟨tk_X7_isNumber, cw_in cw_X7_isNumber rfl⟩
theorem G_88 : ∀ a, a < 88 → GA a := lt_s G_87 g_87
theorem g_88 : GA 88 := fun mz bz h1 h2 => by cases h1; cases h2; exact ⟨tk_X7_isLane, cw_in cw_X7_isLane rfl⟩
theorem G_89 : ∀ a, a < 89 → GA a := lt_s G_88 g_88
theorem g_89 : GA 89 := fun mz bz h1 h2 => by cases h1; cases h2; exact ⟨tk_X7_isMissing, cw_in cw_X7_isMissing rfl⟩
theorem G_90 : ∀ a, a < 90 → GA a := lt_s G_89 g_89
theorem g_90 : GA 90 := fun mz bz h1 h2 => by cases h1; cases h2; exact ⟨tk_X7_laneOf, cw_in cw_X7_laneOf rfl⟩
theorem G_91 : ∀ a, a < 91 → GA a := lt_s G_90 g_90
theorem g_91 : GA 91 := fun mz bz h1 h2 => by cases h1; cases h2; exact ⟨tk_X7_hasRange, cw_in cw_X7_hasRange rfl⟩
theorem G_92 : ∀ a, a < 92 → GA a := lt_s G_91 g_91
theorem g_92 : GA 92 := fun mz bz h1 h2 => by cases h1; cases h2; exact ⟨tk_X7_item, cw_in cw_X7_item rfl⟩
theorem G_93 : ∀ a, a < 93 → GA a := lt_s G_92 g_92
theorem g_93 : GA 93 := fun mz bz h1 h2 => by cases h1; cases h2; exact ⟨tk_X7_renew, cw_in cw_X7_renew rfl⟩
theorem G_94 : ∀ a, a < 94 → GA a := lt_s G_93 g_93
theorem g_94 : GA 94 := fun mz bz h1 h2 => by cases h1; cases h2; exact ⟨tk_X7_put, cw_in cw_X7_put rfl⟩
theorem G_95 : ∀ a, a < 95 → GA a := lt_s G_94 g_94
theorem g_95 : GA 95 := fun mz bz h1 h2 => by cases h1; cases h2; exact ⟨tk_X7_move, cw_in cw_X7_move rfl⟩
theorem G_96 : ∀ a, a < 96 → GA a := lt_s G_95 g_95
theorem g_96 : GA 96 := fun mz bz h1 h2 => by cases h1; cases h2; exact ⟨tk_X7_remove, cw_in cw_X7_remove rfl⟩
theorem G_97 : ∀ a, a < 97 → GA a := lt_s G_96 g_96
theorem g_97 : GA 97 := fun mz bz h1 h2 => by cases h1; cases h2; exact ⟨tk_X7_present, cw_in cw_X7_present rfl⟩
theorem G_98 : ∀ a, a < 98 → GA a := lt_s G_97 g_97
theorem g_98 : GA 98 := fun mz bz h1 h2 => by cases h1; cases h2; exact ⟨tk_X8_init, cw_in cw_X8_init rfl⟩
theorem G_99 : ∀ a, a < 99 → GA a := lt_s G_98 g_98
theorem g_99 : GA 99 := fun mz bz h1 h2 => by cases h1; cases h2; exact ⟨tk_X8_fewestRoads, cw_in cw_X8_fewestRoads rfl⟩
theorem G_100 : ∀ a, a < 100 → GA a := lt_s G_99 g_99
theorem g_100 : GA 100 := fun mz bz h1 h2 => by cases h1; cases h2; exact ⟨tk_X8_openNeighbours, cw_in cw_X8_openNeighbours rfl⟩
theorem G_101 : ∀ a, a < 101 → GA a := lt_s G_100 g_100
theorem g_101 : GA 101 := fun mz bz h1 h2 => by cases h1; cases h2; exact ⟨tk_X8_fewestBars, cw_in cw_X8_fewestBars rfl⟩
theorem G_102 : ∀ a, a < 102 → GA a := lt_s G_101 g_101
theorem g_102 : GA 102 := fun mz bz h1 h2 => by cases h1; cases h2; exact ⟨tk_X8_walk, cw_in cw_X8_walk rfl⟩
theorem G_103 : ∀ a, a < 103 → GA a := lt_s G_102 g_102
theorem g_103 : GA 103 := fun mz bz h1 h2 => by cases h1; cases h2; exact ⟨tk_X8_choose, cw_in cw_X8_choose rfl⟩
theorem G_104 : ∀ a, a < 104 → GA a := lt_s G_103 g_103
theorem g_104 : GA 104 := fun mz bz h1 h2 => by cases h1; cases h2; exact ⟨tk_X8_findBars, cw_in cw_X8_findBars rfl⟩
theorem G_105 : ∀ a, a < 105 → GA a := lt_s G_104 g_104
theorem g_105 : GA 105 := fun mz bz h1 h2 => by cases h1; cases h2; exact ⟨tk_X8_isShutAt, cw_in cw_X8_isShutAt rfl⟩
theorem G_106 : ∀ a, a < 106 → GA a := lt_s G_105 g_105
theorem g_106 : GA 106 := fun mz bz h1 h2 => by cases h1; cases h2; exact ⟨tk_X8_deadPairs, cw_in cw_X8_deadPairs rfl⟩
theorem G_107 : ∀ a, a < 107 → GA a := lt_s G_106 g_106
theorem g_107 : GA 107 := fun mz bz h1 h2 => by cases h1; cases h2; exact ⟨tk_X9_init, cw_in cw_X9_init rfl⟩
theorem G_108 : ∀ a, a < 108 → GA a := lt_s G_107 g_107
theorem g_108 : GA 108 := fun mz bz h1 h2 => by cases h1; cases h2; exact ⟨tk_X9_sheet, cw_in cw_X9_sheet rfl⟩
theorem G_109 : ∀ a, a < 109 → GA a := lt_s G_108 g_108
theorem g_109 : GA 109 := fun mz bz h1 h2 => by cases h1; cases h2; exact ⟨tk_X9_set, cw_in cw_X9_set rfl⟩
theorem G_110 : ∀ a, a < 110 → GA a := lt_s G_109 g_109
theorem g_110 : GA 110 := fun mz bz h1 h2 => by cases h1; cases h2; exact ⟨tk_X9_copy, cw_in cw_X9_copy rfl⟩
theorem G_111 : ∀ a, a < 111 → GA a := lt_s G_110 g_110
theorem g_111 : GA 111 := fun mz bz h1 h2 => by cases h1; cases h2; exact ⟨tk_X9_drop, cw_in cw_X9_drop rfl⟩
theorem G_112 : ∀ a, a < 112 → GA a := lt_s G_111 g_111
theorem g_112 : GA 112 := fun mz bz h1 h2 => by cases h1; cases h2; exact ⟨tk_X9_feed, cw_in cw_X9_feed rfl⟩
theorem G_113 : ∀ a, a < 113 → GA a := lt_s G_112 g_112
theorem g_113 : GA 113 := fun mz bz h1 h2 => by cases h1; cases h2; exact ⟨tk_X9_land, cw_in cw_X9_land rfl⟩
theorem G_114 : ∀ a, a < 114 → GA a := lt_s G_113 g_113
theorem g_114 : GA 114 := fun mz bz h1 h2 => by cases h1; cases h2; exact ⟨tk_X9_fault, cw_in cw_X9_fault rfl⟩
theorem G_115 : ∀ a, a < 115 → GA a := lt_s G_114 g_114
theorem g_115 : GA 115 := fun mz bz h1 h2 => by cases h1; cases h2; exact ⟨tk_X9_later, cw_in cw_X9_later rfl⟩
theorem G_116 : ∀ a, a < 116 → GA a := lt_s G_115 g_115
theorem g_116 : GA 116 := fun mz bz h1 h2 => by cases h1; cases h2; exact ⟨tk_X9_goes, cw_in cw_X9_goes rfl⟩
theorem G_117 : ∀ a, a < 117 → GA a := lt_s G_116 g_116
theorem g_117 : GA 117 := fun mz bz h1 h2 => by cases h1; cases h2; exact ⟨tk_X9_man, cw_in cw_X9_man rfl⟩
theorem G_118 : ∀ a, a < 118 → GA a := lt_s G_117 g_117
theorem g_118 : GA 118 := fun mz bz h1 h2 => by cases h1; cases h2; exact ⟨tk_X9_law, cw_in cw_X9_law rfl⟩
theorem G_119 : ∀ a, a < 119 → GA a := lt_s G_118 g_118
theorem g_119 : GA 119 := fun mz bz h1 h2 => by cases h1; cases h2; exact ⟨tk_X9_pact, cw_in cw_X9_pact rfl⟩
theorem G_120 : ∀ a, a < 120 → GA a := lt_s G_119 g_119
theorem g_120 : GA 120 := fun mz bz h1 h2 => by cases h1; cases h2; exact ⟨tk_X9_debt, cw_in cw_X9_debt rfl⟩
theorem G_121 : ∀ a, a < 121 → GA a := lt_s G_120 g_120
theorem g_121 : GA 121 := fun mz bz h1 h2 => by cases h1; cases h2; exact ⟨tk_X9_debts, cw_in cw_X9_debts rfl⟩
theorem G_122 : ∀ a, a < 122 → GA a := lt_s G_121 g_121
theorem g_122 : GA 122 := fun mz bz h1 h2 => by cases h1; cases h2; exact ⟨tk_X9_ask, cw_in cw_X9_ask rfl⟩
theorem G_123 : ∀ a, a < 123 → GA a := lt_s G_122 g_122
theorem g_123 : GA 123 := fun mz bz h1 h2 => by cases h1; cases h2; exact ⟨tk_X9_letter, cw_in cw_X9_letter rfl⟩
theorem G_124 : ∀ a, a < 124 → GA a := lt_s G_123 g_123
theorem g_124 : GA 124 := fun mz bz h1 h2 => by cases h1; cases h2; exact ⟨tk_X9_pay, cw_in cw_X9_pay rfl⟩
theorem G_125 : ∀ a, a < 125 → GA a := lt_s G_124 g_124
theorem g_125 : GA 125 := fun mz bz h1 h2 => by cases h1; cases h2; exact ⟨tk_X9_claim, cw_in cw_X9_claim rfl⟩
theorem G_126 : ∀ a, a < 126 → GA a := lt_s G_125 g_125
theorem g_126 : GA 126 := fun mz bz h1 h2 => by cases h1; cases h2; exact ⟨tk_X9_may, cw_in cw_X9_may rfl⟩
theorem G_127 : ∀ a, a < 127 → GA a := lt_s G_126 g_126
theorem g_127 : GA 127 := fun mz bz h1 h2 => by cases h1; cases h2; exact ⟨tk_X9_seize, cw_in cw_X9_seize rfl⟩
theorem G_128 : ∀ a, a < 128 → GA a := lt_s G_127 g_127
theorem g_128 : GA 128 := fun mz bz h1 h2 => by cases h1; cases h2; exact ⟨tk_X9_swear, cw_in cw_X9_swear rfl⟩
theorem G_129 : ∀ a, a < 129 → GA a := lt_s G_128 g_128
theorem g_129 : GA 129 := fun mz bz h1 h2 => by cases h1; cases h2; exact ⟨tk_X9_says, cw_in cw_X9_says rfl⟩
theorem G_130 : ∀ a, a < 130 → GA a := lt_s G_129 g_129
theorem g_130 : GA 130 := fun mz bz h1 h2 => by cases h1; cases h2; exact ⟨tk_X9_grown, cw_in cw_X9_grown rfl⟩
theorem G_131 : ∀ a, a < 131 → GA a := lt_s G_130 g_130
theorem g_131 : GA 131 := fun mz bz h1 h2 => by cases h1; cases h2; exact ⟨tk_X9_net, cw_in cw_X9_net rfl⟩
theorem G_132 : ∀ a, a < 132 → GA a := lt_s G_131 g_131
theorem g_132 : GA 132 := fun mz bz h1 h2 => by cases h1; cases h2; exact ⟨tk_X9_way, cw_in cw_X9_way rfl⟩
theorem G_133 : ∀ a, a < 133 → GA a := lt_s G_132 g_132
theorem g_133 : GA 133 := fun mz bz h1 h2 => by cases h1; cases h2; exact ⟨tk_X9_opened, cw_in cw_X9_opened rfl⟩
theorem G_134 : ∀ a, a < 134 → GA a := lt_s G_133 g_133
theorem g_134 : GA 134 := fun mz bz h1 h2 => by cases h1; cases h2; exact ⟨tk_X9_shut, cw_in cw_X9_shut rfl⟩
theorem G_135 : ∀ a, a < 135 → GA a := lt_s G_134 g_134
theorem g_135 : GA 135 := fun mz bz h1 h2 => by cases h1; cases h2; exact ⟨tk_X9_dead, cw_in cw_X9_dead rfl⟩
theorem G_136 : ∀ a, a < 136 → GA a := lt_s G_135 g_135
theorem g_136 : GA 136 := fun mz bz h1 h2 => by cases h1; cases h2; exact ⟨tk_X9_owes, cw_in cw_X9_owes rfl⟩
theorem G_137 : ∀ a, a < 137 → GA a := lt_s G_136 g_136
theorem g_137 : GA 137 := fun mz bz h1 h2 => by cases h1; cases h2; exact ⟨tk_X9_rest, cw_in cw_X9_rest rfl⟩
theorem G_138 : ∀ a, a < 138 → GA a := lt_s G_137 g_137
theorem g_138 : GA 138 := fun mz bz h1 h2 => by cases h1; cases h2; exact ⟨tk_X9_has, cw_in cw_X9_has rfl⟩
theorem G_139 : ∀ a, a < 139 → GA a := lt_s G_138 g_138
theorem g_139 : GA 139 := fun mz bz h1 h2 => by cases h1; cases h2; exact ⟨tk_X9_holds, cw_in cw_X9_holds rfl⟩
theorem G_140 : ∀ a, a < 140 → GA a := lt_s G_139 g_139
theorem g_140 : GA 140 := fun mz bz h1 h2 => by cases h1; cases h2; exact ⟨tk_X9_reform, cw_in cw_X9_reform rfl⟩
theorem G_141 : ∀ a, a < 141 → GA a := lt_s G_140 g_140
theorem g_141 : GA 141 := fun mz bz h1 h2 => by cases h1; cases h2; exact ⟨tk_X9_image, cw_in cw_X9_image rfl⟩
theorem G_142 : ∀ a, a < 142 → GA a := lt_s G_141 g_141
theorem g_142 : GA 142 := fun mz bz h1 h2 => by cases h1; cases h2; exact ⟨tk_X9_restore, cw_in cw_X9_restore rfl⟩
theorem G_143 : ∀ a, a < 143 → GA a := lt_s G_142 g_142
theorem g_143 : GA 143 := fun mz bz h1 h2 => by cases h1; cases h2; exact ⟨tk_X9_kind, cw_in cw_X9_kind rfl⟩
theorem G_144 : ∀ a, a < 144 → GA a := lt_s G_143 g_143
theorem g_144 : GA 144 := fun mz bz h1 h2 => by cases h1; cases h2; exact ⟨tk_X9_as, cw_in cw_X9_as rfl⟩
theorem G_145 : ∀ a, a < 145 → GA a := lt_s G_144 g_144
theorem g_145 : GA 145 := fun mz bz h1 h2 => by cases h1; cases h2; exact ⟨tk_X9_asks, cw_in cw_X9_asks rfl⟩
theorem G_146 : ∀ a, a < 146 → GA a := lt_s G_145 g_145
theorem g_146 : GA 146 := fun mz bz h1 h2 => by cases h1; cases h2; exact ⟨tk_X9_trace, cw_in cw_X9_trace rfl⟩
theorem G_147 : ∀ a, a < 147 → GA a := lt_s G_146 g_146
theorem g_147 : GA 147 := fun mz bz h1 h2 => by cases h1; cases h2; exact ⟨tk_X9_count, cw_in cw_X9_count rfl⟩
theorem G_148 : ∀ a, a < 148 → GA a := lt_s G_147 g_147
theorem g_148 : GA 148 := fun mz bz h1 h2 => by cases h1; cases h2; exact ⟨tk_X9_status, cw_in cw_X9_status rfl⟩
theorem G_149 : ∀ a, a < 149 → GA a := lt_s G_148 g_148
theorem g_149 : GA 149 := fun mz bz h1 h2 => by cases h1; cases h2; exact ⟨tk_X9_found, cw_in cw_X9_found rfl⟩
theorem G_150 : ∀ a, a < 150 → GA a := lt_s G_149 g_149
theorem g_150 : GA 150 := fun mz bz h1 h2 => by cases h1; cases h2; exact ⟨tk_X9_unfound, cw_in cw_X9_unfound rfl⟩
theorem G_151 : ∀ a, a < 151 → GA a := lt_s G_150 g_150
theorem g_151 : GA 151 := fun mz bz h1 h2 => by cases h1; cases h2; exact ⟨tk_X9_isYesOrNo, cw_in cw_X9_isYesOrNo rfl⟩
theorem G_152 : ∀ a, a < 152 → GA a := lt_s G_151 g_151
theorem g_152 : GA 152 := fun mz bz h1 h2 => by cases h1; cases h2; exact ⟨tk_X9_isSum, cw_in cw_X9_isSum rfl⟩
theorem G_153 : ∀ a, a < 153 → GA a := lt_s G_152 g_152
theorem g_153 : GA 153 := fun mz bz h1 h2 => by cases h1; cases h2; exact ⟨tk_X9_isKindOf, cw_in cw_X9_isKindOf rfl⟩
theorem G_154 : ∀ a, a < 154 → GA a := lt_s G_153 g_153
theorem g_154 : GA 154 := fun mz bz h1 h2 => by cases h1; cases h2; exact ⟨tk_X10_init, cw_in cw_X10_init rfl⟩
theorem G_155 : ∀ a, a < 155 → GA a := lt_s G_154 g_154
theorem g_155 : GA 155 := fun mz bz h1 h2 => by cases h1; cases h2; exact ⟨tk_X10_in, cw_in cw_X10_in rfl⟩
theorem G_156 : ∀ a, a < 156 → GA a := lt_s G_155 g_155
theorem g_156 : GA 156 := fun mz bz h1 h2 => by cases h1; cases h2; exact ⟨tk_X10_finding, cw_in cw_X10_finding rfl⟩
theorem G_157 : ∀ a, a < 157 → GA a := lt_s G_156 g_156
theorem g_157 : GA 157 := fun mz bz h1 h2 => by cases h1; cases h2; exact ⟨tk_X10_isSheet, cw_in cw_X10_isSheet rfl⟩
theorem G_158 : ∀ a, a < 158 → GA a := lt_s G_157 g_157
theorem g_158 : GA 158 := fun mz bz h1 h2 => by cases h1; cases h2; exact ⟨tk_X10_sheet, cw_in cw_X10_sheet rfl⟩
theorem G_159 : ∀ a, a < 159 → GA a := lt_s G_158 g_158
theorem g_159 : GA 159 := fun mz bz h1 h2 => by cases h1; cases h2; exact ⟨tk_X10_set, cw_in cw_X10_set rfl⟩
theorem G_160 : ∀ a, a < 160 → GA a := lt_s G_159 g_159
theorem g_160 : GA 160 := fun mz bz h1 h2 => by cases h1; cases h2; exact ⟨tk_X10_copy, cw_in cw_X10_copy rfl⟩
theorem G_161 : ∀ a, a < 161 → GA a := lt_s G_160 g_160
theorem g_161 : GA 161 := fun mz bz h1 h2 => by cases h1; cases h2; exact ⟨tk_X10_drop, cw_in cw_X10_drop rfl⟩
theorem G_162 : ∀ a, a < 162 → GA a := lt_s G_161 g_161
theorem g_162 : GA 162 := fun mz bz h1 h2 => by cases h1; cases h2; exact ⟨tk_X10_feed, cw_in cw_X10_feed rfl⟩
theorem G_163 : ∀ a, a < 163 → GA a := lt_s G_162 g_162
theorem g_163 : GA 163 := fun mz bz h1 h2 => by cases h1; cases h2; exact ⟨tk_X10_byteAt, cw_in cw_X10_byteAt rfl⟩
theorem G_164 : ∀ a, a < 164 → GA a := lt_s G_163 g_163
theorem g_164 : GA 164 := fun mz bz h1 h2 => by cases h1; cases h2; exact ⟨tk_X10_isLetter, cw_in cw_X10_isLetter rfl⟩
theorem G_165 : ∀ a, a < 165 → GA a := lt_s G_164 g_164
theorem g_165 : GA 165 := fun mz bz h1 h2 => by cases h1; cases h2; exact ⟨tk_X10_isFigure, cw_in cw_X10_isFigure rfl⟩
theorem G_166 : ∀ a, a < 166 → GA a := lt_s G_165 g_165
theorem g_166 : GA 166 := fun mz bz h1 h2 => by cases h1; cases h2; exact ⟨tk_X10_next, cw_in cw_X10_next rfl⟩
theorem G_167 : ∀ a, a < 167 → GA a := lt_s G_166 g_166
theorem g_167 : GA 167 := fun mz bz h1 h2 => by cases h1; cases h2; exact ⟨tk_X10_bad, cw_in cw_X10_bad rfl⟩
theorem G_168 : ∀ a, a < 168 → GA a := lt_s G_167 g_167
theorem g_168 : GA 168 := fun mz bz h1 h2 => by cases h1; cases h2; exact ⟨tk_X10_must, cw_in cw_X10_must rfl⟩
theorem G_169 : ∀ a, a < 169 → GA a := lt_s G_168 g_168
theorem g_169 : GA 169 := fun mz bz h1 h2 => by cases h1; cases h2; exact ⟨tk_X10_word, cw_in cw_X10_word rfl⟩
theorem G_170 : ∀ a, a < 170 → GA a := lt_s G_169 g_169
theorem g_170 : GA 170 := fun mz bz h1 h2 => by cases h1; cases h2; exact ⟨tk_X10_numberIn, cw_in cw_X10_numberIn rfl⟩
theorem G_171 : ∀ a, a < 171 → GA a := lt_s G_170 g_170
theorem g_171 : GA 171 := fun mz bz h1 h2 => by cases h1; cases h2; exact ⟨tk_X10_town, cw_in cw_X10_town rfl⟩
theorem G_172 : ∀ a, a < 172 → GA a := lt_s G_171 g_171
theorem g_172 : GA 172 := fun mz bz h1 h2 => by cases h1; cases h2; exact ⟨tk_X10_begins, cw_in cw_X10_begins rfl⟩
theorem G_173 : ∀ a, a < 173 → GA a := lt_s G_172 g_172
theorem g_173 : GA 173 := fun mz bz h1 h2 => by cases h1; cases h2; exact ⟨tk_X10_ends, cw_in cw_X10_ends rfl⟩
theorem G_174 : ∀ a, a < 174 → GA a := lt_s G_173 g_173
theorem g_174 : GA 174 := fun mz bz h1 h2 => by cases h1; cases h2; exact ⟨tk_X10_readTown, cw_in cw_X10_readTown rfl⟩
theorem G_175 : ∀ a, a < 175 → GA a := lt_s G_174 g_174
theorem g_175 : GA 175 := fun mz bz h1 h2 => by cases h1; cases h2; exact ⟨tk_X10_readMan, cw_in cw_X10_readMan rfl⟩
theorem G_176 : ∀ a, a < 176 → GA a := lt_s G_175 g_175
theorem g_176 : GA 176 := fun mz bz h1 h2 => by cases h1; cases h2; exact ⟨tk_X10_readTwo, cw_in cw_X10_readTwo rfl⟩
theorem G_177 : ∀ a, a < 177 → GA a := lt_s G_176 g_176
theorem g_177 : GA 177 := fun mz bz h1 h2 => by cases h1; cases h2; exact ⟨tk_X10_readLaw, cw_in cw_X10_readLaw rfl⟩
theorem G_178 : ∀ a, a < 178 → GA a := lt_s G_177 g_177
theorem g_178 : GA 178 := fun mz bz h1 h2 => by cases h1; cases h2; exact ⟨tk_X10_readFair, cw_in cw_X10_readFair rfl⟩
theorem G_179 : ∀ a, a < 179 → GA a := lt_s G_178 g_178
theorem g_179 : GA 179 := fun mz bz h1 h2 => by cases h1; cases h2; exact ⟨tk_X10_land, cw_in cw_X10_land rfl⟩
theorem G_180 : ∀ a, a < 180 → GA a := lt_s G_179 g_179
theorem g_180 : GA 180 := fun mz bz h1 h2 => by cases h1; cases h2; exact ⟨tk_X10_fault, cw_in cw_X10_fault rfl⟩
theorem G_181 : ∀ a, a < 181 → GA a := lt_s G_180 g_180
theorem g_181 : GA 181 := fun mz bz h1 h2 => by cases h1; cases h2; exact ⟨tk_X10_isTown, cw_in cw_X10_isTown rfl⟩
theorem G_182 : ∀ a, a < 182 → GA a := lt_s G_181 g_181
theorem g_182 : GA 182 := fun mz bz h1 h2 => by cases h1; cases h2; exact ⟨tk_X10_isMan, cw_in cw_X10_isMan rfl⟩
theorem G_183 : ∀ a, a < 183 → GA a := lt_s G_182 g_182
theorem g_183 : GA 183 := fun mz bz h1 h2 => by cases h1; cases h2; exact ⟨tk_X10_isClaim, cw_in cw_X10_isClaim rfl⟩
theorem G_184 : ∀ a, a < 184 → GA a := lt_s G_183 g_183
theorem g_184 : GA 184 := fun mz bz h1 h2 => by cases h1; cases h2; exact ⟨tk_X10_of, cw_in cw_X10_of rfl⟩
theorem G_185 : ∀ a, a < 185 → GA a := lt_s G_184 g_184
theorem g_185 : GA 185 := fun mz bz h1 h2 => by cases h1; cases h2; exact ⟨tk_X10_told, cw_in cw_X10_told rfl⟩
theorem G_186 : ∀ a, a < 186 → GA a := lt_s G_185 g_185
theorem g_186 : GA 186 := fun mz bz h1 h2 => by cases h1; cases h2; exact ⟨tk_X10_tell, cw_in cw_X10_tell rfl⟩
theorem G_187 : ∀ a, a < 187 → GA a := lt_s G_186 g_186
theorem g_187 : GA 187 := fun mz bz h1 h2 => by cases h1; cases h2; exact ⟨tk_X10_lawOf, cw_in cw_X10_lawOf rfl⟩
theorem G_188 : ∀ a, a < 188 → GA a := lt_s G_187 g_187
theorem g_188 : GA 188 := fun mz bz h1 h2 => by cases h1; cases h2; exact ⟨tk_X10_havePact, cw_in cw_X10_havePact rfl⟩
theorem G_189 : ∀ a, a < 189 → GA a := lt_s G_188 g_188
theorem g_189 : GA 189 := fun mz bz h1 h2 => by cases h1; cases h2; exact ⟨tk_X10_later, cw_in cw_X10_later rfl⟩
theorem G_190 : ∀ a, a < 190 → GA a := lt_s G_189 g_189
theorem g_190 : GA 190 := fun mz bz h1 h2 => by cases h1; cases h2; exact ⟨tk_X10_goes, cw_in cw_X10_goes rfl⟩
theorem G_191 : ∀ a, a < 191 → GA a := lt_s G_190 g_190
theorem g_191 : GA 191 := fun mz bz h1 h2 => by cases h1; cases h2; exact ⟨tk_X10_balance, cw_in cw_X10_balance rfl⟩
theorem G_192 : ∀ a, a < 192 → GA a := lt_s G_191 g_191
theorem g_192 : GA 192 := fun mz bz h1 h2 => by cases h1; cases h2; exact ⟨tk_X10_man, cw_in cw_X10_man rfl⟩
theorem G_193 : ∀ a, a < 193 → GA a := lt_s G_192 g_192
theorem g_193 : GA 193 := fun mz bz h1 h2 => by cases h1; cases h2; exact ⟨tk_X10_law, cw_in cw_X10_law rfl⟩
theorem G_194 : ∀ a, a < 194 → GA a := lt_s G_193 g_193
theorem g_194 : GA 194 := fun mz bz h1 h2 => by cases h1; cases h2; exact ⟨tk_X10_pact, cw_in cw_X10_pact rfl⟩
theorem G_195 : ∀ a, a < 195 → GA a := lt_s G_194 g_194
theorem g_195 : GA 195 := fun mz bz h1 h2 => by cases h1; cases h2; exact ⟨tk_X10_newClaim, cw_in cw_X10_newClaim rfl⟩
theorem G_196 : ∀ a, a < 196 → GA a := lt_s G_195 g_195
theorem g_196 : GA 196 := fun mz bz h1 h2 => by cases h1; cases h2; exact ⟨tk_X10_isDebt, cw_in cw_X10_isDebt rfl⟩
theorem G_197 : ∀ a, a < 197 → GA a := lt_s G_196 g_196
theorem g_197 : GA 197 := fun mz bz h1 h2 => by cases h1; cases h2; exact ⟨tk_X10_debt, cw_in cw_X10_debt rfl⟩
theorem G_198 : ∀ a, a < 198 → GA a := lt_s G_197 g_197
theorem g_198 : GA 198 := fun mz bz h1 h2 => by cases h1; cases h2; exact ⟨tk_X10_debts, cw_in cw_X10_debts rfl⟩
theorem G_199 : ∀ a, a < 199 → GA a := lt_s G_198 g_198
theorem g_199 : GA 199 := fun mz bz h1 h2 => by cases h1; cases h2; exact ⟨tk_X10_ask, cw_in cw_X10_ask rfl⟩
theorem G_200 : ∀ a, a < 200 → GA a := lt_s G_199 g_199
theorem g_200 : GA 200 := fun mz bz h1 h2 => by cases h1; cases h2; exact ⟨tk_X10_letter, cw_in cw_X10_letter rfl⟩
theorem G_201 : ∀ a, a < 201 → GA a := lt_s G_200 g_200
theorem g_201 : GA 201 := fun mz bz h1 h2 => by cases h1; cases h2; exact ⟨tk_X10_pay, cw_in cw_X10_pay rfl⟩
theorem G_202 : ∀ a, a < 202 → GA a := lt_s G_201 g_201
theorem g_202 : GA 202 := fun mz bz h1 h2 => by cases h1; cases h2; exact ⟨tk_X10_claim, cw_in cw_X10_claim rfl⟩
theorem G_203 : ∀ a, a < 203 → GA a := lt_s G_202 g_202
theorem g_203 : GA 203 := fun mz bz h1 h2 => by cases h1; cases h2; exact ⟨tk_X10_isFair, cw_in cw_X10_isFair rfl⟩
theorem G_204 : ∀ a, a < 204 → GA a := lt_s G_203 g_203
theorem g_204 : GA 204 := fun mz bz h1 h2 => by cases h1; cases h2; exact ⟨tk_X10_isLetterGood, cw_in cw_X10_isLetterGood rfl⟩
theorem G_205 : ∀ a, a < 205 → GA a := lt_s G_204 g_204
theorem g_205 : GA 205 := fun mz bz h1 h2 => by cases h1; cases h2; exact ⟨tk_X10_lacks, cw_in cw_X10_lacks rfl⟩
theorem G_206 : ∀ a, a < 206 → GA a := lt_s G_205 g_205
theorem g_206 : GA 206 := fun mz bz h1 h2 => by cases h1; cases h2; exact ⟨tk_X10_lacksOf, cw_in cw_X10_lacksOf rfl⟩
theorem G_207 : ∀ a, a < 207 → GA a := lt_s G_206 g_206
theorem g_207 : GA 207 := fun mz bz h1 h2 => by cases h1; cases h2; exact ⟨tk_X10_mostOf, cw_in cw_X10_mostOf rfl⟩
theorem G_208 : ∀ a, a < 208 → GA a := lt_s G_207 g_207
theorem g_208 : GA 208 := fun mz bz h1 h2 => by cases h1; cases h2; exact ⟨tk_X10_may, cw_in cw_X10_may rfl⟩
theorem G_209 : ∀ a, a < 209 → GA a := lt_s G_208 g_208
theorem g_209 : GA 209 := fun mz bz h1 h2 => by cases h1; cases h2; exact ⟨tk_X10_take, cw_in cw_X10_take rfl⟩
theorem G_210 : ∀ a, a < 210 → GA a := lt_s G_209 g_209
theorem g_210 : GA 210 := fun mz bz h1 h2 => by cases h1; cases h2; exact ⟨tk_X10_seize, cw_in cw_X10_seize rfl⟩
theorem G_211 : ∀ a, a < 211 → GA a := lt_s G_210 g_210
theorem g_211 : GA 211 := fun mz bz h1 h2 => by cases h1; cases h2; exact ⟨tk_X10_swear, cw_in cw_X10_swear rfl⟩
theorem G_212 : ∀ a, a < 212 → GA a := lt_s G_211 g_211
theorem g_212 : GA 212 := fun mz bz h1 h2 => by cases h1; cases h2; exact ⟨tk_X10_says, cw_in cw_X10_says rfl⟩
theorem G_213 : ∀ a, a < 213 → GA a := lt_s G_212 g_212
theorem g_213 : GA 213 := fun mz bz h1 h2 => by cases h1; cases h2; exact ⟨tk_X10_hold, cw_in cw_X10_hold rfl⟩
theorem G_214 : ∀ a, a < 214 → GA a := lt_s G_213 g_213
theorem g_214 : GA 214 := fun mz bz h1 h2 => by cases h1; cases h2; exact ⟨tk_X10_layBack, cw_in cw_X10_layBack rfl⟩
theorem G_215 : ∀ a, a < 215 → GA a := lt_s G_214 g_214
theorem g_215 : GA 215 := fun mz bz h1 h2 => by cases h1; cases h2; exact ⟨tk_X10_grow, cw_in cw_X10_grow rfl⟩
theorem G_216 : ∀ a, a < 216 → GA a := lt_s G_215 g_215
theorem g_216 : GA 216 := fun mz bz h1 h2 => by cases h1; cases h2; exact ⟨tk_X10_allLeft, cw_in cw_X10_allLeft rfl⟩
theorem G_217 : ∀ a, a < 217 → GA a := lt_s G_216 g_216
theorem g_217 : GA 217 := fun mz bz h1 h2 => by cases h1; cases h2; exact ⟨tk_X10_grown, cw_in cw_X10_grown rfl⟩
theorem G_218 : ∀ a, a < 218 → GA a := lt_s G_217 g_217
theorem g_218 : GA 218 := fun mz bz h1 h2 => by cases h1; cases h2; exact ⟨tk_X10_reform, cw_in cw_X10_reform rfl⟩
theorem G_219 : ∀ a, a < 219 → GA a := lt_s G_218 g_218
theorem g_219 : GA 219 := fun mz bz h1 h2 => by cases h1; cases h2; exact ⟨tk_X10_hasOpen, cw_in cw_X10_hasOpen rfl⟩
theorem G_220 : ∀ a, a < 220 → GA a := lt_s G_219 g_219
theorem g_220 : GA 220 := fun mz bz h1 h2 => by cases h1; cases h2; exact ⟨tk_X10_payments, cw_in cw_X10_payments rfl⟩
theorem G_221 : ∀ a, a < 221 → GA a := lt_s G_220 g_220
theorem g_221 : GA 221 := fun mz bz h1 h2 => by cases h1; cases h2; exact ⟨tk_X10_net, cw_in cw_X10_net rfl⟩
theorem G_222 : ∀ a, a < 222 → GA a := lt_s G_221 g_221
theorem g_222 : GA 222 := fun mz bz h1 h2 => by cases h1; cases h2; exact ⟨tk_X10_against, cw_in cw_X10_against rfl⟩
theorem G_223 : ∀ a, a < 223 → GA a := lt_s G_222 g_222
theorem g_223 : GA 223 := fun mz bz h1 h2 => by cases h1; cases h2; exact ⟨tk_X10_isRoad, cw_in cw_X10_isRoad rfl⟩
theorem G_224 : ∀ a, a < 224 → GA a := lt_s G_223 g_223
theorem g_224 : GA 224 := fun mz bz h1 h2 => by cases h1; cases h2; exact ⟨tk_X10_way, cw_in cw_X10_way rfl⟩
theorem G_225 : ∀ a, a < 225 → GA a := lt_s G_224 g_224
theorem g_225 : GA 225 := fun mz bz h1 h2 => by cases h1; cases h2; exact ⟨tk_X10_bits, cw_in cw_X10_bits rfl⟩
theorem G_226 : ∀ a, a < 226 → GA a := lt_s G_225 g_225
theorem g_226 : GA 226 := fun mz bz h1 h2 => by cases h1; cases h2; exact ⟨tk_X10_opened, cw_in cw_X10_opened rfl⟩
theorem G_227 : ∀ a, a < 227 → GA a := lt_s G_226 g_226
theorem g_227 : GA 227 := fun mz bz h1 h2 => by cases h1; cases h2; exact ⟨tk_X10_isShut, cw_in cw_X10_isShut rfl⟩
theorem G_228 : ∀ a, a < 228 → GA a := lt_s G_227 g_227
theorem g_228 : GA 228 := fun mz bz h1 h2 => by cases h1; cases h2; exact ⟨tk_X10_shut, cw_in cw_X10_shut rfl⟩
theorem G_229 : ∀ a, a < 229 → GA a := lt_s G_228 g_228
theorem g_229 : GA 229 := fun mz bz h1 h2 => by cases h1; cases h2; exact ⟨tk_X10_dead, cw_in cw_X10_dead rfl⟩
theorem G_230 : ∀ a, a < 230 → GA a := lt_s G_229 g_229
theorem g_230 : GA 230 := fun mz bz h1 h2 => by cases h1; cases h2; exact ⟨tk_X10_layBetween, cw_in cw_X10_layBetween rfl⟩
theorem G_231 : ∀ a, a < 231 → GA a := lt_s G_230 g_230
theorem g_231 : GA 231 := fun mz bz h1 h2 => by cases h1; cases h2; exact ⟨tk_X10_owesOf, cw_in cw_X10_owesOf rfl⟩
theorem G_232 : ∀ a, a < 232 → GA a := lt_s G_231 g_231
theorem g_232 : GA 232 := fun mz bz h1 h2 => by cases h1; cases h2; exact ⟨tk_X10_owes, cw_in cw_X10_owes rfl⟩
theorem G_233 : ∀ a, a < 233 → GA a := lt_s G_232 g_232
theorem g_233 : GA 233 := fun mz bz h1 h2 => by cases h1; cases h2; exact ⟨tk_X10_hasOf, cw_in cw_X10_hasOf rfl⟩
theorem G_234 : ∀ a, a < 234 → GA a := lt_s G_233 g_233
theorem g_234 : GA 234 := fun mz bz h1 h2 => by cases h1; cases h2; exact ⟨tk_X10_allChoices, cw_in cw_X10_allChoices rfl⟩
theorem G_235 : ∀ a, a < 235 → GA a := lt_s G_234 g_234
theorem g_235 : GA 235 := fun mz bz h1 h2 => by cases h1; cases h2; exact ⟨tk_X10_layChoices, cw_in cw_X10_layChoices rfl⟩
theorem G_236 : ∀ a, a < 236 → GA a := lt_s G_235 g_235
theorem g_236 : GA 236 := fun mz bz h1 h2 => by cases h1; cases h2; exact ⟨tk_X10_isAtRest, cw_in cw_X10_isAtRest rfl⟩
theorem G_237 : ∀ a, a < 237 → GA a := lt_s G_236 g_236
theorem g_237 : GA 237 := fun mz bz h1 h2 => by cases h1; cases h2; exact ⟨tk_X10_rest, cw_in cw_X10_rest rfl⟩
theorem G_238 : ∀ a, a < 238 → GA a := lt_s G_237 g_237
theorem g_238 : GA 238 := fun mz bz h1 h2 => by cases h1; cases h2; exact ⟨tk_X10_has, cw_in cw_X10_has rfl⟩
theorem G_239 : ∀ a, a < 239 → GA a := lt_s G_238 g_238
theorem g_239 : GA 239 := fun mz bz h1 h2 => by cases h1; cases h2; exact ⟨tk_X10_bears, cw_in cw_X10_bears rfl⟩
theorem G_240 : ∀ a, a < 240 → GA a := lt_s G_239 g_239
theorem g_240 : GA 240 := fun mz bz h1 h2 => by cases h1; cases h2; exact ⟨tk_X10_holds, cw_in cw_X10_holds rfl⟩
theorem G_241 : ∀ a, a < 241 → GA a := lt_s G_240 g_240
theorem g_241 : GA 241 := fun mz bz h1 h2 => by cases h1; cases h2; exact ⟨tk_X10_image, cw_in cw_X10_image rfl⟩
theorem G_242 : ∀ a, a < 242 → GA a := lt_s G_241 g_241
theorem g_242 : GA 242 := fun mz bz h1 h2 => by cases h1; cases h2; exact ⟨tk_X10_restore, cw_in cw_X10_restore rfl⟩
theorem G_243 : ∀ a, a < 243 → GA a := lt_s G_242 g_242
theorem g_243 : GA 243 := fun mz bz h1 h2 => by cases h1; cases h2; exact ⟨tk_X10_kindOf, cw_in cw_X10_kindOf rfl⟩
theorem G_244 : ∀ a, a < 244 → GA a := lt_s G_243 g_243
theorem g_244 : GA 244 := fun mz bz h1 h2 => by cases h1; cases h2; exact ⟨tk_X10_isOf, cw_in cw_X10_isOf rfl⟩
theorem G_245 : ∀ a, a < 245 → GA a := lt_s G_244 g_244
theorem g_245 : GA 245 := fun mz bz h1 h2 => by cases h1; cases h2; exact ⟨tk_X10_kind, cw_in cw_X10_kind rfl⟩
theorem G_246 : ∀ a, a < 246 → GA a := lt_s G_245 g_245
theorem g_246 : GA 246 := fun mz bz h1 h2 => by cases h1; cases h2; exact ⟨tk_X10_as, cw_in cw_X10_as rfl⟩
theorem G_247 : ∀ a, a < 247 → GA a := lt_s G_246 g_246
theorem g_247 : GA 247 := fun mz bz h1 h2 => by cases h1; cases h2; exact ⟨tk_X10_began, cw_in cw_X10_began rfl⟩
theorem G_248 : ∀ a, a < 248 → GA a := lt_s G_247 g_247
theorem g_248 : GA 248 := fun mz bz h1 h2 => by cases h1; cases h2; exact ⟨tk_X10_townSize, cw_in cw_X10_townSize rfl⟩
theorem G_249 : ∀ a, a < 249 → GA a := lt_s G_248 g_248
theorem g_249 : GA 249 := fun mz bz h1 h2 => by cases h1; cases h2; exact ⟨tk_X10_ownMark, cw_in cw_X10_ownMark rfl⟩
theorem G_250 : ∀ a, a < 250 → GA a := lt_s G_249 g_249
theorem g_250 : GA 250 := fun mz bz h1 h2 => by cases h1; cases h2; exact ⟨tk_X10_sizeOf, cw_in cw_X10_sizeOf rfl⟩
theorem G_251 : ∀ a, a < 251 → GA a := lt_s G_250 g_250
theorem g_251 : GA 251 := fun mz bz h1 h2 => by cases h1; cases h2; exact ⟨tk_X10_markOf, cw_in cw_X10_markOf rfl⟩
theorem G_252 : ∀ a, a < 252 → GA a := lt_s G_251 g_251
theorem g_252 : GA 252 := fun mz bz h1 h2 => by cases h1; cases h2; exact ⟨tk_X10_asks, cw_in cw_X10_asks rfl⟩
theorem G_253 : ∀ a, a < 253 → GA a := lt_s G_252 g_252
theorem g_253 : GA 253 := fun mz bz h1 h2 => by cases h1; cases h2; exact ⟨tk_X10_trace, cw_in cw_X10_trace rfl⟩
theorem G_254 : ∀ a, a < 254 → GA a := lt_s G_253 g_253
theorem g_254 : GA 254 := fun mz bz h1 h2 => by cases h1; cases h2; exact ⟨tk_X10_pairs, cw_in cw_X10_pairs rfl⟩
theorem G_255 : ∀ a, a < 255 → GA a := lt_s G_254 g_254
theorem g_255 : GA 255 := fun mz bz h1 h2 => by cases h1; cases h2; exact ⟨tk_X10_count, cw_in cw_X10_count rfl⟩
theorem G_256 : ∀ a, a < 256 → GA a := lt_s G_255 g_255
theorem g_256 : GA 256 := fun mz bz h1 h2 => by cases h1; cases h2; exact ⟨tk_X10_status, cw_in cw_X10_status rfl⟩
theorem G_257 : ∀ a, a < 257 → GA a := lt_s G_256 g_256
theorem g_257 : GA 257 := fun mz bz h1 h2 => by cases h1; cases h2; exact ⟨tk_J6_compare_7cf53, cw_in cw_J6_compare_7cf53 rfl⟩
theorem G_258 : ∀ a, a < 258 → GA a := lt_s G_257 g_257
theorem g_258 : GA 258 := fun mz bz h1 h2 => by cases h1; cases h2; exact ⟨tk_J6_bitCount_0f7a4, cw_in cw_J6_bitCount_0f7a4 rfl⟩
theorem G_259 : ∀ a, a < 259 → GA a := lt_s G_258 g_258
theorem g_259 : GA 259 := fun mz bz h1 h2 => by cases h1; cases h2; exact ⟨tk_J0_length_8abf5, cw_in cw_J0_length_8abf5 rfl⟩
theorem G_260 : ∀ a, a < 260 → GA a := lt_s G_259 g_259
theorem g_260 : GA 260 := fun mz bz h1 h2 => by cases h1; cases h2; exact ⟨tk_J0_charAt_5068e, cw_in cw_J0_charAt_5068e rfl⟩
theorem G_261 : ∀ a, a < 261 → GA a := lt_s G_260 g_260
theorem g_261 : GA 261 := fun mz bz h1 h2 => by cases h1; cases h2; exact ⟨tk_J0_coder_7d493, cw_in cw_J0_coder_7d493 rfl⟩
theorem G_262 : ∀ a, a < 262 → GA a := lt_s G_261 g_261
theorem g_262 : GA 262 := fun mz bz h1 h2 => by cases h1; cases h2; exact ⟨tk_J0_isLatin1_aae02, cw_in cw_J0_isLatin1_aae02 rfl⟩
theorem G_263 : ∀ a, a < 263 → GA a := lt_s G_262 g_262
theorem g_263 : GA 263 := fun mz bz h1 h2 => by cases h1; cases h2; exact ⟨tk_J1_charAt_3b067, cw_in cw_J1_charAt_3b067 rfl⟩
theorem G_264 : ∀ a, a < 264 → GA a := lt_s G_263 g_263
theorem g_264 : GA 264 := fun mz bz h1 h2 => by cases h1; cases h2; exact ⟨tk_J7_rangeCheck_23922, cw_in cw_J7_rangeCheck_23922 rfl⟩
theorem G_265 : ∀ a, a < 265 → GA a := lt_s G_264 g_264
theorem g_265 : GA 265 := fun mz bz h1 h2 => by cases h1; cases h2; exact ⟨tk_J7_fill_53178, cw_in cw_J7_fill_53178 rfl⟩
theorem G_266 : ∀ a, a < 266 → GA a := lt_s G_265 g_265
theorem g_266 : GA 266 := fun mz bz h1 h2 => by cases h1; cases h2; exact ⟨tk_J7_fill_fda19, cw_in cw_J7_fill_fda19 rfl⟩
theorem G_267 : ∀ a, a < 267 → GA a := lt_s G_266 g_266
theorem gd : Gd := by
  intro z mz bz hz hmz hbz
  obtain ⟨h1, h2⟩ := G_267 z hz mz bz hmz hbz
  exact ⟨h1, h2, mok_at hz hmz hbz⟩
