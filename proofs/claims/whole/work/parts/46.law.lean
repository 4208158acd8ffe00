/-! ===== the law, out of its calls (printed by gen_law.py) ===== -/
def C_sheet : Prop := ∀ (x1 x2 x3 : Int32), Both k_X9_sheet k_X10_sheet [.ref 0, .int x1, .int x2, .int x3] [.ref 186, .int x1, .int x2, .int x3, .null]
def C_set : Prop := ∀ (x1 x2 x3 : Int32), Both k_X9_set k_X10_set [.ref 0, .int x1, .int x2, .int x3] [.ref 186, .int x1, .int x2, .int x3]
def C_copy : Prop := ∀ (x1 x2 x3 x4 x5 : Int32), Both k_X9_copy k_X10_copy [.ref 0, .int x1, .int x2, .int x3, .int x4, .int x5] [.ref 186, .int x1, .int x2, .int x3, .int x4, .int x5, .null, .null, .null]
def C_drop : Prop := ∀ (x1 : Int32), Both k_X9_drop k_X10_drop [.ref 0, .int x1] [.ref 186, .int x1]
def C_feed : Prop := ∀ (w : Int64) (x1 : Int32), Both k_X9_feed k_X10_feed [.ref 0, .long w, .null, .int x1] [.ref 186, .long w, .null, .int x1, .null]
def C_land : Prop := Both k_X9_land k_X10_land [.ref 0, .null, .null] [.ref 186, .null]
def C_fault : Prop := Both k_X9_fault k_X10_fault [.ref 0] [.ref 186]
def C_later : Prop := ∀ (x1 : Int32), Both k_X9_later k_X10_later [.ref 0, .int x1] [.ref 186, .int x1]
def C_goes : Prop := ∀ (x1 x2 : Int32), Both k_X9_goes k_X10_goes [.ref 0, .int x1, .int x2] [.ref 186, .int x1, .int x2]
def C_man : Prop := ∀ (x1 x2 : Int32), Both k_X9_man k_X10_man [.ref 0, .int x1, .int x2] [.ref 186, .int x1, .int x2]
def C_law : Prop := ∀ (x1 x2 : Int32), Both k_X9_law k_X10_law [.ref 0, .int x1, .int x2] [.ref 186, .int x1, .int x2]
def C_pact : Prop := ∀ (x1 x2 x3 : Int32), Both k_X9_pact k_X10_pact [.ref 0, .int x1, .int x2, .int x3, .null] [.ref 186, .int x1, .int x2, .int x3, .null]
def C_debt : Prop := ∀ (x1 x2 x3 : Int32), Both k_X9_debt k_X10_debt [.ref 0, .int x1, .int x2, .int x3] [.ref 186, .int x1, .int x2, .int x3]
def C_debts : Prop := ∀ (x1 x2 x3 : Int32), Both k_X9_debts k_X10_debts [.ref 0, .int x1, .int x2, .int x3, .null, .null] [.ref 186, .int x1, .int x2, .int x3, .null, .null]
def C_ask : Prop := ∀ (x1 : Int32), Both k_X9_ask k_X10_ask [.ref 0, .int x1, .null] [.ref 186, .int x1]
def C_letter : Prop := ∀ (x1 x2 x3 : Int32), Both k_X9_letter k_X10_letter [.ref 0, .int x1, .int x2, .int x3, .null] [.ref 186, .int x1, .int x2, .int x3]
def C_pay : Prop := ∀ (x1 x2 : Int32), Both k_X9_pay k_X10_pay [.ref 0, .int x1, .int x2, .null] [.ref 186, .int x1, .int x2, .null]
def C_claim : Prop := ∀ (x1 x2 : Int32), Both k_X9_claim k_X10_claim [.ref 0, .int x1, .int x2, .null] [.ref 186, .int x1, .int x2]
def C_may : Prop := ∀ (x1 x2 x3 : Int32), Both k_X9_may k_X10_may [.ref 0, .int x1, .int x2, .int x3, .null, .null] [.ref 186, .int x1, .int x2, .int x3, .null]
def C_seize : Prop := ∀ (x1 x2 x3 : Int32), Both k_X9_seize k_X10_seize [.ref 0, .int x1, .int x2, .int x3, .null, .null] [.ref 186, .int x1, .int x2, .int x3]
def C_swear : Prop := ∀ (x1 x2 x3 : Int32), Both k_X9_swear k_X10_swear [.ref 0, .int x1, .int x2, .int x3, .null, .null] [.ref 186, .int x1, .int x2, .int x3, .null]
def C_says : Prop := ∀ (x1 : Int32), Both k_X9_says k_X10_says [.ref 0, .int x1] [.ref 186, .int x1, .null, .null, .null, .null, .null]
def C_grown : Prop := ∀ (x1 x2 : Int32), Both k_X9_grown k_X10_grown [.ref 0, .int x1, .int x2] [.ref 186, .int x1, .int x2, .null]
def C_net : Prop := ∀ (x1 : Int32), Both k_X9_net k_X10_net [.ref 0, .int x1] [.ref 186, .int x1, .null, .null, .null, .null]
def C_way : Prop := ∀ (x1 x2 : Int32), Both k_X9_way k_X10_way [.ref 0, .int x1, .int x2] [.ref 186, .int x1, .int x2, .null, .null, .null, .null, .null]
def C_opened : Prop := ∀ (x1 x2 : Int32), Both k_X9_opened k_X10_opened [.ref 0, .int x1, .int x2] [.ref 186, .int x1, .int x2, .null, .null, .null, .null]
def C_shut : Prop := ∀ (x1 x2 : Int32), Both k_X9_shut k_X10_shut [.ref 0, .int x1, .int x2] [.ref 186, .int x1, .int x2]
def C_dead : Prop := Both k_X9_dead k_X10_dead [.ref 0] [.ref 186, .null, .null, .null]
def C_owes : Prop := ∀ (x1 : Int32), Both k_X9_owes k_X10_owes [.ref 0, .int x1] [.ref 186, .int x1]
def C_rest : Prop := ∀ (x1 : Int32), Both k_X9_rest k_X10_rest [.ref 0, .int x1] [.ref 186, .int x1, .null, .null, .null]
def C_has : Prop := ∀ (x1 x2 : Int32), Both k_X9_has k_X10_has [.ref 0, .int x1, .int x2] [.ref 186, .int x1, .int x2]
def C_holds : Prop := ∀ (x1 x2 x3 : Int32), Both k_X9_holds k_X10_holds [.ref 0, .int x1, .int x2, .int x3] [.ref 186, .int x1, .int x2, .int x3]
def C_reform : Prop := ∀ (x1 : Int32), Both k_X9_reform k_X10_reform [.ref 0, .int x1] [.ref 186, .int x1, .null, .null, .null, .null, .null, .null]
def C_image : Prop := ∀ (x1 : Int32), Both k_X9_image k_X10_image [.ref 0, .int x1] [.ref 186, .int x1, .null]
def C_restore : Prop := ∀ (x1 : Int32), Both k_X9_restore k_X10_restore [.ref 0, .int x1] [.ref 186, .int x1, .null]
def C_kind : Prop := ∀ (x1 : Int32), Both k_X9_kind k_X10_kind [.ref 0, .int x1] [.ref 186, .int x1]
def C_as : Prop := ∀ (x1 x2 : Int32), Both k_X9_as k_X10_as [.ref 0, .int x1, .int x2] [.ref 186, .int x1, .int x2]
def C_asks : Prop := ∀ (x1 x2 : Int32), Both k_X9_asks k_X10_asks [.ref 0, .int x1, .int x2] [.ref 186, .int x1, .int x2]
def C_trace : Prop := ∀ (x1 : Int32), Both k_X9_trace k_X10_trace [.ref 0, .int x1] [.ref 186, .int x1]
def C_count : Prop := ∀ (x1 : Int32), Both k_X9_count k_X10_count [.ref 0, .int x1] [.ref 186, .int x1, .null, .null]
def C_status : Prop := Both k_X9_status k_X10_status [.ref 0] [.ref 186]
section LawX
variable {I : Nat → Nat → Int32} {l u t q L : Nat}
theorem xtX : xtg (SH, I, RB l u t q L) (EXT + 4) = 1 := by
  unfold xtg
  rw [if_neg (by omega), if_pos (by omega)]
theorem xlX : xln (SH, I, RB l u t q L) (EXT + 4) = L := by
  unfold xln
  rw [if_neg (by omega)]
  show RB l u t q L (EXT + 4) 0 = L
  unfold RB
  rw [if_neg (by omega), if_neg (by omega), if_neg (by omega), if_neg (by omega), if_neg (by omega)]
  unfold extR
  rw [if_neg (by omega), if_pos rfl]
end LawX
theorem LC_sheet (hB : C_sheet) {xs : Nat → Int32} {L i : Nat} {M : LM} {Q : Option Value → LM → Prop} (hi : i + 6 ≤ L) (hL : L ≤ 384) (hP : Pst xs L M) (hN : ∀ M', Pst xs L M' → Ends 30 k_L_law 1515 [.ref (EXT + 4), .ref 0, .ref 186, .int (nI i)] [] M' Q) : Ends 30 k_L_law 212 [.ref (EXT + 4), .ref 0, .ref 186, .int (nI i)] [] M Q := by
  obtain ⟨I, l, u, t, q, rfl, hR⟩ := id hP
  have e1 := hR.1.ex
  show Ends (29 + 1) k_L_law 212 _ [] _ Q
  rw [B_L_law_212]
  simp (disch := omega) only [xtX, xlX, sh_0, sh_186, nI_lit, nI_add, nlt0, nI_clp, leF, gI_k, e1, true_and, and_true, false_or, not_false_eq_true, Option.toList_some, List.cons_append, List.nil_append]
  refine (hB (xs (i + 1)) (xs (i + 2)) (xs (i + 3)) xs L _ hP).mono ?_
  rintro r M1 ⟨w, rfl, ⟨I1, l1, u1, t1, q1, rfl, e1⟩, h2⟩
  simp (disch := omega) only [Option.toList_some, List.cons_append, List.nil_append]
  rw [B_L_law_231]
  simp (disch := omega) only [xtX, xlX, sh_0, sh_186, nI_lit, nI_add, nlt0, nI_clp, leF, gI_k, e1, true_and, and_true, false_or, not_false_eq_true, Option.toList_some, List.cons_append, List.nil_append]
  refine h2.mono ?_
  rintro r2 M2 ⟨rfl, hP2⟩
  simp (disch := omega) only [Option.toList_some, List.cons_append, List.nil_append]
  rw [B_L_law_250, if_pos rfl]
  exact hN M2 hP2
theorem LC_set (hB : C_set) {xs : Nat → Int32} {L i : Nat} {M : LM} {Q : Option Value → LM → Prop} (hi : i + 6 ≤ L) (hL : L ≤ 384) (hP : Pst xs L M) (hN : ∀ M', Pst xs L M' → Ends 30 k_L_law 1515 [.ref (EXT + 4), .ref 0, .ref 186, .int (nI i)] [] M' Q) : Ends 30 k_L_law 255 [.ref (EXT + 4), .ref 0, .ref 186, .int (nI i)] [] M Q := by
  obtain ⟨I, l, u, t, q, rfl, hR⟩ := id hP
  have e1 := hR.1.ex
  show Ends (29 + 1) k_L_law 255 _ [] _ Q
  rw [B_L_law_255]
  simp (disch := omega) only [xtX, xlX, sh_0, sh_186, nI_lit, nI_add, nlt0, nI_clp, leF, gI_k, e1, true_and, and_true, false_or, not_false_eq_true, Option.toList_some, List.cons_append, List.nil_append]
  refine (hB (xs (i + 1)) (xs (i + 2)) (xs (i + 3)) xs L _ hP).mono ?_
  rintro r M1 ⟨w, rfl, ⟨I1, l1, u1, t1, q1, rfl, e1⟩, h2⟩
  simp (disch := omega) only [Option.toList_some, List.cons_append, List.nil_append]
  rw [B_L_law_274]
  simp (disch := omega) only [xtX, xlX, sh_0, sh_186, nI_lit, nI_add, nlt0, nI_clp, leF, gI_k, e1, true_and, and_true, false_or, not_false_eq_true, Option.toList_some, List.cons_append, List.nil_append]
  refine h2.mono ?_
  rintro r2 M2 ⟨rfl, hP2⟩
  simp (disch := omega) only [Option.toList_some, List.cons_append, List.nil_append]
  rw [B_L_law_293, if_pos rfl]
  exact hN M2 hP2
theorem LC_copy (hB : C_copy) {xs : Nat → Int32} {L i : Nat} {M : LM} {Q : Option Value → LM → Prop} (hi : i + 6 ≤ L) (hL : L ≤ 384) (hP : Pst xs L M) (hN : ∀ M', Pst xs L M' → Ends 30 k_L_law 1515 [.ref (EXT + 4), .ref 0, .ref 186, .int (nI i)] [] M' Q) : Ends 30 k_L_law 298 [.ref (EXT + 4), .ref 0, .ref 186, .int (nI i)] [] M Q := by
  obtain ⟨I, l, u, t, q, rfl, hR⟩ := id hP
  have e1 := hR.1.ex
  show Ends (29 + 1) k_L_law 298 _ [] _ Q
  rw [B_L_law_298]
  simp (disch := omega) only [xtX, xlX, sh_0, sh_186, nI_lit, nI_add, nlt0, nI_clp, leF, gI_k, e1, true_and, and_true, false_or, not_false_eq_true, Option.toList_some, List.cons_append, List.nil_append]
  refine (hB (xs (i + 1)) (xs (i + 2)) (xs (i + 3)) (xs (i + 4)) (xs (i + 5)) xs L _ hP).mono ?_
  rintro r M1 ⟨w, rfl, ⟨I1, l1, u1, t1, q1, rfl, e1⟩, h2⟩
  simp (disch := omega) only [Option.toList_some, List.cons_append, List.nil_append]
  rw [B_L_law_327]
  simp (disch := omega) only [xtX, xlX, sh_0, sh_186, nI_lit, nI_add, nlt0, nI_clp, leF, gI_k, e1, true_and, and_true, false_or, not_false_eq_true, Option.toList_some, List.cons_append, List.nil_append]
  refine h2.mono ?_
  rintro r2 M2 ⟨rfl, hP2⟩
  simp (disch := omega) only [Option.toList_some, List.cons_append, List.nil_append]
  rw [B_L_law_356, if_pos rfl]
  exact hN M2 hP2
theorem LC_drop (hB : C_drop) {xs : Nat → Int32} {L i : Nat} {M : LM} {Q : Option Value → LM → Prop} (hi : i + 6 ≤ L) (hL : L ≤ 384) (hP : Pst xs L M) (hN : ∀ M', Pst xs L M' → Ends 30 k_L_law 1515 [.ref (EXT + 4), .ref 0, .ref 186, .int (nI i)] [] M' Q) : Ends 30 k_L_law 361 [.ref (EXT + 4), .ref 0, .ref 186, .int (nI i)] [] M Q := by
  obtain ⟨I, l, u, t, q, rfl, hR⟩ := id hP
  have e1 := hR.1.ex
  show Ends (29 + 1) k_L_law 361 _ [] _ Q
  rw [B_L_law_361]
  simp (disch := omega) only [xtX, xlX, sh_0, sh_186, nI_lit, nI_add, nlt0, nI_clp, leF, gI_k, e1, true_and, and_true, false_or, not_false_eq_true, Option.toList_some, List.cons_append, List.nil_append]
  refine (hB (xs (i + 1)) xs L _ hP).mono ?_
  rintro r M1 ⟨w, rfl, ⟨I1, l1, u1, t1, q1, rfl, e1⟩, h2⟩
  simp (disch := omega) only [Option.toList_some, List.cons_append, List.nil_append]
  rw [B_L_law_370]
  simp (disch := omega) only [xtX, xlX, sh_0, sh_186, nI_lit, nI_add, nlt0, nI_clp, leF, gI_k, e1, true_and, and_true, false_or, not_false_eq_true, Option.toList_some, List.cons_append, List.nil_append]
  refine h2.mono ?_
  rintro r2 M2 ⟨rfl, hP2⟩
  simp (disch := omega) only [Option.toList_some, List.cons_append, List.nil_append]
  rw [B_L_law_379, if_pos rfl]
  exact hN M2 hP2
theorem LC_feed (hB : C_feed) {xs : Nat → Int32} {L i : Nat} {M : LM} {Q : Option Value → LM → Prop} (hi : i + 6 ≤ L) (hL : L ≤ 384) (hP : Pst xs L M) (hN : ∀ M', Pst xs L M' → Ends 30 k_L_law 1515 [.ref (EXT + 4), .ref 0, .ref 186, .int (nI i)] [] M' Q) : Ends 30 k_L_law 384 [.ref (EXT + 4), .ref 0, .ref 186, .int (nI i)] [] M Q := by
  obtain ⟨I, l, u, t, q, rfl, hR⟩ := id hP
  have e1 := hR.1.ex
  show Ends (29 + 1) k_L_law 384 _ [] _ Q
  rw [B_L_law_384]
  simp (disch := omega) only [xtX, xlX, sh_0, sh_186, nI_lit, nI_add, nlt0, nI_clp, leF, gI_k, e1, true_and, and_true, false_or, not_false_eq_true, Option.toList_some, List.cons_append, List.nil_append]
  refine (hB _ _ xs L _ hP).mono ?_
  rintro r M1 ⟨w, rfl, ⟨I1, l1, u1, t1, q1, rfl, e1⟩, h2⟩
  simp (disch := omega) only [Option.toList_some, List.cons_append, List.nil_append]
  rw [B_L_law_413]
  simp (disch := omega) only [xtX, xlX, sh_0, sh_186, nI_lit, nI_add, nlt0, nI_clp, leF, gI_k, e1, true_and, and_true, false_or, not_false_eq_true, Option.toList_some, List.cons_append, List.nil_append]
  refine h2.mono ?_
  rintro r2 M2 ⟨rfl, hP2⟩
  simp (disch := omega) only [Option.toList_some, List.cons_append, List.nil_append]
  rw [B_L_law_442, if_pos rfl]
  exact hN M2 hP2
theorem LC_land (hB : C_land) {xs : Nat → Int32} {L i : Nat} {M : LM} {Q : Option Value → LM → Prop} (hi : i + 6 ≤ L) (hL : L ≤ 384) (hP : Pst xs L M) (hN : ∀ M', Pst xs L M' → Ends 30 k_L_law 1515 [.ref (EXT + 4), .ref 0, .ref 186, .int (nI i)] [] M' Q) : Ends 30 k_L_law 447 [.ref (EXT + 4), .ref 0, .ref 186, .int (nI i)] [] M Q := by
  obtain ⟨I, l, u, t, q, rfl, hR⟩ := id hP
  have e1 := hR.1.ex
  show Ends (29 + 1) k_L_law 447 _ [] _ Q
  rw [B_L_law_447]
  simp (disch := omega) only [xtX, xlX, sh_0, sh_186, nI_lit, nI_add, nlt0, nI_clp, leF, gI_k, e1, true_and, and_true, false_or, not_false_eq_true, Option.toList_some, List.cons_append, List.nil_append]
  refine (hB  xs L _ hP).mono ?_
  rintro r M1 ⟨w, rfl, ⟨I1, l1, u1, t1, q1, rfl, e1⟩, h2⟩
  simp (disch := omega) only [Option.toList_some, List.cons_append, List.nil_append]
  rw [B_L_law_451]
  simp (disch := omega) only [xtX, xlX, sh_0, sh_186, nI_lit, nI_add, nlt0, nI_clp, leF, gI_k, e1, true_and, and_true, false_or, not_false_eq_true, Option.toList_some, List.cons_append, List.nil_append]
  refine h2.mono ?_
  rintro r2 M2 ⟨rfl, hP2⟩
  simp (disch := omega) only [Option.toList_some, List.cons_append, List.nil_append]
  rw [B_L_law_455, if_pos rfl]
  exact hN M2 hP2
theorem LC_fault (hB : C_fault) {xs : Nat → Int32} {L i : Nat} {M : LM} {Q : Option Value → LM → Prop} (hi : i + 6 ≤ L) (hL : L ≤ 384) (hP : Pst xs L M) (hN : ∀ M', Pst xs L M' → Ends 30 k_L_law 1515 [.ref (EXT + 4), .ref 0, .ref 186, .int (nI i)] [] M' Q) : Ends 30 k_L_law 460 [.ref (EXT + 4), .ref 0, .ref 186, .int (nI i)] [] M Q := by
  obtain ⟨I, l, u, t, q, rfl, hR⟩ := id hP
  have e1 := hR.1.ex
  show Ends (29 + 1) k_L_law 460 _ [] _ Q
  rw [B_L_law_460]
  simp (disch := omega) only [xtX, xlX, sh_0, sh_186, nI_lit, nI_add, nlt0, nI_clp, leF, gI_k, e1, true_and, and_true, false_or, not_false_eq_true, Option.toList_some, List.cons_append, List.nil_append]
  refine (hB  xs L _ hP).mono ?_
  rintro r M1 ⟨w, rfl, ⟨I1, l1, u1, t1, q1, rfl, e1⟩, h2⟩
  simp (disch := omega) only [Option.toList_some, List.cons_append, List.nil_append]
  rw [B_L_law_464]
  simp (disch := omega) only [xtX, xlX, sh_0, sh_186, nI_lit, nI_add, nlt0, nI_clp, leF, gI_k, e1, true_and, and_true, false_or, not_false_eq_true, Option.toList_some, List.cons_append, List.nil_append]
  refine h2.mono ?_
  rintro r2 M2 ⟨rfl, hP2⟩
  simp (disch := omega) only [Option.toList_some, List.cons_append, List.nil_append]
  rw [B_L_law_468, if_pos rfl]
  exact hN M2 hP2
theorem LC_later (hB : C_later) {xs : Nat → Int32} {L i : Nat} {M : LM} {Q : Option Value → LM → Prop} (hi : i + 6 ≤ L) (hL : L ≤ 384) (hP : Pst xs L M) (hN : ∀ M', Pst xs L M' → Ends 30 k_L_law 1515 [.ref (EXT + 4), .ref 0, .ref 186, .int (nI i)] [] M' Q) : Ends 30 k_L_law 473 [.ref (EXT + 4), .ref 0, .ref 186, .int (nI i)] [] M Q := by
  obtain ⟨I, l, u, t, q, rfl, hR⟩ := id hP
  have e1 := hR.1.ex
  show Ends (29 + 1) k_L_law 473 _ [] _ Q
  rw [B_L_law_473]
  simp (disch := omega) only [xtX, xlX, sh_0, sh_186, nI_lit, nI_add, nlt0, nI_clp, leF, gI_k, e1, true_and, and_true, false_or, not_false_eq_true, Option.toList_some, List.cons_append, List.nil_append]
  refine (hB (xs (i + 1)) xs L _ hP).mono ?_
  rintro r M1 ⟨w, rfl, ⟨I1, l1, u1, t1, q1, rfl, e1⟩, h2⟩
  simp (disch := omega) only [Option.toList_some, List.cons_append, List.nil_append]
  rw [B_L_law_482]
  simp (disch := omega) only [xtX, xlX, sh_0, sh_186, nI_lit, nI_add, nlt0, nI_clp, leF, gI_k, e1, true_and, and_true, false_or, not_false_eq_true, Option.toList_some, List.cons_append, List.nil_append]
  refine h2.mono ?_
  rintro r2 M2 ⟨rfl, hP2⟩
  simp (disch := omega) only [Option.toList_some, List.cons_append, List.nil_append]
  rw [B_L_law_491, if_pos rfl]
  exact hN M2 hP2
theorem LC_goes (hB : C_goes) {xs : Nat → Int32} {L i : Nat} {M : LM} {Q : Option Value → LM → Prop} (hi : i + 6 ≤ L) (hL : L ≤ 384) (hP : Pst xs L M) (hN : ∀ M', Pst xs L M' → Ends 30 k_L_law 1515 [.ref (EXT + 4), .ref 0, .ref 186, .int (nI i)] [] M' Q) : Ends 30 k_L_law 496 [.ref (EXT + 4), .ref 0, .ref 186, .int (nI i)] [] M Q := by
  obtain ⟨I, l, u, t, q, rfl, hR⟩ := id hP
  have e1 := hR.1.ex
  show Ends (29 + 1) k_L_law 496 _ [] _ Q
  rw [B_L_law_496]
  simp (disch := omega) only [xtX, xlX, sh_0, sh_186, nI_lit, nI_add, nlt0, nI_clp, leF, gI_k, e1, true_and, and_true, false_or, not_false_eq_true, Option.toList_some, List.cons_append, List.nil_append]
  refine (hB (xs (i + 1)) (xs (i + 2)) xs L _ hP).mono ?_
  rintro r M1 ⟨w, rfl, ⟨I1, l1, u1, t1, q1, rfl, e1⟩, h2⟩
  simp (disch := omega) only [Option.toList_some, List.cons_append, List.nil_append]
  rw [B_L_law_510]
  simp (disch := omega) only [xtX, xlX, sh_0, sh_186, nI_lit, nI_add, nlt0, nI_clp, leF, gI_k, e1, true_and, and_true, false_or, not_false_eq_true, Option.toList_some, List.cons_append, List.nil_append]
  refine h2.mono ?_
  rintro r2 M2 ⟨rfl, hP2⟩
  simp (disch := omega) only [Option.toList_some, List.cons_append, List.nil_append]
  rw [B_L_law_524, if_pos rfl]
  exact hN M2 hP2
theorem LC_man (hB : C_man) {xs : Nat → Int32} {L i : Nat} {M : LM} {Q : Option Value → LM → Prop} (hi : i + 6 ≤ L) (hL : L ≤ 384) (hP : Pst xs L M) (hN : ∀ M', Pst xs L M' → Ends 30 k_L_law 1515 [.ref (EXT + 4), .ref 0, .ref 186, .int (nI i)] [] M' Q) : Ends 30 k_L_law 529 [.ref (EXT + 4), .ref 0, .ref 186, .int (nI i)] [] M Q := by
  obtain ⟨I, l, u, t, q, rfl, hR⟩ := id hP
  have e1 := hR.1.ex
  show Ends (29 + 1) k_L_law 529 _ [] _ Q
  rw [B_L_law_529]
  simp (disch := omega) only [xtX, xlX, sh_0, sh_186, nI_lit, nI_add, nlt0, nI_clp, leF, gI_k, e1, true_and, and_true, false_or, not_false_eq_true, Option.toList_some, List.cons_append, List.nil_append]
  refine (hB (xs (i + 1)) (xs (i + 2)) xs L _ hP).mono ?_
  rintro r M1 ⟨w, rfl, ⟨I1, l1, u1, t1, q1, rfl, e1⟩, h2⟩
  simp (disch := omega) only [Option.toList_some, List.cons_append, List.nil_append]
  rw [B_L_law_543]
  simp (disch := omega) only [xtX, xlX, sh_0, sh_186, nI_lit, nI_add, nlt0, nI_clp, leF, gI_k, e1, true_and, and_true, false_or, not_false_eq_true, Option.toList_some, List.cons_append, List.nil_append]
  refine h2.mono ?_
  rintro r2 M2 ⟨rfl, hP2⟩
  simp (disch := omega) only [Option.toList_some, List.cons_append, List.nil_append]
  rw [B_L_law_557, if_pos rfl]
  exact hN M2 hP2
theorem LC_law (hB : C_law) {xs : Nat → Int32} {L i : Nat} {M : LM} {Q : Option Value → LM → Prop} (hi : i + 6 ≤ L) (hL : L ≤ 384) (hP : Pst xs L M) (hN : ∀ M', Pst xs L M' → Ends 30 k_L_law 1515 [.ref (EXT + 4), .ref 0, .ref 186, .int (nI i)] [] M' Q) : Ends 30 k_L_law 562 [.ref (EXT + 4), .ref 0, .ref 186, .int (nI i)] [] M Q := by
  obtain ⟨I, l, u, t, q, rfl, hR⟩ := id hP
  have e1 := hR.1.ex
  show Ends (29 + 1) k_L_law 562 _ [] _ Q
  rw [B_L_law_562]
  simp (disch := omega) only [xtX, xlX, sh_0, sh_186, nI_lit, nI_add, nlt0, nI_clp, leF, gI_k, e1, true_and, and_true, false_or, not_false_eq_true, Option.toList_some, List.cons_append, List.nil_append]
  refine (hB (xs (i + 1)) (xs (i + 2)) xs L _ hP).mono ?_
  rintro r M1 ⟨w, rfl, ⟨I1, l1, u1, t1, q1, rfl, e1⟩, h2⟩
  simp (disch := omega) only [Option.toList_some, List.cons_append, List.nil_append]
  rw [B_L_law_576]
  simp (disch := omega) only [xtX, xlX, sh_0, sh_186, nI_lit, nI_add, nlt0, nI_clp, leF, gI_k, e1, true_and, and_true, false_or, not_false_eq_true, Option.toList_some, List.cons_append, List.nil_append]
  refine h2.mono ?_
  rintro r2 M2 ⟨rfl, hP2⟩
  simp (disch := omega) only [Option.toList_some, List.cons_append, List.nil_append]
  rw [B_L_law_590, if_pos rfl]
  exact hN M2 hP2
theorem LC_pact (hB : C_pact) {xs : Nat → Int32} {L i : Nat} {M : LM} {Q : Option Value → LM → Prop} (hi : i + 6 ≤ L) (hL : L ≤ 384) (hP : Pst xs L M) (hN : ∀ M', Pst xs L M' → Ends 30 k_L_law 1515 [.ref (EXT + 4), .ref 0, .ref 186, .int (nI i)] [] M' Q) : Ends 30 k_L_law 595 [.ref (EXT + 4), .ref 0, .ref 186, .int (nI i)] [] M Q := by
  obtain ⟨I, l, u, t, q, rfl, hR⟩ := id hP
  have e1 := hR.1.ex
  show Ends (29 + 1) k_L_law 595 _ [] _ Q
  rw [B_L_law_595]
  simp (disch := omega) only [xtX, xlX, sh_0, sh_186, nI_lit, nI_add, nlt0, nI_clp, leF, gI_k, e1, true_and, and_true, false_or, not_false_eq_true, Option.toList_some, List.cons_append, List.nil_append]
  refine (hB (xs (i + 1)) (xs (i + 2)) (xs (i + 3)) xs L _ hP).mono ?_
  rintro r M1 ⟨w, rfl, ⟨I1, l1, u1, t1, q1, rfl, e1⟩, h2⟩
  simp (disch := omega) only [Option.toList_some, List.cons_append, List.nil_append]
  rw [B_L_law_614]
  simp (disch := omega) only [xtX, xlX, sh_0, sh_186, nI_lit, nI_add, nlt0, nI_clp, leF, gI_k, e1, true_and, and_true, false_or, not_false_eq_true, Option.toList_some, List.cons_append, List.nil_append]
  refine h2.mono ?_
  rintro r2 M2 ⟨rfl, hP2⟩
  simp (disch := omega) only [Option.toList_some, List.cons_append, List.nil_append]
  rw [B_L_law_633, if_pos rfl]
  exact hN M2 hP2
theorem LC_debt (hB : C_debt) {xs : Nat → Int32} {L i : Nat} {M : LM} {Q : Option Value → LM → Prop} (hi : i + 6 ≤ L) (hL : L ≤ 384) (hP : Pst xs L M) (hN : ∀ M', Pst xs L M' → Ends 30 k_L_law 1515 [.ref (EXT + 4), .ref 0, .ref 186, .int (nI i)] [] M' Q) : Ends 30 k_L_law 638 [.ref (EXT + 4), .ref 0, .ref 186, .int (nI i)] [] M Q := by
  obtain ⟨I, l, u, t, q, rfl, hR⟩ := id hP
  have e1 := hR.1.ex
  show Ends (29 + 1) k_L_law 638 _ [] _ Q
  rw [B_L_law_638]
  simp (disch := omega) only [xtX, xlX, sh_0, sh_186, nI_lit, nI_add, nlt0, nI_clp, leF, gI_k, e1, true_and, and_true, false_or, not_false_eq_true, Option.toList_some, List.cons_append, List.nil_append]
  refine (hB (xs (i + 1)) (xs (i + 2)) (xs (i + 3)) xs L _ hP).mono ?_
  rintro r M1 ⟨w, rfl, ⟨I1, l1, u1, t1, q1, rfl, e1⟩, h2⟩
  simp (disch := omega) only [Option.toList_some, List.cons_append, List.nil_append]
  rw [B_L_law_657]
  simp (disch := omega) only [xtX, xlX, sh_0, sh_186, nI_lit, nI_add, nlt0, nI_clp, leF, gI_k, e1, true_and, and_true, false_or, not_false_eq_true, Option.toList_some, List.cons_append, List.nil_append]
  refine h2.mono ?_
  rintro r2 M2 ⟨rfl, hP2⟩
  simp (disch := omega) only [Option.toList_some, List.cons_append, List.nil_append]
  rw [B_L_law_676, if_pos rfl]
  exact hN M2 hP2
theorem LC_debts (hB : C_debts) {xs : Nat → Int32} {L i : Nat} {M : LM} {Q : Option Value → LM → Prop} (hi : i + 6 ≤ L) (hL : L ≤ 384) (hP : Pst xs L M) (hN : ∀ M', Pst xs L M' → Ends 30 k_L_law 1515 [.ref (EXT + 4), .ref 0, .ref 186, .int (nI i)] [] M' Q) : Ends 30 k_L_law 681 [.ref (EXT + 4), .ref 0, .ref 186, .int (nI i)] [] M Q := by
  obtain ⟨I, l, u, t, q, rfl, hR⟩ := id hP
  have e1 := hR.1.ex
  show Ends (29 + 1) k_L_law 681 _ [] _ Q
  rw [B_L_law_681]
  simp (disch := omega) only [xtX, xlX, sh_0, sh_186, nI_lit, nI_add, nlt0, nI_clp, leF, gI_k, e1, true_and, and_true, false_or, not_false_eq_true, Option.toList_some, List.cons_append, List.nil_append]
  refine (hB (xs (i + 1)) (xs (i + 2)) (xs (i + 3)) xs L _ hP).mono ?_
  rintro r M1 ⟨w, rfl, ⟨I1, l1, u1, t1, q1, rfl, e1⟩, h2⟩
  simp (disch := omega) only [Option.toList_some, List.cons_append, List.nil_append]
  rw [B_L_law_700]
  simp (disch := omega) only [xtX, xlX, sh_0, sh_186, nI_lit, nI_add, nlt0, nI_clp, leF, gI_k, e1, true_and, and_true, false_or, not_false_eq_true, Option.toList_some, List.cons_append, List.nil_append]
  refine h2.mono ?_
  rintro r2 M2 ⟨rfl, hP2⟩
  simp (disch := omega) only [Option.toList_some, List.cons_append, List.nil_append]
  rw [B_L_law_719, if_pos rfl]
  exact hN M2 hP2
theorem LC_ask (hB : C_ask) {xs : Nat → Int32} {L i : Nat} {M : LM} {Q : Option Value → LM → Prop} (hi : i + 6 ≤ L) (hL : L ≤ 384) (hP : Pst xs L M) (hN : ∀ M', Pst xs L M' → Ends 30 k_L_law 1515 [.ref (EXT + 4), .ref 0, .ref 186, .int (nI i)] [] M' Q) : Ends 30 k_L_law 724 [.ref (EXT + 4), .ref 0, .ref 186, .int (nI i)] [] M Q := by
  obtain ⟨I, l, u, t, q, rfl, hR⟩ := id hP
  have e1 := hR.1.ex
  show Ends (29 + 1) k_L_law 724 _ [] _ Q
  rw [B_L_law_724]
  simp (disch := omega) only [xtX, xlX, sh_0, sh_186, nI_lit, nI_add, nlt0, nI_clp, leF, gI_k, e1, true_and, and_true, false_or, not_false_eq_true, Option.toList_some, List.cons_append, List.nil_append]
  refine (hB (xs (i + 1)) xs L _ hP).mono ?_
  rintro r M1 ⟨w, rfl, ⟨I1, l1, u1, t1, q1, rfl, e1⟩, h2⟩
  simp (disch := omega) only [Option.toList_some, List.cons_append, List.nil_append]
  rw [B_L_law_733]
  simp (disch := omega) only [xtX, xlX, sh_0, sh_186, nI_lit, nI_add, nlt0, nI_clp, leF, gI_k, e1, true_and, and_true, false_or, not_false_eq_true, Option.toList_some, List.cons_append, List.nil_append]
  refine h2.mono ?_
  rintro r2 M2 ⟨rfl, hP2⟩
  simp (disch := omega) only [Option.toList_some, List.cons_append, List.nil_append]
  rw [B_L_law_742, if_pos rfl]
  exact hN M2 hP2
theorem LC_letter (hB : C_letter) {xs : Nat → Int32} {L i : Nat} {M : LM} {Q : Option Value → LM → Prop} (hi : i + 6 ≤ L) (hL : L ≤ 384) (hP : Pst xs L M) (hN : ∀ M', Pst xs L M' → Ends 30 k_L_law 1515 [.ref (EXT + 4), .ref 0, .ref 186, .int (nI i)] [] M' Q) : Ends 30 k_L_law 747 [.ref (EXT + 4), .ref 0, .ref 186, .int (nI i)] [] M Q := by
  obtain ⟨I, l, u, t, q, rfl, hR⟩ := id hP
  have e1 := hR.1.ex
  show Ends (29 + 1) k_L_law 747 _ [] _ Q
  rw [B_L_law_747]
  simp (disch := omega) only [xtX, xlX, sh_0, sh_186, nI_lit, nI_add, nlt0, nI_clp, leF, gI_k, e1, true_and, and_true, false_or, not_false_eq_true, Option.toList_some, List.cons_append, List.nil_append]
  refine (hB (xs (i + 1)) (xs (i + 2)) (xs (i + 3)) xs L _ hP).mono ?_
  rintro r M1 ⟨w, rfl, ⟨I1, l1, u1, t1, q1, rfl, e1⟩, h2⟩
  simp (disch := omega) only [Option.toList_some, List.cons_append, List.nil_append]
  rw [B_L_law_766]
  simp (disch := omega) only [xtX, xlX, sh_0, sh_186, nI_lit, nI_add, nlt0, nI_clp, leF, gI_k, e1, true_and, and_true, false_or, not_false_eq_true, Option.toList_some, List.cons_append, List.nil_append]
  refine h2.mono ?_
  rintro r2 M2 ⟨rfl, hP2⟩
  simp (disch := omega) only [Option.toList_some, List.cons_append, List.nil_append]
  rw [B_L_law_785, if_pos rfl]
  exact hN M2 hP2
theorem LC_pay (hB : C_pay) {xs : Nat → Int32} {L i : Nat} {M : LM} {Q : Option Value → LM → Prop} (hi : i + 6 ≤ L) (hL : L ≤ 384) (hP : Pst xs L M) (hN : ∀ M', Pst xs L M' → Ends 30 k_L_law 1515 [.ref (EXT + 4), .ref 0, .ref 186, .int (nI i)] [] M' Q) : Ends 30 k_L_law 790 [.ref (EXT + 4), .ref 0, .ref 186, .int (nI i)] [] M Q := by
  obtain ⟨I, l, u, t, q, rfl, hR⟩ := id hP
  have e1 := hR.1.ex
  show Ends (29 + 1) k_L_law 790 _ [] _ Q
  rw [B_L_law_790]
  simp (disch := omega) only [xtX, xlX, sh_0, sh_186, nI_lit, nI_add, nlt0, nI_clp, leF, gI_k, e1, true_and, and_true, false_or, not_false_eq_true, Option.toList_some, List.cons_append, List.nil_append]
  refine (hB (xs (i + 1)) (xs (i + 2)) xs L _ hP).mono ?_
  rintro r M1 ⟨w, rfl, ⟨I1, l1, u1, t1, q1, rfl, e1⟩, h2⟩
  simp (disch := omega) only [Option.toList_some, List.cons_append, List.nil_append]
  rw [B_L_law_804]
  simp (disch := omega) only [xtX, xlX, sh_0, sh_186, nI_lit, nI_add, nlt0, nI_clp, leF, gI_k, e1, true_and, and_true, false_or, not_false_eq_true, Option.toList_some, List.cons_append, List.nil_append]
  refine h2.mono ?_
  rintro r2 M2 ⟨rfl, hP2⟩
  simp (disch := omega) only [Option.toList_some, List.cons_append, List.nil_append]
  rw [B_L_law_818, if_pos rfl]
  exact hN M2 hP2
theorem LC_claim (hB : C_claim) {xs : Nat → Int32} {L i : Nat} {M : LM} {Q : Option Value → LM → Prop} (hi : i + 6 ≤ L) (hL : L ≤ 384) (hP : Pst xs L M) (hN : ∀ M', Pst xs L M' → Ends 30 k_L_law 1515 [.ref (EXT + 4), .ref 0, .ref 186, .int (nI i)] [] M' Q) : Ends 30 k_L_law 823 [.ref (EXT + 4), .ref 0, .ref 186, .int (nI i)] [] M Q := by
  obtain ⟨I, l, u, t, q, rfl, hR⟩ := id hP
  have e1 := hR.1.ex
  show Ends (29 + 1) k_L_law 823 _ [] _ Q
  rw [B_L_law_823]
  simp (disch := omega) only [xtX, xlX, sh_0, sh_186, nI_lit, nI_add, nlt0, nI_clp, leF, gI_k, e1, true_and, and_true, false_or, not_false_eq_true, Option.toList_some, List.cons_append, List.nil_append]
  refine (hB (xs (i + 1)) (xs (i + 2)) xs L _ hP).mono ?_
  rintro r M1 ⟨w, rfl, ⟨I1, l1, u1, t1, q1, rfl, e1⟩, h2⟩
  simp (disch := omega) only [Option.toList_some, List.cons_append, List.nil_append]
  rw [B_L_law_837]
  simp (disch := omega) only [xtX, xlX, sh_0, sh_186, nI_lit, nI_add, nlt0, nI_clp, leF, gI_k, e1, true_and, and_true, false_or, not_false_eq_true, Option.toList_some, List.cons_append, List.nil_append]
  refine h2.mono ?_
  rintro r2 M2 ⟨rfl, hP2⟩
  simp (disch := omega) only [Option.toList_some, List.cons_append, List.nil_append]
  rw [B_L_law_851, if_pos rfl]
  exact hN M2 hP2
theorem LC_may (hB : C_may) {xs : Nat → Int32} {L i : Nat} {M : LM} {Q : Option Value → LM → Prop} (hi : i + 6 ≤ L) (hL : L ≤ 384) (hP : Pst xs L M) (hN : ∀ M', Pst xs L M' → Ends 30 k_L_law 1515 [.ref (EXT + 4), .ref 0, .ref 186, .int (nI i)] [] M' Q) : Ends 30 k_L_law 856 [.ref (EXT + 4), .ref 0, .ref 186, .int (nI i)] [] M Q := by
  obtain ⟨I, l, u, t, q, rfl, hR⟩ := id hP
  have e1 := hR.1.ex
  show Ends (29 + 1) k_L_law 856 _ [] _ Q
  rw [B_L_law_856]
  simp (disch := omega) only [xtX, xlX, sh_0, sh_186, nI_lit, nI_add, nlt0, nI_clp, leF, gI_k, e1, true_and, and_true, false_or, not_false_eq_true, Option.toList_some, List.cons_append, List.nil_append]
  refine (hB (xs (i + 1)) (xs (i + 2)) (xs (i + 3)) xs L _ hP).mono ?_
  rintro r M1 ⟨w, rfl, ⟨I1, l1, u1, t1, q1, rfl, e1⟩, h2⟩
  simp (disch := omega) only [Option.toList_some, List.cons_append, List.nil_append]
  rw [B_L_law_875]
  simp (disch := omega) only [xtX, xlX, sh_0, sh_186, nI_lit, nI_add, nlt0, nI_clp, leF, gI_k, e1, true_and, and_true, false_or, not_false_eq_true, Option.toList_some, List.cons_append, List.nil_append]
  refine h2.mono ?_
  rintro r2 M2 ⟨rfl, hP2⟩
  simp (disch := omega) only [Option.toList_some, List.cons_append, List.nil_append]
  rw [B_L_law_894, if_pos rfl]
  exact hN M2 hP2
theorem LC_seize (hB : C_seize) {xs : Nat → Int32} {L i : Nat} {M : LM} {Q : Option Value → LM → Prop} (hi : i + 6 ≤ L) (hL : L ≤ 384) (hP : Pst xs L M) (hN : ∀ M', Pst xs L M' → Ends 30 k_L_law 1515 [.ref (EXT + 4), .ref 0, .ref 186, .int (nI i)] [] M' Q) : Ends 30 k_L_law 899 [.ref (EXT + 4), .ref 0, .ref 186, .int (nI i)] [] M Q := by
  obtain ⟨I, l, u, t, q, rfl, hR⟩ := id hP
  have e1 := hR.1.ex
  show Ends (29 + 1) k_L_law 899 _ [] _ Q
  rw [B_L_law_899]
  simp (disch := omega) only [xtX, xlX, sh_0, sh_186, nI_lit, nI_add, nlt0, nI_clp, leF, gI_k, e1, true_and, and_true, false_or, not_false_eq_true, Option.toList_some, List.cons_append, List.nil_append]
  refine (hB (xs (i + 1)) (xs (i + 2)) (xs (i + 3)) xs L _ hP).mono ?_
  rintro r M1 ⟨w, rfl, ⟨I1, l1, u1, t1, q1, rfl, e1⟩, h2⟩
  simp (disch := omega) only [Option.toList_some, List.cons_append, List.nil_append]
  rw [B_L_law_918]
  simp (disch := omega) only [xtX, xlX, sh_0, sh_186, nI_lit, nI_add, nlt0, nI_clp, leF, gI_k, e1, true_and, and_true, false_or, not_false_eq_true, Option.toList_some, List.cons_append, List.nil_append]
  refine h2.mono ?_
  rintro r2 M2 ⟨rfl, hP2⟩
  simp (disch := omega) only [Option.toList_some, List.cons_append, List.nil_append]
  rw [B_L_law_937, if_pos rfl]
  exact hN M2 hP2
theorem LC_swear (hB : C_swear) {xs : Nat → Int32} {L i : Nat} {M : LM} {Q : Option Value → LM → Prop} (hi : i + 6 ≤ L) (hL : L ≤ 384) (hP : Pst xs L M) (hN : ∀ M', Pst xs L M' → Ends 30 k_L_law 1515 [.ref (EXT + 4), .ref 0, .ref 186, .int (nI i)] [] M' Q) : Ends 30 k_L_law 942 [.ref (EXT + 4), .ref 0, .ref 186, .int (nI i)] [] M Q := by
  obtain ⟨I, l, u, t, q, rfl, hR⟩ := id hP
  have e1 := hR.1.ex
  show Ends (29 + 1) k_L_law 942 _ [] _ Q
  rw [B_L_law_942]
  simp (disch := omega) only [xtX, xlX, sh_0, sh_186, nI_lit, nI_add, nlt0, nI_clp, leF, gI_k, e1, true_and, and_true, false_or, not_false_eq_true, Option.toList_some, List.cons_append, List.nil_append]
  refine (hB (xs (i + 1)) (xs (i + 2)) (xs (i + 3)) xs L _ hP).mono ?_
  rintro r M1 ⟨w, rfl, ⟨I1, l1, u1, t1, q1, rfl, e1⟩, h2⟩
  simp (disch := omega) only [Option.toList_some, List.cons_append, List.nil_append]
  rw [B_L_law_961]
  simp (disch := omega) only [xtX, xlX, sh_0, sh_186, nI_lit, nI_add, nlt0, nI_clp, leF, gI_k, e1, true_and, and_true, false_or, not_false_eq_true, Option.toList_some, List.cons_append, List.nil_append]
  refine h2.mono ?_
  rintro r2 M2 ⟨rfl, hP2⟩
  simp (disch := omega) only [Option.toList_some, List.cons_append, List.nil_append]
  rw [B_L_law_980, if_pos rfl]
  exact hN M2 hP2
theorem LC_says (hB : C_says) {xs : Nat → Int32} {L i : Nat} {M : LM} {Q : Option Value → LM → Prop} (hi : i + 6 ≤ L) (hL : L ≤ 384) (hP : Pst xs L M) (hN : ∀ M', Pst xs L M' → Ends 30 k_L_law 1515 [.ref (EXT + 4), .ref 0, .ref 186, .int (nI i)] [] M' Q) : Ends 30 k_L_law 985 [.ref (EXT + 4), .ref 0, .ref 186, .int (nI i)] [] M Q := by
  obtain ⟨I, l, u, t, q, rfl, hR⟩ := id hP
  have e1 := hR.1.ex
  show Ends (29 + 1) k_L_law 985 _ [] _ Q
  rw [B_L_law_985]
  simp (disch := omega) only [xtX, xlX, sh_0, sh_186, nI_lit, nI_add, nlt0, nI_clp, leF, gI_k, e1, true_and, and_true, false_or, not_false_eq_true, Option.toList_some, List.cons_append, List.nil_append]
  refine (hB (xs (i + 1)) xs L _ hP).mono ?_
  rintro r M1 ⟨w, rfl, ⟨I1, l1, u1, t1, q1, rfl, e1⟩, h2⟩
  simp (disch := omega) only [Option.toList_some, List.cons_append, List.nil_append]
  rw [B_L_law_994]
  simp (disch := omega) only [xtX, xlX, sh_0, sh_186, nI_lit, nI_add, nlt0, nI_clp, leF, gI_k, e1, true_and, and_true, false_or, not_false_eq_true, Option.toList_some, List.cons_append, List.nil_append]
  refine h2.mono ?_
  rintro r2 M2 ⟨rfl, hP2⟩
  simp (disch := omega) only [Option.toList_some, List.cons_append, List.nil_append]
  rw [B_L_law_1003, if_pos rfl]
  exact hN M2 hP2
theorem LC_grown (hB : C_grown) {xs : Nat → Int32} {L i : Nat} {M : LM} {Q : Option Value → LM → Prop} (hi : i + 6 ≤ L) (hL : L ≤ 384) (hP : Pst xs L M) (hN : ∀ M', Pst xs L M' → Ends 30 k_L_law 1515 [.ref (EXT + 4), .ref 0, .ref 186, .int (nI i)] [] M' Q) : Ends 30 k_L_law 1008 [.ref (EXT + 4), .ref 0, .ref 186, .int (nI i)] [] M Q := by
  obtain ⟨I, l, u, t, q, rfl, hR⟩ := id hP
  have e1 := hR.1.ex
  show Ends (29 + 1) k_L_law 1008 _ [] _ Q
  rw [B_L_law_1008]
  simp (disch := omega) only [xtX, xlX, sh_0, sh_186, nI_lit, nI_add, nlt0, nI_clp, leF, gI_k, e1, true_and, and_true, false_or, not_false_eq_true, Option.toList_some, List.cons_append, List.nil_append]
  refine (hB (xs (i + 1)) (xs (i + 2)) xs L _ hP).mono ?_
  rintro r M1 ⟨w, rfl, ⟨I1, l1, u1, t1, q1, rfl, e1⟩, h2⟩
  simp (disch := omega) only [Option.toList_some, List.cons_append, List.nil_append]
  rw [B_L_law_1022]
  simp (disch := omega) only [xtX, xlX, sh_0, sh_186, nI_lit, nI_add, nlt0, nI_clp, leF, gI_k, e1, true_and, and_true, false_or, not_false_eq_true, Option.toList_some, List.cons_append, List.nil_append]
  refine h2.mono ?_
  rintro r2 M2 ⟨rfl, hP2⟩
  simp (disch := omega) only [Option.toList_some, List.cons_append, List.nil_append]
  rw [B_L_law_1036, if_pos rfl]
  exact hN M2 hP2
theorem LC_net (hB : C_net) {xs : Nat → Int32} {L i : Nat} {M : LM} {Q : Option Value → LM → Prop} (hi : i + 6 ≤ L) (hL : L ≤ 384) (hP : Pst xs L M) (hN : ∀ M', Pst xs L M' → Ends 30 k_L_law 1515 [.ref (EXT + 4), .ref 0, .ref 186, .int (nI i)] [] M' Q) : Ends 30 k_L_law 1041 [.ref (EXT + 4), .ref 0, .ref 186, .int (nI i)] [] M Q := by
  obtain ⟨I, l, u, t, q, rfl, hR⟩ := id hP
  have e1 := hR.1.ex
  show Ends (29 + 1) k_L_law 1041 _ [] _ Q
  rw [B_L_law_1041]
  simp (disch := omega) only [xtX, xlX, sh_0, sh_186, nI_lit, nI_add, nlt0, nI_clp, leF, gI_k, e1, true_and, and_true, false_or, not_false_eq_true, Option.toList_some, List.cons_append, List.nil_append]
  refine (hB (xs (i + 1)) xs L _ hP).mono ?_
  rintro r M1 ⟨w, rfl, ⟨I1, l1, u1, t1, q1, rfl, e1⟩, h2⟩
  simp (disch := omega) only [Option.toList_some, List.cons_append, List.nil_append]
  rw [B_L_law_1050]
  simp (disch := omega) only [xtX, xlX, sh_0, sh_186, nI_lit, nI_add, nlt0, nI_clp, leF, gI_k, e1, true_and, and_true, false_or, not_false_eq_true, Option.toList_some, List.cons_append, List.nil_append]
  refine h2.mono ?_
  rintro r2 M2 ⟨rfl, hP2⟩
  simp (disch := omega) only [Option.toList_some, List.cons_append, List.nil_append]
  rw [B_L_law_1059, if_pos rfl]
  exact hN M2 hP2
theorem LC_way (hB : C_way) {xs : Nat → Int32} {L i : Nat} {M : LM} {Q : Option Value → LM → Prop} (hi : i + 6 ≤ L) (hL : L ≤ 384) (hP : Pst xs L M) (hN : ∀ M', Pst xs L M' → Ends 30 k_L_law 1515 [.ref (EXT + 4), .ref 0, .ref 186, .int (nI i)] [] M' Q) : Ends 30 k_L_law 1064 [.ref (EXT + 4), .ref 0, .ref 186, .int (nI i)] [] M Q := by
  obtain ⟨I, l, u, t, q, rfl, hR⟩ := id hP
  have e1 := hR.1.ex
  show Ends (29 + 1) k_L_law 1064 _ [] _ Q
  rw [B_L_law_1064]
  simp (disch := omega) only [xtX, xlX, sh_0, sh_186, nI_lit, nI_add, nlt0, nI_clp, leF, gI_k, e1, true_and, and_true, false_or, not_false_eq_true, Option.toList_some, List.cons_append, List.nil_append]
  refine (hB (xs (i + 1)) (xs (i + 2)) xs L _ hP).mono ?_
  rintro r M1 ⟨w, rfl, ⟨I1, l1, u1, t1, q1, rfl, e1⟩, h2⟩
  simp (disch := omega) only [Option.toList_some, List.cons_append, List.nil_append]
  rw [B_L_law_1078]
  simp (disch := omega) only [xtX, xlX, sh_0, sh_186, nI_lit, nI_add, nlt0, nI_clp, leF, gI_k, e1, true_and, and_true, false_or, not_false_eq_true, Option.toList_some, List.cons_append, List.nil_append]
  refine h2.mono ?_
  rintro r2 M2 ⟨rfl, hP2⟩
  simp (disch := omega) only [Option.toList_some, List.cons_append, List.nil_append]
  rw [B_L_law_1092, if_pos rfl]
  exact hN M2 hP2
theorem LC_opened (hB : C_opened) {xs : Nat → Int32} {L i : Nat} {M : LM} {Q : Option Value → LM → Prop} (hi : i + 6 ≤ L) (hL : L ≤ 384) (hP : Pst xs L M) (hN : ∀ M', Pst xs L M' → Ends 30 k_L_law 1515 [.ref (EXT + 4), .ref 0, .ref 186, .int (nI i)] [] M' Q) : Ends 30 k_L_law 1097 [.ref (EXT + 4), .ref 0, .ref 186, .int (nI i)] [] M Q := by
  obtain ⟨I, l, u, t, q, rfl, hR⟩ := id hP
  have e1 := hR.1.ex
  show Ends (29 + 1) k_L_law 1097 _ [] _ Q
  rw [B_L_law_1097]
  simp (disch := omega) only [xtX, xlX, sh_0, sh_186, nI_lit, nI_add, nlt0, nI_clp, leF, gI_k, e1, true_and, and_true, false_or, not_false_eq_true, Option.toList_some, List.cons_append, List.nil_append]
  refine (hB (xs (i + 1)) (xs (i + 2)) xs L _ hP).mono ?_
  rintro r M1 ⟨w, rfl, ⟨I1, l1, u1, t1, q1, rfl, e1⟩, h2⟩
  simp (disch := omega) only [Option.toList_some, List.cons_append, List.nil_append]
  rw [B_L_law_1111]
  simp (disch := omega) only [xtX, xlX, sh_0, sh_186, nI_lit, nI_add, nlt0, nI_clp, leF, gI_k, e1, true_and, and_true, false_or, not_false_eq_true, Option.toList_some, List.cons_append, List.nil_append]
  refine h2.mono ?_
  rintro r2 M2 ⟨rfl, hP2⟩
  simp (disch := omega) only [Option.toList_some, List.cons_append, List.nil_append]
  rw [B_L_law_1125, if_pos rfl]
  exact hN M2 hP2
theorem LC_shut (hB : C_shut) {xs : Nat → Int32} {L i : Nat} {M : LM} {Q : Option Value → LM → Prop} (hi : i + 6 ≤ L) (hL : L ≤ 384) (hP : Pst xs L M) (hN : ∀ M', Pst xs L M' → Ends 30 k_L_law 1515 [.ref (EXT + 4), .ref 0, .ref 186, .int (nI i)] [] M' Q) : Ends 30 k_L_law 1130 [.ref (EXT + 4), .ref 0, .ref 186, .int (nI i)] [] M Q := by
  obtain ⟨I, l, u, t, q, rfl, hR⟩ := id hP
  have e1 := hR.1.ex
  show Ends (29 + 1) k_L_law 1130 _ [] _ Q
  rw [B_L_law_1130]
  simp (disch := omega) only [xtX, xlX, sh_0, sh_186, nI_lit, nI_add, nlt0, nI_clp, leF, gI_k, e1, true_and, and_true, false_or, not_false_eq_true, Option.toList_some, List.cons_append, List.nil_append]
  refine (hB (xs (i + 1)) (xs (i + 2)) xs L _ hP).mono ?_
  rintro r M1 ⟨w, rfl, ⟨I1, l1, u1, t1, q1, rfl, e1⟩, h2⟩
  simp (disch := omega) only [Option.toList_some, List.cons_append, List.nil_append]
  rw [B_L_law_1144]
  simp (disch := omega) only [xtX, xlX, sh_0, sh_186, nI_lit, nI_add, nlt0, nI_clp, leF, gI_k, e1, true_and, and_true, false_or, not_false_eq_true, Option.toList_some, List.cons_append, List.nil_append]
  refine h2.mono ?_
  rintro r2 M2 ⟨rfl, hP2⟩
  simp (disch := omega) only [Option.toList_some, List.cons_append, List.nil_append]
  rw [B_L_law_1158, if_pos rfl]
  exact hN M2 hP2
theorem LC_dead (hB : C_dead) {xs : Nat → Int32} {L i : Nat} {M : LM} {Q : Option Value → LM → Prop} (hi : i + 6 ≤ L) (hL : L ≤ 384) (hP : Pst xs L M) (hN : ∀ M', Pst xs L M' → Ends 30 k_L_law 1515 [.ref (EXT + 4), .ref 0, .ref 186, .int (nI i)] [] M' Q) : Ends 30 k_L_law 1163 [.ref (EXT + 4), .ref 0, .ref 186, .int (nI i)] [] M Q := by
  obtain ⟨I, l, u, t, q, rfl, hR⟩ := id hP
  have e1 := hR.1.ex
  show Ends (29 + 1) k_L_law 1163 _ [] _ Q
  rw [B_L_law_1163]
  simp (disch := omega) only [xtX, xlX, sh_0, sh_186, nI_lit, nI_add, nlt0, nI_clp, leF, gI_k, e1, true_and, and_true, false_or, not_false_eq_true, Option.toList_some, List.cons_append, List.nil_append]
  refine (hB  xs L _ hP).mono ?_
  rintro r M1 ⟨w, rfl, ⟨I1, l1, u1, t1, q1, rfl, e1⟩, h2⟩
  simp (disch := omega) only [Option.toList_some, List.cons_append, List.nil_append]
  rw [B_L_law_1167]
  simp (disch := omega) only [xtX, xlX, sh_0, sh_186, nI_lit, nI_add, nlt0, nI_clp, leF, gI_k, e1, true_and, and_true, false_or, not_false_eq_true, Option.toList_some, List.cons_append, List.nil_append]
  refine h2.mono ?_
  rintro r2 M2 ⟨rfl, hP2⟩
  simp (disch := omega) only [Option.toList_some, List.cons_append, List.nil_append]
  rw [B_L_law_1171, if_pos rfl]
  exact hN M2 hP2
theorem LC_owes (hB : C_owes) {xs : Nat → Int32} {L i : Nat} {M : LM} {Q : Option Value → LM → Prop} (hi : i + 6 ≤ L) (hL : L ≤ 384) (hP : Pst xs L M) (hN : ∀ M', Pst xs L M' → Ends 30 k_L_law 1515 [.ref (EXT + 4), .ref 0, .ref 186, .int (nI i)] [] M' Q) : Ends 30 k_L_law 1176 [.ref (EXT + 4), .ref 0, .ref 186, .int (nI i)] [] M Q := by
  obtain ⟨I, l, u, t, q, rfl, hR⟩ := id hP
  have e1 := hR.1.ex
  show Ends (29 + 1) k_L_law 1176 _ [] _ Q
  rw [B_L_law_1176]
  simp (disch := omega) only [xtX, xlX, sh_0, sh_186, nI_lit, nI_add, nlt0, nI_clp, leF, gI_k, e1, true_and, and_true, false_or, not_false_eq_true, Option.toList_some, List.cons_append, List.nil_append]
  refine (hB (xs (i + 1)) xs L _ hP).mono ?_
  rintro r M1 ⟨w, rfl, ⟨I1, l1, u1, t1, q1, rfl, e1⟩, h2⟩
  simp (disch := omega) only [Option.toList_some, List.cons_append, List.nil_append]
  rw [B_L_law_1185]
  simp (disch := omega) only [xtX, xlX, sh_0, sh_186, nI_lit, nI_add, nlt0, nI_clp, leF, gI_k, e1, true_and, and_true, false_or, not_false_eq_true, Option.toList_some, List.cons_append, List.nil_append]
  refine h2.mono ?_
  rintro r2 M2 ⟨rfl, hP2⟩
  simp (disch := omega) only [Option.toList_some, List.cons_append, List.nil_append]
  rw [B_L_law_1194, if_pos rfl]
  exact hN M2 hP2
theorem LC_rest (hB : C_rest) {xs : Nat → Int32} {L i : Nat} {M : LM} {Q : Option Value → LM → Prop} (hi : i + 6 ≤ L) (hL : L ≤ 384) (hP : Pst xs L M) (hN : ∀ M', Pst xs L M' → Ends 30 k_L_law 1515 [.ref (EXT + 4), .ref 0, .ref 186, .int (nI i)] [] M' Q) : Ends 30 k_L_law 1199 [.ref (EXT + 4), .ref 0, .ref 186, .int (nI i)] [] M Q := by
  obtain ⟨I, l, u, t, q, rfl, hR⟩ := id hP
  have e1 := hR.1.ex
  show Ends (29 + 1) k_L_law 1199 _ [] _ Q
  rw [B_L_law_1199]
  simp (disch := omega) only [xtX, xlX, sh_0, sh_186, nI_lit, nI_add, nlt0, nI_clp, leF, gI_k, e1, true_and, and_true, false_or, not_false_eq_true, Option.toList_some, List.cons_append, List.nil_append]
  refine (hB (xs (i + 1)) xs L _ hP).mono ?_
  rintro r M1 ⟨w, rfl, ⟨I1, l1, u1, t1, q1, rfl, e1⟩, h2⟩
  simp (disch := omega) only [Option.toList_some, List.cons_append, List.nil_append]
  rw [B_L_law_1208]
  simp (disch := omega) only [xtX, xlX, sh_0, sh_186, nI_lit, nI_add, nlt0, nI_clp, leF, gI_k, e1, true_and, and_true, false_or, not_false_eq_true, Option.toList_some, List.cons_append, List.nil_append]
  refine h2.mono ?_
  rintro r2 M2 ⟨rfl, hP2⟩
  simp (disch := omega) only [Option.toList_some, List.cons_append, List.nil_append]
  rw [B_L_law_1217, if_pos rfl]
  exact hN M2 hP2
theorem LC_has (hB : C_has) {xs : Nat → Int32} {L i : Nat} {M : LM} {Q : Option Value → LM → Prop} (hi : i + 6 ≤ L) (hL : L ≤ 384) (hP : Pst xs L M) (hN : ∀ M', Pst xs L M' → Ends 30 k_L_law 1515 [.ref (EXT + 4), .ref 0, .ref 186, .int (nI i)] [] M' Q) : Ends 30 k_L_law 1222 [.ref (EXT + 4), .ref 0, .ref 186, .int (nI i)] [] M Q := by
  obtain ⟨I, l, u, t, q, rfl, hR⟩ := id hP
  have e1 := hR.1.ex
  show Ends (29 + 1) k_L_law 1222 _ [] _ Q
  rw [B_L_law_1222]
  simp (disch := omega) only [xtX, xlX, sh_0, sh_186, nI_lit, nI_add, nlt0, nI_clp, leF, gI_k, e1, true_and, and_true, false_or, not_false_eq_true, Option.toList_some, List.cons_append, List.nil_append]
  refine (hB (xs (i + 1)) (xs (i + 2)) xs L _ hP).mono ?_
  rintro r M1 ⟨w, rfl, ⟨I1, l1, u1, t1, q1, rfl, e1⟩, h2⟩
  simp (disch := omega) only [Option.toList_some, List.cons_append, List.nil_append]
  rw [B_L_law_1236]
  simp (disch := omega) only [xtX, xlX, sh_0, sh_186, nI_lit, nI_add, nlt0, nI_clp, leF, gI_k, e1, true_and, and_true, false_or, not_false_eq_true, Option.toList_some, List.cons_append, List.nil_append]
  refine h2.mono ?_
  rintro r2 M2 ⟨rfl, hP2⟩
  simp (disch := omega) only [Option.toList_some, List.cons_append, List.nil_append]
  rw [B_L_law_1250, if_pos rfl]
  exact hN M2 hP2
theorem LC_holds (hB : C_holds) {xs : Nat → Int32} {L i : Nat} {M : LM} {Q : Option Value → LM → Prop} (hi : i + 6 ≤ L) (hL : L ≤ 384) (hP : Pst xs L M) (hN : ∀ M', Pst xs L M' → Ends 30 k_L_law 1515 [.ref (EXT + 4), .ref 0, .ref 186, .int (nI i)] [] M' Q) : Ends 30 k_L_law 1255 [.ref (EXT + 4), .ref 0, .ref 186, .int (nI i)] [] M Q := by
  obtain ⟨I, l, u, t, q, rfl, hR⟩ := id hP
  have e1 := hR.1.ex
  show Ends (29 + 1) k_L_law 1255 _ [] _ Q
  rw [B_L_law_1255]
  simp (disch := omega) only [xtX, xlX, sh_0, sh_186, nI_lit, nI_add, nlt0, nI_clp, leF, gI_k, e1, true_and, and_true, false_or, not_false_eq_true, Option.toList_some, List.cons_append, List.nil_append]
  refine (hB (xs (i + 1)) (xs (i + 2)) (xs (i + 3)) xs L _ hP).mono ?_
  rintro r M1 ⟨w, rfl, ⟨I1, l1, u1, t1, q1, rfl, e1⟩, h2⟩
  simp (disch := omega) only [Option.toList_some, List.cons_append, List.nil_append]
  rw [B_L_law_1274]
  simp (disch := omega) only [xtX, xlX, sh_0, sh_186, nI_lit, nI_add, nlt0, nI_clp, leF, gI_k, e1, true_and, and_true, false_or, not_false_eq_true, Option.toList_some, List.cons_append, List.nil_append]
  refine h2.mono ?_
  rintro r2 M2 ⟨rfl, hP2⟩
  simp (disch := omega) only [Option.toList_some, List.cons_append, List.nil_append]
  rw [B_L_law_1293, if_pos rfl]
  exact hN M2 hP2
theorem LC_reform (hB : C_reform) {xs : Nat → Int32} {L i : Nat} {M : LM} {Q : Option Value → LM → Prop} (hi : i + 6 ≤ L) (hL : L ≤ 384) (hP : Pst xs L M) (hN : ∀ M', Pst xs L M' → Ends 30 k_L_law 1515 [.ref (EXT + 4), .ref 0, .ref 186, .int (nI i)] [] M' Q) : Ends 30 k_L_law 1298 [.ref (EXT + 4), .ref 0, .ref 186, .int (nI i)] [] M Q := by
  obtain ⟨I, l, u, t, q, rfl, hR⟩ := id hP
  have e1 := hR.1.ex
  show Ends (29 + 1) k_L_law 1298 _ [] _ Q
  rw [B_L_law_1298]
  simp (disch := omega) only [xtX, xlX, sh_0, sh_186, nI_lit, nI_add, nlt0, nI_clp, leF, gI_k, e1, true_and, and_true, false_or, not_false_eq_true, Option.toList_some, List.cons_append, List.nil_append]
  refine (hB (xs (i + 1)) xs L _ hP).mono ?_
  rintro r M1 ⟨w, rfl, ⟨I1, l1, u1, t1, q1, rfl, e1⟩, h2⟩
  simp (disch := omega) only [Option.toList_some, List.cons_append, List.nil_append]
  rw [B_L_law_1307]
  simp (disch := omega) only [xtX, xlX, sh_0, sh_186, nI_lit, nI_add, nlt0, nI_clp, leF, gI_k, e1, true_and, and_true, false_or, not_false_eq_true, Option.toList_some, List.cons_append, List.nil_append]
  refine h2.mono ?_
  rintro r2 M2 ⟨rfl, hP2⟩
  simp (disch := omega) only [Option.toList_some, List.cons_append, List.nil_append]
  rw [B_L_law_1316, if_pos rfl]
  exact hN M2 hP2
theorem LC_image (hB : C_image) {xs : Nat → Int32} {L i : Nat} {M : LM} {Q : Option Value → LM → Prop} (hi : i + 6 ≤ L) (hL : L ≤ 384) (hP : Pst xs L M) (hN : ∀ M', Pst xs L M' → Ends 30 k_L_law 1515 [.ref (EXT + 4), .ref 0, .ref 186, .int (nI i)] [] M' Q) : Ends 30 k_L_law 1321 [.ref (EXT + 4), .ref 0, .ref 186, .int (nI i)] [] M Q := by
  obtain ⟨I, l, u, t, q, rfl, hR⟩ := id hP
  have e1 := hR.1.ex
  show Ends (29 + 1) k_L_law 1321 _ [] _ Q
  rw [B_L_law_1321]
  simp (disch := omega) only [xtX, xlX, sh_0, sh_186, nI_lit, nI_add, nlt0, nI_clp, leF, gI_k, e1, true_and, and_true, false_or, not_false_eq_true, Option.toList_some, List.cons_append, List.nil_append]
  refine (hB (xs (i + 1)) xs L _ hP).mono ?_
  rintro r M1 ⟨w, rfl, ⟨I1, l1, u1, t1, q1, rfl, e1⟩, h2⟩
  simp (disch := omega) only [Option.toList_some, List.cons_append, List.nil_append]
  rw [B_L_law_1330]
  simp (disch := omega) only [xtX, xlX, sh_0, sh_186, nI_lit, nI_add, nlt0, nI_clp, leF, gI_k, e1, true_and, and_true, false_or, not_false_eq_true, Option.toList_some, List.cons_append, List.nil_append]
  refine h2.mono ?_
  rintro r2 M2 ⟨rfl, hP2⟩
  simp (disch := omega) only [Option.toList_some, List.cons_append, List.nil_append]
  rw [B_L_law_1339, if_pos rfl]
  exact hN M2 hP2
theorem LC_restore (hB : C_restore) {xs : Nat → Int32} {L i : Nat} {M : LM} {Q : Option Value → LM → Prop} (hi : i + 6 ≤ L) (hL : L ≤ 384) (hP : Pst xs L M) (hN : ∀ M', Pst xs L M' → Ends 30 k_L_law 1515 [.ref (EXT + 4), .ref 0, .ref 186, .int (nI i)] [] M' Q) : Ends 30 k_L_law 1344 [.ref (EXT + 4), .ref 0, .ref 186, .int (nI i)] [] M Q := by
  obtain ⟨I, l, u, t, q, rfl, hR⟩ := id hP
  have e1 := hR.1.ex
  show Ends (29 + 1) k_L_law 1344 _ [] _ Q
  rw [B_L_law_1344]
  simp (disch := omega) only [xtX, xlX, sh_0, sh_186, nI_lit, nI_add, nlt0, nI_clp, leF, gI_k, e1, true_and, and_true, false_or, not_false_eq_true, Option.toList_some, List.cons_append, List.nil_append]
  refine (hB (xs (i + 1)) xs L _ hP).mono ?_
  rintro r M1 ⟨w, rfl, ⟨I1, l1, u1, t1, q1, rfl, e1⟩, h2⟩
  simp (disch := omega) only [Option.toList_some, List.cons_append, List.nil_append]
  rw [B_L_law_1353]
  simp (disch := omega) only [xtX, xlX, sh_0, sh_186, nI_lit, nI_add, nlt0, nI_clp, leF, gI_k, e1, true_and, and_true, false_or, not_false_eq_true, Option.toList_some, List.cons_append, List.nil_append]
  refine h2.mono ?_
  rintro r2 M2 ⟨rfl, hP2⟩
  simp (disch := omega) only [Option.toList_some, List.cons_append, List.nil_append]
  rw [B_L_law_1362, if_pos rfl]
  exact hN M2 hP2
theorem LC_kind (hB : C_kind) {xs : Nat → Int32} {L i : Nat} {M : LM} {Q : Option Value → LM → Prop} (hi : i + 6 ≤ L) (hL : L ≤ 384) (hP : Pst xs L M) (hN : ∀ M', Pst xs L M' → Ends 30 k_L_law 1515 [.ref (EXT + 4), .ref 0, .ref 186, .int (nI i)] [] M' Q) : Ends 30 k_L_law 1367 [.ref (EXT + 4), .ref 0, .ref 186, .int (nI i)] [] M Q := by
  obtain ⟨I, l, u, t, q, rfl, hR⟩ := id hP
  have e1 := hR.1.ex
  show Ends (29 + 1) k_L_law 1367 _ [] _ Q
  rw [B_L_law_1367]
  simp (disch := omega) only [xtX, xlX, sh_0, sh_186, nI_lit, nI_add, nlt0, nI_clp, leF, gI_k, e1, true_and, and_true, false_or, not_false_eq_true, Option.toList_some, List.cons_append, List.nil_append]
  refine (hB (xs (i + 1)) xs L _ hP).mono ?_
  rintro r M1 ⟨w, rfl, ⟨I1, l1, u1, t1, q1, rfl, e1⟩, h2⟩
  simp (disch := omega) only [Option.toList_some, List.cons_append, List.nil_append]
  rw [B_L_law_1376]
  simp (disch := omega) only [xtX, xlX, sh_0, sh_186, nI_lit, nI_add, nlt0, nI_clp, leF, gI_k, e1, true_and, and_true, false_or, not_false_eq_true, Option.toList_some, List.cons_append, List.nil_append]
  refine h2.mono ?_
  rintro r2 M2 ⟨rfl, hP2⟩
  simp (disch := omega) only [Option.toList_some, List.cons_append, List.nil_append]
  rw [B_L_law_1385, if_pos rfl]
  exact hN M2 hP2
theorem LC_as (hB : C_as) {xs : Nat → Int32} {L i : Nat} {M : LM} {Q : Option Value → LM → Prop} (hi : i + 6 ≤ L) (hL : L ≤ 384) (hP : Pst xs L M) (hN : ∀ M', Pst xs L M' → Ends 30 k_L_law 1515 [.ref (EXT + 4), .ref 0, .ref 186, .int (nI i)] [] M' Q) : Ends 30 k_L_law 1390 [.ref (EXT + 4), .ref 0, .ref 186, .int (nI i)] [] M Q := by
  obtain ⟨I, l, u, t, q, rfl, hR⟩ := id hP
  have e1 := hR.1.ex
  show Ends (29 + 1) k_L_law 1390 _ [] _ Q
  rw [B_L_law_1390]
  simp (disch := omega) only [xtX, xlX, sh_0, sh_186, nI_lit, nI_add, nlt0, nI_clp, leF, gI_k, e1, true_and, and_true, false_or, not_false_eq_true, Option.toList_some, List.cons_append, List.nil_append]
  refine (hB (xs (i + 1)) (xs (i + 2)) xs L _ hP).mono ?_
  rintro r M1 ⟨w, rfl, ⟨I1, l1, u1, t1, q1, rfl, e1⟩, h2⟩
  simp (disch := omega) only [Option.toList_some, List.cons_append, List.nil_append]
  rw [B_L_law_1404]
  simp (disch := omega) only [xtX, xlX, sh_0, sh_186, nI_lit, nI_add, nlt0, nI_clp, leF, gI_k, e1, true_and, and_true, false_or, not_false_eq_true, Option.toList_some, List.cons_append, List.nil_append]
  refine h2.mono ?_
  rintro r2 M2 ⟨rfl, hP2⟩
  simp (disch := omega) only [Option.toList_some, List.cons_append, List.nil_append]
  rw [B_L_law_1418, if_pos rfl]
  exact hN M2 hP2
theorem LC_asks (hB : C_asks) {xs : Nat → Int32} {L i : Nat} {M : LM} {Q : Option Value → LM → Prop} (hi : i + 6 ≤ L) (hL : L ≤ 384) (hP : Pst xs L M) (hN : ∀ M', Pst xs L M' → Ends 30 k_L_law 1515 [.ref (EXT + 4), .ref 0, .ref 186, .int (nI i)] [] M' Q) : Ends 30 k_L_law 1423 [.ref (EXT + 4), .ref 0, .ref 186, .int (nI i)] [] M Q := by
  obtain ⟨I, l, u, t, q, rfl, hR⟩ := id hP
  have e1 := hR.1.ex
  show Ends (29 + 1) k_L_law 1423 _ [] _ Q
  rw [B_L_law_1423]
  simp (disch := omega) only [xtX, xlX, sh_0, sh_186, nI_lit, nI_add, nlt0, nI_clp, leF, gI_k, e1, true_and, and_true, false_or, not_false_eq_true, Option.toList_some, List.cons_append, List.nil_append]
  refine (hB (xs (i + 1)) (xs (i + 2)) xs L _ hP).mono ?_
  rintro r M1 ⟨w, rfl, ⟨I1, l1, u1, t1, q1, rfl, e1⟩, h2⟩
  simp (disch := omega) only [Option.toList_some, List.cons_append, List.nil_append]
  rw [B_L_law_1437]
  simp (disch := omega) only [xtX, xlX, sh_0, sh_186, nI_lit, nI_add, nlt0, nI_clp, leF, gI_k, e1, true_and, and_true, false_or, not_false_eq_true, Option.toList_some, List.cons_append, List.nil_append]
  refine h2.mono ?_
  rintro r2 M2 ⟨rfl, hP2⟩
  simp (disch := omega) only [Option.toList_some, List.cons_append, List.nil_append]
  rw [B_L_law_1451, if_pos rfl]
  exact hN M2 hP2
theorem LC_trace (hB : C_trace) {xs : Nat → Int32} {L i : Nat} {M : LM} {Q : Option Value → LM → Prop} (hi : i + 6 ≤ L) (hL : L ≤ 384) (hP : Pst xs L M) (hN : ∀ M', Pst xs L M' → Ends 30 k_L_law 1515 [.ref (EXT + 4), .ref 0, .ref 186, .int (nI i)] [] M' Q) : Ends 30 k_L_law 1456 [.ref (EXT + 4), .ref 0, .ref 186, .int (nI i)] [] M Q := by
  obtain ⟨I, l, u, t, q, rfl, hR⟩ := id hP
  have e1 := hR.1.ex
  show Ends (29 + 1) k_L_law 1456 _ [] _ Q
  rw [B_L_law_1456]
  simp (disch := omega) only [xtX, xlX, sh_0, sh_186, nI_lit, nI_add, nlt0, nI_clp, leF, gI_k, e1, true_and, and_true, false_or, not_false_eq_true, Option.toList_some, List.cons_append, List.nil_append]
  refine (hB (xs (i + 1)) xs L _ hP).mono ?_
  rintro r M1 ⟨w, rfl, ⟨I1, l1, u1, t1, q1, rfl, e1⟩, h2⟩
  simp (disch := omega) only [Option.toList_some, List.cons_append, List.nil_append]
  rw [B_L_law_1465]
  simp (disch := omega) only [xtX, xlX, sh_0, sh_186, nI_lit, nI_add, nlt0, nI_clp, leF, gI_k, e1, true_and, and_true, false_or, not_false_eq_true, Option.toList_some, List.cons_append, List.nil_append]
  refine h2.mono ?_
  rintro r2 M2 ⟨rfl, hP2⟩
  simp (disch := omega) only [Option.toList_some, List.cons_append, List.nil_append]
  rw [B_L_law_1474, if_pos rfl]
  exact hN M2 hP2
theorem LC_count (hB : C_count) {xs : Nat → Int32} {L i : Nat} {M : LM} {Q : Option Value → LM → Prop} (hi : i + 6 ≤ L) (hL : L ≤ 384) (hP : Pst xs L M) (hN : ∀ M', Pst xs L M' → Ends 30 k_L_law 1515 [.ref (EXT + 4), .ref 0, .ref 186, .int (nI i)] [] M' Q) : Ends 30 k_L_law 1479 [.ref (EXT + 4), .ref 0, .ref 186, .int (nI i)] [] M Q := by
  obtain ⟨I, l, u, t, q, rfl, hR⟩ := id hP
  have e1 := hR.1.ex
  show Ends (29 + 1) k_L_law 1479 _ [] _ Q
  rw [B_L_law_1479]
  simp (disch := omega) only [xtX, xlX, sh_0, sh_186, nI_lit, nI_add, nlt0, nI_clp, leF, gI_k, e1, true_and, and_true, false_or, not_false_eq_true, Option.toList_some, List.cons_append, List.nil_append]
  refine (hB (xs (i + 1)) xs L _ hP).mono ?_
  rintro r M1 ⟨w, rfl, ⟨I1, l1, u1, t1, q1, rfl, e1⟩, h2⟩
  simp (disch := omega) only [Option.toList_some, List.cons_append, List.nil_append]
  rw [B_L_law_1488]
  simp (disch := omega) only [xtX, xlX, sh_0, sh_186, nI_lit, nI_add, nlt0, nI_clp, leF, gI_k, e1, true_and, and_true, false_or, not_false_eq_true, Option.toList_some, List.cons_append, List.nil_append]
  refine h2.mono ?_
  rintro r2 M2 ⟨rfl, hP2⟩
  simp (disch := omega) only [Option.toList_some, List.cons_append, List.nil_append]
  rw [B_L_law_1497, if_pos rfl]
  exact hN M2 hP2
theorem LC_status (hB : C_status) {xs : Nat → Int32} {L i : Nat} {M : LM} {Q : Option Value → LM → Prop} (hi : i + 6 ≤ L) (hL : L ≤ 384) (hP : Pst xs L M) (hN : ∀ M', Pst xs L M' → Ends 30 k_L_law 1515 [.ref (EXT + 4), .ref 0, .ref 186, .int (nI i)] [] M' Q) : Ends 30 k_L_law 1502 [.ref (EXT + 4), .ref 0, .ref 186, .int (nI i)] [] M Q := by
  obtain ⟨I, l, u, t, q, rfl, hR⟩ := id hP
  have e1 := hR.1.ex
  show Ends (29 + 1) k_L_law 1502 _ [] _ Q
  rw [B_L_law_1502]
  simp (disch := omega) only [xtX, xlX, sh_0, sh_186, nI_lit, nI_add, nlt0, nI_clp, leF, gI_k, e1, true_and, and_true, false_or, not_false_eq_true, Option.toList_some, List.cons_append, List.nil_append]
  refine (hB  xs L _ hP).mono ?_
  rintro r M1 ⟨w, rfl, ⟨I1, l1, u1, t1, q1, rfl, e1⟩, h2⟩
  simp (disch := omega) only [Option.toList_some, List.cons_append, List.nil_append]
  rw [B_L_law_1506]
  simp (disch := omega) only [xtX, xlX, sh_0, sh_186, nI_lit, nI_add, nlt0, nI_clp, leF, gI_k, e1, true_and, and_true, false_or, not_false_eq_true, Option.toList_some, List.cons_append, List.nil_append]
  refine h2.mono ?_
  rintro r2 M2 ⟨rfl, hP2⟩
  simp (disch := omega) only [Option.toList_some, List.cons_append, List.nil_append]
  rw [B_L_law_1510, if_pos rfl]
  exact hN M2 hP2
def AllC : Prop := C_sheet ∧ C_set ∧ C_copy ∧ C_drop ∧ C_feed ∧ C_land ∧ C_fault ∧ C_later ∧ C_goes ∧ C_man ∧ C_law ∧ C_pact ∧ C_debt ∧ C_debts ∧ C_ask ∧ C_letter ∧ C_pay ∧ C_claim ∧ C_may ∧ C_seize ∧ C_swear ∧ C_says ∧ C_grown ∧ C_net ∧ C_way ∧ C_opened ∧ C_shut ∧ C_dead ∧ C_owes ∧ C_rest ∧ C_has ∧ C_holds ∧ C_reform ∧ C_image ∧ C_restore ∧ C_kind ∧ C_as ∧ C_asks ∧ C_trace ∧ C_count ∧ C_status
theorem iteI {c A B : Prop} {_ : Decidable c} (h1 : c → A) (h2 : ¬ c → B) : if c then A else B := by
  by_cases h : c
  · rw [if_pos h]; exact h1 h
  · rw [if_neg h]; exact h2 h
theorem law_loop (hA : AllC) {xs : Nat → Int32} {L : Nat} (hL : L ≤ 384) {Q : Option Value → LM → Prop} (hQ : ∀ M, Pst xs L M → Q (some (.int 1)) M) : ∀ m i : Nat, ∀ M : LM, L + 6 - i ≤ m → i ≤ L + 6 → Pst xs L M → Ends 30 k_L_law 18 [.ref (EXT + 4), .ref 0, .ref 186, .int (nI i)] [] M Q := by
  obtain ⟨a0, a1, a2, a3, a4, a5, a6, a7, a8, a9, a10, a11, a12, a13, a14, a15, a16, a17, a18, a19, a20, a21, a22, a23, a24, a25, a26, a27, a28, a29, a30, a31, a32, a33, a34, a35, a36, a37, a38, a39, a40⟩ := hA
  intro m
  induction m with
  | zero =>
    intro i M hm hi hP
    obtain ⟨I, l, u, t, q, rfl, hR⟩ := id hP
    rw [B_L_law_18]
    refine ⟨Or.inl xtX, ?_⟩
    rw [if_pos]
    · exact hQ _ hP
    · rw [xlX, Int32.lt_iff_toInt_lt, Int32.toInt_sub]
      show ((nI L).toInt - (nI 6).toInt).bmod _ < (nI i).toInt
      rw [nI_toInt (by omega), nI_toInt (by decide), nI_toInt (by omega), Int.bmod_eq_of_le (by omega) (by omega)]
      omega
  | succ m ih =>
    intro i M hm hi hP
    obtain ⟨I, l, u, t, q, rfl, hR⟩ := id hP
    have e1 := hR.1.ex
    rw [B_L_law_18]
    refine ⟨Or.inl xtX, ?_⟩
    by_cases hlt : L < i + 6
    · rw [if_pos]
      · exact hQ _ hP
      · rw [xlX, Int32.lt_iff_toInt_lt, Int32.toInt_sub]
        show ((nI L).toInt - (nI 6).toInt).bmod _ < (nI i).toInt
        rw [nI_toInt (by omega), nI_toInt (by decide), nI_toInt (by omega), Int.bmod_eq_of_le (by omega) (by omega)]
        omega
    · rw [if_neg]
      · have hi6 : i + 6 ≤ L := by omega
        have hN : ∀ M', Pst xs L M' → Ends 30 k_L_law 1515 [.ref (EXT + 4), .ref 0, .ref 186, .int (nI i)] [] M' Q := by
          intro M' hP'
          rw [B_L_law_1515]
          have e6 : nI i + 6 = nI (i + 6) := nI_add i 6
          rw [e6]
          exact ih (i + 6) M' (by omega) (by omega) hP'
        refine ⟨⟨xtX, by rw [xlX]; exact nI_in (by omega) (by omega)⟩, ?_⟩
        rw [B_L_law_33]
        repeat' refine iteI (fun _ => ?_) (fun _ => ?_)
        · exact LC_sheet a0 hi6 hL hP hN
        · exact LC_set a1 hi6 hL hP hN
        · exact LC_copy a2 hi6 hL hP hN
        · exact LC_drop a3 hi6 hL hP hN
        · exact LC_feed a4 hi6 hL hP hN
        · exact LC_land a5 hi6 hL hP hN
        · exact LC_fault a6 hi6 hL hP hN
        · exact LC_later a7 hi6 hL hP hN
        · exact LC_goes a8 hi6 hL hP hN
        · exact LC_man a9 hi6 hL hP hN
        · exact LC_law a10 hi6 hL hP hN
        · exact LC_pact a11 hi6 hL hP hN
        · exact LC_debt a12 hi6 hL hP hN
        · exact LC_debts a13 hi6 hL hP hN
        · exact LC_ask a14 hi6 hL hP hN
        · exact LC_letter a15 hi6 hL hP hN
        · exact LC_pay a16 hi6 hL hP hN
        · exact LC_claim a17 hi6 hL hP hN
        · exact LC_may a18 hi6 hL hP hN
        · exact LC_seize a19 hi6 hL hP hN
        · exact LC_swear a20 hi6 hL hP hN
        · exact LC_says a21 hi6 hL hP hN
        · exact LC_grown a22 hi6 hL hP hN
        · exact LC_net a23 hi6 hL hP hN
        · exact LC_way a24 hi6 hL hP hN
        · exact LC_opened a25 hi6 hL hP hN
        · exact LC_shut a26 hi6 hL hP hN
        · exact LC_dead a27 hi6 hL hP hN
        · exact LC_owes a28 hi6 hL hP hN
        · exact LC_rest a29 hi6 hL hP hN
        · exact LC_has a30 hi6 hL hP hN
        · exact LC_holds a31 hi6 hL hP hN
        · exact LC_reform a32 hi6 hL hP hN
        · exact LC_image a33 hi6 hL hP hN
        · exact LC_restore a34 hi6 hL hP hN
        · exact LC_kind a35 hi6 hL hP hN
        · exact LC_as a36 hi6 hL hP hN
        · exact LC_asks a37 hi6 hL hP hN
        · exact LC_trace a38 hi6 hL hP hN
        · exact LC_count a39 hi6 hL hP hN
        · exact LC_status a40 hi6 hL hP hN
        exact hN _ hP
      · rw [xlX, Int32.not_lt, Int32.le_iff_toInt_le, Int32.toInt_sub]
        show (nI i).toInt ≤ ((nI L).toInt - (nI 6).toInt).bmod _
        rw [nI_toInt (by omega), nI_toInt (by omega), nI_toInt (by omega), Int.bmod_eq_of_le (by omega) (by omega)]
        omega
