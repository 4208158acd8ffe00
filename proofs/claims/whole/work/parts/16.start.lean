/-! ===== the law's entry, out of the small machine's run of it ===== -/
def FLT : List Cond := flatC (Jvm.Cond.and given_1 narrow_1)
def sCon : List (List Int32) := [[-1000000, 0, 0, 2, 1, 0, 5], [6, 12, 12, 12, 4, 12], [10, 11, 13, 14, 12, 15, 0], [20, 21, 22, 23, 0, 0, 24]]
def tCon : List (List Int32) := [[116, 111, 119, 110], [109, 97, 110], [114, 111, 97, 100], [108, 97, 119], [102, 97, 105, 114], [112, 97, 99, 116]]
def stT (j : Nat) : Term := .static (stn j).1 (stn j).2.1 (stn j).2.2
def txT (j : Nat) : Term := .string RX6 (PTs.getD j (0, "")).1
theorem st_words : ∀ j, j < 4 → Cond.arrayOf (stT j) .int ∈ FLT ∧ Cond.eq (.length (stT j)) (.int (Int32.ofNat (sCon.getD j []).length)) ∈ FLT ∧ ∀ i, i < (sCon.getD j []).length → Cond.eq (.elem (stT j) (.int (Int32.ofNat i))) (.int ((sCon.getD j []).getD i 0)) ∈ FLT := by decide +kernel
theorem tx_words : ∀ j, j < 6 → Cond.exactly (txT j) "java/lang/String" ∈ FLT ∧ Cond.eq (.field (txT j) "java/lang/String" "coder" "B") (.int 0) ∈ FLT ∧ Cond.arrayOf (.field (txT j) "java/lang/String" "value" "[B") .byte ∈ FLT ∧ Cond.eq (.length (.field (txT j) "java/lang/String" "value" "[B")) (.int (Int32.ofNat (tCon.map List.length |>.getD j 0))) ∈ FLT ∧ ∀ i, i < (tCon.map List.length |>.getD j 0) → Cond.eq (.elem (.field (txT j) "java/lang/String" "value" "[B") (.int (Int32.ofNat i))) (.int ((tCon.getD j []).getD i 0)) ∈ FLT := by decide +kernel
theorem tx_ne : ∀ i, i < 6 → ∀ j, j < 6 → i ≠ j → Cond.not (Cond.eq (txT i) (txT j)) ∈ FLT ∨ Cond.not (Cond.eq (txT j) (txT i)) ∈ FLT := by decide +kernel
theorem cs_word : Cond.eq (.static "java/lang/String" "COMPACT_STRINGS" "Z") (.int 1) ∈ FLT := by decide +kernel
theorem sf_ref : Cond.isRef (.static "jdk/internal/util/Preconditions" "SIOOBE_FORMATTER" "Ljava/util/function/BiFunction;") ∈ FLT := by decide +kernel
def inTbl (w : Cond) (p : Nat) : Bool := decide (lw_tbl[p]? = some w)
theorem tbl_at {p : Nat} {w : Cond} (h : inTbl w p = true) : w ∈ lw_tbl := by
  unfold inTbl at h
  rw [decide_eq_true_eq] at h
  exact List.mem_of_getElem? h
theorem lay_words : ∀ j, j < 5 → inTbl (.laysStatic (stn j).1 (stn j).2.1 (stn j).2.2) ([1086, 613, 1097, 1103, 564].getD j 0) = true ∧ inTbl (.initialized (stn j).1) ([85, 88, 95, 95, 99].getD j 0) = true := by decide +kernel
theorem sf_words : inTbl (.laysStatic "jdk/internal/util/Preconditions" "SIOOBE_FORMATTER" "Ljava/util/function/BiFunction;") 580 = true ∧ inTbl (.initialized "jdk/internal/util/Preconditions") 101 = true := by decide +kernel
theorem sref_words : ∀ j, j < 6 → inTbl (.stringRef RX6 (PTs.getD j (0, "")).1 (PTs.getD j (0, "")).2) ([550, 603, 604, 605, 606, 607].getD j 0) = true := by decide +kernel
theorem over_words : inTbl (.arrayOver (.object RX1)) 182 = true ∧ inTbl (.arrayOver (.object RX4)) 399 = true := by decide +kernel
def extI (xs : Nat → Int32) (a i : Nat) : Int32 := if a < EXT then 0 else if a = EXT + 4 then xs i else if a < EXT + 4 then (sCon.getD (a - EXT) []).getD i 0 else (tCon.getD (a - (EXT + 100)) []).getD i 0
def extR (L : Nat) (a _i : Nat) : Nat := if a < EXT then 0 else if a = EXT + 4 then L else if a < EXT + 4 then (sCon.getD (a - EXT) []).length else (tCon.map List.length).getD (a - (EXT + 100)) 0
/-- the memory as the law begins: nothing is made yet; beyond it rows and texts of the class, and the script -/
def M0 (L : Nat) (xs : Nat → Int32) : LM := ([], extI xs, extR L)
def LawEnds : Prop := ∀ (L : Nat) (xs : Nat → Int32), L ≤ 384 → Ends 30 k_L_law 0 [.ref (EXT + 4), .null, .null, .null] [] (M0 L xs) (fun r M' => r = some (.int 1) ∧ M'.1.length ≤ 600000 ∧ nS M' ≤ 7302250)
