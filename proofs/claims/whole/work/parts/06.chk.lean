/-! ===== the tables against the Statement's words, by computation ===== -/
def gtb : List Cond := lw_tbl.filter goodWord
def okAt (p : Nat) (w : Cond) : Bool := decide (lw_tbl[p]? = some w) && goodWord w
/-- words of nests are carried by hand -/
def okNt (p : Nat) (w : Cond) (nest : Bool) : Bool := decide (lw_tbl[p]? = some w) && (nest || goodWord w)
theorem gtb_at {p : Nat} {w : Cond} (h : okAt p w = true) : w ∈ gtb := by
  unfold okAt at h
  rw [Bool.and_eq_true, decide_eq_true_eq] at h
  exact List.mem_filter.mpr ⟨List.mem_of_getElem? h.1, h.2⟩
theorem zip_all {α β : Type} {f : α × β → Bool} : ∀ {l : List α} {ps : List β}, (l.zip ps).all f = true → l.length = ps.length → ∀ q ∈ l, ∃ p, f (q, p) = true := by
  intro l
  induction l with
  | nil => intro ps _ _ q hq; cases hq
  | cons a l ih =>
    intro ps h hl q hq
    cases ps with
    | nil => cases hl
    | cons b ps =>
      rw [List.zip_cons_cons, List.all_cons, Bool.and_eq_true] at h
      rcases List.mem_cons.mp hq with rfl | hq
      · exact ⟨b, h.1⟩
      · exact ih h.2 (by simpa using hl) q hq
def fld (q : Nat) : String × String × String × Bool := match vwCl[q / 64]? with
  | some r => r.2.1 (q % 64)
  | none => ("", "", "", true)
def mkF (q : Nat × Nat) : Cond := .fieldLink (ownS (q.1 / 1000)) (q.1 % 1000) (fld q.2).1 (fld q.2).2.1 (fld q.2).2.2.1
def y_sidx : MethodName := ⟨"java/lang/String", "checkIndex", "(II)V"⟩
def yOf (z : Nat) : MethodName := if z = 998 then Lib.objectInit else if z = 999 then arraycopyName else if z = 996 then Lib.Math.max.name else if z = 997 then Lib.Math.min.name else if z = 995 then y_sidx else match MB[z]? with
  | some b => b.2.1
  | none => Lib.objectInit
def mkM (q : Nat × Nat) (nest : Bool) : Cond := match nest with
  | true => .methodLinkNest (ownS (q.1 / 1000)) (q.1 % 1000) (yOf q.2) "SeizedGoods"
  | false => .methodLink (ownS (q.1 / 1000)) (q.1 % 1000) (yOf q.2)
def stn (j : Nat) : String × String × String := STt.getD j ("", "", "")
def mkS (q : Nat × Nat) (nest : Bool) : Cond := match nest with
  | true => .fieldLinkNest (ownS (q.1 / 1000)) (q.1 % 1000) (stn q.2).1 (stn q.2).2.1 (stn q.2).2.2 "SeizedGoods"
  | false => .fieldLink (ownS (q.1 / 1000)) (q.1 % 1000) (stn q.2).1 (stn q.2).2.1 (stn q.2).2.2
def cln (c : Nat) : String := match vwCl[c]? with
  | some r => r.1
  | none => ""
def vfl (j : Nat) : String × String := if j = 704 then ("value", "[B") else ("coder", "B")
theorem PF_chk : (PF.zip PFp).all (fun q => okAt q.2 (mkF q.1) && decide (q.1.2 % 64 < (match vwCl[q.1.2 / 64]? with | some r => r.2.2 | none => 0))) = true := by decide +kernel
theorem PM_chk : (PM.zip PMp).all (fun q => okNt q.2.1 (mkM q.1 q.2.2) q.2.2) = true := by decide +kernel
theorem PC_chk : (PC.zip PCp).all (fun q => okAt q.2 (.constant (ownS (q.1.1 / 1000)) (q.1.1 % 1000) (Int32.ofInt q.1.2))) = true := by decide +kernel
theorem PL_chk : (PL.zip PLp).all (fun q => okAt q.2 (.constantLong (ownS (q.1.1 / 1000)) (q.1.1 % 1000) (Int64.ofNat q.1.2))) = true := by decide +kernel
theorem PN_chk : (PN.zip PNp).all (fun q => okAt q.2 (.classLink (ownS (q.1.1 / 1000)) (q.1.1 % 1000) (cln q.1.2)) && decide (q.1.2 < 11)) = true := by decide +kernel
theorem PS_chk : (PS.zip PSp).all (fun q => okNt q.2.1 (mkS q.1 q.2.2) q.2.2 && decide (q.1.2 < 5)) = true := by decide +kernel
theorem PV_chk : (PV.zip PVp).all (fun q => okAt q.2 (.fieldLink (ownS (q.1.1 / 1000)) (q.1.1 % 1000) "java/lang/String" (vfl q.1.2).1 (vfl q.1.2).2) && (decide (q.1.2 = 704) || decide (q.1.2 = 705))) = true := by decide +kernel
theorem PT_chk : PT.all (fun q => decide (q.2 < 6) && decide (q.1 = 6000 + (PTs.getD q.2 (0, "")).1)) = true := by decide +kernel
def rtOf : Option FieldType → Nat
  | none => 0
  | some .int => 1
  | some .boolean => 2
  | some .byte => 3
  | some .char => 4
  | some .long => 5
  | _ => 9
def mokA (m : MT) (b : Nat × MethodName × ByteArray × Nat × Option FieldType × Nat) (p : Nat × Nat × Nat × Nat) : Bool :=
  okAt p.2.1 (.initialized b.2.1.cls) && decide (b.2.1.cls = ownS b.1) && plainName b.2.1.cls
  && decide (b.2.1.cls ≠ "java/lang/invoke/MethodHandle") && decide (b.2.1.cls ≠ "java/lang/invoke/VarHandle") && decide (m.2.1 = b.2.2.2.1) && decide (m.2.1 ≤ 20) && decide (rtOf b.2.2.2.2.1 = m.2.2.1)
  && (match b.2.2.2.2.2 with
    | 0 => okAt p.2.2.1 (.static b.2.1) && decide (m.2.2.2.1 = 99) && decide ((parseMethodDescriptor b.2.1.desc).map (fun d => d.parameters.length) = some m.1)
    | 1 => okAt p.2.2.1 (.instanceMethod b.2.1) && okAt p.2.2.2 (.selects b.2.1.cls b.2.1 b.2.1) && decide ((parseMethodDescriptor b.2.1.desc).map (fun d => d.parameters.length + 1) = some m.1) && ((decide (m.2.2.2.1 = 98) && decide (b.2.1.cls = "java/lang/String")) || (decide (m.2.2.2.1 < 11) && decide (b.2.1.cls = cln m.2.2.2.1)))
    | _ => okAt p.2.2.1 (.instanceMethod b.2.1) && decide (b.2.1.name = "<init>") && decide (b.2.2.2.2.1 = none) && decide (m.2.2.2.1 = 97) && decide ((parseMethodDescriptor b.2.1.desc).map (fun d => d.parameters.length + 1) = some m.1))
theorem MB_chk1 : (((MS.zip MB).zip MBp).take 100).all (fun q => mokA q.1.1 q.1.2 q.2) = true := by decide +kernel
theorem MB_chk2 : ((((MS.zip MB).zip MBp).drop 100).take 167).all (fun q => mokA q.1.1 q.1.2 q.2) = true := by decide +kernel
theorem PM_rng : PM.all (fun q => decide (q.2 < 267) || decide (900 ≤ q.2)) = true := by decide +kernel
