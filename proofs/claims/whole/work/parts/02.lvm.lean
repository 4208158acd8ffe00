/-! ===== THE SMALL MACHINE: a deterministic machine over lists, to which the walks are carried over once and for all =====
A value is an int, a long or a ref (null stands for 'nothing that may be read'). Memory: shapes (tag, number) by address (tag 0: an object, number = its class in vwCl; 1: int row, 2: byte row, 3: boolean row, 4 + c: row of references to class c; number = length), ints and references (0 null, k + 1 the cell k) by address and place.
Instructions are the decoded ones with pools and targets resolved. -/
abbrev LM : Type := List (Nat × Nat) × (Nat → Nat → Int32) × (Nat → Nat → Nat)
abbrev TB : Type := List (Nat × Instr × Nat)
abbrev SS : Type := Nat × List Value × List Value × LM
abbrev Dp : Type := (c : Prop) ×' Decidable c
abbrev EXT : Nat := 1048576
def gI (M : LM) (a k : Nat) : Int32 := M.2.1 a k
def gR (M : LM) (a k : Nat) : Nat := M.2.2 a k
def tg (M : LM) (a : Nat) : Nat := match M.1[a]? with
  | some q => q.1
  | none => 99
def ln (M : LM) (a : Nat) : Nat := match M.1[a]? with
  | some q => q.2
  | none => 0
def pI (M : LM) (a k : Nat) (v : Int32) : LM := (M.1, va_up M.2.1 a (upd (M.2.1 a) k v), M.2.2)
def pR (M : LM) (a k : Nat) (v : Nat) : LM := (M.1, M.2.1, va_up M.2.2 a (va_up (M.2.2 a) k v))
def pC (M : LM) (a : Nat) (f : Nat → Int32) : LM := (M.1, va_up M.2.1 a f, M.2.2)
def pN (M : LM) (q : Nat × Nat) : LM := (M.1 ++ [q], va_up M.2.1 M.1.length (fun _ => 0), va_up M.2.2 M.1.length (fun _ => 0))
/-- kinds of a class's fields: 0 int, 1 boolean, 2 reference -/
def fkOf (ft : List (List Nat)) (c k : Nat) : Nat := (ft.getD c []).getD k 9
def xtg (M : LM) (a : Nat) : Nat := if a < EXT then tg M a else if a < EXT + 5 then 1 else if EXT + 100 ≤ a ∧ a < EXT + 106 then 2 else 99
def xln (M : LM) (a : Nat) : Nat := if a < EXT then ln M a else gR M a 0
def look : TB → Nat → Option (Instr × Nat)
  | [], _ => none
  | q :: t, pc => cond (Nat.beq q.1 pc) (some q.2) (look t pc)
def okst (ls : List Value) : Nat → Bool
  | 0 => Nat.blt 0 ls.length
  | i + 1 => Nat.blt (i + 1) ls.length && (match ls[i]? with
    | some (.long _) => false
    | _ => true)
def swt : List (Int × Int) → Int → Int → Int
  | [], d, _ => d
  | q :: r, d, x => if x = q.1 then q.2 else swt r d x
def ents : List Value → List Value
  | [] => []
  | .long x :: r => .long x :: .null :: ents r
  | v :: r => v :: ents r
def ent (args : List Value) (n : Nat) : List Value := ents args ++ List.replicate (n - (ents args).length) .null
def cat8 (st : List Value) : Bool := Nat.ble ((st.map fun v => v.category).sum) 8
abbrev SR : Type := SS ⊕ ((Dp × SS × SS) ⊕ (Dp × SS))
abbrev sg (s : SS) : Option SR := some (.inl s)
abbrev sb (c : Prop) (d : Decidable c) (s t : SS) : Option SR := some (.inr (.inl (⟨c, d⟩, s, t)))
abbrev so (c : Prop) (d : Decidable c) (s : SS) : Option SR := some (.inr (.inr (⟨c, d⟩, s)))
/-- an instruction that reaches neither calls nor returns nor memory -/
def stpA (ins : Instr) (nx : Nat) (ls st : List Value) (M : LM) : Option SR :=
  match ins with
  | .sipush v => sg (nx, ls, .int (Int32.ofInt v) :: st, M)
  | .ldc2_w n => sg (nx, ls, .long (Int64.ofNat n) :: st, M)
  | .iload i => match ls[i]? with
    | some (.int x) => sg (nx, ls, .int x :: st, M)
    | _ => none
  | .lload i => match ls[i]? with
    | some (.long x) => sg (nx, ls, .long x :: st, M)
    | _ => none
  | .aload i => match ls[i]? with
    | some (.ref x) => sg (nx, ls, .ref x :: st, M)
    | _ => none
  | .istore i => match okst ls i, st with
    | true, .int x :: r => sg (nx, ls.set i (.int x), r, M)
    | _, _ => none
  | .astore i => match okst ls i, st with
    | true, .ref x :: r => sg (nx, ls.set i (.ref x), r, M)
    | _, _ => none
  | .lstore i => match okst ls i, Nat.blt (i + 1) ls.length, st with
    | true, true, .long x :: r => sg (nx, (ls.set i (.long x)).set (i + 1) .null, r, M)
    | _, _, _ => none
  | .iinc i n => match okst ls i, ls[i]? with
    | true, some (.int x) => sg (nx, ls.set i (.int (x + Int32.ofInt n)), st, M)
    | _, _ => none
  | .iadd => match st with | .int y :: .int x :: r => sg (nx, ls, .int (x + y) :: r, M) | _ => none
  | .isub => match st with | .int y :: .int x :: r => sg (nx, ls, .int (x - y) :: r, M) | _ => none
  | .imul => match st with | .int y :: .int x :: r => sg (nx, ls, .int (x * y) :: r, M) | _ => none
  | .iand => match st with | .int y :: .int x :: r => sg (nx, ls, .int (x &&& y) :: r, M) | _ => none
  | .ior => match st with | .int y :: .int x :: r => sg (nx, ls, .int (x ||| y) :: r, M) | _ => none
  | .ixor => match st with | .int y :: .int x :: r => sg (nx, ls, .int (x ^^^ y) :: r, M) | _ => none
  | .ishl => match st with | .int y :: .int x :: r => sg (nx, ls, .int (x <<< (y &&& 31)) :: r, M) | _ => none
  | .ishr => match st with | .int y :: .int x :: r => sg (nx, ls, .int (x >>> (y &&& 31)) :: r, M) | _ => none
  | .iushr => match st with | .int y :: .int x :: r => sg (nx, ls, .int ((x.toUInt32 >>> (y.toUInt32 &&& Int32.toUInt32 31)).toInt32) :: r, M) | _ => none
  | .idiv => match st with | .int y :: .int x :: r => so (¬ y = 0) inferInstance (nx, ls, .int (x / y) :: r, M) | _ => none
  | .irem => match st with | .int y :: .int x :: r => so (¬ y = 0) inferInstance (nx, ls, .int (x - x / y * y) :: r, M) | _ => none
  | .ineg => match st with | .int x :: r => sg (nx, ls, .int (-x) :: r, M) | _ => none
  | .i2b => match st with | .int x :: r => sg (nx, ls, .int x.toInt8.toInt32 :: r, M) | _ => none
  | .i2s => match st with | .int x :: r => sg (nx, ls, .int x.toInt16.toInt32 :: r, M) | _ => none
  | .i2c => match st with | .int x :: r => sg (nx, ls, .int (x.toUInt32 % 65536).toInt32 :: r, M) | _ => none
  | .i2l => match st with | .int x :: r => sg (nx, ls, .long x.toInt64 :: r, M) | _ => none
  | .l2i => match st with | .long x :: r => sg (nx, ls, .int x.toInt32 :: r, M) | _ => none
  | .ladd => match st with | .long y :: .long x :: r => sg (nx, ls, .long (x + y) :: r, M) | _ => none
  | .land => match st with | .long y :: .long x :: r => sg (nx, ls, .long (x &&& y) :: r, M) | _ => none
  | .lor => match st with | .long y :: .long x :: r => sg (nx, ls, .long (x ||| y) :: r, M) | _ => none
  | .lshl => match st with | .int y :: .long x :: r => sg (nx, ls, .long (x <<< (y.toInt64 &&& 63)) :: r, M) | _ => none
  | .lshr => match st with | .int y :: .long x :: r => sg (nx, ls, .long (x >>> (y.toInt64 &&& 63)) :: r, M) | _ => none
  | .lcmp => match st with | .long y :: .long x :: r => sg (nx, ls, .int (lg_cmp x y) :: r, M) | _ => none
  | .dup => match st with
    | .int x :: r => sg (nx, ls, .int x :: .int x :: r, M)
    | .ref x :: r => sg (nx, ls, .ref x :: .ref x :: r, M)
    | _ => none
  | .pop => match st with | .int _ :: r => sg (nx, ls, r, M) | .ref _ :: r => sg (nx, ls, r, M) | _ => none
  | .dup2 => match st with | .int y :: .ref x :: r => sg (nx, ls, .int y :: .ref x :: .int y :: .ref x :: r, M) | _ => none
  | .goto t => sg (t.toNat, ls, st, M)
  | .ifCond .eq t => match st with | .int x :: r => sb (x = 0) inferInstance (t.toNat, ls, r, M) (nx, ls, r, M) | _ => none
  | .ifCond .ne t => match st with | .int x :: r => sb (x = 0) inferInstance (nx, ls, r, M) (t.toNat, ls, r, M) | _ => none
  | .ifCond .lt t => match st with | .int x :: r => sb (x < 0) inferInstance (t.toNat, ls, r, M) (nx, ls, r, M) | _ => none
  | .ifCond .ge t => match st with | .int x :: r => sb (0 ≤ x) inferInstance (t.toNat, ls, r, M) (nx, ls, r, M) | _ => none
  | .ifCond .gt t => match st with | .int x :: r => sb (0 < x) inferInstance (t.toNat, ls, r, M) (nx, ls, r, M) | _ => none
  | .ifCond .le t => match st with | .int x :: r => sb (x ≤ 0) inferInstance (t.toNat, ls, r, M) (nx, ls, r, M) | _ => none
  | .if_icmp .eq t => match st with | .int y :: .int x :: r => sb (x = y) inferInstance (t.toNat, ls, r, M) (nx, ls, r, M) | _ => none
  | .if_icmp .ne t => match st with | .int y :: .int x :: r => sb (x = y) inferInstance (nx, ls, r, M) (t.toNat, ls, r, M) | _ => none
  | .if_icmp .lt t => match st with | .int y :: .int x :: r => sb (x < y) inferInstance (t.toNat, ls, r, M) (nx, ls, r, M) | _ => none
  | .if_icmp .ge t => match st with | .int y :: .int x :: r => sb (y ≤ x) inferInstance (t.toNat, ls, r, M) (nx, ls, r, M) | _ => none
  | .if_icmp .gt t => match st with | .int y :: .int x :: r => sb (y < x) inferInstance (t.toNat, ls, r, M) (nx, ls, r, M) | _ => none
  | .if_icmp .le t => match st with | .int y :: .int x :: r => sb (x ≤ y) inferInstance (t.toNat, ls, r, M) (nx, ls, r, M) | _ => none
  | .lookupswitch d ps => match st with | .int x :: r => sg ((swt ps.toList d x.toInt).toNat, ls, r, M) | _ => none
  | _ => none
/-- an instruction that reaches memory -/
def stpB (ft : List (List Nat)) (ins : Instr) (nx : Nat) (ls st : List Value) (M : LM) : Option SR :=
  match ins with
  | .getfield q => match st with
    | .ref a :: r => match fkOf ft (q / 64) (q % 64) with
      | 0 => so (M.1[a]? = some (0, q / 64)) inferInstance (nx, ls, .int (gI M a (q % 64)) :: r, M)
      | 1 => so (M.1[a]? = some (0, q / 64)) inferInstance (nx, ls, .int (gI M a (q % 64)) :: r, M)
      | 2 => so (M.1[a]? = some (0, q / 64) ∧ ¬ gR M a (q % 64) = 0) inferInstance (nx, ls, .ref (gR M a (q % 64) - 1) :: r, M)
      | 3 => so (EXT + 200 ≤ a ∧ a < EXT + 206) inferInstance (nx, ls, .ref (a - 100) :: r, M)
      | 4 => so (EXT + 200 ≤ a ∧ a < EXT + 206) inferInstance (nx, ls, .int 0 :: r, M)
      | _ => none
    | _ => none
  | .putfield q => match st with
    | .int v :: .ref a :: r => match fkOf ft (q / 64) (q % 64) with
      | 0 => so (M.1[a]? = some (0, q / 64)) inferInstance (nx, ls, r, pI M a (q % 64) v)
      | 1 => so (M.1[a]? = some (0, q / 64) ∧ (v = 0 ∨ v = 1)) inferInstance (nx, ls, r, pI M a (q % 64) v)
      | _ => none
    | .ref b :: .ref a :: r => match fkOf ft (q / 64) (q % 64) with
      | 2 => so (M.1[a]? = some (0, q / 64)) inferInstance (nx, ls, r, pR M a (q % 64) (b + 1))
      | _ => none
    | _ => none
  | .iaload => match st with
    | .int i :: .ref a :: r => so (xtg M a = 1 ∧ ¬ (i < 0 ∨ xln M a ≤ i.toNatClampNeg)) inferInstance (nx, ls, .int (gI M a i.toNatClampNeg) :: r, M)
    | _ => none
  | .baload => match st with
    | .int i :: .ref a :: r => so ((xtg M a = 2 ∨ xtg M a = 3) ∧ ¬ (i < 0 ∨ xln M a ≤ i.toNatClampNeg)) inferInstance (nx, ls, .int (gI M a i.toNatClampNeg) :: r, M)
    | _ => none
  | .aaload => match st with
    | .int i :: .ref a :: r => so ((tg M a = 5 ∨ tg M a = 8) ∧ ¬ (i < 0 ∨ ln M a ≤ i.toNatClampNeg) ∧ ¬ gR M a i.toNatClampNeg = 0) inferInstance (nx, ls, .ref (gR M a i.toNatClampNeg - 1) :: r, M)
    | _ => none
  | .iastore => match st with
    | .int x :: .int i :: .ref a :: r => so (tg M a = 1 ∧ ¬ (i < 0 ∨ ln M a ≤ i.toNatClampNeg)) inferInstance (nx, ls, r, pI M a i.toNatClampNeg x)
    | _ => none
  | .bastore => match st with
    | .int x :: .int i :: .ref a :: r => so ((tg M a = 2 ∨ (tg M a = 3 ∧ (x = 0 ∨ x = 1))) ∧ ¬ (i < 0 ∨ ln M a ≤ i.toNatClampNeg)) inferInstance (nx, ls, r, pI M a i.toNatClampNeg x.toInt8.toInt32)
    | _ => none
  | .aastore => match st with
    | .ref x :: .int i :: .ref a :: r => so ((tg M a = 5 ∨ tg M a = 8) ∧ ¬ (i < 0 ∨ ln M a ≤ i.toNatClampNeg) ∧ M.1[x]? = some (0, tg M a - 4)) inferInstance (nx, ls, r, pR M a i.toNatClampNeg (x + 1))
    | _ => none
  | .arraylength => match st with
    | .ref a :: r => so (xtg M a = 1 ∨ xtg M a = 2) inferInstance (nx, ls, .int (Int32.ofNat (xln M a)) :: r, M)
    | _ => none
  | .new q => so (M.1.length < EXT ∧ q < 11) inferInstance (nx, ls, .ref M.1.length :: st, pN M (0, q))
  | .newarray .int => match st with
    | .int n :: r => so (M.1.length < EXT ∧ ¬ n < 0 ∧ n.toNatClampNeg ≤ 65536) inferInstance (nx, ls, .ref M.1.length :: r, pN M (1, n.toNatClampNeg))
    | _ => none
  | .newarray .byte => match st with
    | .int n :: r => so (M.1.length < EXT ∧ ¬ n < 0 ∧ n.toNatClampNeg ≤ 65536) inferInstance (nx, ls, .ref M.1.length :: r, pN M (2, n.toNatClampNeg))
    | _ => none
  | .newarray .boolean => match st with
    | .int n :: r => so (M.1.length < EXT ∧ ¬ n < 0 ∧ n.toNatClampNeg ≤ 65536) inferInstance (nx, ls, .ref M.1.length :: r, pN M (3, n.toNatClampNeg))
    | _ => none
  | .anewarray q => match st with
    | .int n :: r => so ((q = 1 ∨ q = 4) ∧ M.1.length < EXT ∧ ¬ n < 0 ∧ n.toNatClampNeg ≤ 65536) inferInstance (nx, ls, .ref M.1.length :: r, pN M (4 + q, n.toNatClampNeg))
    | _ => none
  | .getstatic 4 => sg (nx, ls, .int 1 :: st, M)
  | .getstatic j => so (j < 4) inferInstance (nx, ls, .ref (EXT + j) :: st, M)
  | .ldc j => so (j < 6) inferInstance (nx, ls, .ref (EXT + 200 + j) :: st, M)
  | .invokeinterface 0 0 => match st with
    | .int n :: .int dp :: .ref b :: .int sp :: .ref a :: r => so (tg M a = 1 ∧ tg M b = 1 ∧ ¬ sp < 0 ∧ ¬ dp < 0 ∧ ¬ n < 0 ∧ sp.toNatClampNeg + n.toNatClampNeg ≤ ln M a ∧ dp.toNatClampNeg + n.toNatClampNeg ≤ ln M b ∧ cat8 r = true) inferInstance (nx, ls, r, pC M b (va_cpy (M.2.1 a) (M.2.1 b) sp.toNatClampNeg dp.toNatClampNeg n.toNatClampNeg))
    | _ => none
  | .invokeinterface 2 0 => match st with
    | .int y :: .int x :: r => so (cat8 r = true) inferInstance (nx, ls, .int (if x < y then y else x) :: r, M)
    | _ => none
  | .invokeinterface 3 0 => match st with
    | .int y :: .int x :: r => so (cat8 r = true) inferInstance (nx, ls, .int (if y < x then y else x) :: r, M)
    | _ => none
  | .invokeinterface 4 0 => match st with
    | .int n :: .int i :: r => so ((¬ i < 0 ∧ i < n) ∧ cat8 r = true) inferInstance (nx, ls, r, M)
    | _ => none
  | .invokeinterface 1 0 => match st with
    | .ref _ :: r => so (cat8 r = true) inferInstance (nx, ls, r, M)
    | _ => none
  | _ => none
def stp (ft : List (List Nat)) (ins : Instr) (nx : Nat) (ls st : List Value) (M : LM) : Option SR :=
  match stpA ins nx ls st M with
  | some r => some r
  | none => stpB ft ins nx ls st M
/-- what a return gives: 0 void, 1 int, 2 boolean, 3 byte, 4 char, 5 long -/
def retv (rt : Nat) (ins : Instr) (st : List Value) : Option (Dp × Option Value) :=
  match ins, rt, st with
  | .return_, 0, [] => some (⟨True, inferInstance⟩, none)
  | .ireturn, 1, [.int v] => some (⟨True, inferInstance⟩, some (.int v))
  | .ireturn, 2, [.int v] => some (⟨v = 0 ∨ v = 1, inferInstance⟩, some (.int v))
  | .ireturn, 3, [.int v] => some (⟨v = v.toInt8.toInt32, inferInstance⟩, some (.int v))
  | .ireturn, 4, [.int v] => some (⟨v = (v.toUInt32 % 65536).toInt32, inferInstance⟩, some (.int v))
  | .lreturn, 5, [.long v] => some (⟨True, inferInstance⟩, some (.long v))
  | _, _, _ => none
/-- a method: values taken, locals, what it returns, whose object the receiver must be (97: any; 98: a text; 99: there is none), its table -/
abbrev MT : Type := Nat × Nat × Nat × Nat × TB
/-- the receiver of a call -/
def rcv (rc : Nat) (args : List Value) (M : LM) : Option Dp :=
  match rc with
  | 99 => some ⟨True, inferInstance⟩
  | 98 => match args with
    | .ref a :: _ => some ⟨EXT + 200 ≤ a ∧ a < EXT + 206, inferInstance⟩
    | _ => none
  | 97 => match args with
    | .ref _ :: _ => some ⟨True, inferInstance⟩
    | _ => none
  | rc => match args with
    | .ref a :: _ => some ⟨M.1[a]? = some (0, rc), inferInstance⟩
    | _ => none
def okV : Value → Bool
  | .int _ => true
  | .long _ => true
  | .ref _ => true
  | _ => false
