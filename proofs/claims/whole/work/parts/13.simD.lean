/-! ===== calls, and the whole: what a run of the small machine comes to, the machine comes to ===== -/
abbrev MBr : Type := Nat × MethodName × ByteArray × Nat × Option FieldType × Nat
/-- a method's table tells its bytes; its words are among the Statement's -/
def GM (mz : MT) (bz : MBr) : Prop := chkT bz.1 (decide (bz.2.2.2.2.2 = 2)) bz.2.2.1 mz.2.2.2.2 = true ∧ Cond.code bz.2.1 bz.2.2.1 bz.2.2.2.1 bz.2.2.2.2.1 ∈ gtb ∧ ∃ p, mokA mz bz p = true
def Gd : Prop := ∀ (z : Nat) (mz : MT) (bz : MBr), z < 267 → MS[z]? = some mz → MB[z]? = some bz → GM mz bz
theorem tr_call {own : Nat} {ini : Bool} {pc : Nat} {ins0 : Instr} {z : Nat} (h : tr own ini pc ins0 = some (.invokestatic z)) : ∃ i b, pl PM own i = some z ∧ MB[z]? = some b ∧ ((ins0 = .invokevirtual i ∧ b.2.2.2.2.2 = 1) ∨ (ins0 = .invokestatic i ∧ b.2.2.2.2.2 = 0) ∨ (ins0 = .invokespecial i ∧ b.2.2.2.2.2 = 2)) := by
  cases ins0 with
  | invokevirtual i =>
    simp only [tr] at h
    split at h
    · rename_i z' hp
      split at h
      · rename_i b hb
        split at h
        · rename_i hk
          cases h
          exact ⟨i, b, hp, hb, Or.inl ⟨rfl, hk⟩⟩
        · cases h
      · cases h
    · cases h
  | invokestatic i =>
    simp only [tr] at h
    split at h
    · cases h
    · cases h
    · cases h
    · cases h
    · rename_i z' hp _ _ _ _
      split at h
      · rename_i b hb
        split at h
        · rename_i hk
          cases h
          exact ⟨i, b, by assumption, hb, Or.inr (Or.inl ⟨rfl, hk⟩)⟩
        · cases h
      · cases h
    · cases h
  | invokespecial i =>
    simp only [tr] at h
    split at h
    · cases h
    · rename_i z' hp _
      split at h
      · rename_i b hb
        split at h
        · rename_i hk
          cases h
          exact ⟨i, b, by assumption, hb, Or.inr (Or.inr ⟨rfl, hk⟩)⟩
        · cases h
      · cases h
    · cases h
  | _ =>
    simp only [tr] at h
    (repeat' split at h) <;> first | cases h | exact absurd (jmp_spec h).2 (by simp) | exact absurd (kst_spec h).2 (by simp) | (rw [Option.map_eq_some_iff] at h; obtain ⟨j, hj, hh⟩ := h; cases hh)
theorem pm_lt {own i z : Nat} (h : pl PM own i = some z) {b : MBr} (hb : MB[z]? = some b) : z < 267 := by
  obtain ⟨-, -, hm⟩ := pl_spec h
  have h1 := List.all_eq_true.mp PM_rng _ hm
  rw [Bool.or_eq_true, decide_eq_true_eq, decide_eq_true_eq] at h1
  rcases h1 with h1 | h1
  · exact h1
  · have h2 : z < MB.length := (List.getElem?_eq_some_iff.mp hb).1
    have h3 : MB.length = 268 := by decide +kernel
    simp only at h1
    omega
theorem chk_at {own : Nat} {ini : Bool} {cc : ByteArray} {tb : TB} {pc nx : Nat} {ins : Instr} (h : chkT own ini cc tb = true) (hl : look tb pc = some (ins, nx)) : ∃ ins0 len, decode cc pc = .ok (ins0, len) ∧ nx = pc + len ∧ (lenOf ins0 = 0 ∨ len = lenOf ins0) ∧ tr own ini pc ins0 = some ins := by
  have h1 := List.all_eq_true.mp h _ (look_mem hl)
  unfold chk1 at h1
  split at h1
  · rename_i ins0 len hd
    rw [Bool.and_eq_true, Bool.and_eq_true, decide_eq_true_eq, decide_eq_true_eq, decide_eq_true_eq] at h1
    exact ⟨ins0, len, hd, h1.1.1, h1.1.2, h1.2⟩
  · cases h1
/-- what a callee is given, and what it gives back -/
def Jst (D : va_G) (cs : Nat → ClassId) (base : Nat) (ad : Nat → Nat) (M : LM) (U : State) : Prop :=
  va_K D vwCl (tyl cs) U ∧ va_P D vwCl (wld ad cs M) U.heap ∧ va_D (fun q => base ≤ q) (wld ad cs M) ∧ Xt (fun q => base ≤ q) ad M U ∧ U.heap.size = base + M.1.length ∧ M.1.length ≤ EXT
def QL (D : va_G) (cs : Nat → ClassId) (base : Nat) (ad : Nat → Nat) (r : Option Value) (M' : LM) : Array Value → State → Outcome → State → Prop := fun _ st oc t =>
  oc = .returned (r.map (mpv ad)) ∧ va_P D vwCl (wld ad cs M') t.heap ∧ va_D (fun q => base ≤ q) (wld ad cs M') ∧ va_F (fun q => base ≤ q) st t ∧ t.heap.size = base + M'.1.length
def rmd (d mc ms : Nat) : Room := { frames := d + 2, cells := mc, slots := ms, locals := 40 * (d + 2) }
theorem rtOf_inv {t : Option FieldType} {k : Nat} (h : rtOf t = k) : (k = 0 → t = none) ∧ (k = 1 → t = some .int) ∧ (k = 2 → t = some .boolean) ∧ (k = 3 → t = some .byte) ∧ (k = 4 → t = some .char) ∧ (k = 5 → t = some .long) := by
  cases t with
  | none => subst h; simp [rtOf]
  | some t => cases t <;> (subst h; simp [rtOf])
section SimD
variable {p : Program} {l : Launch} {e : Env} {R : Room} {s : State} {m : MethodId} {args : Array Value} {below : List Frame} {meth : Method} {c : Code} {H : Heap} {locs : List Loc} {cells slots : Nat} {Q : State → Prop} {cc : ByteArray} {ad : Nat → Nat} {D : va_G} {cs : Nat → ClassId} {base C0 S0 : Nat}
theorem lcall {M' : LM} {r : Option Value} {a : Array Value} {pc mc ms : Nat} {ls : Array Slot} {st0 rest : List Value} (hr : va_Run p l e R s m args below meth c H locs cells slots mc ms (F0 m pc ls st0) rest (QL D cs base ad r M' a) (fun q => base ≤ q)) (hS : va_S (fun q => base ≤ q) s.heap H locs)
    (kk : ∀ (H1 : Heap) (locs1 : List Loc), va_P D vwCl (wld ad cs M') H1 → va_D (fun q => base ≤ q) (wld ad cs M') → va_S (fun q => base ≤ q) s.heap H1 locs1 → H1.size = base + M'.1.length → W p l e R s m args below meth c H1 locs1 (cells + mc) (slots + ms) Q (F0 m (pc + 3) ls ((r.map (mpv ad)).toList ++ rest))) : W p l e R s m args below meth c H locs cells slots Q (F0 m pc ls st0) := by
  intro T hT X
  obtain ⟨v, st₀, t, T', L, h0, X', hL, e1, e2, ⟨hv, hP, hD, ⟨hz, hk⟩, hsz⟩, st⟩ := hr T hT X
  cases hv
  rw [h0] at hz hk
  rw [← e1] at hz hk hP hsz
  obtain ⟨t2, a1, b1⟩ := kk T'.heap (locs ++ L) hP hD
    ⟨Nat.le_trans hS.1 hz, fun q h1 h2 => by rw [hk q (Nat.lt_of_lt_of_le h1 hS.1) h2]; exact hS.2.1 q h1 h2, fun q hq => by
      rcases List.mem_append.mp hq with h | h
      · exact hS.2.2 q h
      · exact hL q h⟩ hsz T' rfl X'
  exact ⟨t2, st t2 a1, b1⟩
theorem Jst.blind {M : LM} {U : State} {g : JFrame} {mk : MethodId} {a : Array Value} (h : Jst D cs base ad M U) : Jst D cs base ad M (U.calling g mk a) := by
  obtain ⟨h1, h2, h3, h4, h5, h6⟩ := h
  exact ⟨va_K.moved (u := U) (U := U.calling g mk a) (Vm.Alike.refl U.vm) h1, h2, h3, h4.moved (U := U.calling g mk a) (State.WarmedH.refl U) (fun _ _ _ => rfl), h5, h6⟩
theorem Jv.st {M : LM} (h : Jv D cs base ad s H locs M) {U : State} (hU : U.heap = H) (hW : s.WarmedH U.vm) : Jst D cs base ad M U := by
  obtain ⟨hK, hP, hD, hS, hX, hz, hE⟩ := h
  exact ⟨va_K.moved hW.alike hK, by rw [hU]; exact hP, hD, hX.moved hW (fun a h1 h2 => by rw [hU]; exact hS.2.1 a h1 h2), by rw [hU]; exact hz, hE⟩
/-- the room of a return -/
theorem sim_ret {mt rt : Nat} {ret : Option FieldType} {ins : Instr} {st' : List Value} {r : Option Value} {cnd : Dp} {M' : LM} {pc' mc ms : Nat} {ls' : Array Slot} (hx : p.tables.exec = Jvm.exec) (hb : c.code = cc) (hr : meth.sig.returnType = ret) (hlk : meth.locks = false) (hrt : rtOf ret = rt) (hd : decode cc pc' = .ok (ins, 1)) (hv : retv rt ins st' = some (cnd, r)) (hc : cnd.1) (hJ : Jv D cs base ad s H locs M') :
    W p l e R s m args below meth c H locs cells slots (MQ below (QL D cs base ad r M') args s cells slots (fun q => base ≤ q)) (F0 m pc' ls' (st'.map (mpv ad))) := by
  obtain ⟨hK, hP, hD, hS, hX, hz, hE⟩ := hJ
  obtain ⟨i0, i1, i2, i3, i4, i5⟩ := rtOf_inv hrt
  have hq : ∀ (o : Option Value), o = r.map (mpv ad) → ∀ t : State, t.heap = H → s.WarmedH t.vm → QL D cs base ad r M' args s (.returned o) t := by
    intro o ho t ht hW
    refine ⟨by rw [ho], by rw [ht]; exact hP, hD, hS.F ht, by rw [ht]; exact hz⟩
  unfold retv at hv
  split at hv
  · cases hv
    exact W.vret hx hb (by rw [hr]; exact i0 rfl) (hq _ rfl) hS.2.2 hd hlk
  · cases hv
    exact W.iret hx hb (by rw [hr]; exact i1 rfl) (hq _ rfl) hS.2.2 hd hlk
  · cases hv
    refine W.zret (ty := .boolean) hx hb (by rw [hr]; exact i2 rfl) ?_ (hq _ rfl) hS.2.2 hd hlk
    rcases hc with h | h <;> (have h : _ = _ := h; subst h; decide)
  · rename_i v
    cases hv
    refine W.zret (ty := .byte) hx hb (by rw [hr]; exact i3 rfl) ?_ (hq _ rfl) hS.2.2 hd hlk
    have hc : v = v.toInt8.toInt32 := hc
    rw [hc]
    exact pk_nb v
  · rename_i v
    cases hv
    refine W.zret (ty := .char) hx hb (by rw [hr]; exact i4 rfl) ?_ (hq _ rfl) hS.2.2 hd hlk
    have hc : v = (v.toUInt32 % 65536).toInt32 := hc
    rw [hc]
    exact pk_nc v
  · cases hv
    exact W.lret hx hb (by rw [hr]; exact i5 rfl) (hq _ rfl) hS.2.2 hd hlk
  · cases hv
end SimD
/-- what the theorem says at a fuel -/
def SimAt (l : Launch) (D : va_G) (cs : Nat → ClassId) (base : Nat) (ad : Nat → Nat) (n : Nat) : Prop :=
  ∀ (d y pc : Nat) (ls st : List Value) (M : LM) (r : Option Value) (M' : LM), run n d y pc ls st M = some (r, M') → ∀ (mt : MT) (b : MBr), MS[y]? = some mt → chkT b.1 (decide (b.2.2.2.2.2 = 2)) b.2.2.1 mt.2.2.2.2 = true →
    ∀ (p : Program) (e : Env) (R : Room) (s : State) (m : MethodId) (args : Array Value) (below : List Frame) (meth : Method) (c : Code) (H : Heap) (locs : List Loc) (cells slots : Nat) (Q : State → Prop) (lsr : Array Slot) (C0 S0 : Nat),
      p.tables.exec = Jvm.exec → c.code = b.2.2.1 → c.maxLocals = lsr.size → s.vm.findClass (ownS b.1) = some m.cls → (∀ w ∈ gtb, w.before args s = true) → (decide (b.2.2.2.2.2 = 2) = true → meth.name = "<init>") → s.heap.size = base + C0 → d + 2 ≤ R.frames → 40 * (d + 2) ≤ R.locals →
      LH ad lsr ls → nodb ls → Jv D cs base ad s H locs M → C0 + cells = M.1.length → S0 + slots = nS M → M'.1.length ≤ C0 + R.cells → nS M' ≤ S0 + R.slots →
      (∀ (H' : Heap) (locs' : List Loc) (cells' slots' pc' : Nat) (ls' : Array Slot) (ins : Instr) (st' : List Value) (cnd : Dp), Jv D cs base ad s H' locs' M' → C0 + cells' = M'.1.length → S0 + slots' = nS M' → decode b.2.2.1 pc' = .ok (ins, 1) → retv mt.2.2.1 ins st' = some (cnd, r) → cnd.1 → W p l e R s m args below meth c H' locs' cells' slots' Q (F0 m pc' ls' (st'.map (mpv ad)))) →
      W p l e R s m args below meth c H locs cells slots Q (F0 m pc lsr (st.map (mpv ad)))
