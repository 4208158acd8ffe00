/-! ===== the small machine against the machine: values, locals, instructions without memory ===== -/
def mpv (ad : Nat → Nat) (v : Value) : Value := match v with
  | .ref k => .ref (ad k)
  | .int a => .int a
  | .long a => .long a
  | .float a => .float a
  | .double a => .double a
  | .null => .null
  | .retAddr a => .retAddr a
theorem mpv_cat (ad : Nat → Nat) (v : Value) : (mpv ad v).category = v.category := by cases v <;> rfl
/-- the machine's locals hold the small machine's -/
def LH (ad : Nat → Nat) (ls : Array Slot) (lv : List Value) : Prop := ls.size = lv.length ∧ lv_wf ls ∧ ∀ (i : Nat) (v : Value), lv[i]? = some v → v ≠ .null → ls[i]? = some (.val (mpv ad v))
def lvl (ad : Nat → Nat) : Nat → List Value → List (Nat × Value)
  | _, [] => []
  | i, v :: r => (if v = .null then [] else [(i, mpv ad v)]) ++ lvl ad (i + 1) r
theorem lvl_mem {ad : Nat → Nat} : ∀ {lv : List Value} {i j : Nat} {w : Value}, (j, w) ∈ lvl ad i lv ↔ ∃ v, i ≤ j ∧ lv[j - i]? = some v ∧ v ≠ .null ∧ w = mpv ad v := by
  intro lv
  induction lv with
  | nil => intro i j w; simp [lvl]
  | cons u r ih =>
    intro i j w
    rw [lvl, List.mem_append, ih]
    constructor
    · rintro (h | ⟨v, h1, h2, h3, h4⟩)
      · by_cases hu : u = .null
        · rw [if_pos hu] at h; cases h
        · rw [if_neg hu, List.mem_singleton] at h
          cases h
          exact ⟨u, Nat.le_refl _, by simp, hu, rfl⟩
      · refine ⟨v, by omega, ?_, h3, h4⟩
        rw [show j - i = (j - (i + 1)) + 1 by omega, List.getElem?_cons_succ]
        exact h2
    · rintro ⟨v, h1, h2, h3, h4⟩
      by_cases hj : j = i
      · subst hj
        simp at h2
        subst h2
        exact Or.inl (by rw [if_neg h3, h4]; exact List.mem_singleton.mpr rfl)
      · refine Or.inr ⟨v, by omega, ?_, h3, h4⟩
        rw [show j - i = (j - (i + 1)) + 1 by omega, List.getElem?_cons_succ] at h2
        exact h2
theorem LH.has {ad : Nat → Nat} {ls : Array Slot} {lv : List Value} (h : LH ad ls lv) : lv_has ls lv.length (lvl ad 0 lv) := by
  refine ⟨h.1, h.2.1, fun q hq => ?_⟩
  obtain ⟨v, h1, h2, h3, h4⟩ := (lvl_mem (j := q.1) (w := q.2)).mp hq
  rw [h4]
  exact h.2.2 q.1 v (by simpa using h2) h3
theorem LH.at {ad : Nat → Nat} {ls : Array Slot} {lv : List Value} (h : LH ad ls lv) {i : Nat} {v : Value} (hv : lv[i]? = some v) (hn : v ≠ .null) : ls[i]? = some (.val (mpv ad v)) := h.2.2 i v hv hn
theorem okst_spec {lv : List Value} {i : Nat} (h : okst lv i = true) : i < lv.length ∧ ∀ j x, j + 1 = i → lv[j]? ≠ some (.long x) := by
  cases i with
  | zero => exact ⟨Nat.blt_eq.mp h, fun j x hj => by omega⟩
  | succ k =>
    rw [okst, Bool.and_eq_true] at h
    refine ⟨Nat.blt_eq.mp h.1, fun j x hj hx => ?_⟩
    have : j = k := by omega
    subst this
    rw [hx] at h
    exact absurd h.2 (by simp)
theorem cat2 {v : Value} {lv : List Value} {j : Nat} {ad : Nat → Nat} (h : (mpv ad v).category = 2) (hd : ∀ x, v ≠ .double x) (_ : lv[j]? = some v) : ∃ x, v = .long x := by
  rw [mpv_cat] at h
  cases v with
  | long x => exact ⟨x, rfl⟩
  | double x => exact absurd rfl (hd x)
  | _ => simp [Value.category] at h
/-- no doubles among the locals -/
def nodb (lv : List Value) : Prop := ∀ (i : Nat) (x : UInt64), lv[i]? ≠ some (.double x)
theorem LH.store {ad : Nat → Nat} {ls' : Array Slot} {lv : List Value} {i : Nat} {v : Value} (ok : okst lv i = true) (hd : nodb lv) (h : lv_has ls' lv.length ((i, mpv ad v) :: (lvl ad 0 lv).filter (fun q => !(q.1 == i) && !(q.1 + 1 == i && q.2.category == 2)))) : LH ad ls' (lv.set i v) := by
  obtain ⟨o1, o2⟩ := okst_spec ok
  refine ⟨by rw [List.length_set]; exact h.1, h.2.1, fun j w hw hn => ?_⟩
  by_cases hj : j = i
  · subst hj
    rw [List.getElem?_set_self o1] at hw
    cases hw
    exact h.2.2 (j, mpv ad v) List.mem_cons_self
  · rw [List.getElem?_set_ne (fun q => hj q.symm)] at hw
    refine h.2.2 (j, mpv ad w) (List.mem_cons_of_mem _ (List.mem_filter.mpr ⟨lvl_mem.mpr ⟨w, Nat.zero_le _, by simpa using hw, hn, rfl⟩, ?_⟩))
    have e1 : (j == i) = false := by simpa using hj
    by_cases hc : j + 1 = i
    · have : ¬ (mpv ad w).category = 2 := fun q => by
        obtain ⟨x, rfl⟩ := cat2 q (fun x hx => hd j x (by rw [hw, hx])) hw
        exact o2 j x hc hw
      simp [e1, this]
    · simp [e1, hc]
theorem LH.store2 {ad : Nat → Nat} {ls' : Array Slot} {lv : List Value} {i : Nat} {x : Int64} (ok : okst lv i = true) (hi : i + 1 < lv.length) (hd : nodb lv) (h : lv_has ls' lv.length ((i, .long x) :: (lvl ad 0 lv).filter (fun q => !(q.1 == i) && (!(q.1 == i + 1) && !(q.1 + 1 == i && q.2.category == 2))))) : LH ad ls' ((lv.set i (.long x)).set (i + 1) .null) := by
  obtain ⟨o1, o2⟩ := okst_spec ok
  refine ⟨by rw [List.length_set, List.length_set]; exact h.1, h.2.1, fun j w hw hn => ?_⟩
  by_cases hk : j = i + 1
  · subst hk
    rw [List.getElem?_set_self (by rw [List.length_set]; exact hi)] at hw
    cases hw
    exact absurd rfl hn
  · rw [List.getElem?_set_ne (fun q => hk q.symm)] at hw
    by_cases hj : j = i
    · subst hj
      rw [List.getElem?_set_self o1] at hw
      cases hw
      exact h.2.2 (j, .long x) List.mem_cons_self
    · rw [List.getElem?_set_ne (fun q => hj q.symm)] at hw
      refine h.2.2 (j, mpv ad w) (List.mem_cons_of_mem _ (List.mem_filter.mpr ⟨lvl_mem.mpr ⟨w, Nat.zero_le _, by simpa using hw, hn, rfl⟩, ?_⟩))
      have e1 : (j == i) = false := by simpa using hj
      have e2 : (j == i + 1) = false := by simpa using hk
      by_cases hc : j + 1 = i
      · have : ¬ (mpv ad w).category = 2 := fun q => by
          obtain ⟨y, rfl⟩ := cat2 q (fun y hy => hd j y (by rw [hw, hy])) hw
          exact o2 j y hc hw
        simp [e1, e2, this]
      · simp [e1, e2, hc]
theorem nodb_set {lv : List Value} {i : Nat} {v : Value} (h : nodb lv) (hv : ∀ x, v ≠ .double x) : nodb (lv.set i v) := by
  intro j x hj
  by_cases e : j = i
  · subst e
    by_cases hl : j < lv.length
    · rw [List.getElem?_set_self hl] at hj
      cases hj
      exact hv x rfl
    · rw [List.getElem?_eq_none (by rw [List.length_set]; omega)] at hj
      cases hj
  · rw [List.getElem?_set_ne (fun q => e q.symm)] at hj
    exact h j x hj
/-- what must hold behind a step, by the step's kind -/
def Cont (P : SS → Prop) : SR → Prop
  | .inl s => P s
  | .inr (.inl (c, s, t)) => (c.1 → P s) ∧ (¬ c.1 → P t)
  | .inr (.inr (c, s)) => c.1 ∧ P s
theorem swt_nonneg {l : List (Int × Int)} {d x : Int} (hd : 0 ≤ d) (h : ∀ q ∈ l, 0 ≤ q.2) : 0 ≤ swt l d x := by
  induction l with
  | nil => exact hd
  | cons q t ih =>
    rw [swt]
    split
    · exact h q List.mem_cons_self
    · exact ih fun r hr => h r (List.mem_cons_of_mem _ hr)
theorem swt_out {offs : List Int} {x d : Int} {g : Int → Int} : ∀ {lo : Int} {k : Nat}, (x < lo + k ∨ lo + k + (offs.length : Int) ≤ x) → swt ((offs.zipIdx k).map (fun q => (lo + (q.2 : Int), g q.1))) d x = d := by
  induction offs with
  | nil => intro lo k _; rfl
  | cons o t ih =>
    intro lo k h
    rw [List.zipIdx_cons, List.map_cons, swt, if_neg]
    · refine ih ?_
      simp only [List.length_cons] at h
      omega
    · simp only [List.length_cons] at h
      omega
theorem swt_in {offs : List Int} {x d : Int} {g : Int → Int} : ∀ {lo : Int} {k : Nat} {o : Int}, lo + k ≤ x → offs[(x - (lo + k)).toNat]? = some o → swt ((offs.zipIdx k).map (fun q => (lo + (q.2 : Int), g q.1))) d x = g o := by
  induction offs with
  | nil => intro lo k o _ h; cases h
  | cons u t ih =>
    intro lo k o h1 h
    rw [List.zipIdx_cons, List.map_cons, swt]
    by_cases hx : x = lo + k
    · rw [if_pos hx]
      subst hx
      simp at h
      rw [h]
    · rw [if_neg hx]
      refine ih (by omega) ?_
      rw [show (x - (lo + k)).toNat = (x - (lo + (k + 1 : Nat))).toNat + 1 by omega, List.getElem?_cons_succ] at h
      exact h
-- SIMA
theorem pl_spec {α : Type} {L : List (Nat × α)} {own i : Nat} {v : α} (h : pl L own i = some v) : (own * 1000 + i) / 1000 = own ∧ (own * 1000 + i) % 1000 = i ∧ (own * 1000 + i, v) ∈ L := by
  unfold pl at h
  split at h
  · exact ⟨by omega, by omega, plook_mem h⟩
  · cases h
theorem pc_word {own i : Nat} {n : Int} (h : pl PC own i = some n) : Cond.constant (ownS own) i (Int32.ofInt n) ∈ gtb := by
  obtain ⟨h1, h2, hm⟩ := pl_spec h
  obtain ⟨p, hp⟩ := zip_all PC_chk (by decide +kernel) _ hm
  have := gtb_at hp
  rwa [h1, h2] at this
theorem pl_word {own i n : Nat} (h : pl PL own i = some n) : Cond.constantLong (ownS own) i (Int64.ofNat n) ∈ gtb := by
  obtain ⟨h1, h2, hm⟩ := pl_spec h
  obtain ⟨p, hp⟩ := zip_all PL_chk (by decide +kernel) _ hm
  have := gtb_at hp
  rwa [h1, h2] at this
theorem swt_off {pc d x : Int} : ∀ (l : List (Int × Int)), swt (l.map (fun q => (q.1, pc + q.2))) (pc + d) x = pc + Op.lookupswitch.offset l d x := by
  intro l
  induction l with
  | nil => rfl
  | cons q t ih =>
    rw [List.map_cons, swt, show (q :: t) = ((q.1, q.2) :: t) from rfl, Op.lookupswitch.offset_cons]
    by_cases h : x = q.1
    · rw [if_pos h, if_pos h.symm]
    · rw [if_neg h, if_neg (fun e => h e.symm), ih]
theorem jmp_spec {pc : Nat} {off : Int} {f : Int → Instr} {i : Instr} (h : jmp pc off f = some i) : ((pc : Int) + off = (((pc : Int) + off).toNat : Int)) ∧ i = f ((pc : Int) + off) := by
  unfold jmp at h
  split at h
  · cases h
    exact ⟨by omega, rfl⟩
  · cases h
theorem kst_spec {v w : Int32} {n : Int} {i : Instr} (h : kst v w n = some i) : v = w ∧ i = .sipush n := by
  unfold kst at h
  split at h
  · cases h
    exact ⟨by assumption, rfl⟩
  · cases h
section SimA
variable {p : Program} {l : Launch} {e : Env} {R : Room} {s : State} {m : MethodId} {args : Array Value} {below : List Frame} {meth : Method} {c : Code} {H : Heap} {locs : List Loc} {cells slots : Nat} {Q : State → Prop} {cc : ByteArray} {ad : Nat → Nat}
set_option maxHeartbeats 4000000 in
/-- an instruction without memory -/
theorem simA (hx : p.tables.exec = Jvm.exec) (hb : c.code = cc) {own : Nat} {ini : Bool} (hown : s.vm.findClass (ownS own) = some m.cls) (hts : ∀ w ∈ gtb, w.before args s = true) {pc len : Nat} {ins0 ins : Instr} {ls st : List Value} {M : LM} {lsr : Array Slot} {r : SR}
    (hd : decode cc pc = .ok (ins0, len)) (hlen : lenOf ins0 = 0 ∨ len = lenOf ins0) (ht : tr own ini pc ins0 = some ins) (hs : stpA ins (pc + len) ls st M = some r) (hl : LH ad lsr ls) (hn : nodb ls)
    (kk : Cont (fun t => ∀ ls' : Array Slot, LH ad ls' t.2.1 → nodb t.2.1 → W p l e R s m args below meth c H locs cells slots Q (F0 m t.1 ls' (t.2.2.1.map (mpv ad)))) r) :
    W p l e R s m args below meth c H locs cells slots Q (F0 m pc lsr (st.map (mpv ad))) := by
  cases ins0 with
  | iload_n k =>
    obtain rfl : len = 1 := hlen.resolve_left (by simp [lenOf])
    cases ht
    simp only [stpA] at hs
    split at hs
    · rename_i x hv
      cases hs
      exact lv_iload_n hx hb hd rfl (hl.at hv (by simp)) (kk lsr hl hn)
    · cases hs
  | iload k =>
    obtain rfl : len = 2 := hlen.resolve_left (by simp [lenOf])
    cases ht
    simp only [stpA] at hs
    split at hs
    · rename_i x hv
      cases hs
      exact lv_iload hx hb hd (hl.at hv (by simp)) (kk lsr hl hn)
    · cases hs
  | lload_n k =>
    obtain rfl : len = 1 := hlen.resolve_left (by simp [lenOf])
    cases ht
    simp only [stpA] at hs
    split at hs
    · rename_i x hv
      cases hs
      exact lv_lload_n hx hb hd rfl (hl.at hv (by simp)) (kk lsr hl hn)
    · cases hs
  | lload k =>
    obtain rfl : len = 2 := hlen.resolve_left (by simp [lenOf])
    cases ht
    simp only [stpA] at hs
    split at hs
    · rename_i x hv
      cases hs
      exact lv_lload hx hb hd (hl.at hv (by simp)) (kk lsr hl hn)
    · cases hs
  | aload_n k =>
    obtain rfl : len = 1 := hlen.resolve_left (by simp [lenOf])
    cases ht
    simp only [stpA] at hs
    split at hs
    · rename_i x hv
      cases hs
      exact lv_aload_n hx hb hd rfl (hl.at hv (by simp)) (kk lsr hl hn)
    · cases hs
  | aload k =>
    obtain rfl : len = 2 := hlen.resolve_left (by simp [lenOf])
    cases ht
    simp only [stpA] at hs
    split at hs
    · rename_i x hv
      cases hs
      exact lv_aload hx hb hd (hl.at hv (by simp)) (kk lsr hl hn)
    · cases hs
  | istore_n k =>
    obtain rfl : len = 1 := hlen.resolve_left (by simp [lenOf])
    cases ht
    simp only [stpA] at hs
    split at hs
    · rename_i x r' hok
      cases hs
      refine lv_istore_n hx hb hd rfl hl.has (okst_spec hok).1 rfl (fun ls' h' => ?_)
      exact kk ls' (LH.store hok hn h') (nodb_set hn (by simp))
    · cases hs
  | istore k =>
    obtain rfl : len = 2 := hlen.resolve_left (by simp [lenOf])
    cases ht
    simp only [stpA] at hs
    split at hs
    · rename_i x r' hok
      cases hs
      refine lv_istore hx hb hd hl.has (okst_spec hok).1 rfl (fun ls' h' => ?_)
      exact kk ls' (LH.store hok hn h') (nodb_set hn (by simp))
    · cases hs
  | astore_n k =>
    obtain rfl : len = 1 := hlen.resolve_left (by simp [lenOf])
    cases ht
    simp only [stpA] at hs
    split at hs
    · rename_i x r' hok
      cases hs
      refine lv_astore_n hx hb hd rfl hl.has (okst_spec hok).1 rfl (fun ls' h' => ?_)
      exact kk ls' (LH.store hok hn h') (nodb_set hn (by simp))
    · cases hs
  | astore k =>
    obtain rfl : len = 2 := hlen.resolve_left (by simp [lenOf])
    cases ht
    simp only [stpA] at hs
    split at hs
    · rename_i x r' hok
      cases hs
      refine lv_astore hx hb hd hl.has (okst_spec hok).1 rfl (fun ls' h' => ?_)
      exact kk ls' (LH.store hok hn h') (nodb_set hn (by simp))
    · cases hs
  | lstore_n k =>
    obtain rfl : len = 1 := hlen.resolve_left (by simp [lenOf])
    cases ht
    simp only [stpA] at hs
    split at hs
    · rename_i x r' hok hlt
      cases hs
      refine lv_lstore_n hx hb hd rfl hl.has (Nat.blt_eq.mp hlt) rfl (fun ls' h' => ?_)
      exact kk ls' (LH.store2 hok (Nat.blt_eq.mp hlt) hn h') (nodb_set (nodb_set hn (by simp)) (by simp))
    · cases hs
  | lstore k =>
    obtain rfl : len = 2 := hlen.resolve_left (by simp [lenOf])
    cases ht
    simp only [stpA] at hs
    split at hs
    · rename_i x r' hok hlt
      cases hs
      refine lv_lstore hx hb hd hl.has (Nat.blt_eq.mp hlt) rfl (fun ls' h' => ?_)
      exact kk ls' (LH.store2 hok (Nat.blt_eq.mp hlt) hn h') (nodb_set (nodb_set hn (by simp)) (by simp))
    · cases hs
  | iconst n =>
    obtain rfl : len = 1 := hlen.resolve_left (by simp [lenOf])
    cases ht
    cases hs
    exact lv_iconst hx hb hd rfl (kk lsr hl hn)
  | bipush n =>
    obtain rfl : len = 2 := hlen.resolve_left (by simp [lenOf])
    obtain ⟨e1, rfl⟩ := kst_spec ht
    cases hs
    exact lv_bipush hx hb hd e1 (kk lsr hl hn)
  | sipush n =>
    obtain rfl : len = 3 := hlen.resolve_left (by simp [lenOf])
    obtain ⟨e1, rfl⟩ := kst_spec ht
    cases hs
    exact lv_sipush hx hb hd e1 (kk lsr hl hn)
  | ldc i =>
    obtain rfl : len = 2 := hlen.resolve_left (by simp [lenOf])
    simp only [tr] at ht
    split at ht
    · rename_i n hp
      cases ht
      cases hs
      exact lv_ldc hx hb hown (hts _ (pc_word hp)) hd (kk lsr hl hn)
    · obtain ⟨j, hj, rfl⟩ := Option.map_eq_some_iff.mp ht
      cases hs
  | ldc_w i =>
    obtain rfl : len = 3 := hlen.resolve_left (by simp [lenOf])
    obtain ⟨n, hp, rfl⟩ := Option.map_eq_some_iff.mp ht
    cases hs
    exact lv_ldcw hx hb hown (hts _ (pc_word hp)) hd (kk lsr hl hn)
  | lconst n =>
    obtain rfl : len = 1 := hlen.resolve_left (by simp [lenOf])
    cases ht
    cases hs
    exact lv_lconst hx hb hd rfl (kk lsr hl hn)
  | ldc2_w i =>
    obtain rfl : len = 3 := hlen.resolve_left (by simp [lenOf])
    obtain ⟨n, hp, rfl⟩ := Option.map_eq_some_iff.mp ht
    cases hs
    exact lv_ldc2 hx hb hown (hts _ (pl_word hp)) hd (kk lsr hl hn)
  | iinc i n =>
    obtain rfl : len = 3 := hlen.resolve_left (by simp [lenOf])
    cases ht
    simp only [stpA] at hs
    split at hs
    · rename_i x hok hv
      cases hs
      obtain ⟨k, hk⟩ := List.getElem?_of_mem (lvl_mem (ad := ad) (lv := ls) (i := 0) (j := i) (w := .int x) |>.mpr ⟨.int x, Nat.zero_le _, by simpa using hv, by simp, rfl⟩)
      refine lv_iinc hx hb hd hl.has hk rfl (okst_spec hok).1 rfl (fun ls' h' => ?_)
      exact kk ls' (LH.store hok hn h') (nodb_set hn (by simp))
    · cases hs
  | iadd =>
    obtain rfl : len = 1 := hlen.resolve_left (by simp [lenOf])
    cases ht
    simp only [stpA] at hs
    split at hs
    · cases hs
      exact lv_iadd hx hb hd (kk lsr hl hn)
    · cases hs
  | isub =>
    obtain rfl : len = 1 := hlen.resolve_left (by simp [lenOf])
    cases ht
    simp only [stpA] at hs
    split at hs
    · cases hs
      exact lv_isub hx hb hd (kk lsr hl hn)
    · cases hs
  | imul =>
    obtain rfl : len = 1 := hlen.resolve_left (by simp [lenOf])
    cases ht
    simp only [stpA] at hs
    split at hs
    · cases hs
      exact lv_imul hx hb hd (kk lsr hl hn)
    · cases hs
  | iand =>
    obtain rfl : len = 1 := hlen.resolve_left (by simp [lenOf])
    cases ht
    simp only [stpA] at hs
    split at hs
    · cases hs
      exact lv_iand hx hb hd (kk lsr hl hn)
    · cases hs
  | ior =>
    obtain rfl : len = 1 := hlen.resolve_left (by simp [lenOf])
    cases ht
    simp only [stpA] at hs
    split at hs
    · cases hs
      exact lv_ior hx hb hd (kk lsr hl hn)
    · cases hs
  | ixor =>
    obtain rfl : len = 1 := hlen.resolve_left (by simp [lenOf])
    cases ht
    simp only [stpA] at hs
    split at hs
    · cases hs
      exact lv_ixor hx hb hd (kk lsr hl hn)
    · cases hs
  | ishl =>
    obtain rfl : len = 1 := hlen.resolve_left (by simp [lenOf])
    cases ht
    simp only [stpA] at hs
    split at hs
    · cases hs
      exact lv_ishl hx hb hd (kk lsr hl hn)
    · cases hs
  | ishr =>
    obtain rfl : len = 1 := hlen.resolve_left (by simp [lenOf])
    cases ht
    simp only [stpA] at hs
    split at hs
    · cases hs
      exact lv_ishr hx hb hd (kk lsr hl hn)
    · cases hs
  | idiv =>
    obtain rfl : len = 1 := hlen.resolve_left (by simp [lenOf])
    cases ht
    simp only [stpA] at hs
    split at hs
    · cases hs
      exact lv_idiv hx hb hd kk.1 (kk.2 lsr hl hn)
    · cases hs
  | irem =>
    obtain rfl : len = 1 := hlen.resolve_left (by simp [lenOf])
    cases ht
    simp only [stpA] at hs
    split at hs
    · cases hs
      exact lv_irem hx hb hd kk.1 (kk.2 lsr hl hn)
    · cases hs
  | ineg =>
    obtain rfl : len = 1 := hlen.resolve_left (by simp [lenOf])
    cases ht
    simp only [stpA] at hs
    split at hs
    · cases hs
      exact lv_ineg hx hb hd (kk lsr hl hn)
    · cases hs
  | ladd =>
    obtain rfl : len = 1 := hlen.resolve_left (by simp [lenOf])
    cases ht
    simp only [stpA] at hs
    split at hs
    · cases hs
      exact lv_ladd hx hb hd (kk lsr hl hn)
    · cases hs
  | land =>
    obtain rfl : len = 1 := hlen.resolve_left (by simp [lenOf])
    cases ht
    simp only [stpA] at hs
    split at hs
    · cases hs
      exact lv_land hx hb hd (kk lsr hl hn)
    · cases hs
  | lor =>
    obtain rfl : len = 1 := hlen.resolve_left (by simp [lenOf])
    cases ht
    simp only [stpA] at hs
    split at hs
    · cases hs
      exact lv_lor hx hb hd (kk lsr hl hn)
    · cases hs
  | iushr =>
    obtain rfl : len = 1 := hlen.resolve_left (by simp [lenOf])
    cases ht
    simp only [stpA] at hs
    split at hs
    · cases hs
      exact lv_iushr hx hb hd rfl (kk lsr hl hn)
    · cases hs
  | i2b =>
    obtain rfl : len = 1 := hlen.resolve_left (by simp [lenOf])
    cases ht
    simp only [stpA] at hs
    split at hs
    · cases hs
      exact lv_i2b hx hb hd rfl (kk lsr hl hn)
    · cases hs
  | i2s =>
    obtain rfl : len = 1 := hlen.resolve_left (by simp [lenOf])
    cases ht
    simp only [stpA] at hs
    split at hs
    · cases hs
      exact lv_i2s hx hb hd rfl (kk lsr hl hn)
    · cases hs
  | i2c =>
    obtain rfl : len = 1 := hlen.resolve_left (by simp [lenOf])
    cases ht
    simp only [stpA] at hs
    split at hs
    · cases hs
      exact lv_i2c hx hb hd rfl (kk lsr hl hn)
    · cases hs
  | i2l =>
    obtain rfl : len = 1 := hlen.resolve_left (by simp [lenOf])
    cases ht
    simp only [stpA] at hs
    split at hs
    · cases hs
      exact lv_i2l hx hb hd rfl (kk lsr hl hn)
    · cases hs
  | l2i =>
    obtain rfl : len = 1 := hlen.resolve_left (by simp [lenOf])
    cases ht
    simp only [stpA] at hs
    split at hs
    · cases hs
      exact lv_l2i hx hb hd rfl (kk lsr hl hn)
    · cases hs
  | lshl =>
    obtain rfl : len = 1 := hlen.resolve_left (by simp [lenOf])
    cases ht
    simp only [stpA] at hs
    split at hs
    · cases hs
      exact lv_lshl hx hb hd rfl (kk lsr hl hn)
    · cases hs
  | lshr =>
    obtain rfl : len = 1 := hlen.resolve_left (by simp [lenOf])
    cases ht
    simp only [stpA] at hs
    split at hs
    · cases hs
      exact lv_lshr hx hb hd rfl (kk lsr hl hn)
    · cases hs
  | lcmp =>
    obtain rfl : len = 1 := hlen.resolve_left (by simp [lenOf])
    cases ht
    simp only [stpA] at hs
    split at hs
    · cases hs
      exact W.lcmp hx hb hd (kk lsr hl hn)
    · cases hs
  | dup =>
    obtain rfl : len = 1 := hlen.resolve_left (by simp [lenOf])
    cases ht
    simp only [stpA] at hs
    split at hs
    · cases hs
      exact lv_dup hx hb hd rfl (kk lsr hl hn)
    · cases hs
      exact lv_dup hx hb hd rfl (kk lsr hl hn)
    · cases hs
  | pop =>
    obtain rfl : len = 1 := hlen.resolve_left (by simp [lenOf])
    cases ht
    simp only [stpA] at hs
    split at hs
    · cases hs
      exact lv_pop hx hb hd rfl (kk lsr hl hn)
    · cases hs
      exact lv_pop hx hb hd rfl (kk lsr hl hn)
    · cases hs
  | dup2 =>
    obtain rfl : len = 1 := hlen.resolve_left (by simp [lenOf])
    cases ht
    simp only [stpA] at hs
    split at hs
    · cases hs
      exact lv_dup2_11 hx hb hd rfl rfl (kk lsr hl hn)
    · cases hs
  | goto o =>
    obtain rfl : len = 3 := hlen.resolve_left (by simp [lenOf])
    obtain ⟨e1, rfl⟩ := jmp_spec ht
    cases hs
    exact lv_goto hx hb hd e1 (kk lsr hl hn)
  | ifCond cnd o =>
    obtain rfl : len = 3 := hlen.resolve_left (by simp [lenOf])
    obtain ⟨e1, rfl⟩ := jmp_spec ht
    cases cnd with
    | eq =>
      simp only [stpA] at hs
      split at hs
      · cases hs
        exact lv_if_eq hx hb hd e1 (fun q => kk.1 q lsr hl hn) (fun q => kk.2 q lsr hl hn)
      · cases hs
    | ne =>
      simp only [stpA] at hs
      split at hs
      · cases hs
        exact lv_if_ne hx hb hd e1 (fun q => kk.2 q lsr hl hn) (fun q => kk.1 q lsr hl hn)
      · cases hs
    | lt =>
      simp only [stpA] at hs
      split at hs
      · cases hs
        exact lv_if_lt hx hb hd e1 (fun q => kk.1 q lsr hl hn) (fun q => kk.2 q lsr hl hn)
      · cases hs
    | ge =>
      simp only [stpA] at hs
      split at hs
      · cases hs
        exact lv_if_ge hx hb hd e1 (fun q => kk.1 q lsr hl hn) (fun q => kk.2 q lsr hl hn)
      · cases hs
    | gt =>
      simp only [stpA] at hs
      split at hs
      · cases hs
        exact lv_if_gt hx hb hd e1 (fun q => kk.1 q lsr hl hn) (fun q => kk.2 q lsr hl hn)
      · cases hs
    | le =>
      simp only [stpA] at hs
      split at hs
      · cases hs
        exact lv_if_le hx hb hd e1 (fun q => kk.1 q lsr hl hn) (fun q => kk.2 q lsr hl hn)
      · cases hs
  | if_icmp cnd o =>
    obtain rfl : len = 3 := hlen.resolve_left (by simp [lenOf])
    obtain ⟨e1, rfl⟩ := jmp_spec ht
    cases cnd with
    | eq =>
      simp only [stpA] at hs
      split at hs
      · cases hs
        exact lv_icmp_eq hx hb hd e1 (fun q => kk.1 q lsr hl hn) (fun q => kk.2 q lsr hl hn)
      · cases hs
    | ne =>
      simp only [stpA] at hs
      split at hs
      · cases hs
        exact lv_icmp_ne hx hb hd e1 (fun q => kk.2 q lsr hl hn) (fun q => kk.1 q lsr hl hn)
      · cases hs
    | lt =>
      simp only [stpA] at hs
      split at hs
      · cases hs
        exact lv_icmp_lt hx hb hd e1 (fun q => kk.1 q lsr hl hn) (fun q => kk.2 q lsr hl hn)
      · cases hs
    | ge =>
      simp only [stpA] at hs
      split at hs
      · cases hs
        exact lv_icmp_ge hx hb hd e1 (fun q => kk.1 q lsr hl hn) (fun q => kk.2 q lsr hl hn)
      · cases hs
    | gt =>
      simp only [stpA] at hs
      split at hs
      · cases hs
        exact lv_icmp_gt hx hb hd e1 (fun q => kk.1 q lsr hl hn) (fun q => kk.2 q lsr hl hn)
      · cases hs
    | le =>
      simp only [stpA] at hs
      split at hs
      · cases hs
        exact lv_icmp_le hx hb hd e1 (fun q => kk.1 q lsr hl hn) (fun q => kk.2 q lsr hl hn)
      · cases hs
  | tableswitch d lo hi offs =>
    simp only [tr] at ht
    split at ht
    · rename_i hc
      obtain ⟨h1, h2, h3⟩ := hc
      cases ht
      simp only [stpA] at hs
      split at hs
      · rename_i x r'
        cases hs
        have e0 : ∀ y : Int, swt ((offs.toList.zipIdx).map (fun q => (lo + (q.2 : Int), (pc : Int) + q.1))).toArray.toList ((pc : Int) + d) y = swt ((offs.toList.zipIdx 0).map (fun q => (lo + (q.2 : Int), (pc : Int) + q.1))) ((pc : Int) + d) y := fun _ => rfl
        have hk := kk lsr hl hn
        simp only [e0] at hk
        by_cases ho : x.toInt < lo ∨ hi < x.toInt
        · rw [swt_out (by rw [Array.length_toList]; omega)] at hk
          exact lv_tableOut (tgt := ((pc : Int) + d).toNat) hx hb hd ho (by omega) hk
        · have hlt : (x.toInt - lo).toNat < offs.toList.length := by rw [Array.length_toList]; omega
          have ho2 : offs.toList[(x.toInt - lo).toNat]? = some (offs.toList[(x.toInt - lo).toNat]'hlt) := List.getElem?_eq_getElem hlt
          have hm := h3 _ (List.getElem_mem hlt)
          generalize offs.toList[(x.toInt - lo).toNat]'hlt = o at ho2 hm
          rw [swt_in (lo := lo) (k := 0) (o := o) (by omega) (by simpa using ho2)] at hk
          exact lv_tableIn (tgt := ((pc : Int) + o).toNat) hx hb hd (by omega) (by omega) (by rw [← Array.getElem?_toList]; exact ho2) (by omega) hk
      · cases hs
    · cases ht
  | lookupswitch d ps =>
    simp only [tr] at ht
    split at ht
    · rename_i hc
      obtain ⟨h1, h2, h3⟩ := hc
      cases ht
      simp only [stpA] at hs
      split at hs
      · rename_i x r'
        cases hs
        have hk := kk lsr hl hn
        have hz : 0 ≤ swt (ps.toList.map (fun q => (q.1, (pc : Int) + q.2))) ((pc : Int) + d) x.toInt := swt_nonneg h2 (fun q hq => by obtain ⟨r0, hr0, rfl⟩ := List.mem_map.mp hq; exact h3 r0 hr0)
        rw [swt_off] at hz
        simp only [List.toList_toArray, swt_off] at hk
        exact lv_lookup (tgt := ((pc : Int) + Op.lookupswitch.offset ps.toList d x.toInt).toNat) hx hb hd h1 rfl (by omega) hk
      · cases hs
    · cases ht
  | getfield i =>
    simp only [tr] at ht
    (repeat' split at ht) <;> first | (cases ht; exact absurd hs (by simp [stpA])) | cases ht | (obtain ⟨j, hj, rfl⟩ := Option.map_eq_some_iff.mp ht; exact absurd hs (by simp [stpA]))
  | putfield i =>
    simp only [tr] at ht
    (repeat' split at ht) <;> first | (cases ht; exact absurd hs (by simp [stpA])) | cases ht | (obtain ⟨j, hj, rfl⟩ := Option.map_eq_some_iff.mp ht; exact absurd hs (by simp [stpA]))
  | getstatic i =>
    simp only [tr] at ht
    (repeat' split at ht) <;> first | (cases ht; exact absurd hs (by simp [stpA])) | cases ht | (obtain ⟨j, hj, rfl⟩ := Option.map_eq_some_iff.mp ht; exact absurd hs (by simp [stpA]))
  | new i =>
    simp only [tr] at ht
    (repeat' split at ht) <;> first | (cases ht; exact absurd hs (by simp [stpA])) | cases ht | (obtain ⟨j, hj, rfl⟩ := Option.map_eq_some_iff.mp ht; exact absurd hs (by simp [stpA]))
  | anewarray i =>
    simp only [tr] at ht
    (repeat' split at ht) <;> first | (cases ht; exact absurd hs (by simp [stpA])) | cases ht | (obtain ⟨j, hj, rfl⟩ := Option.map_eq_some_iff.mp ht; exact absurd hs (by simp [stpA]))
  | invokevirtual i =>
    simp only [tr] at ht
    (repeat' split at ht) <;> first | (cases ht; exact absurd hs (by simp [stpA])) | cases ht | (obtain ⟨j, hj, rfl⟩ := Option.map_eq_some_iff.mp ht; exact absurd hs (by simp [stpA]))
  | invokestatic i =>
    simp only [tr] at ht
    (repeat' split at ht) <;> first | (cases ht; exact absurd hs (by simp [stpA])) | cases ht | (obtain ⟨j, hj, rfl⟩ := Option.map_eq_some_iff.mp ht; exact absurd hs (by simp [stpA]))
  | invokespecial i =>
    simp only [tr] at ht
    (repeat' split at ht) <;> first | (cases ht; exact absurd hs (by simp [stpA])) | cases ht | (obtain ⟨j, hj, rfl⟩ := Option.map_eq_some_iff.mp ht; exact absurd hs (by simp [stpA]))
  | newarray t =>
    simp only [tr] at ht
    (repeat' split at ht) <;> first | (cases ht; exact absurd hs (by simp [stpA])) | cases ht | (obtain ⟨j, hj, rfl⟩ := Option.map_eq_some_iff.mp ht; exact absurd hs (by simp [stpA]))
  | iaload =>
    simp only [tr] at ht
    (repeat' split at ht) <;> first | (cases ht; exact absurd hs (by simp [stpA])) | cases ht | (obtain ⟨j, hj, rfl⟩ := Option.map_eq_some_iff.mp ht; exact absurd hs (by simp [stpA]))
  | baload =>
    simp only [tr] at ht
    (repeat' split at ht) <;> first | (cases ht; exact absurd hs (by simp [stpA])) | cases ht | (obtain ⟨j, hj, rfl⟩ := Option.map_eq_some_iff.mp ht; exact absurd hs (by simp [stpA]))
  | aaload =>
    simp only [tr] at ht
    (repeat' split at ht) <;> first | (cases ht; exact absurd hs (by simp [stpA])) | cases ht | (obtain ⟨j, hj, rfl⟩ := Option.map_eq_some_iff.mp ht; exact absurd hs (by simp [stpA]))
  | iastore =>
    simp only [tr] at ht
    (repeat' split at ht) <;> first | (cases ht; exact absurd hs (by simp [stpA])) | cases ht | (obtain ⟨j, hj, rfl⟩ := Option.map_eq_some_iff.mp ht; exact absurd hs (by simp [stpA]))
  | bastore =>
    simp only [tr] at ht
    (repeat' split at ht) <;> first | (cases ht; exact absurd hs (by simp [stpA])) | cases ht | (obtain ⟨j, hj, rfl⟩ := Option.map_eq_some_iff.mp ht; exact absurd hs (by simp [stpA]))
  | aastore =>
    simp only [tr] at ht
    (repeat' split at ht) <;> first | (cases ht; exact absurd hs (by simp [stpA])) | cases ht | (obtain ⟨j, hj, rfl⟩ := Option.map_eq_some_iff.mp ht; exact absurd hs (by simp [stpA]))
  | arraylength =>
    simp only [tr] at ht
    (repeat' split at ht) <;> first | (cases ht; exact absurd hs (by simp [stpA])) | cases ht | (obtain ⟨j, hj, rfl⟩ := Option.map_eq_some_iff.mp ht; exact absurd hs (by simp [stpA]))
  | ireturn =>
    simp only [tr] at ht
    (repeat' split at ht) <;> first | (cases ht; exact absurd hs (by simp [stpA])) | cases ht | (obtain ⟨j, hj, rfl⟩ := Option.map_eq_some_iff.mp ht; exact absurd hs (by simp [stpA]))
  | lreturn =>
    simp only [tr] at ht
    (repeat' split at ht) <;> first | (cases ht; exact absurd hs (by simp [stpA])) | cases ht | (obtain ⟨j, hj, rfl⟩ := Option.map_eq_some_iff.mp ht; exact absurd hs (by simp [stpA]))
  | return_ =>
    simp only [tr] at ht
    (repeat' split at ht) <;> first | (cases ht; exact absurd hs (by simp [stpA])) | cases ht | (obtain ⟨j, hj, rfl⟩ := Option.map_eq_some_iff.mp ht; exact absurd hs (by simp [stpA]))
  | _ => cases ht
end SimA
