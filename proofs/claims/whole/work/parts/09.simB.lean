/-! ===== the world that a memory is, and instructions that reach it ===== -/
def rfn (ad : Nat → Nat) : Nat → Option Nat
  | 0 => none
  | k + 1 => some (ad k)
def fval (ad : Nat → Nat) (M : LM) (a c k : Nat) : Value := if fkOf FT c k = 2 then va_rf (rfn ad (M.2.2 a k)) else .int (M.2.1 a k)
def nfs (c : Nat) : Nat := (FT.getD c []).length
def wen (ad : Nat → Nat) (cs : Nat → ClassId) (M : LM) (a : Nat) (q : Nat × Nat) : va_E := match q.1 with
  | 0 => .inr (q.2, (List.range (nfs q.2)).map (fval ad M a q.2))
  | 1 => .inl (cs 0, q.2, .inl (M.2.1 a))
  | 2 => .inl (cs 1, q.2, .inl (M.2.1 a))
  | 3 => .inl (cs 2, q.2, .inl (M.2.1 a))
  | 5 => .inl (cs 3, q.2, .inr (.inr (.inr (.inr (fun i => rfn ad (M.2.2 a i))))))
  | _ => .inl (cs 4, q.2, .inr (.inr (.inr (.inr (fun i => rfn ad (M.2.2 a i))))))
def wld (ad : Nat → Nat) (cs : Nat → ClassId) (M : LM) : va_W := M.1.zipIdx.map (fun q => (ad q.2, wen ad cs M q.2 q.1))
def tyl (cs : Nat → ClassId) : List (ClassId × FieldType) := [(cs 0, .int), (cs 1, .byte), (cs 2, .boolean), (cs 3, .object RX1), (cs 4, .object RX4)]
theorem wld_get {ad : Nat → Nat} {cs : Nat → ClassId} {M : LM} {a : Nat} {q : Nat × Nat} (h : M.1[a]? = some q) : (wld ad cs M)[a]? = some (ad a, wen ad cs M a q) := by
  unfold wld
  rw [List.getElem?_map, List.getElem?_zipIdx, h]
  simp
theorem wld_len {ad : Nat → Nat} {cs : Nat → ClassId} {M : LM} : (wld ad cs M).length = M.1.length := by
  unfold wld
  rw [List.length_map, List.length_zipIdx]
theorem wld_inv {ad : Nat → Nat} {cs : Nat → ClassId} {M : LM} {a : Nat} {w : Nat × va_E} (h : (wld ad cs M)[a]? = some w) : ∃ q, M.1[a]? = some q ∧ w = (ad a, wen ad cs M a q) := by
  have hl : a < M.1.length := by rw [← wld_len (ad := ad) (cs := cs)]; exact (List.getElem?_eq_some_iff.mp h).1
  have hq : M.1[a]? = some (M.1[a]'hl) := List.getElem?_eq_getElem hl
  rw [wld_get hq] at h
  cases h
  exact ⟨_, hq, rfl⟩
theorem wen_congr {ad : Nat → Nat} {cs : Nat → ClassId} {M M' : LM} {a : Nat} {q : Nat × Nat} (h1 : M'.2.1 a = M.2.1 a) (h2 : M'.2.2 a = M.2.2 a) : wen ad cs M' a q = wen ad cs M a q := by
  have hf : fval ad M' a q.2 = fval ad M a q.2 := by
    funext k
    unfold fval
    rw [h1, h2]
  unfold wen
  rw [hf, h1, h2]
theorem wld_upd {ad : Nat → Nat} {cs : Nat → ClassId} {M M' : LM} {a : Nat} {q : Nat × Nat} (h1 : M'.1 = M.1) (h2 : ∀ i, i ≠ a → M'.2.1 i = M.2.1 i ∧ M'.2.2 i = M.2.2 i) (hq : M.1[a]? = some q) : wld ad cs M' = (wld ad cs M).set a (ad a, wen ad cs M' a q) := by
  refine List.ext_getElem? fun i => ?_
  by_cases hi : i = a
  · subst hi
    have hl : i < M.1.length := (List.getElem?_eq_some_iff.mp hq).1
    rw [List.getElem?_set_self (by rw [wld_len]; exact hl), wld_get (by rw [h1]; exact hq)]
  · rw [List.getElem?_set_ne (fun e => hi e.symm)]
    cases hr : M.1[i]? with
    | some r => rw [wld_get (by rw [h1]; exact hr), wld_get hr, wen_congr (h2 i hi).1 (h2 i hi).2]
    | none =>
      have hn := List.getElem?_eq_none_iff.mp hr
      rw [List.getElem?_eq_none (by rw [wld_len, h1]; exact hn), List.getElem?_eq_none (by rw [wld_len]; exact hn)]
theorem wld_new {ad : Nat → Nat} {cs : Nat → ClassId} {M : LM} {q : Nat × Nat} : wld ad cs (pN M q) = wld ad cs M ++ [(ad M.1.length, wen ad cs (pN M q) M.1.length q)] := by
  refine List.ext_getElem? fun i => ?_
  rcases Nat.lt_trichotomy i M.1.length with hi | hi | hi
  · have hr : M.1[i]? = some (M.1[i]'hi) := List.getElem?_eq_getElem hi
    have hr2 : (pN M q).1[i]? = some (M.1[i]'hi) := by
      show (M.1 ++ [q])[i]? = _
      rw [List.getElem?_append_left hi, hr]
    rw [wld_get hr2, List.getElem?_append_left (by rw [wld_len]; exact hi), wld_get hr]
    have e : i ≠ M.1.length := by omega
    rw [wen_congr (M' := pN M q) (M := M) (by show va_up _ _ _ i = _; simp [va_up, e]) (by show va_up _ _ _ i = _; simp [va_up, e])]
  · subst hi
    have hr2 : (pN M q).1[M.1.length]? = some q := by
      show (M.1 ++ [q])[M.1.length]? = _
      simp
    rw [wld_get hr2, List.getElem?_append_right (by rw [wld_len]; exact Nat.le_refl _), wld_len]
    simp
  · rw [List.getElem?_eq_none (by rw [wld_len]; show (M.1 ++ [q]).length ≤ i; simp; omega), List.getElem?_eq_none (by simp [wld_len]; omega)]
/-- places of memory beyond the heap: rows and texts of the class, the script -/
def Xt (A : Nat → Prop) (ad : Nat → Nat) (M : LM) (U : State) : Prop :=
  (∀ j, j < 5 → va_T .int (ad (EXT + j)) (M.2.2 (EXT + j) 0) (fun i => .int (M.2.1 (EXT + j) i)) A U U.heap) ∧
  (∀ j, j < 6 → va_T .byte (ad (EXT + 100 + j)) (M.2.2 (EXT + 100 + j) 0) (fun i => .int (M.2.1 (EXT + 100 + j) i)) A U U.heap) ∧
  (∀ j, j < 6 → va_O "java/lang/String" (ad (EXT + 200 + j)) A U U.heap ∧ va_OF "java/lang/String" "coder" "B" (.int 0) (ad (EXT + 200 + j)) A U U.heap ∧ va_OF "java/lang/String" "value" "[B" (.ref (ad (EXT + 100 + j))) (ad (EXT + 200 + j)) A U U.heap) ∧
  (∀ j, j < 6 → vk_R RX6 (PTs.getD j (0, "")).1 (PTs.getD j (0, "")).2 (ad (EXT + 200 + j)) U) ∧
  (∀ j, j < 4 → va_Z (stn j).1 (stn j).2.1 (stn j).2.2 (.ref (ad (EXT + j))) A U U.heap) ∧
  va_Z "java/lang/String" "COMPACT_STRINGS" "Z" (.int 1) A U U.heap ∧
  (∀ q : Nat × Nat, q ∈ PM → ∀ k : Nat, (k, true) ∈ PMp → lw_tbl[k]? = some (mkM q true) → va_Nw (mkM q true) U) ∧
  (∀ q : Nat × Nat, q ∈ PS → ∀ k : Nat, (k, true) ∈ PSp → lw_tbl[k]? = some (mkS q true) → va_Nw (mkS q true) U) ∧ va_AO RX1 U ∧ va_AO RX4 U ∧
  va_Zq "jdk/internal/util/Preconditions" "SIOOBE_FORMATTER" "Ljava/util/function/BiFunction;" A U U.heap
theorem Xt.ext {A : Nat → Prop} {ad : Nat → Nat} {M M' : LM} {U : State} (h : Xt A ad M U) (he : ∀ a, EXT ≤ a → M'.2.1 a = M.2.1 a ∧ M'.2.2 a = M.2.2 a) : Xt A ad M' U := by
  obtain ⟨h1, h2, h3⟩ := h
  refine ⟨fun j hj => ?_, fun j hj => ?_, h3⟩
  · rw [(he (EXT + j) (by omega)).1, (he (EXT + j) (by omega)).2]
    exact h1 j hj
  · rw [(he (EXT + 100 + j) (by omega)).1, (he (EXT + 100 + j) (by omega)).2]
    exact h2 j hj
theorem Xt.moved {A : Nat → Prop} {ad : Nat → Nat} {M : LM} {u U : State} (h : Xt A ad M u) (hW : u.WarmedH U.vm) (hk : ∀ a : Nat, a < u.heap.size → ¬ A a → U.heap[a]? = u.heap[a]?) : Xt A ad M U := by
  have hvm := hW.alike
  obtain ⟨h1, h2, h3, h4, h5, h6, h7, h8, h9, h10, h11⟩ := h
  refine ⟨fun j hj => (va_T.moved hvm (h1 j hj)).kept hk, fun j hj => (va_T.moved hvm (h2 j hj)).kept hk, fun j hj => ⟨(va_O.moved hvm (h3 j hj).1).kept hk, (va_OF.moved hvm (h3 j hj).2.1).kept hk, (va_OF.moved hvm (h3 j hj).2.2).kept hk⟩, fun j hj => vk_R.warm hW (h4 j hj), fun j hj => (va_Z.moved hvm (h5 j hj)).kept hk, (va_Z.moved hvm h6).kept hk, fun q hq k hk hw => va_Nw.warmM hW (h7 q hq k hk hw), fun q hq k hk hw => va_Nw.warmF hW (h8 q hq k hk hw), h9.moved hvm, h10.moved hvm, (va_Zq.moved hvm h11).kept hk⟩
/-- the invariant inside an invocation that began at s -/
def Jv (D : va_G) (cs : Nat → ClassId) (base : Nat) (ad : Nat → Nat) (s : State) (H : Heap) (locs : List Loc) (M : LM) : Prop :=
  va_K D vwCl (tyl cs) s ∧ va_P D vwCl (wld ad cs M) H ∧ va_D (fun q => base ≤ q) (wld ad cs M) ∧ va_S (fun q => base ≤ q) s.heap H locs ∧ Xt (fun q => base ≤ q) ad M s ∧ H.size = base + M.1.length ∧ M.1.length ≤ EXT
/-- how many places a memory has -/
def nS (M : LM) : Nat := (M.1.map fun q => if q.1 = 0 then nfs q.2 else q.2).sum
theorem nS_new (M : LM) (q : Nat × Nat) : nS (pN M q) = nS M + (if q.1 = 0 then nfs q.2 else q.2) := by
  unfold nS
  show ((M.1 ++ [q]).map _).sum = _
  simp
section SimB
variable {p : Program} {l : Launch} {e : Env} {R : Room} {s : State} {m : MethodId} {args : Array Value} {below : List Frame} {meth : Method} {c : Code} {H : Heap} {locs : List Loc} {cells slots : Nat} {Q : State → Prop} {cc : ByteArray} {ad : Nat → Nat} {D : va_G} {cs : Nat → ClassId} {base C0 S0 : Nat}
/-- the heap is no larger than what was made -/
theorem W_size {g : JFrame} (k : H.size ≤ s.heap.size + cells → W p l e R s m args below meth c H locs cells slots Q g) : W p l e R s m args below meth c H locs cells slots Q g := by
  intro T hT X
  refine k ?_ T hT X
  have h := X.same.2.2.1
  have e : (T.setVm s.vm).heap = T.heap := rfl
  rw [e, hT] at h
  exact h
theorem wld_low {M : LM} (had : ∀ k, k < EXT → ad k = base + k) (hE : M.1.length ≤ EXT) (hP : va_P D vwCl (wld ad cs M) H) (h0 : base ≤ H.size) : base + M.1.length ≤ H.size := by
  rcases Nat.eq_zero_or_pos M.1.length with h | h
  · omega
  · have hi : M.1.length - 1 < M.1.length := by omega
    have hg := wld_get (ad := ad) (cs := cs) (List.getElem?_eq_getElem hi)
    have := va_at.lt (hP _ _ hg)
    rw [had _ (by omega)] at this
    omega
end SimB
