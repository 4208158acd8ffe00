/-! ===== instructions that reach memory ===== -/
theorem wi (p : Nat) {w : Cond} (h : okAt p w = true) : w ∈ gtb := gtb_at h
theorem w_inst {q : Nat} (h : q < 11) : Cond.instantiable (cln q) (nfs q) ∈ gtb ∧ Cond.initialized (cln q) ∈ gtb := by
  have hall : ∀ q, q < 11 → okAt ([374, 183, 351, 170, 176, 324, 133, 113, 338, 105, 1140].getD q 0) (.instantiable (cln q) (nfs q)) = true ∧ okAt ([95, 91, 94, 89, 90, 92, 88, 86, 93, 85, 96].getD q 0) (.initialized (cln q)) = true := by decide +kernel
  exact ⟨wi _ (hall q h).1, wi _ (hall q h).2⟩
theorem w_arr : Cond.arrayClass .int ∈ gtb ∧ Cond.arrayClass .byte ∈ gtb ∧ Cond.arrayClass .boolean ∈ gtb := ⟨wi 131 (by decide +kernel), wi 336 (by decide +kernel), wi 1245 (by decide +kernel)⟩
theorem w_copy : Cond.native arraycopyName ∈ gtb ∧ Cond.static arraycopyName ∈ gtb ∧ Cond.initialized "java/lang/System" ∈ gtb := ⟨wi 498 (by decide +kernel), wi 497 (by decide +kernel), wi 97 (by decide +kernel)⟩
theorem w_math : Cond.static Lib.Math.max.name ∈ gtb ∧ Cond.static Lib.Math.min.name ∈ gtb ∧ Cond.initialized "java/lang/Math" ∈ gtb := ⟨wi 830 (by decide +kernel), wi 544 (by decide +kernel), wi 98 (by decide +kernel)⟩
theorem w_mathc : Cond.code Lib.Math.max.name Lib.Math.max.code 2 (some .int) ∈ gtb ∧ Cond.code Lib.Math.min.name Lib.Math.min.code 2 (some .int) ∈ gtb := ⟨wi 831 (by decide +kernel), wi 545 (by decide +kernel)⟩
theorem w_obj : Cond.instanceMethod Lib.objectInit ∈ gtb ∧ Cond.code Lib.objectInit ⟨#[0xb1]⟩ 1 none ∈ gtb := ⟨wi 110 (by decide +kernel), wi 111 (by decide +kernel)⟩
theorem RA_inj {U : State} {c1 c2 : ClassId} {ty : FieldType} (h1 : va_RA U c1 ty) (h2 : va_RA U c2 ty) : c1 = c2 := by
  cases ty with
  | object C =>
    obtain ⟨-, -, -, -, -, a⟩ := h1
    obtain ⟨-, -, -, -, -, b⟩ := h2
    rw [a] at b
    exact Option.some.inj b
  | _ =>
    have a : U.vm.findClass _ = some c1 := h1
    have b : U.vm.findClass _ = some c2 := h2
    rw [a] at b
    exact Option.some.inj b
theorem tg_some {M : LM} {a t : Nat} (h : tg M a = t) (ht : t ≠ 99) : M.1[a]? = some (t, ln M a) := by
  unfold tg at h
  unfold ln
  cases hq : M.1[a]? with
  | none => rw [hq] at h; exact absurd h.symm ht
  | some q => rw [hq] at h; cases h; rfl
theorem rng_get {α : Type} {f : Nat → α} {n k : Nat} (h : k < n) : ((List.range n).map f)[k]? = some (f k) := by
  rw [List.getElem?_map, List.getElem?_range h]
  rfl
theorem rfn_pos {ad : Nat → Nat} {r : Nat} (h : ¬ r = 0) : va_rf (rfn ad r) = .ref (ad (r - 1)) := by
  cases r with
  | zero => exact absurd rfl h
  | succ k => rfl
theorem rfn_up {ad : Nat → Nat} {f : Nat → Nat} {k x : Nat} : (fun i => rfn ad (va_up f k (x + 1) i)) = va_up (fun i => rfn ad (f i)) k (some (ad x)) := by
  funext i
  unfold va_up
  split <;> rfl
theorem up_eq {α : Type} {f : Nat → α} {k : Nat} {v : α} : va_up f k v k = v := by simp [va_up]
theorem up_ne {α : Type} {f : Nat → α} {k j : Nat} {v : α} (h : j ≠ k) : va_up f k v j = f j := by simp [va_up, h]
theorem pI_off {M : LM} {a k : Nat} {v : Int32} : ∀ i, i ≠ a → (pI M a k v).2.1 i = M.2.1 i ∧ (pI M a k v).2.2 i = M.2.2 i := fun i h => ⟨up_ne h, rfl⟩
theorem pR_off {M : LM} {a k : Nat} {v : Nat} : ∀ i, i ≠ a → (pR M a k v).2.1 i = M.2.1 i ∧ (pR M a k v).2.2 i = M.2.2 i := fun i h => ⟨rfl, up_ne h⟩
theorem pC_off {M : LM} {a : Nat} {f : Nat → Int32} : ∀ i, i ≠ a → (pC M a f).2.1 i = M.2.1 i ∧ (pC M a f).2.2 i = M.2.2 i := fun i h => ⟨up_ne h, rfl⟩
theorem pN_off {M : LM} {q : Nat × Nat} : ∀ i, i ≠ M.1.length → (pN M q).2.1 i = M.2.1 i ∧ (pN M q).2.2 i = M.2.2 i := fun i h => ⟨up_ne h, up_ne h⟩
theorem rng_set {α : Type} {f g : Nat → α} {n k : Nat} (hg : ∀ j, j ≠ k → g j = f j) : ((List.range n).map f).set k (g k) = (List.range n).map g := by
  refine List.ext_getElem? fun i => ?_
  by_cases hi : i = k
  · subst hi
    by_cases hl : i < n
    · rw [List.getElem?_set_self (by simpa using hl), rng_get hl]
    · rw [List.getElem?_eq_none (by simpa using hl), List.getElem?_eq_none (by simpa using hl)]
  · rw [List.getElem?_set_ne (fun e => hi e.symm)]
    by_cases hl : i < n
    · rw [rng_get hl, rng_get hl, hg i hi]
    · rw [List.getElem?_eq_none (by simpa using hl), List.getElem?_eq_none (by simpa using hl)]
theorem own_cln {q : Nat} (h : q < 11) : ownS q = cln q := by
  have hall : ∀ q, q < 11 → ownS q = cln q := by decide +kernel
  exact hall q h
section SimB
variable {p : Program} {l : Launch} {e : Env} {R : Room} {s : State} {m : MethodId} {args : Array Value} {below : List Frame} {meth : Method} {c : Code} {H : Heap} {locs : List Loc} {cells slots : Nat} {Q : State → Prop} {cc : ByteArray} {ad : Nat → Nat} {D : va_G} {cs : Nat → ClassId} {base C0 S0 : Nat}
/-- what the memory is behind a step -/
theorem W_J {M M' : LM} {H1 : Heap} {locs1 : List Loc} {cells1 slots1 : Nat} {g : JFrame} (had : ∀ k, k < EXT → ad k = base + k) (hK : va_K D vwCl (tyl cs) s) (hX : Xt (fun q => base ≤ q) ad M s) (h0 : s.heap.size = base + C0) (he : ∀ a, EXT ≤ a → M'.2.1 a = M.2.1 a ∧ M'.2.2 a = M.2.2 a) (hE : M'.1.length ≤ EXT) (hC : C0 + cells1 = M'.1.length)
    (hP1 : va_P D vwCl (wld ad cs M') H1) (hD1 : va_D (fun q => base ≤ q) (wld ad cs M')) (hS1 : va_S (fun q => base ≤ q) s.heap H1 locs1)
    (k : Jv D cs base ad s H1 locs1 M' → W p l e R s m args below meth c H1 locs1 cells1 slots1 Q g) : W p l e R s m args below meth c H1 locs1 cells1 slots1 Q g := by
  refine W_size fun hz => k ⟨hK, hP1, hD1, hS1, hX.ext he, ?_, hE⟩
  have h1 := wld_low had hE hP1 (by have := hS1.1; omega)
  omega
theorem new_addr {M : LM} {q : Nat} {en : va_E} {H1 : Heap} (had : ∀ k, k < EXT → ad k = base + k) (hE : M.1.length ≤ EXT) (hP : va_P D vwCl (wld ad cs M ++ [(q, en)]) H1) (hD : va_D (fun q => base ≤ q) (wld ad cs M ++ [(q, en)])) (hz : H1.size ≤ base + M.1.length + 1) : q = base + M.1.length := by
  have hlast : (wld ad cs M ++ [(q, en)])[M.1.length]? = some (q, en) := by
    rw [List.getElem?_append_right (by rw [wld_len]; exact Nat.le_refl _), wld_len]
    simp
  have h1 : base ≤ q := hD.2 _ _ hlast
  have h2 : q < H1.size := va_at.lt (hP _ _ hlast)
  rcases Nat.lt_or_ge (q - base) M.1.length with h | h
  · exfalso
    have hg := wld_get (ad := ad) (cs := cs) (List.getElem?_eq_getElem h)
    have hg2 : (wld ad cs M ++ [(q, en)])[q - base]? = _ := (List.getElem?_append_left (by rw [wld_len]; exact h)).trans hg
    have := hD.1 _ _ _ _ hg2 hlast (by show ad (q - base) = q; rw [had _ (by omega)]; omega)
    omega
  · omega
theorem stpB_cp {nx : Nat} {ls st : List Value} {M : LM} : stpB FT (.invokeinterface 0 0) nx ls st M = (match st with | .int n :: .int dp :: .ref b :: .int sp :: .ref a :: r => so (tg M a = 1 ∧ tg M b = 1 ∧ ¬ sp < 0 ∧ ¬ dp < 0 ∧ ¬ n < 0 ∧ sp.toNatClampNeg + n.toNatClampNeg ≤ ln M a ∧ dp.toNatClampNeg + n.toNatClampNeg ≤ ln M b ∧ cat8 r = true) inferInstance (nx, ls, r, pC M b (va_cpy (M.2.1 a) (M.2.1 b) sp.toNatClampNeg dp.toNatClampNeg n.toNatClampNeg)) | _ => none) := rfl
theorem stpB_max {nx : Nat} {ls st : List Value} {M : LM} : stpB FT (.invokeinterface 2 0) nx ls st M = (match st with | .int y :: .int x :: r => so (cat8 r = true) inferInstance (nx, ls, .int (if x < y then y else x) :: r, M) | _ => none) := rfl
theorem stpB_min {nx : Nat} {ls st : List Value} {M : LM} : stpB FT (.invokeinterface 3 0) nx ls st M = (match st with | .int y :: .int x :: r => so (cat8 r = true) inferInstance (nx, ls, .int (if y < x then y else x) :: r, M) | _ => none) := rfl
theorem stpB_ci {nx : Nat} {ls st : List Value} {M : LM} : stpB FT (.invokeinterface 4 0) nx ls st M = (match st with | .int n :: .int i :: r => so ((¬ i < 0 ∧ i < n) ∧ cat8 r = true) inferInstance (nx, ls, r, M) | _ => none) := rfl
theorem stpB_oi {nx : Nat} {ls st : List Value} {M : LM} : stpB FT (.invokeinterface 1 0) nx ls st M = (match st with | .ref _ :: r => so (cat8 r = true) inferInstance (nx, ls, r, M) | _ => none) := rfl
def outs : SR → List SS
  | .inl s => [s]
  | .inr (.inl (_, s, t)) => [s, t]
  | .inr (.inr (_, s)) => [s]
set_option maxHeartbeats 8000000 in
theorem simB (hx : p.tables.exec = Jvm.exec) (hb : c.code = cc) {own : Nat} {ini : Bool} (hown : s.vm.findClass (ownS own) = some m.cls) (hts : ∀ w ∈ gtb, w.before args s = true) (hini : ini = true → meth.name = "<init>") (had : ∀ k, k < EXT → ad k = base + k) (h0 : s.heap.size = base + C0) (hRf : 2 ≤ R.frames) (hRl : 80 ≤ R.locals) {pc len : Nat} {ins0 ins : Instr} {ls st : List Value} {M : LM} {lsr : Array Slot} {r : SR}
    (hml : c.maxLocals = lsr.size) (hd : decode cc pc = .ok (ins0, len)) (hlen : lenOf ins0 = 0 ∨ len = lenOf ins0) (ht : tr own ini pc ins0 = some ins) (hs : stpB FT ins (pc + len) ls st M = some r) (hl : LH ad lsr ls) (hn : nodb ls) (hJ : Jv D cs base ad s H locs M) (hC : C0 + cells = M.1.length) (hS : S0 + slots = nS M)
    (hbud : ∀ t ∈ outs r, t.2.2.2.1.length ≤ C0 + R.cells ∧ nS t.2.2.2 ≤ S0 + R.slots)
    (kk : Cont (fun t => ∀ (H' : Heap) (locs' : List Loc) (cells' slots' : Nat) (ls' : Array Slot), Jv D cs base ad s H' locs' t.2.2.2 → LH ad ls' t.2.1 → nodb t.2.1 → C0 + cells' = t.2.2.2.1.length → S0 + slots' = nS t.2.2.2 → W p l e R s m args below meth c H' locs' cells' slots' Q (F0 m t.1 ls' (t.2.2.1.map (mpv ad)))) r) :
    W p l e R s m args below meth c H locs cells slots Q (F0 m pc lsr (st.map (mpv ad))) := by
  obtain ⟨hK, hP, hD, hSS, hX, hz, hE⟩ := id hJ
  have hA : ∀ q : Nat, s.heap.size ≤ q → (fun q => base ≤ q) q := fun q h => by show base ≤ q; omega
  have hEX : EXT = 1048576 := rfl
  cases ins0 with
  | ldc i =>
    obtain rfl : len = 2 := hlen.resolve_left (by simp [lenOf])
    simp only [tr] at ht
    split at ht
    · cases ht
      exact absurd hs (by simp [stpB])
    · obtain ⟨j, hj, rfl⟩ := Option.map_eq_some_iff.mp ht
      obtain ⟨hj6, rfl, rfl⟩ := pt_word hj
      cases hs
      exact va_ldcS hx hb hown (hX.2.2.2.1 j hj6) hd (kk.2 H locs cells slots lsr hJ hl hn hC hS)
  | getfield i =>
    obtain rfl : len = 3 := hlen.resolve_left (by simp [lenOf])
    simp only [tr] at ht
    split at ht
    · rename_i q hq
      cases ht
      obtain ⟨rc, hrc, hk, hw, -⟩ := pf_word hq
      obtain ⟨_, hnf, _, hin, ty, _, _, hty, hown1⟩ := cls_ok hrc
      simp only [stpB] at hs
      split at hs
      · rename_i a r'
        split at hs
        · rename_i hf
          cases hs
          have he := wld_get (ad := ad) (cs := cs) kk.1
          refine va_get (C := rc.1) (T := rc.2.1) (N := rc.2.2) hx hb hts hin hown hK hP a he hrc (q % 64) hk (hts _ hw) (fun _ h => h) (v := .int (gI M a (q % 64))) ?_ hd (kk.2 H locs cells slots lsr hJ hl hn hC hS)
          rw [rng_get (by rw [hnf]; exact hk)]
          simp [fval, hf, gI]
        · rename_i hf
          cases hs
          have he := wld_get (ad := ad) (cs := cs) kk.1
          refine va_get (C := rc.1) (T := rc.2.1) (N := rc.2.2) hx hb hts hin hown hK hP a he hrc (q % 64) hk (hts _ hw) (fun _ h => h) (v := .int (gI M a (q % 64))) ?_ hd (kk.2 H locs cells slots lsr hJ hl hn hC hS)
          rw [rng_get (by rw [hnf]; exact hk)]
          simp [fval, hf, gI]
        · rename_i hf
          cases hs
          have he := wld_get (ad := ad) (cs := cs) kk.1.1
          refine va_get (C := rc.1) (T := rc.2.1) (N := rc.2.2) hx hb hts hin hown hK hP a he hrc (q % 64) hk (hts _ hw) (fun _ h => h) (v := .ref (ad (gR M a (q % 64) - 1))) ?_ hd (kk.2 H locs cells slots lsr hJ hl hn hC hS)
          rw [rng_get (by rw [hnf]; exact hk)]
          simp only [fval, hf, if_pos]
          rw [rfn_pos (show ¬ M.2.2 a (q % 64) = 0 from kk.1.2)]
          rfl
        · rename_i hf
          rcases hty _ hk with h | h | h <;> omega
        · rename_i hf
          rcases hty _ hk with h | h | h <;> omega
        · cases hs
      · cases hs
    · obtain ⟨q, hq, rfl⟩ := Option.map_eq_some_iff.mp ht
      obtain ⟨hw, hq2⟩ := pv_word hq
      simp only [stpB] at hs
      split at hs
      · rename_i a r'
        rcases hq2 with rfl | rfl
        · have hs : some _ = some r := hs
          cases hs
          obtain ⟨ha, hk⟩ := kk
          have ha : EXT + 200 ≤ a ∧ a < EXT + 206 := ha
          obtain ⟨j, rfl⟩ : ∃ j, a = EXT + 200 + j := ⟨a - (EXT + 200), (Nat.add_sub_cancel' ha.1).symm⟩
          have hj6 : j < 6 := Nat.lt_of_add_lt_add_left (show EXT + 200 + j < EXT + 200 + 6 from ha.2)
          have e1 : EXT + 200 + j - 100 = EXT + 100 + j := by omega
          rw [e1] at hk
          exact vk_getf hx hb (hX.2.2.1 j hj6).2.2 hSS hown (hts _ hw) (fun _ h => h) hd (hk H locs cells slots lsr hJ hl hn hC hS)
        · have hs : some _ = some r := hs
          cases hs
          obtain ⟨ha, hk⟩ := kk
          have ha : EXT + 200 ≤ a ∧ a < EXT + 206 := ha
          obtain ⟨j, rfl⟩ : ∃ j, a = EXT + 200 + j := ⟨a - (EXT + 200), (Nat.add_sub_cancel' ha.1).symm⟩
          have hj6 : j < 6 := Nat.lt_of_add_lt_add_left (show EXT + 200 + j < EXT + 200 + 6 from ha.2)
          exact vk_getf hx hb (hX.2.2.1 j hj6).2.1 hSS hown (hts _ hw) (fun _ h => h) hd (hk H locs cells slots lsr hJ hl hn hC hS)
      · cases hs
  | putfield i =>
    obtain rfl : len = 3 := hlen.resolve_left (by simp [lenOf])
    simp only [tr] at ht
    split at ht
    · rename_i q hq
      split at ht
      · rename_i hfin
        cases ht
        obtain ⟨rc, hrc, hk, hw, hfq⟩ := pf_word hq
        obtain ⟨hc11, hnf, hcn, hin, ty, hpty, hnm, hty, hown1⟩ := cls_ok hrc
        have put : ∀ (v : Value) (a : Nat) (M' : LM) (r' : List Value), M.1[a]? = some (0, q / 64) → M'.1 = M.1 → (∀ i, i ≠ a → M'.2.1 i = M.2.1 i ∧ M'.2.2 i = M.2.2 i) → (∀ j, j ≠ q % 64 → fval ad M' a (q / 64) j = fval ad M a (q / 64) j) → fval ad M' a (q / 64) (q % 64) = v → narrow (ty (q % 64)) v = v → fits (ty (q % 64)) v = true →
            (∀ (H' : Heap) (locs' : List Loc) (cells' slots' : Nat) (ls' : Array Slot), Jv D cs base ad s H' locs' M' → LH ad ls' ls → nodb ls → C0 + cells' = M'.1.length → S0 + slots' = nS M' → W p l e R s m args below meth c H' locs' cells' slots' Q (F0 m (pc + 3) ls' r')) → W p l e R s m args below meth c H locs cells slots Q (F0 m pc lsr (v :: .ref (ad a) :: r')) := by
          intro v a M' r' ha e1 e2 e3 e4 hn1 hf1 hk1
          have he := wld_get (ad := ad) (cs := cs) ha
          have hlt : a < M.1.length := (List.getElem?_eq_some_iff.mp ha).1
          have hwld : wld ad cs M' = (wld ad cs M).set a (ad a, .inr (q / 64, ((List.range (nfs (q / 64))).map (fval ad M a (q / 64))).set (q % 64) v)) := by
            rw [wld_upd e1 e2 ha]
            congr 1
            show (ad a, (Sum.inr (q / 64, (List.range (nfs (q / 64))).map (fval ad M' a (q / 64))) : va_E)) = _
            rw [← e4, rng_set e3]
          have fin : ∀ (H1 : Heap) (locs1 : List Loc), va_P D vwCl ((wld ad cs M).set a (ad a, .inr (q / 64, ((List.range (nfs (q / 64))).map (fval ad M a (q / 64))).set (q % 64) v))) H1 → va_D (fun q => base ≤ q) ((wld ad cs M).set a (ad a, .inr (q / 64, ((List.range (nfs (q / 64))).map (fval ad M a (q / 64))).set (q % 64) v))) → va_S (fun q => base ≤ q) s.heap H1 locs1 → W p l e R s m args below meth c H1 locs1 cells slots Q (F0 m (pc + 3) lsr r') := by
            intro H1 locs1 hP1 hD1 hS1
            rw [← hwld] at hP1 hD1
            exact W_J had hK hX h0 (fun b hb => e2 b (by omega)) (by rw [e1]; exact hE) (by rw [e1]; exact hC) hP1 hD1 hS1 (fun hJ1 => hk1 H1 locs1 cells slots lsr hJ1 hl hn (by rw [e1]; exact hC) (by rw [hS]; unfold nS; rw [e1]))
          rcases hfin with hf | ⟨hi, ho⟩
          · exact va_put (C := rc.1) (T := rc.2.1) (N := rc.2.2) hx hb hts hin ty hpty hnm hown hK hP hD hSS a he hrc (q % 64) hk (hts _ hw) (fun _ h => h) (by rw [← hfq]; exact hf) (hpty _ hk) hn1 hf1 (by simp; rw [hnf]; exact hk) hd fin
          · cases hff : (rc.2.1 (q % 64)).2.2.2 with
            | false => exact va_put (C := rc.1) (T := rc.2.1) (N := rc.2.2) hx hb hts hin ty hpty hnm hown hK hP hD hSS a he hrc (q % 64) hk (hts _ hw) (fun _ h => h) hff (hpty _ hk) hn1 hf1 (by simp; rw [hnf]; exact hk) hd fin
            | true => exact va_putF (C := rc.1) (T := rc.2.1) (N := rc.2.2) hx hb hts hin ty hpty hnm hown hK hP hD hSS a he hrc (q % 64) hk (hts _ hw) (fun _ h => h) hff (hini hi) (by rw [hown1 _ hk, hcn, ho]; exact (own_cln (by omega)).symm) (hpty _ hk) hn1 hf1 (by simp; rw [hnf]; exact hk) hd fin
        simp only [stpB] at hs
        split at hs
        · rename_i v a r'
          split at hs
          · rename_i hf
            cases hs
            have hty1 : ty (q % 64) = .int := by rcases hty _ hk with h | h | h <;> first | exact h.2 | omega
            refine put (.int v) a (pI M a (q % 64) v) (r'.map (mpv ad)) kk.1 rfl pI_off (fun j hj => ?_) ?_ (by rw [hty1]; rfl) (by rw [hty1]; rfl) kk.2
            · simp only [fval, pI, up_eq, upd, if_neg hj]
            · simp [fval, pI, hf, up_eq, upd]
          · rename_i hf
            cases hs
            have hty1 : ty (q % 64) = .boolean := by rcases hty _ hk with h | h | h <;> first | exact h.2 | omega
            obtain ⟨⟨ha, hv⟩, hk2⟩ := kk
            refine put (.int v) a (pI M a (q % 64) v) (r'.map (mpv ad)) ha rfl pI_off (fun j hj => ?_) ?_ (by rw [hty1]; rcases hv with rfl | rfl <;> decide) (by rw [hty1]; rcases hv with rfl | rfl <;> decide) hk2
            · simp only [fval, pI, up_eq, upd, if_neg hj]
            · simp [fval, pI, hf, up_eq, upd]
          · cases hs
        · rename_i b a r'
          split at hs
          · rename_i hf
            cases hs
            have hty1 : isRefTy (ty (q % 64)) = true := by rcases hty _ hk with h | h | h <;> first | exact h.2 | omega
            refine put (.ref (ad b)) a (pR M a (q % 64) (b + 1)) (r'.map (mpv ad)) kk.1 rfl pR_off (fun j hj => ?_) ?_ (refTy_ok hty1 _).1 (refTy_ok hty1 _).2.1 kk.2
            · simp only [fval, pR, up_eq, up_ne hj]
            · simp only [fval, pR, hf, if_pos, up_eq]
              rfl
          · cases hs
        · cases hs
      · cases ht
    · cases ht
  | getstatic i =>
    obtain rfl : len = 3 := hlen.resolve_left (by simp [lenOf])
    obtain ⟨j, hj, rfl⟩ := Option.map_eq_some_iff.mp ht
    obtain ⟨hj5, hw⟩ := ps_word hj
    have key : ∀ v : Value, va_Z (stn j).1 (stn j).2.1 (stn j).2.2 v (fun q => base ≤ q) s s.heap → W p l e R s m args below meth c H locs cells slots Q (F0 m (pc + 3) lsr (v :: st.map (mpv ad))) → W p l e R s m args below meth c H locs cells slots Q (F0 m pc lsr (st.map (mpv ad))) := by
      intro v hZ hk1
      rcases hw with hw | ⟨k, hk, hm, hwk, he⟩
      · exact va_gets hx hb hZ hSS hown (hts _ hw) (fun _ h => h) hd hk1
      · have hnw := hX.2.2.2.2.2.2.2.1 _ hm k hk hwk
        rw [he] at hnw
        exact va_getsN hx hb hZ hSS hown (va_Nw.use rfl hnw) (fun _ h => h) hd hk1
    obtain rfl | rfl | rfl | rfl | rfl : j = 0 ∨ j = 1 ∨ j = 2 ∨ j = 3 ∨ j = 4 := by omega
    · have hs : some _ = some r := hs
      cases hs
      exact key _ (hX.2.2.2.2.1 0 (by omega)) (kk.2 H locs cells slots lsr hJ hl hn hC hS)
    · have hs : some _ = some r := hs
      cases hs
      exact key _ (hX.2.2.2.2.1 1 (by omega)) (kk.2 H locs cells slots lsr hJ hl hn hC hS)
    · have hs : some _ = some r := hs
      cases hs
      exact key _ (hX.2.2.2.2.1 2 (by omega)) (kk.2 H locs cells slots lsr hJ hl hn hC hS)
    · have hs : some _ = some r := hs
      cases hs
      exact key _ (hX.2.2.2.2.1 3 (by omega)) (kk.2 H locs cells slots lsr hJ hl hn hC hS)
    · have hs : some _ = some r := hs
      cases hs
      exact key _ hX.2.2.2.2.2.1 (kk H locs cells slots lsr hJ hl hn hC hS)
  | new i =>
    obtain rfl : len = 3 := hlen.resolve_left (by simp [lenOf])
    obtain ⟨q, hq, rfl⟩ := Option.map_eq_some_iff.mp ht
    obtain ⟨hw, hq11⟩ := pn_word hq
    cases hs
    obtain ⟨⟨hE1, -⟩, hk⟩ := kk
    have hE1 : M.1.length < EXT := hE1
    obtain ⟨rc, hrc⟩ := cls_get hq11
    obtain ⟨_, hnf, hcn, hin, ty, hpty, hnm, hty, hown1⟩ := cls_ok hrc
    obtain ⟨w1, w2⟩ := w_inst hq11
    have hb1 := hbud _ (List.mem_singleton.mpr rfl)
    have hlen1 : (pN M (0, q)).1.length = M.1.length + 1 := by show (M.1 ++ [(0, q)]).length = _; simp
    have hnS1 : nS (pN M (0, q)) = nS M + rc.2.2 := by rw [nS_new, if_pos rfl, hnf]
    rw [hlen1, hnS1] at hb1
    refine va_new (ci := q) (fs := (List.range (nfs q)).map (fval ad (pN M (0, q)) M.1.length q)) (C := rc.1) (T := rc.2.1) (N := rc.2.2) hx hb hts hin ty hpty hown (by rw [hcn]; exact hts _ hw) (by rw [hcn, ← hnf]; exact hts _ w1) (by rw [hcn]; exact hts _ w2) hK hP hD hSS hA hrc (fun j hj => ?_) (by omega) (by omega) hd (fun q1 H1 hP1 hD1 hS1 => ?_)
    · have e1 : vp_V ((List.range (nfs q)).map (fval ad (pN M (0, q)) M.1.length q)) j = fval ad (pN M (0, q)) M.1.length q j := by
        unfold vp_V
        rw [List.getD_eq_getElem?_getD, rng_get (by rw [hnf]; exact hj)]
        rfl
      rw [e1]
      rcases hty j hj with h | h | h
      · simp [fval, pN, up_eq, h.1, h.2, defaultValue]
      · simp [fval, pN, up_eq, h.1, h.2, defaultValue]
      · rw [(refTy_ok h.2 0).2.2]
        simp [fval, pN, up_eq, h.1, rfn, va_rf]
    · refine W_size fun hz1 => ?_
      have hq1 := new_addr had hE hP1 hD1 (by omega)
      rw [← had _ hE1] at hq1
      subst hq1
      have ew : wld ad cs (pN M (0, q)) = wld ad cs M ++ [(ad M.1.length, .inr (q, (List.range (nfs q)).map (fval ad (pN M (0, q)) M.1.length q)))] := wld_new
      rw [← ew] at hP1 hD1
      exact W_J had hK hX h0 (fun b hb => pN_off b (by omega)) (by rw [hlen1]; omega) (by rw [hlen1]; omega) hP1 hD1 hS1 (fun hJ1 => hk H1 locs (cells + 1) (slots + rc.2.2) lsr hJ1 hl hn (by show _ = (pN M (0, q)).1.length; rw [hlen1]; omega) (by show _ = nS (pN M (0, q)); rw [hnS1]; omega))
  | newarray t =>
    obtain rfl : len = 2 := hlen.resolve_left (by simp [lenOf])
    cases ht
    have mk : ∀ (n : Int32) (tag : Nat) (ti : Nat) (r' : List Value), (tyl cs)[ti]? = some (cs ti, newarray.typeOf t) → (Cond.arrayClass (newarray.typeOf t) ∈ gtb) → (∀ (cA : ClassId) (N : Nat), vp_cell cA (N, .inl fun _ => 0) = arrV cA N (fun _ => defaultValue (newarray.typeOf t))) → (n.toNatClampNeg * componentBytes (newarray.typeOf t) ≤ 536870912) → (∀ (M2 : LM) (b N : Nat), wen ad cs M2 b (tag, N) = .inl (cs ti, N, .inl (M2.2.1 b))) → tag ≠ 0 → M.1.length < EXT → ¬ n < 0 → (pN M (tag, n.toNatClampNeg)).1.length ≤ C0 + R.cells ∧ nS (pN M (tag, n.toNatClampNeg)) ≤ S0 + R.slots →
        (∀ (H' : Heap) (locs' : List Loc) (cells' slots' : Nat) (ls' : Array Slot), Jv D cs base ad s H' locs' (pN M (tag, n.toNatClampNeg)) → LH ad ls' ls → nodb ls → C0 + cells' = (pN M (tag, n.toNatClampNeg)).1.length → S0 + slots' = nS (pN M (tag, n.toNatClampNeg)) → W p l e R s m args below meth c H' locs' cells' slots' Q (F0 m (pc + 2) ls' (.ref (ad M.1.length) :: r'))) → W p l e R s m args below meth c H locs cells slots Q (F0 m pc lsr (.int n :: r')) := by
      intro n tag ti r' htl hwa hcell hby hwen htag hE1 hn0 hb1 hk
      have hlen1 : (pN M (tag, n.toNatClampNeg)).1.length = M.1.length + 1 := by show (M.1 ++ [_]).length = _; simp
      have hnS1 : nS (pN M (tag, n.toNatClampNeg)) = nS M + n.toNatClampNeg := by rw [nS_new, if_neg htag]
      rw [hlen1, hnS1] at hb1
      refine va_newa (a0 := (n.toNatClampNeg, .inl fun _ => 0)) hx hb (hts _ hwa) rfl hK hP hD hSS hA (fun cA => hcell cA _) hn0 rfl hby (by omega) (by omega) hd (fun q1 cA H1 hK1 hP1 hD1 hS1 => ?_)
      have hcA : cA = cs ti := RA_inj (hK1.2 (tyl cs).length (cA, newarray.typeOf t) (by rw [List.getElem?_append_right (Nat.le_refl _)]; simp)).2 (hK.2 ti _ htl).2
      subst hcA
      refine W_size fun hz1 => ?_
      have hq1 := new_addr had hE hP1 hD1 (by omega)
      rw [← had _ hE1] at hq1
      subst hq1
      have ew : wld ad cs (pN M (tag, n.toNatClampNeg)) = wld ad cs M ++ [(ad M.1.length, .inl (cs ti, n.toNatClampNeg, .inl fun _ => 0))] := by
        rw [wld_new, hwen]
        simp only [pN, up_eq]
      rw [← ew] at hP1 hD1
      exact W_J had hK hX h0 (fun b hb => pN_off b (by omega)) (by rw [hlen1]; omega) (by rw [hlen1]; omega) hP1 hD1 hS1 (fun hJ1 => hk H1 locs (cells + 1) (slots + n.toNatClampNeg) lsr hJ1 hl hn (by rw [hlen1]; omega) (by rw [hnS1]; omega))
    cases t with
    | int =>
      simp only [stpB] at hs
      split at hs
      · rename_i n r'
        cases hs
        obtain ⟨⟨a1, a2, a3⟩, hk⟩ := kk
        exact mk n 1 0 (r'.map (mpv ad)) rfl w_arr.1 (fun _ _ => rfl) (Nat.le_trans (Nat.mul_le_mul_right _ a3) (by decide)) (fun _ _ _ => rfl) (by decide) a1 a2 (hbud _ (List.mem_singleton.mpr rfl)) hk
      · cases hs
    | byte =>
      simp only [stpB] at hs
      split at hs
      · rename_i n r'
        cases hs
        obtain ⟨⟨a1, a2, a3⟩, hk⟩ := kk
        exact mk n 2 1 (r'.map (mpv ad)) rfl w_arr.2.1 (fun _ _ => rfl) (Nat.le_trans (Nat.mul_le_mul_right _ a3) (by decide)) (fun _ _ _ => rfl) (by decide) a1 a2 (hbud _ (List.mem_singleton.mpr rfl)) hk
      · cases hs
    | boolean =>
      simp only [stpB] at hs
      split at hs
      · rename_i n r'
        cases hs
        obtain ⟨⟨a1, a2, a3⟩, hk⟩ := kk
        exact mk n 3 2 (r'.map (mpv ad)) rfl w_arr.2.2 (fun _ _ => rfl) (Nat.le_trans (Nat.mul_le_mul_right _ a3) (by decide)) (fun _ _ _ => rfl) (by decide) a1 a2 (hbud _ (List.mem_singleton.mpr rfl)) hk
      · cases hs
    | _ => exact absurd hs (by simp [stpB])
  | anewarray i =>
    obtain rfl : len = 3 := hlen.resolve_left (by simp [lenOf])
    obtain ⟨q, hq, rfl⟩ := Option.map_eq_some_iff.mp ht
    obtain ⟨hw, hq11⟩ := pn_word hq
    simp only [stpB] at hs
    split at hs
    · rename_i n r'
      cases hs
      obtain ⟨⟨a0, a1, a2, a3⟩, hk⟩ := kk
      have hE1 : M.1.length < EXT := a1
      have hb1 := hbud _ (List.mem_singleton.mpr rfl)
      have hlen1 : (pN M (4 + q, n.toNatClampNeg)).1.length = M.1.length + 1 := by show (M.1 ++ [_]).length = _; simp
      have hnS1 : nS (pN M (4 + q, n.toNatClampNeg)) = nS M + n.toNatClampNeg := by rw [nS_new, if_neg (by omega)]
      rw [hlen1, hnS1] at hb1
      have hq14 : ∃ ti, (tyl cs)[ti]? = some (cs ti, .object (cln q)) ∧ va_AO (cln q) s ∧ ∀ (M2 : LM) (b N : Nat), wen ad cs M2 b (4 + q, N) = .inl (cs ti, N, .inr (.inr (.inr (.inr (fun i => rfn ad (M2.2.2 b i)))))) := by
        rcases a0 with h1 | h1
        · have h1 : q = 1 := h1
          subst h1
          exact ⟨3, rfl, hX.2.2.2.2.2.2.2.2.1, fun _ _ _ => rfl⟩
        · have h1 : q = 4 := h1
          subst h1
          exact ⟨4, rfl, hX.2.2.2.2.2.2.2.2.2.1, fun _ _ _ => rfl⟩
      obtain ⟨ti, htl, hAO, hwen⟩ := hq14
      refine va_newq (C := cln q) hx hb hown (hts _ hw) hAO hK hP hD hSS hA a2 rfl (Nat.le_trans (Nat.mul_le_mul_right _ a3) (by decide)) (by omega) (by omega) hd (fun q1 cA H1 hK1 hP1 hD1 hS1 => ?_)
      have hcA : cA = cs ti := RA_inj (hK1.2 (tyl cs).length (cA, .object (cln q)) (by rw [List.getElem?_append_right (Nat.le_refl _)]; simp)).2 (hK.2 ti _ htl).2
      subst hcA
      refine W_size fun hz1 => ?_
      have hq1 := new_addr had hE hP1 hD1 (by omega)
      rw [← had _ hE1] at hq1
      subst hq1
      have ew : wld ad cs (pN M (4 + q, n.toNatClampNeg)) = wld ad cs M ++ [(ad M.1.length, .inl (cs ti, n.toNatClampNeg, .inr (.inr (.inr (.inr (fun _ => none))))))] := by
        rw [wld_new, hwen]
        simp only [pN, up_eq, rfn]
      rw [← ew] at hP1 hD1
      exact W_J had hK hX h0 (fun b hb => pN_off b (by omega)) (by rw [hlen1]; omega) (by rw [hlen1]; omega) hP1 hD1 hS1 (fun hJ1 => hk H1 locs (cells + 1) (slots + n.toNatClampNeg) lsr hJ1 hl hn (by show _ = (pN M _).1.length; rw [hlen1]; omega) (by show _ = nS (pN M _); rw [hnS1]; omega))
    · cases hs
  | iaload =>
    obtain rfl : len = 1 := hlen.resolve_left (by simp [lenOf])
    cases ht
    simp only [stpB] at hs
    split at hs
    · rename_i i a r'
      cases hs
      obtain ⟨⟨h1, h2⟩, hk⟩ := kk
      have h1 : xtg M a = 1 := h1
      have h2 : ¬ (i < 0 ∨ xln M a ≤ i.toNatClampNeg) := h2
      have hk := hk H locs cells slots lsr hJ hl hn hC hS
      unfold xtg at h1
      unfold xln at h2
      by_cases ha : a < EXT
      · rw [if_pos ha] at h1 h2
        exact va_iald hx hb hK hP a 0 (wld_get (tg_some h1 (by decide))) rfl h2 hd hk
      · rw [if_neg ha] at h1 h2
        by_cases ha2 : a < EXT + 5
        · obtain ⟨j, rfl⟩ : ∃ j, a = EXT + j := ⟨a - EXT, (Nat.add_sub_cancel' (Nat.le_of_not_lt ha)).symm⟩
          exact va_ti hx hb (hX.1 j (Nat.lt_of_add_lt_add_left ha2)) hSS h2 rfl hd hk
        · rw [if_neg ha2] at h1
          split at h1 <;> cases h1
    · cases hs
  | baload =>
    obtain rfl : len = 1 := hlen.resolve_left (by simp [lenOf])
    cases ht
    simp only [stpB] at hs
    split at hs
    · rename_i i a r'
      cases hs
      obtain ⟨⟨h1, h2⟩, hk⟩ := kk
      have h1 : xtg M a = 2 ∨ xtg M a = 3 := h1
      have h2 : ¬ (i < 0 ∨ xln M a ≤ i.toNatClampNeg) := h2
      have hk := hk H locs cells slots lsr hJ hl hn hC hS
      unfold xtg at h1
      unfold xln at h2
      by_cases ha : a < EXT
      · rw [if_pos ha] at h1 h2
        rcases h1 with h1 | h1
        · exact va_bald hx hb hK hP a 1 (wld_get (tg_some h1 (by decide))) rfl h2 hd hk
        · exact va_zald hx hb hK hP a 2 (wld_get (tg_some h1 (by decide))) rfl h2 hd hk
      · rw [if_neg ha] at h1 h2
        by_cases ha2 : a < EXT + 5
        · rw [if_pos ha2] at h1
          rcases h1 with h1 | h1 <;> cases h1
        · rw [if_neg ha2] at h1
          by_cases ha3 : EXT + 100 ≤ a ∧ a < EXT + 106
          · obtain ⟨j, rfl⟩ : ∃ j, a = EXT + 100 + j := ⟨a - (EXT + 100), (Nat.add_sub_cancel' ha3.1).symm⟩
            exact va_tb hx hb (hX.2.1 j (Nat.lt_of_add_lt_add_left (show EXT + 100 + j < EXT + 100 + 6 from ha3.2))) hSS h2 rfl hd hk
          · rw [if_neg ha3] at h1
            rcases h1 with h1 | h1 <;> cases h1
    · cases hs
  | aaload =>
    obtain rfl : len = 1 := hlen.resolve_left (by simp [lenOf])
    cases ht
    simp only [stpB] at hs
    split at hs
    · rename_i i a r'
      cases hs
      obtain ⟨⟨h1, h2, h3⟩, hk⟩ := kk
      have h3 : ¬ M.2.2 a i.toNatClampNeg = 0 := h3
      have hk := hk H locs cells slots lsr hJ hl hn hC hS
      have e3 := rfn_pos (ad := ad) h3
      rcases h1 with h1 | h1
      · refine va_aldq (C := RX1) hx hb hK hP a 3 (wld_get (tg_some h1 (by decide))) rfl h2 hd ?_
        rw [e3]
        exact hk
      · refine va_aldq (C := RX4) hx hb hK hP a 4 (wld_get (tg_some h1 (by decide))) rfl h2 hd ?_
        rw [e3]
        exact hk
    · cases hs
  | iastore =>
    obtain rfl : len = 1 := hlen.resolve_left (by simp [lenOf])
    cases ht
    simp only [stpB] at hs
    split at hs
    · rename_i x i a r'
      cases hs
      obtain ⟨⟨h1, h2⟩, hk⟩ := kk
      have hq := tg_some h1 (by decide)
      have hlt : a < M.1.length := (List.getElem?_eq_some_iff.mp hq).1
      refine va_iast hx hb hK hP hD hSS a 0 (wld_get hq) rfl h2 hd (fun H1 locs1 hP1 hD1 hS1 => ?_)
      have ew : wld ad cs (pI M a i.toNatClampNeg x) = (wld ad cs M).set a (ad a, .inl (cs 0, ln M a, .inl (upd (M.2.1 a) i.toNatClampNeg x))) := by
        rw [wld_upd (M := M) (M' := pI M a i.toNatClampNeg x) rfl pI_off hq]
        simp only [wen, pI, up_eq]
      rw [← ew] at hP1 hD1
      exact W_J had hK hX h0 (fun b hb => pI_off (M := M) (a := a) b (Nat.ne_of_gt (Nat.lt_of_lt_of_le (Nat.lt_of_lt_of_le hlt hE) hb))) hE hC hP1 hD1 hS1 (fun hJ1 => hk H1 locs1 cells slots lsr hJ1 hl hn hC hS)
    · cases hs
  | bastore =>
    obtain rfl : len = 1 := hlen.resolve_left (by simp [lenOf])
    cases ht
    simp only [stpB] at hs
    split at hs
    · rename_i x i a r'
      cases hs
      obtain ⟨⟨h1, h2⟩, hk⟩ := kk
      rcases h1 with h1 | ⟨h1, hv⟩
      · have hq := tg_some h1 (by decide)
        have hlt : a < M.1.length := (List.getElem?_eq_some_iff.mp hq).1
        refine va_bast hx hb hK hP hD hSS a 1 (wld_get hq) rfl h2 hd (fun H1 locs1 hP1 hD1 hS1 => ?_)
        rw [vp_nar_byte] at hP1 hD1
        have ew : wld ad cs (pI M a i.toNatClampNeg x.toInt8.toInt32) = (wld ad cs M).set a (ad a, .inl (cs 1, ln M a, .inl (upd (M.2.1 a) i.toNatClampNeg x.toInt8.toInt32))) := by
          rw [wld_upd (M := M) (M' := pI M a i.toNatClampNeg x.toInt8.toInt32) rfl pI_off hq]
          simp only [wen, pI, up_eq]
        rw [← ew] at hP1 hD1
        exact W_J had hK hX h0 (fun b hb => pI_off (M := M) (a := a) b (Nat.ne_of_gt (Nat.lt_of_lt_of_le (Nat.lt_of_lt_of_le hlt hE) hb))) hE hC hP1 hD1 hS1 (fun hJ1 => hk H1 locs1 cells slots lsr hJ1 hl hn hC hS)
      · have hq := tg_some h1 (by decide)
        have hlt : a < M.1.length := (List.getElem?_eq_some_iff.mp hq).1
        refine va_zast hx hb hK hP hD hSS a 2 (wld_get hq) rfl h2 hd (fun H1 locs1 hP1 hD1 hS1 => ?_)
        have en : vp_nar .boolean x = x.toInt8.toInt32 := by rcases hv with hv | hv <;> (have hv : x = _ := hv; subst hv; decide)
        rw [en] at hP1 hD1
        have ew : wld ad cs (pI M a i.toNatClampNeg x.toInt8.toInt32) = (wld ad cs M).set a (ad a, .inl (cs 2, ln M a, .inl (upd (M.2.1 a) i.toNatClampNeg x.toInt8.toInt32))) := by
          rw [wld_upd (M := M) (M' := pI M a i.toNatClampNeg x.toInt8.toInt32) rfl pI_off hq]
          simp only [wen, pI, up_eq]
        rw [← ew] at hP1 hD1
        exact W_J had hK hX h0 (fun b hb => pI_off (M := M) (a := a) b (Nat.ne_of_gt (Nat.lt_of_lt_of_le (Nat.lt_of_lt_of_le hlt hE) hb))) hE hC hP1 hD1 hS1 (fun hJ1 => hk H1 locs1 cells slots lsr hJ1 hl hn hC hS)
    · cases hs
  | aastore =>
    obtain rfl : len = 1 := hlen.resolve_left (by simp [lenOf])
    cases ht
    simp only [stpB] at hs
    split at hs
    · rename_i x i a r'
      cases hs
      obtain ⟨⟨h1, h2, h3⟩, hk⟩ := kk
      have hE3 : M.1[x]? = some (0, tg M a - 4) := h3
      rcases h1 with h1 | h1
      · have h1 : tg M a = 5 := h1
        rw [h1] at hE3
        have hq := tg_some h1 (by decide)
        have hlt : a < M.1.length := (List.getElem?_eq_some_iff.mp hq).1
        refine va_astq (r := (RX1, TX1, 10)) hx hb hK hP hD hSS a 3 x 1 (wld_get hq) rfl (wld_get hE3) rfl h2 hd (fun H1 locs1 hP1 hD1 hS1 => ?_)
        have ew : wld ad cs (pR M a i.toNatClampNeg (x + 1)) = (wld ad cs M).set a (ad a, .inl (cs 3, ln M a, .inr (.inr (.inr (.inr (va_up (fun i => rfn ad (M.2.2 a i)) i.toNatClampNeg (some (ad x)))))))) := by
          rw [wld_upd (M := M) (M' := pR M a i.toNatClampNeg (x + 1)) rfl pR_off hq]
          simp only [wen, pR, up_eq]
          rw [rfn_up]
        rw [← ew] at hP1 hD1
        exact W_J had hK hX h0 (fun b hb => pR_off (M := M) (a := a) b (Nat.ne_of_gt (Nat.lt_of_lt_of_le (Nat.lt_of_lt_of_le hlt hE) hb))) hE hC hP1 hD1 hS1 (fun hJ1 => hk H1 locs1 cells slots lsr hJ1 hl hn hC hS)
      · have h1 : tg M a = 8 := h1
        rw [h1] at hE3
        have hq := tg_some h1 (by decide)
        have hlt : a < M.1.length := (List.getElem?_eq_some_iff.mp hq).1
        refine va_astq (r := (RX4, TX4, 14)) hx hb hK hP hD hSS a 4 x 4 (wld_get hq) rfl (wld_get hE3) rfl h2 hd (fun H1 locs1 hP1 hD1 hS1 => ?_)
        have ew : wld ad cs (pR M a i.toNatClampNeg (x + 1)) = (wld ad cs M).set a (ad a, .inl (cs 4, ln M a, .inr (.inr (.inr (.inr (va_up (fun i => rfn ad (M.2.2 a i)) i.toNatClampNeg (some (ad x)))))))) := by
          rw [wld_upd (M := M) (M' := pR M a i.toNatClampNeg (x + 1)) rfl pR_off hq]
          simp only [wen, pR, up_eq]
          rw [rfn_up]
        rw [← ew] at hP1 hD1
        exact W_J had hK hX h0 (fun b hb => pR_off (M := M) (a := a) b (Nat.ne_of_gt (Nat.lt_of_lt_of_le (Nat.lt_of_lt_of_le hlt hE) hb))) hE hC hP1 hD1 hS1 (fun hJ1 => hk H1 locs1 cells slots lsr hJ1 hl hn hC hS)
    · cases hs
  | arraylength =>
    obtain rfl : len = 1 := hlen.resolve_left (by simp [lenOf])
    cases ht
    simp only [stpB] at hs
    split at hs
    · rename_i a r'
      cases hs
      obtain ⟨h1, hk⟩ := kk
      have h1 : xtg M a = 1 ∨ xtg M a = 2 := h1
      have hk := hk H locs cells slots lsr hJ hl hn hC hS
      by_cases ha : a < EXT
      · have e2 : xln M a = ln M a := by unfold xln; rw [if_pos ha]
        unfold xtg at h1
        rw [if_pos ha] at h1
        simp only [e2] at hk
        rcases h1 with h1 | h1
        · exact va_alen hx hb hK hP a 0 (wld_get (tg_some h1 (by decide))) (ty := .int) rfl rfl hd hk
        · exact va_alen hx hb hK hP a 1 (wld_get (tg_some h1 (by decide))) (ty := .byte) rfl rfl hd hk
      · have e2 : xln M a = M.2.2 a 0 := by unfold xln; rw [if_neg ha]; rfl
        unfold xtg at h1
        rw [if_neg ha] at h1
        simp only [e2] at hk
        by_cases ha2 : a < EXT + 5
        · obtain ⟨j, rfl⟩ : ∃ j, a = EXT + j := ⟨a - EXT, (Nat.add_sub_cancel' (Nat.le_of_not_lt ha)).symm⟩
          exact va_tlen hx hb (hX.1 j (Nat.lt_of_add_lt_add_left ha2)) hSS rfl hd hk
        · rw [if_neg ha2] at h1
          by_cases ha3 : EXT + 100 ≤ a ∧ a < EXT + 106
          · obtain ⟨j, rfl⟩ : ∃ j, a = EXT + 100 + j := ⟨a - (EXT + 100), (Nat.add_sub_cancel' ha3.1).symm⟩
            exact va_tlen hx hb (hX.2.1 j (Nat.lt_of_add_lt_add_left (show EXT + 100 + j < EXT + 100 + 6 from ha3.2))) hSS rfl hd hk
          · rw [if_neg ha3] at h1
            rcases h1 with h1 | h1 <;> cases h1
    · cases hs
  | invokestatic i =>
    obtain rfl : len = 3 := hlen.resolve_left (by simp [lenOf])
    simp only [tr] at ht
    have hc8 : ∀ r' : List Value, cat8 r' = true → ((r'.map (mpv ad)).map fun v => v.category).sum ≤ 8 := fun r' h => by
      rw [List.map_map, show ((fun v : Value => v.category) ∘ mpv ad) = (fun v : Value => v.category) from funext fun v => mpv_cat ad v]
      exact Nat.le_of_ble_eq_true h
    have hb0 : M.1.length ≤ C0 + R.cells ∧ nS M ≤ S0 + R.slots → cells ≤ R.cells ∧ slots ≤ R.slots := fun h => ⟨by omega, by omega⟩
    split at ht
    · rename_i hp
      cases ht
      rw [stpB_cp] at hs
      split at hs
      · rename_i n dp b sp a r'
        cases hs
        obtain ⟨⟨h1, h2, h3, h4, h5, h6, h7, h8⟩, hk⟩ := kk
        have hqa := tg_some h1 (by decide)
        have hqb := tg_some h2 (by decide)
        have hlt : b < M.1.length := (List.getElem?_eq_some_iff.mp hqb).1
        have hr8 := hc8 r' h8
        refine va_copyi (ty := .int) hx hb hml hown (hts _ (pm_plain hp (by decide))) (hts _ w_copy.1) (hts _ w_copy.2.1) (hts _ w_copy.2.2) hK hP hD hSS a b 0 0 (wld_get hqa) (wld_get hqb) rfl rfl rfl h3 h4 h5 h6 h7 (fun _ _ => rfl) (by omega) ?_ hd (fun H1 locs1 hP1 hD1 hS1 => ?_)
        · have : nativeFrameWords "java/lang/System" "arraycopy" 5 = 7 := by decide +kernel
          omega
        · have ew : wld ad cs (pC M b (va_cpy (M.2.1 a) (M.2.1 b) sp.toNatClampNeg dp.toNatClampNeg n.toNatClampNeg)) = (wld ad cs M).set b (ad b, .inl (cs 0, ln M b, .inl (va_cpy (M.2.1 a) (M.2.1 b) sp.toNatClampNeg dp.toNatClampNeg n.toNatClampNeg))) := by
            rw [wld_upd (M := M) (M' := pC M b (va_cpy (M.2.1 a) (M.2.1 b) sp.toNatClampNeg dp.toNatClampNeg n.toNatClampNeg)) rfl pC_off hqb]
            simp only [wen, pC, up_eq]
          rw [← ew] at hP1 hD1
          exact W_J had hK hX h0 (fun b1 hb1 => pC_off (M := M) (a := b) b1 (Nat.ne_of_gt (Nat.lt_of_lt_of_le (Nat.lt_of_lt_of_le hlt hE) hb1))) hE hC hP1 hD1 hS1 (fun hJ1 => hk H1 locs1 cells slots lsr hJ1 hl hn hC hS)
      · cases hs
    · rename_i hp
      cases ht
      rw [stpB_max] at hs
      split at hs
      · rename_i y x r'
        cases hs
        obtain ⟨h8, hk⟩ := kk
        have hr8 := hc8 r' h8
        obtain ⟨b1, b2⟩ := hb0 (hbud _ (List.mem_singleton.mpr rfl))
        exact va_mmax hx hb hml hown (hts _ (pm_plain hp (by decide))) (hts _ w_math.1) (hts _ w_math.2.2) (hts _ w_mathc.1) (by omega) (by omega) b1 b2 hd (hk H locs cells slots lsr hJ hl hn hC hS)
      · cases hs
    · rename_i hp
      cases ht
      rw [stpB_min] at hs
      split at hs
      · rename_i y x r'
        cases hs
        obtain ⟨h8, hk⟩ := kk
        have hr8 := hc8 r' h8
        obtain ⟨b1, b2⟩ := hb0 (hbud _ (List.mem_singleton.mpr rfl))
        exact va_mmin hx hb hml hown (hts _ (pm_plain hp (by decide))) (hts _ w_math.2.1) (hts _ w_math.2.2) (hts _ w_mathc.2) (by omega) (by omega) b1 b2 hd (hk H locs cells slots lsr hJ hl hn hC hS)
      · cases hs
    · rename_i hp
      cases ht
      rw [stpB_ci] at hs
      split at hs
      · rename_i n i' r'
        cases hs
        obtain ⟨⟨⟨hi1, hi2⟩, h8⟩, hk⟩ := kk
        have hr8 := hc8 r' h8
        obtain ⟨b1, b2⟩ := hb0 (hbud _ (List.mem_singleton.mpr rfl))
        have hlink : Cond.methodLink (ownS own) i y_sidx ∈ gtb := pm_plain hp (by decide)
        obtain ⟨v, hv, hZ⟩ : ∃ v : Value, isRf v ∧ va_Z "jdk/internal/util/Preconditions" "SIOOBE_FORMATTER" "Ljava/util/function/BiFunction;" v (fun _ => False) s H := by
          rcases hX.2.2.2.2.2.2.2.2.2.2 with h | ⟨q, h⟩
          · exact ⟨_, Or.inl rfl, (h.kept (fun a h1 h2 => hSS.2.1 a h1 h2)).narrow (fun _ z => z.elim)⟩
          · exact ⟨_, Or.inr ⟨q, rfl⟩, (h.kept (fun a h1 h2 => hSS.2.1 a h1 h2)).narrow (fun _ z => z.elim)⟩
        have hgood : GoodIn gtb (va_wsS (ownS own) i y_sidx w_sidx) := fun w hw => by
          have hw : w ∈ Cond.methodLink (ownS own) i y_sidx :: Cond.static y_sidx :: Cond.initialized "java/lang/String" :: w_sidx := hw
          have hm : w ∈ gtb := by
            rcases List.mem_cons.mp hw with rfl | hw
            · exact hlink
            · exact w_sidxs w hw
          exact ⟨hm, good_of_word (List.mem_filter.mp hm).2⟩
        refine va_callv (S := Unit) (post := fun _ => True) (B := fun _ _ => True) (A1 := fun _ => False) (va_runS (As := [.int i', .int n]) (rest := r'.map (mpv ad)) ⟨hx, hb, hml, hown, hts⟩ (c_sidx l hv hi1 hi2) (va_cwS 2 hts hgood rfl rfl rfl (by decide +kernel) ⟨by show 1 + 1 ≤ R.frames; omega, by show 8 + (2 + 11) + 22 ≤ R.locals; omega⟩) ⟨fun a U g mk q => ⟨q.1, va_Z.moved (u := U) (U := U.calling g mk a) (Vm.Alike.refl U.vm) q.2⟩, fun U hU hW => ⟨rfl, by show va_Z _ _ _ _ _ U U.heap; rw [hU]; exact va_Z.moved hW.alike hZ⟩⟩ rfl rfl rfl rfl (lv_room hr8) hd ⟨by omega, by omega⟩) hSS (fun q _ h => h.elim) (fun q h => h.elim) (fun u t H1 locs1 ht hal _ _ hle hk1 hS1 => ?_)
        refine W_size fun hz1 => ?_
        have hHH : H1 = H := by
          refine Array.ext_getElem? (fun q => ?_)
          by_cases hq : q < H.size
          · exact hk1 q hq id
          · rw [Array.getElem?_eq_none (by omega), Array.getElem?_eq_none (by omega)]
        subst hHH
        exact hk H1 locs1 cells slots lsr ⟨hK, hP, hD, hS1, hX, hz, hE⟩ hl hn hC hS
      · cases hs
    · split at ht
      · split at ht
        · cases ht
          exact absurd hs (by simp [stpB])
        · cases ht
      · cases ht
    · cases ht
  | invokespecial i =>
    obtain rfl : len = 3 := hlen.resolve_left (by simp [lenOf])
    simp only [tr] at ht
    split at ht
    · rename_i hp
      cases ht
      rw [stpB_oi] at hs
      split at hs
      · rename_i a r'
        cases hs
        obtain ⟨h8, hk⟩ := kk
        have hr8 : ((r'.map (mpv ad)).map fun v => v.category).sum ≤ 8 := by
          rw [List.map_map, show ((fun v : Value => v.category) ∘ mpv ad) = (fun v : Value => v.category) from funext fun v => mpv_cat ad v]
          exact Nat.le_of_ble_eq_true h8
        have hroom := lv_room (m := m) (pc := pc) (ls := lsr) (rest := (mpv ad (.ref a) :: r'.map (mpv ad))) hr8
        exact W.objInit hx hb hown (hts _ (pm_plain hp (by decide))) (hts _ w_obj.1) (hts _ w_obj.2) rfl hml.symm rfl hd (by omega) (by simp only at hroom ⊢; omega) (hk H locs cells slots lsr hJ hl hn hC hS)
      · cases hs
    · split at ht
      · split at ht
        · cases ht
          exact absurd hs (by simp [stpB])
        · cases ht
      · cases ht
    · cases ht
  | _ =>
    simp only [tr] at ht
    (repeat' split at ht) <;> first | (cases ht; exact absurd hs (by simp [stpB])) | cases ht | (obtain ⟨j, hj, rfl⟩ := Option.map_eq_some_iff.mp ht; exact absurd hs (by simp [stpB])) | (obtain ⟨e1, rfl⟩ := jmp_spec ht; exact absurd hs (by simp [stpB])) | (obtain ⟨e1, rfl⟩ := kst_spec ht; exact absurd hs (by simp [stpB]))
end SimB
