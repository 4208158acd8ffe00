/-! THE CLAIM OUT OF ONE WALK OF THE LAW'S BODY. Your part is whole_start (and what it stands on); all else here is the same for every law, but numbers. -/
def R_law : String := "SeizedGoodsLaw"
def lw_P (b : Addr) (xs : List Int32) (args : Array Value) (s : State) : Prop := args = #[.ref b] ∧ s.IntsAt b xs ∧ xs.length ≤ 384 ∧ (Jvm.Cond.and given_1 narrow_1).before args s = true
def lw_Q (_ : Array Value) (s : State) (o : Outcome) (t : State) : Prop := o = .returned (some (.int 1)) ∧ Framed s o t [] 600000 7302250
def lw_Z (below : List Frame) (a : Array Value) (s : State) : State → Prop := fun t => ∃ o, t.status = .running ∧ Ended t below o ∧ lw_Q a s o t
/-- the law's own end, with 1 on the stack, nothing written that was there before, its room as the claim has it -/
theorem lw_ret {p : Program} {l : Launch} {e : Env} {s : State} {m : MethodId} {below : List Frame} {meth : Method} {c : Code} {b : Nat} (hx : p.tables.exec = Jvm.exec) (hb : c.code = code) (hr : meth.sig.returnType = ret) (hlocks : meth.locks = false) {pc : Nat} {H : Heap} {ls : Array Slot} (hdg : decode code pc = .ok (.ireturn, 1)) : W p l e room_1 s m #[Value.ref b] below meth c H [] 600000 7302250 (lw_Z below #[Value.ref b] s) (F0 m pc ls [.int 1]) := by
  intro T hT X
  obtain ⟨fs, hret, hrun, hended, hW, hframe⟩ := X.leave (v := some (.int 1)) (hlocks := hlocks) (fun h => by rw [hr] at h; cases h)
  have hmeth' : T.vm.method? m = some meth := X.method'
  refine ⟨T.setFrames fs, ?_, .returned (some (.int 1)), hrun, hended, rfl, ⟨_, rfl⟩, hW, hframe⟩
  jvm_step X.here [X.here.top, hx, hb, hdg, hmeth', hr, ret, narrow_b1]
  (try refine ⟨rfl, ?_⟩); (try refine ⟨rfl, ?_⟩)
  first | (intro acts; rw [hret _ acts rfl rfl rfl]) | rw [hret _ _ rfl rfl rfl]
  exact Steps.refl _
/-- what holds at the law's entry: the machine, the code, the tables' words (any of lw_tbl by 'hts w (by decide +kernel)'), the script of L ints xs at the cell b, what the Statement gives of the start (any of its parts by flat_of_before) -/
def lw_At (p : Program) (s : State) (m : MethodId) (meth : Method) (c : Code) (b L : Nat) (xs : Nat → Int32) : Prop :=
  p.tables.exec = Jvm.exec ∧ c.code = code ∧ meth.sig.returnType = ret ∧ c.maxLocals = 4 ∧ s.vm.findClass R_law = some m.cls ∧ (∀ w ∈ lw_tbl, w.before #[Value.ref b] s = true) ∧ va_X b L xs s s.heap ∧ b < s.heap.size ∧ meth.locks = false ∧ (Jvm.Cond.and given_1 narrow_1).before #[Value.ref b] s = true
set_option maxHeartbeats 4000000 in
set_option maxRecDepth 100000 in
/-- the law's walk, out of the small machine's run of it -/
theorem start_of (hGd : Gd) (hLT : chkT 11 false code T_L_law = true) (hlaw : LawEnds) {p : Program} {e : Env} {s : State} {m : MethodId} {below : List Frame} {meth : Method} {c : Code} (l : Launch) {b L : Nat} {xs : Nat → Int32} (hL : L ≤ 384) (C0 : lw_At p s m meth c b L xs) : W p l e room_1 s m #[Value.ref b] below meth c s.heap [] 0 0 (lw_Z below #[Value.ref b] s) (entryFrame m ([Value.ref b] : List Value).toArray 4) := by
  obtain ⟨hx, hb, hr, hml, hown, hts, hX, hbl, hlocks, hgv⟩ := id C0
  have hA : ∀ a : Nat, a < s.heap.size → ¬ (fun q : Nat => s.heap.size ≤ q) a := fun a h => Nat.not_le.mpr h
  have hfl : ∀ w ∈ FLT, w.before #[Value.ref b] s = true := flat_of_before _ hgv
  have hgt : ∀ w ∈ gtb, w.before #[Value.ref b] s = true := fun w hw => hts w (List.mem_filter.mp hw).1
  -- classes
  have hcls : ∀ k : Nat, ∃ D : ClassId × (Nat → Nat), ∀ q : vw_C, vwCl[k]? = some q → u_Kn s q.1 q.2.1 q.2.2 D.1 D.2 := by
    intro k
    cases hq : vwCl[k]? with
    | none => exact ⟨(0, fun _ => 0), fun q h => by cases h⟩
    | some q =>
      obtain ⟨h11, hnf, hcn, hin, -⟩ := cls_ok hq
      obtain ⟨c0, iS, hk⟩ := u_known (C := q.1) (T := q.2.1) (N := q.2.2) (n := nfs k) hgt hin (by rw [hcn]; exact hgt _ (w_inst h11).1)
      exact ⟨(c0, iS), fun q' h => by cases h; exact hk⟩
  obtain ⟨Df, hDf⟩ := Classical.axiomOfChoice hcls
  -- array classes
  have harr : ∀ t, Cond.arrayClass t ∈ gtb → (∀ C, t ≠ .object C) → ∃ cA, ArrOfT s cA t ∧ va_RA s cA t := by
    intro t ht hno
    obtain ⟨cA, kA, comp, h1, h2, h3⟩ := Cond.arrayClass_spec (hgt _ ht)
    refine ⟨cA, fun n z => ⟨fun k h => (by cases h), kA, h2, comp, h3⟩, ?_⟩
    cases t with
    | object C => exact absurd rfl (hno C)
    | _ => exact h1
  have hovr : ∀ C, (Cond.arrayOver (.object C)).before #[Value.ref b] s = true → ∃ cA, ArrOfT s cA (.object C) ∧ va_RA s cA (.object C) := by
    intro C h
    obtain ⟨comp, cA, kA, h1, h2, h3, h4, h5⟩ := Cond.arrayOver_spec h
    exact ⟨cA, fun n z => ⟨fun k h => (by cases h), kA, h3, comp, h4⟩, kA, comp, h3, h4, h1, h5⟩
  obtain ⟨a0, ha0⟩ := harr .int w_arr.1 (by simp)
  obtain ⟨a1, ha1⟩ := harr .byte w_arr.2.1 (by simp)
  obtain ⟨a2, ha2⟩ := harr .boolean w_arr.2.2 (by simp)
  obtain ⟨a3, ha3⟩ := hovr RX1 (hts _ (tbl_at over_words.1))
  obtain ⟨a4, ha4⟩ := hovr RX4 (hts _ (tbl_at over_words.2))
  obtain ⟨cs, hcs⟩ : ∃ cs : Nat → ClassId, cs 0 = a0 ∧ cs 1 = a1 ∧ cs 2 = a2 ∧ cs 3 = a3 ∧ cs 4 = a4 := ⟨fun k => if k = 0 then a0 else if k = 1 then a1 else if k = 2 then a2 else if k = 3 then a3 else a4, rfl, rfl, rfl, rfl, rfl⟩
  have hK : va_K (fun k => (Df k).1, fun k => (Df k).2) vwCl (tyl cs) s := by
    refine ⟨fun k q h => hDf k q h, fun k q h => ?_⟩
    obtain ⟨e0, e1, e2, e3, e4⟩ := hcs
    match k, h with
    | 0, h => cases h; rw [e0]; exact ha0
    | 1, h => cases h; rw [e1]; exact ha1
    | 2, h => cases h; rw [e2]; exact ha2
    | 3, h => cases h; rw [e3]; exact ha3
    | 4, h => cases h; rw [e4]; exact ha4
    | k + 5, h => simp [tyl] at h
  -- static rows
  have hst : ∀ j : Nat, ∃ t : Nat, j < 4 → (stT j).eval #[Value.ref b] s none [] s = some (.ref t) ∧ va_T .int t (sCon.getD j []).length (fun i => .int ((sCon.getD j []).getD i 0)) (fun q => s.heap.size ≤ q) s s.heap := by
    intro j
    by_cases hj : j < 4
    · obtain ⟨w1, w2, w3⟩ := st_words j hj
      have hlt : (sCon.getD j []).length < 2 ^ 31 := by
        have : ∀ j, j < 4 → (sCon.getD j []).length < 2 ^ 31 := by decide +kernel
        exact this j hj
      obtain ⟨t, h1, h2⟩ := va_Tof hlt (hfl _ w1) (va_eqt (hfl _ w2)) (fun i hi => va_eqt (hfl _ (w3 i hi))) hA
      exact ⟨t, fun _ => ⟨h1, h2⟩⟩
    · exact ⟨0, fun h => absurd h hj⟩
  obtain ⟨fS, hfS⟩ := Classical.axiomOfChoice hst
  -- texts
  obtain ⟨adK, adV, hkS, hkR⟩ := vk_Sof (args := #[Value.ref b]) (s := s) (N := 6) (tm := txT) (len := tCon.map List.length) (byt := tCon) (A := fun q => s.heap.size ≤ q) (by decide +kernel) (fun i hi => hfl _ (tx_words i hi).1) (fun i hi => hfl _ (tx_words i hi).2.1) (fun i hi => hfl _ (tx_words i hi).2.2.1) (fun i hi => hfl _ (tx_words i hi).2.2.2.1) (fun i hi j hj => hfl _ ((tx_words i hi).2.2.2.2 j hj)) (fun i j hi hj hne => (tx_ne i hi j hj hne).imp (fun h => hfl _ h) (fun h => hfl _ h)) hA
  obtain ⟨ad, had⟩ : ∃ ad : Nat → Nat, ad = fun k => if k < EXT then s.heap.size + k else if k < EXT + 4 then fS (k - EXT) else if k = EXT + 4 then b else if k < EXT + 200 then adV (k - (EXT + 100)) else adK (k - (EXT + 200)) := ⟨_, rfl⟩
  have d0 : ∀ k, k < EXT → ad k = s.heap.size + k := fun k h => by rw [had]; simp only [if_pos h]
  have d1 : ∀ j, j < 4 → ad (EXT + j) = fS j := fun j h => by
    rw [had]
    simp only [if_neg (show ¬ EXT + j < EXT by omega), if_pos (show EXT + j < EXT + 4 by omega), Nat.add_sub_cancel_left]
  have d2 : ad (EXT + 4) = b := by rw [had]; simp only [if_neg (show ¬ EXT + 4 < EXT by omega), if_neg (show ¬ EXT + 4 < EXT + 4 by omega), if_pos]
  have d3 : ∀ j, j < 6 → ad (EXT + 100 + j) = adV j := fun j h => by
    rw [had]
    simp only [if_neg (show ¬ EXT + 100 + j < EXT by omega), if_neg (show ¬ EXT + 100 + j < EXT + 4 by omega), if_neg (show ¬ EXT + 100 + j = EXT + 4 by omega), if_pos (show EXT + 100 + j < EXT + 200 by omega), Nat.add_sub_cancel_left]
  have d4 : ∀ j, j < 6 → ad (EXT + 200 + j) = adK j := fun j h => by
    rw [had]
    simp only [if_neg (show ¬ EXT + 200 + j < EXT by omega), if_neg (show ¬ EXT + 200 + j < EXT + 4 by omega), if_neg (show ¬ EXT + 200 + j = EXT + 4 by omega), if_neg (show ¬ EXT + 200 + j < EXT + 200 by omega), Nat.add_sub_cancel_left]
  have hXt : Xt (fun q => s.heap.size ≤ q) ad (M0 L xs) s := by
    refine ⟨fun j hj => ?_, fun j hj => ?_, fun j hj => ?_, fun j hj => ?_, fun j hj => ?_, ?_, fun q hq k hk hw => ?_, fun q hq k hk hw => ?_, va_AO.of (hts _ (tbl_at over_words.1)), va_AO.of (hts _ (tbl_at over_words.2)), va_Zqof (hts _ (tbl_at sf_words.1)) (hts _ (tbl_at sf_words.2)) (hfl _ sf_ref) hA⟩
    · rcases Nat.lt_or_ge j 4 with h4 | h4
      · rw [d1 j h4]
        have e1 : (M0 L xs).2.2 (EXT + j) 0 = (sCon.getD j []).length := by
          simp only [M0, extR, if_neg (show ¬ EXT + j < EXT by omega), if_neg (show ¬ EXT + j = EXT + 4 by omega), if_pos (show EXT + j < EXT + 4 by omega), Nat.add_sub_cancel_left]
        have e2 : (fun i => Value.int ((M0 L xs).2.1 (EXT + j) i)) = fun i => .int ((sCon.getD j []).getD i 0) := by
          funext i
          simp only [M0, extI, if_neg (show ¬ EXT + j < EXT by omega), if_neg (show ¬ EXT + j = EXT + 4 by omega), if_pos (show EXT + j < EXT + 4 by omega), Nat.add_sub_cancel_left]
        rw [e1, e2]
        exact (hfS j h4).2
      · obtain rfl : j = 4 := by omega
        rw [d2]
        have e1 : (M0 L xs).2.2 (EXT + 4) 0 = L := by simp only [M0, extR, if_neg (show ¬ EXT + 4 < EXT by omega), if_pos]
        have e2 : (fun i => Value.int ((M0 L xs).2.1 (EXT + 4) i)) = fun i => .int (xs i) := by
          funext i
          simp only [M0, extI, if_neg (show ¬ EXT + 4 < EXT by omega), if_pos]
        rw [e1, e2]
        obtain ⟨scr, x1, x2, x3, x4, x5⟩ := hX
        exact ⟨scr, x1, x2, x3, by omega, by rw [x4], x5, Nat.not_le.mpr hbl⟩
    · rw [d3 j hj]
      have e1 : (M0 L xs).2.2 (EXT + 100 + j) 0 = (tCon.map List.length).getD j 0 := by
        simp only [M0, extR, if_neg (show ¬ EXT + 100 + j < EXT by omega), if_neg (show ¬ EXT + 100 + j = EXT + 4 by omega), if_neg (show ¬ EXT + 100 + j < EXT + 4 by omega), Nat.add_sub_cancel_left]
      have e2 : (fun i => Value.int ((M0 L xs).2.1 (EXT + 100 + j) i)) = fun i => .int ((tCon.getD j []).getD i 0) := by
        funext i
        simp only [M0, extI, if_neg (show ¬ EXT + 100 + j < EXT by omega), if_neg (show ¬ EXT + 100 + j = EXT + 4 by omega), if_neg (show ¬ EXT + 100 + j < EXT + 4 by omega), Nat.add_sub_cancel_left]
      rw [e1, e2]
      exact (hkS.1 j hj).2.2.2
    · rw [d3 j hj, d4 j hj]
      exact ⟨(hkS.1 j hj).1, (hkS.1 j hj).2.1, (hkS.1 j hj).2.2.1⟩
    · rw [d4 j hj]
      exact vk_R.of (A := #[Value.ref b]) (hts _ (tbl_at (sref_words j hj))) (hkR j hj)
    · rw [d1 j hj]
      exact va_Zof (hts _ (tbl_at (lay_words j (by omega)).1)) (hts _ (tbl_at (lay_words j (by omega)).2)) (hfS j hj).1 hA
    · exact va_Zof (hts _ (tbl_at (lay_words 4 (by omega)).1)) (hts _ (tbl_at (lay_words 4 (by omega)).2)) (va_eqi (hfl _ cs_word)) hA
    · exact va_Nw.of rfl (hts _ (List.mem_of_getElem? hw))
    · exact va_Nw.of rfl (hts _ (List.mem_of_getElem? hw))
  obtain ⟨n, r, M', hrun, hr1, hbC, hbS⟩ := hlaw L xs hL
  subst hr1
  have hent := ent_LH (ad := ad) (vs := [.ref (EXT + 4)]) (n := 4) rfl (by decide)
  have hmp : ([Value.ref (EXT + 4)] : List Value).map (mpv ad) = [Value.ref b] := by
    show [Value.ref (ad (EXT + 4))] = _
    rw [d2]
  rw [hmp] at hent
  rw [lg_entry_eq]
  have hP : va_P (fun k => (Df k).1, fun k => (Df k).2) vwCl (wld ad cs (M0 L xs)) s.heap := fun k q h => by simp [wld, M0] at h
  have hD : va_D (fun q => s.heap.size ≤ q) (wld ad cs (M0 L xs)) := ⟨fun i j p q h => by simp [wld, M0] at h, fun k q h => by simp [wld, M0] at h⟩
  refine sim_all (l := l) (D := (fun k => (Df k).1, fun k => (Df k).2)) (cs := cs) hGd d0 n 30 k_L_law 0 _ _ _ _ _ hrun (1, 4, 2, 99, T_L_law) (11, ⟨"SeizedGoodsLaw", "law", "([I)Z"⟩, code, 4, some .boolean, 0) rfl hLT p e room_1 s m _ below meth c s.heap [] 0 0 _ _ 0 0 hx hb ?_ hown hgt (fun h => by cases h) rfl (by decide) (by decide) hent (ent_nodb (vs := [.ref (EXT + 4)]) (n := 4) rfl) ⟨hK, hP, hD, va_S.rf, hXt, rfl, Nat.zero_le _⟩ rfl rfl (by rw [Nat.zero_add]; exact hbC) (by rw [Nat.zero_add]; exact hbS) ?_
  · rw [hml]
    exact hent.1.symm
  · intro H' locs' cells' slots' pc' ls' ins st' cnd hJ' hC' hS' hd hrv hc
    have hst' : ins = .ireturn ∧ st' = [.int 1] := by
      unfold retv at hrv
      split at hrv
      · rename_i h9; cases h9
      · rename_i h9; cases h9
      · cases hrv
        exact ⟨rfl, rfl⟩
      · rename_i h9; cases h9
      · rename_i h9; cases h9
      · rename_i h9; cases h9
      · cases hrv
    obtain ⟨rfl, rfl⟩ := hst'
    refine va_forget (fun q hq => hJ'.2.2.2.1.2.2 q hq) ?_
    exact W.widen (by omega) (by omega) (lw_ret hx hb hr hlocks hd)
