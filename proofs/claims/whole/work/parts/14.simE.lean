/-! ===== the whole ===== -/
theorem good_of {ws : List Cond} (h : ∀ w ∈ ws, w ∈ gtb) : GoodIn gtb ws := fun w hw => ⟨h w hw, good_of_word (List.mem_filter.mp (h w hw)).2⟩
theorem desc_suc {x : Option MethodDescriptor} {k : Nat} (h : x.map (fun d => d.parameters.length + 1) = some k) : ∃ n, k = n + 1 ∧ x.map (fun d => d.parameters.length) = some n := by
  cases x with
  | none => cases h
  | some d => cases h; exact ⟨_, rfl, rfl⟩
theorem mokA_spec {m : MT} {b : MBr} {p : Nat × Nat × Nat × Nat} (h : mokA m b p = true) : Cond.initialized b.2.1.cls ∈ gtb ∧ b.2.1.cls = ownS b.1 ∧ plainName b.2.1.cls = true ∧ b.2.1.cls ≠ "java/lang/invoke/MethodHandle" ∧ b.2.1.cls ≠ "java/lang/invoke/VarHandle" ∧ m.2.1 = b.2.2.2.1 ∧ m.2.1 ≤ 20 ∧ rtOf b.2.2.2.2.1 = m.2.2.1 ∧
    (b.2.2.2.2.2 = 0 → Cond.static b.2.1 ∈ gtb ∧ m.2.2.2.1 = 99 ∧ (parseMethodDescriptor b.2.1.desc).map (fun d => d.parameters.length) = some m.1) ∧
    (b.2.2.2.2.2 = 1 → Cond.instanceMethod b.2.1 ∈ gtb ∧ Cond.selects b.2.1.cls b.2.1 b.2.1 ∈ gtb ∧ (parseMethodDescriptor b.2.1.desc).map (fun d => d.parameters.length + 1) = some m.1 ∧ ((m.2.2.2.1 = 98 ∧ b.2.1.cls = "java/lang/String") ∨ (m.2.2.2.1 < 11 ∧ b.2.1.cls = cln m.2.2.2.1))) ∧
    (b.2.2.2.2.2 = 2 → Cond.instanceMethod b.2.1 ∈ gtb ∧ b.2.1.name = "<init>" ∧ b.2.2.2.2.1 = none ∧ m.2.2.2.1 = 97 ∧ (parseMethodDescriptor b.2.1.desc).map (fun d => d.parameters.length + 1) = some m.1) := by
  unfold mokA at h
  simp only [Bool.and_eq_true, decide_eq_true_eq] at h
  obtain ⟨⟨⟨⟨⟨⟨⟨⟨h1, h2⟩, h3⟩, h4⟩, h5⟩, h6⟩, h7⟩, h8⟩, h9⟩ := h
  refine ⟨gtb_at h1, h2, h3, h4, h5, h6, h7, h8, fun hk => ?_, fun hk => ?_, fun hk => ?_⟩
  · rw [hk] at h9
    simp only [Bool.and_eq_true, decide_eq_true_eq] at h9
    exact ⟨gtb_at h9.1.1, h9.1.2, h9.2⟩
  · rw [hk] at h9
    simp only [Bool.and_eq_true, Bool.or_eq_true, decide_eq_true_eq] at h9
    exact ⟨gtb_at h9.1.1.1, gtb_at h9.1.1.2, h9.1.2, h9.2⟩
  · rw [hk] at h9
    simp only [Bool.and_eq_true, decide_eq_true_eq] at h9
    exact ⟨gtb_at h9.1.1.1.1, h9.1.1.1.2, h9.1.1.2, h9.1.2, h9.2⟩
/-- what is linked as a nest's member is no method that is chosen by its receiver -/
theorem nest_kind : ∀ q ∈ PM, ∀ k : Nat, (k, true) ∈ PMp → lw_tbl[k]? = some (mkM q true) → (match MB[q.2]? with | some b => b.2.2.2.2.2 ≠ 1 | none => True) := by
  have h1 : (PMp.filter (fun q => q.2)).all (fun k => match lw_tbl[k.1]? with | some (.methodLinkNest _ _ y _) => (decide (y.name = "<init>") || decide (y.name = "isSum")) | _ => false) = true := by decide +kernel
  have h2 : PM.all (fun q => match MB[q.2]? with | some b => (decide (b.2.2.2.2.2 ≠ 1) || (decide (b.2.1.name ≠ "<init>") && decide (b.2.1.name ≠ "isSum"))) | none => true) = true := by decide +kernel
  intro q hq k hk hw
  have a1 := List.all_eq_true.mp h1 (k, true) (List.mem_filter.mpr ⟨hk, rfl⟩)
  have a2 := List.all_eq_true.mp h2 q hq
  simp only [hw, mkM] at a1
  split
  · rename_i b hb
    simp only [hb, Bool.or_eq_true, Bool.and_eq_true, decide_eq_true_eq] at a1 a2
    rcases a2 with a2 | a2
    · exact a2
    · have hz : q.2 < 268 := by
        have h3 : MB.length = 268 := by decide +kernel
        rw [← h3]
        exact (List.getElem?_eq_some_iff.mp hb).1
      unfold yOf at a1
      rw [if_neg (by omega), if_neg (by omega), if_neg (by omega), if_neg (by omega), if_neg (by omega), hb] at a1
      simp only at a1
      rcases a1 with a1 | a1
      · exact absurd a1 a2.1
      · exact absurd a1 a2.2
  · trivial
theorem rcv_lt {rc : Nat} {vs : List Value} {M : LM} (h : rc < 11) : rcv rc vs M = (match vs with | .ref a :: _ => some ⟨M.1[a]? = some (0, rc), inferInstance⟩ | _ => none) := by
  match rc, h with
  | 0, _ => rfl
  | 1, _ => rfl
  | 2, _ => rfl
  | 3, _ => rfl
  | 4, _ => rfl
  | 5, _ => rfl
  | 6, _ => rfl
  | 7, _ => rfl
  | 8, _ => rfl
  | 9, _ => rfl
  | 10, _ => rfl
section SimE
variable {l : Launch} {ad : Nat → Nat} {D : va_G} {cs : Nat → ClassId} {base : Nat}
set_option maxHeartbeats 1000000 in
/-- a run of a method is a contract of it -/
theorem sim_met {n d z : Nat} {mz : MT} {bz : MBr} {vs : List Value} {M M1 : LM} {r1 : Option Value} (IH : SimAt l D cs base ad n) (hmz : MS[z]? = some mz) (hG : GM mz bz) (hrun : run n d z 0 (ent vs mz.2.1) [] M = some (r1, M1)) (hv : vs.all okV = true) (hl : (ents vs).length ≤ mz.2.1) :
    Met l bz.2.1 (Cond.code bz.2.1 bz.2.2.1 bz.2.2.2.1 bz.2.2.2.2.1 :: gtb) (rmd d (M1.1.length - M.1.length) (nS M1 - nS M)) (va_Pc (vs.map (mpv ad)) (Jst D cs base ad M)) (QL D cs base ad r1 M1) (M1.1.length - M.1.length) (nS M1 - nS M) (fun q => base ≤ q) := by
  obtain ⟨hT, hcode, pp, hmok⟩ := hG
  obtain ⟨-, o2, o3, o4, o5, o6, o7, o8, -, -, o11⟩ := mokA_spec hmok
  refine Met.ofW (cc := bz.2.2.1) (maxL := bz.2.2.2.1) (ret := bz.2.2.2.2.1) o3 rfl ?_
  intro p e s m args below meth c s₁ B hml hpc
  obtain ⟨rfl, hJ⟩ := hpc
  obtain ⟨hK, hP, hD, hX, hsz, hE⟩ := hJ
  have hts : ∀ w ∈ (Cond.code bz.2.1 bz.2.2.1 bz.2.2.2.1 bz.2.2.2.2.1 :: gtb), w.before _ s = true := atoms_spec (ws := Cond.code bz.2.1 bz.2.2.1 bz.2.2.2.1 bz.2.2.2.2.1 :: gtb) B.pre
  have hown : s.vm.findClass (ownS bz.1) = some m.cls := by rw [← o2]; exact findClass_of_methodNamed B.named
  have hpu := run_pure hrun hE
  have hlen := hpu.len
  have hsS := hpu.sz
  rw [lg_entry_eq, ← o6]
  have hLH := ent_LH (ad := ad) hv hl
  refine IH d z 0 (ent vs mz.2.1) [] M r1 M1 hrun mz bz hmz hT p e (rmd d (M1.1.length - M.1.length) (nS M1 - nS M)) s m _ below meth c s.heap [] 0 0 _ _ M.1.length (nS M) B.exec B.bytes ?_ hown (fun w hw => hts w (List.mem_cons_of_mem _ hw)) (fun hi => ?_) hsz (Nat.le_refl _) (Nat.le_refl _) hLH (ent_nodb hv) ⟨hK, hP, hD, va_S.rf, hX, hsz, hE⟩ rfl rfl ?_ ?_ ?_
  · rw [hml, ← o6, hLH.1]
    unfold ent
    rw [List.length_append, List.length_replicate]
    omega
  · rw [decide_eq_true_eq] at hi
    rw [(name_of_methodNamed B.named B.method).1]
    exact (o11 hi).2.1
  · show M1.1.length ≤ M.1.length + (M1.1.length - M.1.length)
    omega
  · show nS M1 ≤ nS M + (nS M1 - nS M)
    omega
  · intro H' locs' cells' slots' pc' ls' ins st' cnd hJ' hC' hS' hd hrv hc
    obtain rfl : cells' = M1.1.length - M.1.length := by omega
    obtain rfl : slots' = nS M1 - nS M := by omega
    exact sim_ret (mt := 0) (mc := 0) (ms := 0) B.exec B.bytes B.returns B.notSynchronized o8 hd hrv hc hJ'
theorem st_split {st : List Value} {k : Nat} (f : Value → Value) : st.map f = ((st.take k).reverse.map f).reverse ++ (st.drop k).map f := by
  rw [List.map_reverse, List.reverse_reverse, ← List.map_append, List.take_append_drop]
set_option maxHeartbeats 4000000 in
/-- a call -/
theorem sim_call {n d z own i pc : Nat} {ini : Bool} {ins0 : Instr} {mz : MT} {bz : MBr} {st : List Value} {M M1 : LM} {r1 : Option Value} {cnd : Dp} (IH : SimAt l D cs base ad n) (hmz : MS[z]? = some mz) (hbz : MB[z]? = some bz) (hG : GM mz bz) (hpl : pl PM own i = some z) (hk : (ins0 = .invokevirtual i ∧ bz.2.2.2.2.2 = 1) ∨ (ins0 = .invokestatic i ∧ bz.2.2.2.2.2 = 0) ∨ (ins0 = .invokespecial i ∧ bz.2.2.2.2.2 = 2))
    (hok : okc mz st = true) (hrc : rcv mz.2.2.2.1 (st.take mz.1).reverse M = some cnd) (hc : cnd.1) (hrun : run n d z 0 (ent (st.take mz.1).reverse mz.2.1) [] M = some (r1, M1))
    {p : Program} {e : Env} {R : Room} {s : State} {m : MethodId} {args : Array Value} {below : List Frame} {meth : Method} {c : Code} {H : Heap} {locs : List Loc} {cells slots : Nat} {Q : State → Prop} {lsr : Array Slot} {cc : ByteArray}
    (had : ∀ k, k < EXT → ad k = base + k) (hx : p.tables.exec = Jvm.exec) (hb : c.code = cc) (hml : c.maxLocals = lsr.size) (hown : s.vm.findClass (ownS own) = some m.cls) (hts : ∀ w ∈ gtb, w.before args s = true) (hRf : d + 3 ≤ R.frames) (hRl : 40 * (d + 3) ≤ R.locals) (hJ : Jv D cs base ad s H locs M) (hcl : cells + (M1.1.length - M.1.length) ≤ R.cells) (hsl : slots + (nS M1 - nS M) ≤ R.slots) (hd : decode cc pc = .ok (ins0, 3))
    (kk : ∀ (H1 : Heap) (locs1 : List Loc), Jv D cs base ad s H1 locs1 M1 → W p l e R s m args below meth c H1 locs1 (cells + (M1.1.length - M.1.length)) (slots + (nS M1 - nS M)) Q (F0 m (pc + 3) lsr ((r1.toList ++ st.drop mz.1).map (mpv ad)))) :
    W p l e R s m args below meth c H locs cells slots Q (F0 m pc lsr (st.map (mpv ad))) := by
  obtain ⟨hK, hP, hD, hSS, hX, hz, hE⟩ := id hJ
  unfold okc at hok
  rw [Bool.and_eq_true, Bool.and_eq_true, Bool.and_eq_true] at hok
  obtain ⟨⟨⟨k1, k2⟩, k3⟩, k4⟩ := hok
  have k1 := Nat.le_of_ble_eq_true k1
  have k2 := Nat.le_of_ble_eq_true k2
  have k4 : (st.take mz.1).reverse.all okV = true := by rw [List.all_reverse]; exact k4
  have hM := sim_met IH hmz hG hrun k4 k2
  obtain ⟨hT, hcode, pp, hmok⟩ := id hG
  obtain ⟨o1, o2, o3, o4, o5, o6, o7, o8, o9, o10, o11⟩ := mokA_spec hmok
  have hgood : GoodIn gtb (Cond.code bz.2.1 bz.2.2.1 bz.2.2.2.1 bz.2.2.2.2.1 :: gtb) := good_of (fun w hw => by
    rcases List.mem_cons.mp hw with rfl | hw
    · exact hcode
    · exact hw)
  have hpu := run_pure hrun hE
  have hroom : (rmd d (M1.1.length - M.1.length) (nS M1 - nS M)).frames + 1 ≤ R.frames ∧ 8 + (bz.2.2.2.1 + 11) + (rmd d (M1.1.length - M.1.length) (nS M1 - nS M)).locals ≤ R.locals := by
    refine ⟨hRf, ?_⟩
    show 8 + (bz.2.2.2.1 + 11) + 40 * (d + 2) ≤ R.locals
    rw [← o6]
    omega
  have hW : ∀ g : List Value, 2 * (F0 m pc lsr g).monitorRoom + (((st.drop mz.1).map (mpv ad)).map fun v => v.category).sum ≤ 8 := fun g => lv_room (by
    rw [List.map_map, show ((fun v : Value => v.category) ∘ mpv ad) = (fun v : Value => v.category) from funext fun v => mpv_cat ad v]
    exact Nat.le_of_ble_eq_true k3)
  have hlenA : ((st.take mz.1).reverse.map (mpv ad)).length = mz.1 := by
    rw [List.length_map, List.length_reverse, List.length_take]
    omega
  have fin : va_Run p l e R s m args below meth c H locs cells slots (M1.1.length - M.1.length) (nS M1 - nS M) (F0 m pc lsr (st.map (mpv ad))) ((st.drop mz.1).map (mpv ad)) (QL D cs base ad r1 M1 ((st.take mz.1).reverse.map (mpv ad)).toArray) (fun q => base ≤ q) → W p l e R s m args below meth c H locs cells slots Q (F0 m pc lsr (st.map (mpv ad))) := by
    intro hr
    refine lcall hr hSS (fun H1 locs1 hP1 hD1 hS1 hz1 => ?_)
    have hk2 := kk H1 locs1 ⟨hK, hP1, hD1, hS1, hX.ext hpu.2.2, hz1, hpu.2.1⟩
    rw [List.map_append] at hk2
    cases r1 with
    | none => exact hk2
    | some v => exact hk2
  have blind : FrameBlind (va_Pc ((st.take mz.1).reverse.map (mpv ad)) (Jst D cs base ad M)) := fun a U g mk q => ⟨q.1, q.2.blind⟩
  have pre : ∀ U : State, U.heap = H → s.WarmedH U.vm → va_Pc ((st.take mz.1).reverse.map (mpv ad)) (Jst D cs base ad M) ((st.take mz.1).reverse.map (mpv ad)).toArray U := fun U hU hW => ⟨rfl, hJ.st hU hW⟩
  have hy : yOf z = bz.2.1 := by
    have : z < 267 := pm_lt hpl hbz
    unfold yOf
    rw [if_neg (by omega), if_neg (by omega), if_neg (by omega), if_neg (by omega), if_neg (by omega), hbz]
  have hlink := pm_word hpl
  rw [hy] at hlink
  have hst := st_split (st := st) (k := mz.1) (mpv ad)
  have hS : CallFix p m c cc lsr.size s args gtb (ownS own) := ⟨hx, hb, hml, hown, hts⟩
  rcases hk with ⟨rfl, hk1⟩ | ⟨rfl, hk0⟩ | ⟨rfl, hk2⟩
  · obtain ⟨w1, w2, w3, w4⟩ := o10 hk1
    obtain ⟨np, hnp, hdesc⟩ := desc_suc w3
    have hrv : ∃ a As, (st.take mz.1).reverse = .ref a :: As ∧ ∃ cell : Cell, H[ad a]? = some cell ∧ cell.vm.isStatics = false ∧ s.vm.findClass bz.2.1.cls = some cell.cls := by
      rcases w4 with ⟨e1, e2⟩ | ⟨e1, e2⟩
      · rw [e1] at hrc
        generalize (st.take mz.1).reverse = vs at hrc ⊢
        match vs, hrc with
        | .ref a :: As, hrc =>
          have hrc : some (⟨EXT + 200 ≤ a ∧ a < EXT + 206, inferInstance⟩ : Dp) = some cnd := hrc
          cases hrc
          have hc : EXT + 200 ≤ a ∧ a < EXT + 206 := hc
          obtain ⟨j, rfl⟩ : ∃ j, a = EXT + 200 + j := ⟨a - (EXT + 200), (Nat.add_sub_cancel' hc.1).symm⟩
          have hj6 : j < 6 := Nat.lt_of_add_lt_add_left (show EXT + 200 + j < EXT + 200 + 6 from hc.2)
          rw [e2]
          exact ⟨_, As, rfl, va_Orecv (hX.2.2.1 j hj6).1 hSS⟩
      · have hrc2 := hrc
        rw [rcv_lt e1] at hrc2
        generalize (st.take mz.1).reverse = vs at hrc2 ⊢
        match vs, hrc2 with
        | .ref a :: As, hrc2 =>
          have hrc2 : some (⟨M.1[a]? = some (0, mz.2.2.2.1), inferInstance⟩ : Dp) = some cnd := hrc2
          cases hrc2
          have hc : M.1[a]? = some (0, mz.2.2.2.1) := hc
          obtain ⟨rcl, hrcl⟩ := cls_get e1
          obtain ⟨-, -, hcn, -⟩ := cls_ok hrcl
          rw [e2, ← hcn]
          exact ⟨a, As, rfl, va_recv hK hP hrcl (wld_get hc)⟩
    obtain ⟨a, As, hvs, hcell⟩ := hrv
    rw [hvs] at fin blind pre hM hlenA hst
    rcases hlink with hl | ⟨k, kq, km, kw, ke⟩
    · refine fin ?_
      refine va_runV (C := bz.2.1.cls) (b := ad a) (As := As.map (mpv ad)) hS hM (cwV np hts (good_of (fun w hw => ?_)) rfl rfl rfl ⟨rfl, o4, o5, hdesc⟩ hroom) ⟨blind, hcell, pre⟩ rfl ?_ rfl ?_ (hW _) hd ⟨hcl, hsl⟩
      · unfold wsV at hw
        rcases List.mem_append.mp hw with hw | hw
        · simp only [List.mem_cons, List.not_mem_nil, or_false] at hw
          rcases hw with rfl | rfl | rfl | rfl
          · exact hl
          · exact w1
          · exact w2
          · exact o1
        · exact (hgood w hw).1
      · simp at hlenA ⊢
        omega
      · show st.map (mpv ad) = _
        rw [hst]
        simp [mpv]
    · exfalso
      have hdist : ∀ q ∈ PM, ∀ k : Nat, (k, true) ∈ PMp → lw_tbl[k]? = some (mkM q true) → (match MB[q.2]? with | some b => b.2.2.2.2.2 ≠ 1 | none => True) := nest_kind
      have := hdist _ km k kq kw
      simp only [hbz] at this
      exact this hk1
  · obtain ⟨w1, w2, w3⟩ := o9 hk0
    rcases hlink with hl | ⟨k, kq, km, kw, ke⟩
    · refine fin ?_
      refine va_runS (As := (st.take mz.1).reverse.map (mpv ad)) hS hM (va_cwS mz.1 hts (good_of (fun w hw => ?_)) rfl rfl rfl ⟨o4, o5, w3⟩ hroom) ⟨blind, pre⟩ rfl hlenA rfl hst (hW _) hd ⟨hcl, hsl⟩
      unfold va_wsS at hw
      rcases List.mem_append.mp hw with hw | hw
      · simp only [List.mem_cons, List.not_mem_nil, or_false] at hw
        rcases hw with rfl | rfl | rfl
        · exact hl
        · exact w1
        · exact o1
      · exact (hgood w hw).1
    · refine fin ?_
      have hnw := hX.2.2.2.2.2.2.1 _ km k kq kw
      rw [ke] at hnw
      exact va_runSN (host := "SeizedGoods") (As := (st.take mz.1).reverse.map (mpv ad)) hS hM ⟨va_cnB mz.1 hts hgood rfl rfl rfl hnw (hts _ o1) ⟨o4, o5, w3⟩ hroom, hts _ w1, trivial⟩ ⟨blind, pre⟩ rfl hlenA rfl hst (hW _) hd ⟨hcl, hsl⟩
  · obtain ⟨w1, w2, w3, w4, w5⟩ := o11 hk2
    obtain ⟨np, hnp, hdesc⟩ := desc_suc w5
    obtain ⟨a, As, hvs⟩ : ∃ a As, (st.take mz.1).reverse = .ref a :: As := by
      rw [w4] at hrc
      generalize (st.take mz.1).reverse = vs at hrc ⊢
      match vs, hrc with
      | .ref a :: As, hrc => exact ⟨a, As, rfl⟩
    rw [hvs] at fin blind pre hM hlenA hst
    rw [w3] at hM hgood
    rcases hlink with hl | ⟨k, kq, km, kw, ke⟩
    · refine fin ?_
      refine va_runI (b := ad a) (As := As.map (mpv ad)) hS hM (cwI np hts hgood rfl rfl rfl (hts _ o1) (hts _ hl) (hts _ w1) w2 ⟨o4, o5, hdesc⟩ hroom) ⟨blind, pre⟩ rfl ?_ rfl ?_ (hW _) hd ⟨hcl, hsl⟩
      · simp at hlenA ⊢
        omega
      · show st.map (mpv ad) = _
        rw [hst]
        simp [mpv]
    · refine fin ?_
      have hnw := hX.2.2.2.2.2.2.1 _ km k kq kw
      rw [ke] at hnw
      refine va_runIN (host := "SeizedGoods") (b := ad a) (As := As.map (mpv ad)) hS hM ⟨va_cnB np hts hgood rfl rfl rfl hnw (hts _ o1) ⟨o4, o5, hdesc⟩ hroom, w2, hts _ w1⟩ ⟨blind, pre⟩ rfl ?_ rfl ?_ (hW _) hd ⟨hcl, hsl⟩
      · simp at hlenA ⊢
        omega
      · show st.map (mpv ad) = _
        rw [hst]
        simp [mpv]
end SimE
