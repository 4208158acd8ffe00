/-! ===== a run that never looks beyond the heap is the same whatever lies there ===== -/
def grd (ins : Instr) (st : List Value) : Bool := match ins, st with
  | .iaload, .int _ :: .ref a :: _ => Nat.blt a EXT
  | .iaload, _ => false
  | .baload, .int _ :: .ref a :: _ => Nat.blt a EXT
  | .baload, _ => false
  | .arraylength, .ref a :: _ => Nat.blt a EXT
  | .arraylength, _ => false
  | .getstatic _, _ => false
  | .ldc _, _ => false
  | .invokeinterface 1 0, _ => true
  | .invokeinterface _ _, _ => false
  | _, _ => true
def runH : Nat → Nat → Nat → Nat → List Value → List Value → LM → Option (Option Value × LM)
  | 0, _, _, _, _, _, _ => none
  | n + 1, d, y, pc, ls, st, M =>
    match MS[y]? with
    | none => none
    | some mt => match look mt.2.2.2.2 pc with
      | none => none
      | some (ins, nx) => match isCall ins with
        | some z => match d with
          | 0 => none
          | d' + 1 => match MS[z]? with
            | none => none
            | some mz => match okc mz st, rcv mz.2.2.2.1 (st.take mz.1).reverse M with
              | true, some c => @ite _ c.1 c.2 (match runH n d' z 0 (ent (st.take mz.1).reverse mz.2.1) [] M with
                | some (r, M') => runH n (d' + 1) y nx ls (r.toList ++ st.drop mz.1) M'
                | none => none) none
              | _, _ => none
        | none => match retv mt.2.2.1 ins st with
          | some (c, r) => @ite _ c.1 c.2 (some (r, M)) none
          | none => match grd ins st, stp FT ins nx ls st M with
            | true, some (.inl s) => runH n d y s.1 s.2.1 s.2.2.1 s.2.2.2
            | true, some (.inr (.inl (c, s, t))) => @ite _ c.1 c.2 (runH n d y s.1 s.2.1 s.2.2.1 s.2.2.2) (runH n d y t.1 t.2.1 t.2.2.1 t.2.2.2)
            | true, some (.inr (.inr (c, s))) => @ite _ c.1 c.2 (runH n d y s.1 s.2.1 s.2.2.1 s.2.2.2) none
            | _, _ => none
def Mr (M N : LM) : Prop := M.1 = N.1 ∧ (∀ a, a < EXT → M.2.1 a = N.2.1 a ∧ M.2.2 a = N.2.2 a) ∧ N.1.length ≤ EXT
def Sr (s t : SS) : Prop := s.1 = t.1 ∧ s.2.1 = t.2.1 ∧ s.2.2.1 = t.2.2.1 ∧ Mr s.2.2.2 t.2.2.2
def Rr : SR → SR → Prop
  | .inl s, .inl t => Sr s t
  | .inr (.inl (c, s, s')), .inr (.inl (d, t, t')) => (c.1 ↔ d.1) ∧ Sr s t ∧ Sr s' t'
  | .inr (.inr (c, s)), .inr (.inr (d, t)) => (c.1 ↔ d.1) ∧ (d.1 → Sr s t)
  | _, _ => False
set_option maxHeartbeats 8000000 in
theorem stpA_rel {ins : Instr} {nx : Nat} {ls st : List Value} {M N : LM} {r : SR} (hM : Mr M N) (h : stpA ins nx ls st N = some r) : ∃ r', stpA ins nx ls st M = some r' ∧ Rr r' r := by
  unfold stpA at h
  repeat' split at h
  all_goals first
    | (cases h; refine ⟨_, rfl, ?_⟩; exact ⟨rfl, rfl, rfl, hM⟩)
    | (cases h; refine ⟨_, rfl, ?_⟩; exact ⟨Iff.rfl, ⟨rfl, rfl, rfl, hM⟩, ⟨rfl, rfl, rfl, hM⟩⟩)
    | (cases h; refine ⟨_, rfl, ?_⟩; exact ⟨Iff.rfl, fun _ => ⟨rfl, rfl, rfl, hM⟩⟩)
    | (cases h; rename_i h1; simp only [stpA, h1]; exact ⟨_, rfl, rfl, rfl, rfl, hM⟩)
    | (cases h; rename_i h1 h2; simp only [stpA, h1, h2]; exact ⟨_, rfl, rfl, rfl, rfl, hM⟩)
    | (cases h; done)
theorem stpA_none {ins : Instr} {nx : Nat} {ls st : List Value} {M N : LM} (hM : Mr N M) (h : stpA ins nx ls st N = none) : stpA ins nx ls st M = none := by
  cases h2 : stpA ins nx ls st M with
  | none => rfl
  | some r =>
    obtain ⟨r', h3, -⟩ := stpA_rel hM h2
    rw [h3] at h
    cases h
theorem Mr_tg {M N : LM} (h : Mr M N) (a : Nat) : tg M a = tg N a := by unfold tg; rw [h.1]
theorem Mr_ln {M N : LM} (h : Mr M N) (a : Nat) : ln M a = ln N a := by unfold ln; rw [h.1]
theorem Mr_gI {M N : LM} (h : Mr M N) {a : Nat} (ha : a < EXT) (k : Nat) : gI M a k = gI N a k := by unfold gI; rw [(h.2.1 a ha).1]
theorem Mr_gR {M N : LM} (h : Mr M N) {a : Nat} (ha : a < EXT) (k : Nat) : gR M a k = gR N a k := by unfold gR; rw [(h.2.1 a ha).2]
theorem Mr_pI {M N : LM} (h : Mr M N) {a k : Nat} {v : Int32} (ha : a < EXT) : Mr (pI M a k v) (pI N a k v) := by
  refine ⟨h.1, fun b hb => ⟨?_, (h.2.1 b hb).2⟩, h.2.2⟩
  show va_up M.2.1 a _ b = va_up N.2.1 a _ b
  rw [(h.2.1 a ha).1]
  unfold va_up
  split
  · rfl
  · exact (h.2.1 b hb).1
theorem Mr_pR {M N : LM} (h : Mr M N) {a k v : Nat} (ha : a < EXT) : Mr (pR M a k v) (pR N a k v) := by
  refine ⟨h.1, fun b hb => ⟨(h.2.1 b hb).1, ?_⟩, h.2.2⟩
  show va_up M.2.2 a _ b = va_up N.2.2 a _ b
  rw [(h.2.1 a ha).2]
  unfold va_up
  split
  · rfl
  · exact (h.2.1 b hb).2
theorem Mr_pC {M N : LM} (h : Mr M N) {a : Nat} {f g : Nat → Int32} (e : f = g) : Mr (pC M a f) (pC N a g) := by
  subst e
  refine ⟨h.1, fun b hb => ⟨?_, (h.2.1 b hb).2⟩, h.2.2⟩
  show va_up M.2.1 a _ b = va_up N.2.1 a _ b
  unfold va_up
  split
  · rfl
  · exact (h.2.1 b hb).1
theorem Mr_pN {M N : LM} (h : Mr M N) {q : Nat × Nat} (hl : N.1.length < EXT) : Mr (pN M q) (pN N q) := by
  refine ⟨by show M.1 ++ [q] = N.1 ++ [q]; rw [h.1], fun b hb => ⟨?_, ?_⟩, by show (N.1 ++ [q]).length ≤ EXT; rw [List.length_append]; exact hl⟩
  · show va_up M.2.1 M.1.length _ b = va_up N.2.1 N.1.length _ b
    rw [h.1]
    unfold va_up
    split
    · rfl
    · exact (h.2.1 b hb).1
  · show va_up M.2.2 M.1.length _ b = va_up N.2.2 N.1.length _ b
    rw [h.1]
    unfold va_up
    split
    · rfl
    · exact (h.2.1 b hb).2
theorem Mr_lt {M N : LM} (h : Mr M N) {a : Nat} {q : Nat × Nat} (hq : N.1[a]? = some q) : a < EXT := Nat.lt_of_lt_of_le (sh_lt hq) h.2.2
theorem Mr_tlt {M N : LM} (h : Mr M N) {a t : Nat} (ht : tg N a = t) (h9 : t ≠ 99) : a < EXT := Nat.lt_of_lt_of_le (tg_lt ht h9) h.2.2
theorem stpB_rel {ins : Instr} {nx : Nat} {ls st : List Value} {M N : LM} {r : SR} (hM : Mr M N) (hg : grd ins st = true) (h : stpB FT ins nx ls st N = some r) : ∃ r', stpB FT ins nx ls st M = some r' ∧ Rr r' r := by
  have e1 := hM.1
  have etg := Mr_tg hM
  have eln := Mr_ln hM
  cases ins with
  | getfield q =>
    simp only [stpB] at h ⊢
    split at h
    · rename_i a r'
      split at h
      · cases h
        refine ⟨_, rfl, by rw [e1], fun c => ⟨rfl, rfl, ?_, hM⟩⟩
        show Value.int (gI M a _) :: r' = Value.int (gI N a _) :: r'
        rw [Mr_gI hM (Mr_lt hM c)]
      · cases h
        refine ⟨_, rfl, by rw [e1], fun c => ⟨rfl, rfl, ?_, hM⟩⟩
        show Value.int (gI M a _) :: r' = Value.int (gI N a _) :: r'
        rw [Mr_gI hM (Mr_lt hM c)]
      · cases h
        refine ⟨_, rfl, ?_, fun c => ⟨rfl, rfl, ?_, hM⟩⟩
        · show (M.1[a]? = _ ∧ ¬ gR M a _ = 0) ↔ (N.1[a]? = _ ∧ ¬ gR N a _ = 0)
          rw [e1]
          constructor
          · rintro ⟨c1, c2⟩
            exact ⟨c1, by rw [← Mr_gR hM (Mr_lt hM c1)]; exact c2⟩
          · rintro ⟨c1, c2⟩
            exact ⟨c1, by rw [Mr_gR hM (Mr_lt hM c1)]; exact c2⟩
        · show Value.ref (gR M a _ - 1) :: r' = Value.ref (gR N a _ - 1) :: r'
          rw [Mr_gR hM (Mr_lt hM c.1)]
      · cases h
        exact ⟨_, rfl, Iff.rfl, fun c => ⟨rfl, rfl, rfl, hM⟩⟩
      · cases h
        exact ⟨_, rfl, Iff.rfl, fun c => ⟨rfl, rfl, rfl, hM⟩⟩
      · cases h
    · cases h
  | putfield q =>
    simp only [stpB] at h ⊢
    split at h
    · rename_i v a r'
      split at h
      · cases h
        exact ⟨_, rfl, by rw [e1], fun c => ⟨rfl, rfl, rfl, Mr_pI hM (Mr_lt hM c)⟩⟩
      · cases h
        exact ⟨_, rfl, by rw [e1], fun c => ⟨rfl, rfl, rfl, Mr_pI hM (Mr_lt hM c.1)⟩⟩
      · cases h
    · rename_i b a r'
      split at h
      · cases h
        exact ⟨_, rfl, by rw [e1], fun c => ⟨rfl, rfl, rfl, Mr_pR hM (Mr_lt hM c)⟩⟩
      · cases h
    · cases h
  | iaload =>
    simp only [stpB] at h ⊢
    split at h
    · rename_i i a r'
      cases h
      have ha : a < EXT := Nat.blt_eq.mp hg
      refine ⟨_, rfl, ?_, fun c => ⟨rfl, rfl, ?_, hM⟩⟩
      · show (xtg M a = 1 ∧ ¬ (i < 0 ∨ xln M a ≤ _)) ↔ (xtg N a = 1 ∧ ¬ (i < 0 ∨ xln N a ≤ _))
        unfold xtg xln
        rw [if_pos ha, if_pos ha, if_pos ha, if_pos ha, etg, eln]
      · show Value.int (gI M a _) :: r' = Value.int (gI N a _) :: r'
        rw [Mr_gI hM ha]
    · cases h
  | baload =>
    simp only [stpB] at h ⊢
    split at h
    · rename_i i a r'
      cases h
      have ha : a < EXT := Nat.blt_eq.mp hg
      refine ⟨_, rfl, ?_, fun c => ⟨rfl, rfl, ?_, hM⟩⟩
      · show ((xtg M a = 2 ∨ xtg M a = 3) ∧ ¬ (i < 0 ∨ xln M a ≤ _)) ↔ ((xtg N a = 2 ∨ xtg N a = 3) ∧ ¬ (i < 0 ∨ xln N a ≤ _))
        unfold xtg xln
        rw [if_pos ha, if_pos ha, if_pos ha, if_pos ha, etg, eln]
      · show Value.int (gI M a _) :: r' = Value.int (gI N a _) :: r'
        rw [Mr_gI hM ha]
    · cases h
  | aaload =>
    simp only [stpB] at h ⊢
    split at h
    · rename_i i a r'
      cases h
      refine ⟨_, rfl, ?_, fun c => ⟨rfl, rfl, ?_, hM⟩⟩
      · show ((tg M a = 5 ∨ tg M a = 8) ∧ ¬ (i < 0 ∨ ln M a ≤ _) ∧ ¬ gR M a _ = 0) ↔ ((tg N a = 5 ∨ tg N a = 8) ∧ ¬ (i < 0 ∨ ln N a ≤ _) ∧ ¬ gR N a _ = 0)
        rw [etg, eln]
        constructor
        · rintro ⟨c1, c2, c3⟩
          exact ⟨c1, c2, by rw [← Mr_gR hM (c1.elim (fun c => Mr_tlt hM c (by decide)) (fun c => Mr_tlt hM c (by decide)))]; exact c3⟩
        · rintro ⟨c1, c2, c3⟩
          exact ⟨c1, c2, by rw [Mr_gR hM (c1.elim (fun c => Mr_tlt hM c (by decide)) (fun c => Mr_tlt hM c (by decide)))]; exact c3⟩
      · show Value.ref (gR M a _ - 1) :: r' = Value.ref (gR N a _ - 1) :: r'
        rw [Mr_gR hM (c.1.elim (fun c => Mr_tlt hM c (by decide)) (fun c => Mr_tlt hM c (by decide)))]
    · cases h
  | iastore =>
    simp only [stpB] at h ⊢
    split at h
    · cases h
      exact ⟨_, rfl, by rw [etg, eln], fun c => ⟨rfl, rfl, rfl, Mr_pI hM (Mr_tlt hM c.1 (by decide))⟩⟩
    · cases h
  | bastore =>
    simp only [stpB] at h ⊢
    split at h
    · cases h
      exact ⟨_, rfl, by rw [etg, eln], fun c => ⟨rfl, rfl, rfl, Mr_pI hM (c.1.elim (fun c => Mr_tlt hM c (by decide)) (fun c => Mr_tlt hM c.1 (by decide)))⟩⟩
    · cases h
  | aastore =>
    simp only [stpB] at h ⊢
    split at h
    · cases h
      exact ⟨_, rfl, by rw [etg, eln, e1], fun c => ⟨rfl, rfl, rfl, Mr_pR hM (c.1.elim (fun c => Mr_tlt hM c (by decide)) (fun c => Mr_tlt hM c (by decide)))⟩⟩
    · cases h
  | arraylength =>
    simp only [stpB] at h ⊢
    split at h
    · rename_i a r'
      cases h
      have ha : a < EXT := Nat.blt_eq.mp hg
      refine ⟨_, rfl, ?_, fun c => ⟨rfl, rfl, ?_, hM⟩⟩
      · show (xtg M a = 1 ∨ xtg M a = 2) ↔ (xtg N a = 1 ∨ xtg N a = 2)
        unfold xtg
        rw [if_pos ha, if_pos ha, etg]
      · show Value.int (Int32.ofNat (xln M a)) :: r' = Value.int (Int32.ofNat (xln N a)) :: r'
        unfold xln
        rw [if_pos ha, if_pos ha, eln]
    · cases h
  | new q =>
    cases h
    refine ⟨_, rfl, ?_, fun c => ⟨rfl, rfl, ?_, Mr_pN hM c.1⟩⟩
    · show (M.1.length < EXT ∧ q < 11) ↔ (N.1.length < EXT ∧ q < 11)
      rw [e1]
    · show Value.ref M.1.length :: st = Value.ref N.1.length :: st
      rw [e1]
  | newarray t =>
    cases t <;> simp only [stpB] at h ⊢ <;> first
      | cases h
      | (split at h
         · rename_i n r'
           cases h
           refine ⟨_, rfl, ?_, fun c => ⟨rfl, rfl, ?_, Mr_pN hM c.1⟩⟩
           · show (M.1.length < EXT ∧ _) ↔ (N.1.length < EXT ∧ _)
             rw [e1]
           · show Value.ref M.1.length :: r' = Value.ref N.1.length :: r'
             rw [e1]
         · cases h)
  | anewarray q =>
    simp only [stpB] at h ⊢
    split at h
    · rename_i n r'
      cases h
      refine ⟨_, rfl, ?_, fun c => ⟨rfl, rfl, ?_, Mr_pN hM c.2.1⟩⟩
      · show (_ ∧ M.1.length < EXT ∧ _) ↔ (_ ∧ N.1.length < EXT ∧ _)
        rw [e1]
      · show Value.ref M.1.length :: r' = Value.ref N.1.length :: r'
        rw [e1]
    · cases h
  | getstatic j => cases hg
  | ldc j => cases hg
  | invokeinterface j k =>
    have hjk : j = 1 ∧ k = 0 := by
      match j, k, hg with
      | 1, 0, _ => exact ⟨rfl, rfl⟩
    obtain ⟨rfl, rfl⟩ := hjk
    rw [stpB_oi] at h ⊢
    split at h
    · cases h
      exact ⟨_, rfl, Iff.rfl, fun c => ⟨rfl, rfl, rfl, hM⟩⟩
    · cases h
  | _ => exact absurd h (by simp [stpB])
theorem stp_rel {ins : Instr} {nx : Nat} {ls st : List Value} {M N : LM} {r : SR} (hM : Mr M N) (hg : grd ins st = true) (h : stp FT ins nx ls st N = some r) : ∃ r', stp FT ins nx ls st M = some r' ∧ Rr r' r := by
  unfold stp at h ⊢
  cases hA : stpA ins nx ls st N with
  | some q =>
    rw [hA] at h
    cases h
    obtain ⟨r', h1, h2⟩ := stpA_rel hM hA
    exact ⟨r', by rw [h1], h2⟩
  | none =>
    rw [hA] at h
    have hA2 : stpA ins nx ls st M = none := by
      cases hB : stpA ins nx ls st M with
      | none => rfl
      | some q =>
        have hM2 : Mr N M := ⟨hM.1.symm, fun a ha => ⟨(hM.2.1 a ha).1.symm, (hM.2.1 a ha).2.symm⟩, by rw [hM.1]; exact hM.2.2⟩
        obtain ⟨r', h1, -⟩ := stpA_rel hM2 hB
        rw [h1] at hA
        cases hA
    rw [hA2]
    exact stpB_rel hM hg h
theorem rcv_rel {rc : Nat} {vs : List Value} {M N : LM} {c : Dp} (hM : Mr M N) (h : rcv rc vs N = some c) : ∃ c', rcv rc vs M = some c' ∧ (c'.1 ↔ c.1) := by
  unfold rcv at h ⊢
  split at h
  · cases h
    exact ⟨_, rfl, Iff.rfl⟩
  · split at h
    · cases h
      exact ⟨_, rfl, Iff.rfl⟩
    · cases h
  · split at h
    · cases h
      exact ⟨_, rfl, Iff.rfl⟩
    · cases h
  · split at h
    · cases h
      exact ⟨_, rfl, by rw [hM.1]⟩
    · cases h
theorem runH_rel {n : Nat} : ∀ {d y pc : Nat} {ls st : List Value} {M N : LM} {r : Option Value} {N' : LM}, runH n d y pc ls st N = some (r, N') → Mr M N → ∃ M', run n d y pc ls st M = some (r, M') ∧ Mr M' N' := by
  induction n with
  | zero => intro d y pc ls st M N r N' h; cases h
  | succ n ih =>
    intro d y pc ls st M N r N' h hM
    rw [runH] at h
    rw [run]
    split at h
    · cases h
    · rename_i mt hmt
      simp only [hmt]
      split at h
      · cases h
      · rename_i ins nx hlook
        simp only [hlook]
        split at h
        · rename_i z hz
          simp only [hz]
          split at h
          · cases h
          · rename_i d'
            split at h
            · cases h
            · rename_i mz hmz
              simp only [hmz]
              split at h
              · rename_i c h1 h2
                obtain ⟨c', h3, h4⟩ := rcv_rel hM h2
                simp only [h1, h3]
                by_cases hc : c.1
                · rw [@if_pos _ c.2 hc] at h
                  rw [@if_pos _ c'.2 (h4.mpr hc)]
                  split at h
                  · rename_i r1 N1 hr
                    obtain ⟨M1, hr1, hM1⟩ := ih hr hM
                    simp only [hr1]
                    exact ih h hM1
                  · cases h
                · rw [@if_neg _ c.2 hc] at h
                  cases h
              · cases h
        · rename_i hz
          simp only [hz]
          split at h
          · rename_i c r1 hr
            simp only [hr]
            by_cases hc : c.1
            · rw [@if_pos _ c.2 hc] at h ⊢
              cases h
              exact ⟨M, rfl, hM⟩
            · rw [@if_neg _ c.2 hc] at h
              cases h
          · rename_i hr
            simp only [hr]
            split at h
            · rename_i s hg hs
              obtain ⟨r', hs', hrr⟩ := stp_rel hM hg hs
              match r', hs', hrr with
              | .inl s', hs', hrr =>
                simp only [hs']
                obtain ⟨q1, q2, q3, q4⟩ := hrr
                rw [q1, q2, q3]
                exact ih h q4
            · rename_i c s t hg hs
              obtain ⟨r', hs', hrr⟩ := stp_rel hM hg hs
              match r', hs', hrr with
              | .inr (.inl (c', s', t')), hs', hrr =>
                simp only [hs']
                obtain ⟨q0, ⟨q1, q2, q3, q4⟩, ⟨p1, p2, p3, p4⟩⟩ := hrr
                by_cases hc : c.1
                · rw [@if_pos _ c.2 hc] at h
                  rw [@if_pos _ c'.2 (q0.mpr hc), q1, q2, q3]
                  exact ih h q4
                · rw [@if_neg _ c.2 hc] at h
                  rw [@if_neg _ c'.2 (fun e => hc (q0.mp e)), p1, p2, p3]
                  exact ih h p4
            · rename_i c s hg hs
              obtain ⟨r', hs', hrr⟩ := stp_rel hM hg hs
              match r', hs', hrr with
              | .inr (.inr (c', s')), hs', hrr =>
                simp only [hs']
                obtain ⟨q0, q⟩ := hrr
                by_cases hc : c.1
                · rw [@if_pos _ c.2 hc] at h
                  obtain ⟨q1, q2, q3, q4⟩ := q hc
                  rw [@if_pos _ c'.2 (q0.mpr hc), q1, q2, q3]
                  exact ih h q4
                · rw [@if_neg _ c.2 hc] at h
                  cases h
            · cases h
