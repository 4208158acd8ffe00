/-! ===== locals that are not read any more: a run that ends with nothing there ends with anything there ===== -/
def Le1 (a b : Option Value) : Prop := a = b ∨ (a = some .null ∧ ∃ w, b = some w ∧ ∀ x, w ≠ .long x)
def LeL (ls ls' : List Value) : Prop := ls.length = ls'.length ∧ ∀ i : Nat, Le1 ls[i]? ls'[i]?
theorem LeL_rf {ls : List Value} : LeL ls ls := ⟨rfl, fun _ => Or.inl rfl⟩
theorem LeL_int {ls ls' : List Value} (h : LeL ls ls') {i : Nat} {x : Int32} (e : ls[i]? = some (.int x)) : ls'[i]? = some (.int x) := by
  rcases h.2 i with h1 | ⟨h1, -⟩
  · rw [← h1]; exact e
  · rw [e] at h1; cases h1
theorem LeL_long {ls ls' : List Value} (h : LeL ls ls') {i : Nat} {x : Int64} (e : ls[i]? = some (.long x)) : ls'[i]? = some (.long x) := by
  rcases h.2 i with h1 | ⟨h1, -⟩
  · rw [← h1]; exact e
  · rw [e] at h1; cases h1
theorem LeL_ref {ls ls' : List Value} (h : LeL ls ls') {i : Nat} {x : Nat} (e : ls[i]? = some (.ref x)) : ls'[i]? = some (.ref x) := by
  rcases h.2 i with h1 | ⟨h1, -⟩
  · rw [← h1]; exact e
  · rw [e] at h1; cases h1
theorem LeL_okst {ls ls' : List Value} (h : LeL ls ls') (i : Nat) : okst ls' i = okst ls i := by
  cases i with
  | zero => simp only [okst, h.1]
  | succ i =>
    simp only [okst, h.1]
    rcases h.2 i with h1 | ⟨h1, w, h2, h3⟩
    · rw [h1]
    · rw [h1, h2]
      cases w with
      | long x => exact absurd rfl (h3 x)
      | _ => rfl
theorem LeL_set {ls ls' : List Value} (h : LeL ls ls') (i : Nat) (v : Value) : LeL (ls.set i v) (ls'.set i v) := by
  refine ⟨by rw [List.length_set, List.length_set, h.1], fun j => ?_⟩
  rw [List.getElem?_set, List.getElem?_set, h.1]
  split
  · exact Or.inl rfl
  · exact h.2 j
def Sw (s t : SS) : Prop := s.1 = t.1 ∧ LeL s.2.1 t.2.1 ∧ s.2.2 = t.2.2
def Rw : SR → SR → Prop
  | .inl s, .inl t => Sw s t
  | .inr (.inl (c, s, s')), .inr (.inl (d, t, t')) => c = d ∧ Sw s t ∧ Sw s' t'
  | .inr (.inr (c, s)), .inr (.inr (d, t)) => c = d ∧ Sw s t
  | _, _ => False
set_option maxHeartbeats 8000000 in
theorem stpA_w {ins : Instr} {nx : Nat} {ls ls' st : List Value} {M : LM} {r : SR} (hL : LeL ls ls') (h : stpA ins nx ls st M = some r) : ∃ r', stpA ins nx ls' st M = some r' ∧ Rw r r' := by
  unfold stpA at h
  repeat' split at h
  all_goals first
    | (cases h; refine ⟨_, rfl, ?_⟩; exact ⟨rfl, hL, rfl⟩)
    | (cases h; refine ⟨_, rfl, ?_⟩; exact ⟨rfl, ⟨rfl, hL, rfl⟩, ⟨rfl, hL, rfl⟩⟩)
    | (cases h; refine ⟨_, rfl, ?_⟩; exact ⟨rfl, ⟨rfl, hL, rfl⟩⟩)
    | (cases h; rename_i h1; simp only [stpA, LeL_int hL h1]; exact ⟨_, rfl, rfl, hL, rfl⟩)
    | (cases h; rename_i h1; simp only [stpA, LeL_long hL h1]; exact ⟨_, rfl, rfl, hL, rfl⟩)
    | (cases h; rename_i h1; simp only [stpA, LeL_ref hL h1]; exact ⟨_, rfl, rfl, hL, rfl⟩)
    | (cases h; rename_i h1; rw [← LeL_okst hL] at h1; simp only [stpA, h1]; exact ⟨_, rfl, rfl, LeL_set hL _ _, rfl⟩)
    | (cases h; rename_i h1 h2; rw [← LeL_okst hL] at h1; simp only [stpA, h1, LeL_int hL h2]; exact ⟨_, rfl, rfl, LeL_set hL _ _, rfl⟩)
    | (cases h; rename_i h1 h2; rw [← LeL_okst hL] at h1; rw [hL.1] at h2; simp only [stpA, h1, h2]; exact ⟨_, rfl, rfl, LeL_set (LeL_set hL _ _) _ _, rfl⟩)
    | (cases h; done)
set_option maxHeartbeats 8000000 in
theorem stpB_w {ins : Instr} {nx : Nat} {ls ls' st : List Value} {M : LM} {r : SR} (hL : LeL ls ls') (h : stpB FT ins nx ls st M = some r) : ∃ r', stpB FT ins nx ls' st M = some r' ∧ Rw r r' := by
  unfold stpB at h
  repeat' split at h
  all_goals first
    | (cases h; exact ⟨_, rfl, rfl, rfl, hL, rfl⟩)
    | (cases h; exact ⟨_, rfl, rfl, hL, rfl⟩)
    | (cases h; rename_i h1; simp only [stpB, h1]; exact ⟨_, rfl, rfl, rfl, hL, rfl⟩)
    | (cases h; done)
theorem stpA_wn {ins : Instr} {nx : Nat} {ls ls' st : List Value} {M : LM} {r : SR} (hL : LeL ls ls') (hA : stpA ins nx ls st M = none) (h : stpB FT ins nx ls st M = some r) : stpA ins nx ls' st M = none := by
  unfold stpB at h
  repeat' split at h
  all_goals first
    | rfl
    | (cases h; done)
theorem stp_w {ins : Instr} {nx : Nat} {ls ls' st : List Value} {M : LM} {r : SR} (hL : LeL ls ls') (h : stp FT ins nx ls st M = some r) : ∃ r', stp FT ins nx ls' st M = some r' ∧ Rw r r' := by
  unfold stp at h ⊢
  cases hA : stpA ins nx ls st M with
  | some q =>
    rw [hA] at h
    cases h
    obtain ⟨r', h1, h2⟩ := stpA_w hL hA
    exact ⟨r', by rw [h1], h2⟩
  | none =>
    rw [hA] at h
    rw [stpA_wn hL hA h]
    exact stpB_w hL h
theorem run_w {n : Nat} : ∀ {d y pc : Nat} {ls ls' st : List Value} {M : LM} {o : Option Value × LM}, LeL ls ls' → run n d y pc ls st M = some o → run n d y pc ls' st M = some o := by
  induction n with
  | zero => intro d y pc ls ls' st M o _ h; cases h
  | succ n ih =>
    intro d y pc ls ls' st M o hL h
    rw [run] at h
    split at h
    · cases h
    · rename_i mt hmt
      split at h
      · cases h
      · rename_i ins nx hlook
        split at h
        · rename_i z hz
          split at h
          · cases h
          · rename_i d'
            split at h
            · cases h
            · rename_i mz hmz
              split at h
              · rename_i c h1 h2
                by_cases hc : c.1
                · rw [@if_pos _ c.2 hc] at h
                  split at h
                  · rename_i r M' hr
                    rw [run]
                    simp only [hmt, hlook, hz, hmz, h1, h2]
                    rw [@if_pos _ c.2 hc, hr]
                    exact ih hL h
                  · cases h
                · rw [@if_neg _ c.2 hc] at h
                  cases h
              · cases h
        · rename_i hz
          split at h
          · rename_i c r hr
            rw [run]
            simp only [hmt, hlook, hz, hr]
            exact h
          · rename_i hr
            split at h
            · rename_i s hs
              obtain ⟨r', e, hw⟩ := stp_w hL hs
              match r', e, hw with
              | .inl s', e, hw =>
                rw [run]
                simp only [hmt, hlook, hz, hr, e]
                obtain ⟨w1, w2, w3⟩ := hw
                rw [← w1, ← w3]
                exact ih w2 h
            · rename_i c s t hs
              obtain ⟨r', e, hw⟩ := stp_w hL hs
              match r', e, hw with
              | .inr (.inl (c', s', t')), e, hw =>
                rw [run]
                simp only [hmt, hlook, hz, hr, e]
                obtain ⟨w0, ⟨w1, w2, w3⟩, ⟨v1, v2, v3⟩⟩ := hw
                subst w0
                by_cases hc : c.1
                · rw [@if_pos _ c.2 hc] at h ⊢
                  rw [← w1, ← w3]
                  exact ih w2 h
                · rw [@if_neg _ c.2 hc] at h ⊢
                  rw [← v1, ← v3]
                  exact ih v2 h
            · rename_i c s hs
              obtain ⟨r', e, hw⟩ := stp_w hL hs
              match r', e, hw with
              | .inr (.inr (c', s')), e, hw =>
                rw [run]
                simp only [hmt, hlook, hz, hr, e]
                obtain ⟨w0, w1, w2, w3⟩ := hw
                subst w0
                by_cases hc : c.1
                · rw [@if_pos _ c.2 hc] at h ⊢
                  rw [← w1, ← w3]
                  exact ih w2 h
                · rw [@if_neg _ c.2 hc] at h
                  cases h
            · cases h
theorem Ends_w {d y pc : Nat} {ls ls' st : List Value} {M : LM} {Q : Option Value → LM → Prop} (hL : LeL ls ls') (h : Ends d y pc ls st M Q) : Ends d y pc ls' st M Q := by
  obtain ⟨n, r, M', h1, h2⟩ := h
  exact ⟨n, r, M', run_w hL h1, h2⟩
/-- what a run ends with is one thing -/
theorem Ends_eq {d y pc : Nat} {ls st : List Value} {M M' : LM} {r : Option Value} (h : ∀ Q : Option Value → LM → Prop, Q r M' → Ends d y pc ls st M Q) {Q : Option Value → LM → Prop} : Ends d y pc ls st M Q = Q r M' := by
  refine propext ⟨fun hE => ?_, h Q⟩
  obtain ⟨n, r2, M2, e2, q2⟩ := hE
  obtain ⟨k, r3, M3, e3, q3, q4⟩ := h (fun a b => a = r ∧ b = M') ⟨rfl, rfl⟩
  have e4 := run_le (Nat.le_max_left n k) e2
  have e5 := run_le (Nat.le_max_right n k) e3
  rw [e4] at e5
  cases e5
  rw [← q3, ← q4]
  exact q2
theorem Le_n {v : Value} (h : ∀ x, v ≠ .long x) : Le1 (some .null) (some v) := Or.inr ⟨rfl, v, rfl, h⟩
theorem LeL_c {a b : Value} {ls ls' : List Value} (h : a = b ∨ (a = .null ∧ ∀ x, b ≠ .long x)) (h2 : LeL ls ls') : LeL (a :: ls) (b :: ls') := by
  refine ⟨by simp [h2.1], fun i => ?_⟩
  cases i with
  | zero =>
    rcases h with rfl | ⟨rfl, h⟩
    · exact Or.inl rfl
    · exact Le_n h
  | succ i => exact h2.2 i
theorem LeL_e {a : Value} {ls ls' : List Value} (h2 : LeL ls ls') : LeL (a :: ls) (a :: ls') := LeL_c (Or.inl rfl) h2
theorem LeL_i {x : Int32} {ls ls' : List Value} (h2 : LeL ls ls') : LeL (.null :: ls) (.int x :: ls') := LeL_c (Or.inr ⟨rfl, fun _ h => by cases h⟩) h2
theorem LeL_r {x : Nat} {ls ls' : List Value} (h2 : LeL ls ls') : LeL (.null :: ls) (.ref x :: ls') := LeL_c (Or.inr ⟨rfl, fun _ h => by cases h⟩) h2
