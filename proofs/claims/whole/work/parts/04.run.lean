/-! ===== runs of the small machine, what a run ends with, blocks ===== -/
def isCall : Instr → Option Nat
  | .invokestatic z => some z
  | _ => none
def okc (mz : MT) (st : List Value) : Bool := Nat.ble mz.1 st.length && Nat.ble (ents (st.take mz.1).reverse).length mz.2.1 && cat8 (st.drop mz.1) && (st.take mz.1).all okV
def run : Nat → Nat → Nat → Nat → List Value → List Value → LM → Option (Option Value × LM)
  | 0, _, _, _, _, _, _ => none
  | n + 1, d, y, pc, ls, st, M =>
    match MS[y]? with
    | none => none
    | some mt => match look mt.2.2.2.2 pc with
      | none => none
      | some (ins, nx) => match isCall ins with
        | some z => match d with
          | 0 => none
          | d' + 1 => match MS[z]? with
            | none => none
            | some mz => match okc mz st, rcv mz.2.2.2.1 (st.take mz.1).reverse M with
              | true, some c => @ite _ c.1 c.2 (match run n d' z 0 (ent (st.take mz.1).reverse mz.2.1) [] M with
                | some (r, M') => run n (d' + 1) y nx ls (r.toList ++ st.drop mz.1) M'
                | none => none) none
              | _, _ => none
        | none => match retv mt.2.2.1 ins st with
          | some (c, r) => @ite _ c.1 c.2 (some (r, M)) none
          | none => match stp FT ins nx ls st M with
            | some (.inl s) => run n d y s.1 s.2.1 s.2.2.1 s.2.2.2
            | some (.inr (.inl (c, s, t))) => @ite _ c.1 c.2 (run n d y s.1 s.2.1 s.2.2.1 s.2.2.2) (run n d y t.1 t.2.1 t.2.2.1 t.2.2.2)
            | some (.inr (.inr (c, s))) => @ite _ c.1 c.2 (run n d y s.1 s.2.1 s.2.2.1 s.2.2.2) none
            | none => none
/-- the run ends, with Q -/
def Ends (d y pc : Nat) (ls st : List Value) (M : LM) (Q : Option Value → LM → Prop) : Prop := ∃ (n : Nat) (r : Option Value) (M' : LM), run n d y pc ls st M = some (r, M') ∧ Q r M'
/-- one instruction, with what must hold at the next -/
def one (mt : MT) (d y : Nat) (Q : Option Value → LM → Prop) (next : SS → Prop) (pc : Nat) (ls st : List Value) (M : LM) : Prop :=
  match look mt.2.2.2.2 pc with
  | none => False
  | some (ins, nx) => match isCall ins with
    | some z => match d with
      | 0 => False
      | d' + 1 => match MS[z]? with
        | none => False
        | some mz => match okc mz st, rcv mz.2.2.2.1 (st.take mz.1).reverse M with
          | true, some c => c.1 ∧ Ends d' z 0 (ent (st.take mz.1).reverse mz.2.1) [] M (fun r M' => Ends (d' + 1) y nx ls (r.toList ++ st.drop mz.1) M' Q)
          | _, _ => False
    | none => match retv mt.2.2.1 ins st with
      | some (c, r) => cond (@decide c.1 c.2) (Q r M) False
      | none => match stp FT ins nx ls st M with
        | some (.inl s) => next s
        | some (.inr (.inl (c, s, t))) => @ite _ c.1 c.2 (next s) (next t)
        | some (.inr (.inr (c, s))) => c.1 ∧ next s
        | none => False
abbrev endsS (d y : Nat) (Q : Option Value → LM → Prop) (s : SS) : Prop := Ends d y s.1 s.2.1 s.2.2.1 s.2.2.2 Q
theorem run_mono {n : Nat} : ∀ {d y pc : Nat} {ls st : List Value} {M : LM} {o : Option Value × LM}, run n d y pc ls st M = some o → run (n + 1) d y pc ls st M = some o := by
  induction n with
  | zero => intro d y pc ls st M o h; cases h
  | succ n ih =>
    intro d y pc ls st M o h
    rw [run] at h
    split at h
    · cases h
    · rename_i mt hmt
      split at h
      · cases h
      · rename_i ins nx hlook
        split at h
        · rename_i z hz
          split at h
          · cases h
          · rename_i d'
            split at h
            · cases h
            · rename_i mz hmz
              split at h
              · rename_i c h1 h2
                by_cases hc : c.1
                · rw [@if_pos _ c.2 hc] at h
                  split at h
                  · rename_i r M' hr
                    rw [run]
                    simp only [hmt, hlook, hz, hmz, h1, h2]
                    rw [@if_pos _ c.2 hc, ih hr]
                    exact ih h
                  · cases h
                · rw [@if_neg _ c.2 hc] at h
                  cases h
              · cases h
        · rename_i hz
          split at h
          · rename_i c r hr
            rw [run]
            simp only [hmt, hlook, hz, hr]
            exact h
          · rename_i hr
            split at h
            · rename_i s hs
              rw [run]
              simp only [hmt, hlook, hz, hr, hs]
              exact ih h
            · rename_i c s t hs
              rw [run]
              simp only [hmt, hlook, hz, hr, hs]
              by_cases hc : c.1
              · rw [@if_pos _ c.2 hc] at h ⊢
                exact ih h
              · rw [@if_neg _ c.2 hc] at h ⊢
                exact ih h
            · rename_i c s hs
              rw [run]
              simp only [hmt, hlook, hz, hr, hs]
              by_cases hc : c.1
              · rw [@if_pos _ c.2 hc] at h ⊢
                exact ih h
              · rw [@if_neg _ c.2 hc] at h
                cases h
            · cases h
theorem run_le {n k : Nat} (hk : n ≤ k) {d y pc : Nat} {ls st : List Value} {M : LM} {o : Option Value × LM} (h : run n d y pc ls st M = some o) : run k d y pc ls st M = some o := by
  induction hk with
  | refl => exact h
  | step _ ih => exact run_mono ih
theorem Ends.mono {d y pc : Nat} {ls st : List Value} {M : LM} {Q Q' : Option Value → LM → Prop} (h : Ends d y pc ls st M Q) (hq : ∀ r M', Q r M' → Q' r M') : Ends d y pc ls st M Q' := by
  obtain ⟨n, r, M', h1, h2⟩ := h
  exact ⟨n, r, M', h1, hq r M' h2⟩
theorem Ends_one {mt : MT} {d y pc : Nat} {ls st : List Value} {M : LM} {Q : Option Value → LM → Prop} (hmt : MS[y]? = some mt) : Ends d y pc ls st M Q ↔ one mt d y Q (endsS d y Q) pc ls st M := by
  constructor
  · rintro ⟨n, r, M', h, hq⟩
    cases n with
    | zero => cases h
    | succ n =>
      rw [run] at h
      simp only [hmt] at h
      split at h
      · cases h
      · rename_i ins nx hlook
        split at h
        · rename_i z hz
          split at h
          · cases h
          · rename_i d'
            split at h
            · cases h
            · rename_i mz hmz
              split at h
              · rename_i c h1 h2
                by_cases hc : c.1
                · rw [@if_pos _ c.2 hc] at h
                  split at h
                  · rename_i r1 M1 hr
                    unfold one
                    simp only [hlook, hz, hmz, h1, h2]
                    exact ⟨hc, n, r1, M1, hr, n, r, M', h, hq⟩
                  · cases h
                · rw [@if_neg _ c.2 hc] at h
                  cases h
              · cases h
        · rename_i hz
          split at h
          · rename_i c r1 hr
            unfold one
            simp only [hlook, hz, hr]
            by_cases hc : c.1
            · rw [@if_pos _ c.2 hc] at h
              cases h
              rw [@decide_eq_true c.1 c.2 hc]
              exact hq
            · rw [@if_neg _ c.2 hc] at h
              cases h
          · rename_i hr
            split at h
            · rename_i s hs
              unfold one
              simp only [hlook, hz, hr, hs]
              exact ⟨n, r, M', h, hq⟩
            · rename_i c s t hs
              unfold one
              simp only [hlook, hz, hr, hs]
              by_cases hc : c.1
              · rw [@if_pos _ c.2 hc] at h ⊢
                exact ⟨n, r, M', h, hq⟩
              · rw [@if_neg _ c.2 hc] at h ⊢
                exact ⟨n, r, M', h, hq⟩
            · rename_i c s hs
              unfold one
              simp only [hlook, hz, hr, hs]
              by_cases hc : c.1
              · rw [@if_pos _ c.2 hc] at h
                exact ⟨hc, n, r, M', h, hq⟩
              · rw [@if_neg _ c.2 hc] at h
                cases h
            · cases h
  · intro h
    unfold one at h
    split at h
    · exact h.elim
    · rename_i ins nx hlook
      split at h
      · rename_i z hz
        split at h
        · exact h.elim
        · rename_i d'
          split at h
          · exact h.elim
          · rename_i mz hmz
            split at h
            · rename_i c h1 h2
              obtain ⟨hc, n, r1, M1, hr, k, r, M', h3, hq⟩ := h
              refine ⟨(max n k) + 1, r, M', ?_, hq⟩
              rw [run]
              simp only [hmt, hlook, hz, hmz, h1, h2]
              rw [@if_pos _ c.2 hc, run_le (Nat.le_max_left n k) hr]
              exact run_le (Nat.le_max_right n k) h3
            · exact h.elim
      · rename_i hz
        split at h
        · rename_i c r1 hr
          by_cases hc : c.1
          · rw [@decide_eq_true c.1 c.2 hc] at h
            refine ⟨1, r1, M, ?_, h⟩
            rw [run]
            simp only [hmt, hlook, hz, hr]
            rw [@if_pos _ c.2 hc]
          · rw [@decide_eq_false c.1 c.2 hc] at h
            exact h.elim
        · rename_i hr
          split at h
          · rename_i s hs
            obtain ⟨n, r, M', h1, hq⟩ := h
            refine ⟨n + 1, r, M', ?_, hq⟩
            rw [run]
            simp only [hmt, hlook, hz, hr, hs]
            exact h1
          · rename_i c s t hs
            by_cases hc : c.1
            · rw [@if_pos _ c.2 hc] at h
              obtain ⟨n, r, M', h1, hq⟩ := h
              refine ⟨n + 1, r, M', ?_, hq⟩
              rw [run]
              simp only [hmt, hlook, hz, hr, hs]
              rw [@if_pos _ c.2 hc]
              exact h1
            · rw [@if_neg _ c.2 hc] at h
              obtain ⟨n, r, M', h1, hq⟩ := h
              refine ⟨n + 1, r, M', ?_, hq⟩
              rw [run]
              simp only [hmt, hlook, hz, hr, hs]
              rw [@if_neg _ c.2 hc]
              exact h1
          · rename_i c s hs
            obtain ⟨hc, n, r, M', h1, hq⟩ := h
            refine ⟨n + 1, r, M', ?_, hq⟩
            rw [run]
            simp only [hmt, hlook, hz, hr, hs]
            rw [@if_pos _ c.2 hc]
            exact h1
          · exact h.elim
theorem one_congr {mt : MT} {d y : Nat} {Q : Option Value → LM → Prop} {n1 n2 : SS → Prop} (h : ∀ s, n1 s ↔ n2 s) (pc : Nat) (ls st : List Value) (M : LM) : one mt d y Q n1 pc ls st M ↔ one mt d y Q n2 pc ls st M := by
  have e : n1 = n2 := funext fun s => propext (h s)
  rw [e]
/-- several instructions, up to the places cut -/
def blk (mt : MT) (d y : Nat) (Q : Option Value → LM → Prop) (cuts : List Nat) : Nat → SS → Prop
  | 0, s => endsS d y Q s
  | k + 1, s => one mt d y Q (fun t => match cuts.any (Nat.beq t.1) with
    | true => Ends d y t.1 t.2.1 t.2.2.1 t.2.2.2 Q
    | false => blk mt d y Q cuts k t) s.1 s.2.1 s.2.2.1 s.2.2.2
theorem blk_iff {mt : MT} {d y : Nat} {Q : Option Value → LM → Prop} (cuts : List Nat) (hmt : MS[y]? = some mt) (k : Nat) : ∀ s : SS, endsS d y Q s ↔ blk mt d y Q cuts k s := by
  induction k with
  | zero => intro s; exact Iff.rfl
  | succ k ih =>
    intro s
    refine (Ends_one hmt).trans ?_
    refine one_congr (fun t => ?_) _ _ _ _
    split
    · exact Iff.rfl
    · exact ih t
theorem blk_eq {mt : MT} {d y pc : Nat} {ls st : List Value} {M : LM} {Q : Option Value → LM → Prop} (cuts : List Nat) (hmt : MS[y]? = some mt) (k : Nat) : Ends d y pc ls st M Q = blk mt d y Q cuts k (pc, ls, st, M) := propext (blk_iff cuts hmt k (pc, ls, st, M))
theorem Ends_depth {d y pc : Nat} {ls st : List Value} {M : LM} {Q : Option Value → LM → Prop} (h : Ends d y pc ls st M Q) : Ends (d + 1) y pc ls st M Q := by
  have key : ∀ (n d y pc : Nat) (ls st : List Value) (M : LM) (o : Option Value × LM), run n d y pc ls st M = some o → run n (d + 1) y pc ls st M = some o := by
    intro n
    induction n with
    | zero => intro d y pc ls st M o h; cases h
    | succ n ih =>
      intro d y pc ls st M o h
      rw [run] at h
      split at h
      · cases h
      · rename_i mt hmt
        split at h
        · cases h
        · rename_i ins nx hlook
          split at h
          · rename_i z hz
            split at h
            · cases h
            · rename_i d'
              split at h
              · cases h
              · rename_i mz hmz
                split at h
                · rename_i c h1 h2
                  by_cases hc : c.1
                  · rw [@if_pos _ c.2 hc] at h
                    split at h
                    · rename_i r M' hr
                      rw [run]
                      simp only [hmt, hlook, hz, hmz, h1, h2]
                      rw [@if_pos _ c.2 hc, ih _ _ _ _ _ _ _ hr]
                      exact ih _ _ _ _ _ _ _ h
                    · cases h
                  · rw [@if_neg _ c.2 hc] at h
                    cases h
                · cases h
          · rename_i hz
            split at h
            · rename_i c r hr
              rw [run]
              simp only [hmt, hlook, hz, hr]
              exact h
            · rename_i hr
              split at h
              · rename_i s hs
                rw [run]
                simp only [hmt, hlook, hz, hr, hs]
                exact ih _ _ _ _ _ _ _ h
              · rename_i c s t hs
                rw [run]
                simp only [hmt, hlook, hz, hr, hs]
                by_cases hc : c.1
                · rw [@if_pos _ c.2 hc] at h ⊢
                  exact ih _ _ _ _ _ _ _ h
                · rw [@if_neg _ c.2 hc] at h ⊢
                  exact ih _ _ _ _ _ _ _ h
              · rename_i c s hs
                rw [run]
                simp only [hmt, hlook, hz, hr, hs]
                by_cases hc : c.1
                · rw [@if_pos _ c.2 hc] at h ⊢
                  exact ih _ _ _ _ _ _ _ h
                · rw [@if_neg _ c.2 hc] at h
                  cases h
              · cases h
  obtain ⟨n, r, M', h1, h2⟩ := h
  exact ⟨n, r, M', key _ _ _ _ _ _ _ _ h1, h2⟩
