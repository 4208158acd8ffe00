/-! ===== what runs of the small machine keep; calls; the whole ===== -/
def Pure (M M' : LM) : Prop := M.1 <+: M'.1 ∧ M'.1.length ≤ EXT ∧ ∀ a, EXT ≤ a → M'.2.1 a = M.2.1 a ∧ M'.2.2 a = M.2.2 a
theorem Pure.rf {M : LM} (h : M.1.length ≤ EXT) : Pure M M := ⟨List.prefix_refl _, h, fun _ _ => ⟨rfl, rfl⟩⟩
theorem Pure.tr {M M1 M2 : LM} (h : Pure M M1) (h2 : Pure M1 M2) : Pure M M2 := ⟨h.1.trans h2.1, h2.2.1, fun a ha => ⟨(h2.2.2 a ha).1.trans (h.2.2 a ha).1, (h2.2.2 a ha).2.trans (h.2.2 a ha).2⟩⟩
theorem Pure.len {M M' : LM} (h : Pure M M') : M.1.length ≤ M'.1.length := h.1.length_le
theorem Pure.sz {M M' : LM} (h : Pure M M') : nS M ≤ nS M' := by
  obtain ⟨t, ht⟩ := h.1
  unfold nS
  rw [← ht, List.map_append, List.sum_append]
  omega
theorem Pure_pI {M : LM} {a k : Nat} {v : Int32} (h : M.1.length ≤ EXT) (ha : a < M.1.length) : Pure M (pI M a k v) := ⟨List.prefix_refl _, h, fun b hb => pI_off (M := M) (a := a) b (Nat.ne_of_gt (Nat.lt_of_lt_of_le (Nat.lt_of_lt_of_le ha h) hb))⟩
theorem Pure_pR {M : LM} {a k v : Nat} (h : M.1.length ≤ EXT) (ha : a < M.1.length) : Pure M (pR M a k v) := ⟨List.prefix_refl _, h, fun b hb => pR_off (M := M) (a := a) b (Nat.ne_of_gt (Nat.lt_of_lt_of_le (Nat.lt_of_lt_of_le ha h) hb))⟩
theorem Pure_pC {M : LM} {a : Nat} {f : Nat → Int32} (h : M.1.length ≤ EXT) (ha : a < M.1.length) : Pure M (pC M a f) := ⟨List.prefix_refl _, h, fun b hb => pC_off (M := M) (a := a) b (Nat.ne_of_gt (Nat.lt_of_lt_of_le (Nat.lt_of_lt_of_le ha h) hb))⟩
theorem Pure_pN {M : LM} {q : Nat × Nat} (h : M.1.length < EXT) : Pure M (pN M q) := ⟨List.prefix_append _ _, by show (M.1 ++ [q]).length ≤ EXT; rw [List.length_append]; exact h, fun b hb => pN_off (M := M) b (Nat.ne_of_gt (Nat.lt_of_lt_of_le h hb))⟩
theorem sh_lt {M : LM} {a : Nat} {q : Nat × Nat} (h : M.1[a]? = some q) : a < M.1.length := (List.getElem?_eq_some_iff.mp h).1
theorem tg_lt {M : LM} {a t : Nat} (h : tg M a = t) (ht : t ≠ 99) : a < M.1.length := sh_lt (tg_some h ht)
/-- what holds of all that a step may come to -/
def ContI (P : SS → Prop) : SR → Prop
  | .inl s => P s
  | .inr (.inl (_, s, t)) => P s ∧ P t
  | .inr (.inr (c, s)) => c.1 → P s
set_option maxHeartbeats 4000000 in
theorem stpA_keep {ins : Instr} {nx : Nat} {ls st : List Value} {M : LM} {r : SR} (h : stpA ins nx ls st M = some r) : ContI (fun t => t.2.2.2 = M) r := by
  unfold stpA at h
  repeat' split at h
  all_goals first | (cases h; rfl) | (cases h; exact ⟨rfl, rfl⟩) | (cases h; exact fun _ => rfl) | cases h
set_option maxHeartbeats 4000000 in
theorem stpB_pure {ins : Instr} {nx : Nat} {ls st : List Value} {M : LM} {r : SR} (hE : M.1.length ≤ EXT) (h : stpB FT ins nx ls st M = some r) : ContI (fun t => Pure M t.2.2.2) r := by
  unfold stpB at h
  repeat' split at h
  all_goals first
    | (cases h; exact fun _ => Pure.rf hE)
    | (cases h; exact Pure.rf hE)
    | (cases h; exact fun c => Pure_pI hE (sh_lt c))
    | (cases h; exact fun c => Pure_pI hE (sh_lt c.1))
    | (cases h; exact fun c => Pure_pR hE (sh_lt c))
    | (cases h; exact fun c => Pure_pI hE (tg_lt c.1 (by decide)))
    | (cases h; exact fun c => Pure_pI hE (c.1.elim (fun c => tg_lt c (by decide)) (fun c => tg_lt c.1 (by decide))))
    | (cases h; exact fun c => Pure_pR hE (c.1.elim (fun c => tg_lt c (by decide)) (fun c => tg_lt c (by decide))))
    | (cases h; exact fun c => Pure_pN c.1)
    | (cases h; exact fun c => Pure_pN c.2.1)
    | (cases h; exact fun c => Pure_pC hE (tg_lt c.2.1 (by decide)))
    | cases h
theorem stp_pure {ins : Instr} {nx : Nat} {ls st : List Value} {M : LM} {r : SR} (hE : M.1.length ≤ EXT) (h : stp FT ins nx ls st M = some r) : ContI (fun t => Pure M t.2.2.2) r := by
  unfold stp at h
  split at h
  · rename_i r' hr
    cases h
    have := stpA_keep hr
    match r, this with
    | .inl s, h => show Pure M s.2.2.2; rw [show s.2.2.2 = M from h]; exact Pure.rf hE
    | .inr (.inl (c, s, t)), h => exact ⟨by show Pure M s.2.2.2; rw [show s.2.2.2 = M from h.1]; exact Pure.rf hE, by show Pure M t.2.2.2; rw [show t.2.2.2 = M from h.2]; exact Pure.rf hE⟩
    | .inr (.inr (c, s)), h => exact fun hc => by show Pure M s.2.2.2; rw [show s.2.2.2 = M from h hc]; exact Pure.rf hE
  · exact stpB_pure hE h
theorem run_pure {n : Nat} : ∀ {d y pc : Nat} {ls st : List Value} {M : LM} {r : Option Value} {M' : LM}, run n d y pc ls st M = some (r, M') → M.1.length ≤ EXT → Pure M M' := by
  induction n with
  | zero => intro d y pc ls st M r M' h; cases h
  | succ n ih =>
    intro d y pc ls st M r M' h hE
    rw [run] at h
    split at h
    · cases h
    · rename_i mt hmt
      split at h
      · cases h
      · rename_i ins nx hlook
        split at h
        · rename_i z hz
          split at h
          · cases h
          · rename_i d'
            split at h
            · cases h
            · rename_i mz hmz
              split at h
              · rename_i c h1 h2
                by_cases hc : c.1
                · rw [@if_pos _ c.2 hc] at h
                  split at h
                  · rename_i r1 M1 hr
                    have p1 := ih hr hE
                    exact p1.tr (ih h p1.2.1)
                  · cases h
                · rw [@if_neg _ c.2 hc] at h
                  cases h
              · cases h
        · rename_i hz
          split at h
          · rename_i c r1 hr
            by_cases hc : c.1
            · rw [@if_pos _ c.2 hc] at h
              cases h
              exact Pure.rf hE
            · rw [@if_neg _ c.2 hc] at h
              cases h
          · rename_i hr
            split at h
            · rename_i s hs
              have p1 : Pure M s.2.2.2 := stp_pure hE hs
              exact p1.tr (ih h p1.2.1)
            · rename_i c s t hs
              have p1 : Pure M s.2.2.2 ∧ Pure M t.2.2.2 := stp_pure hE hs
              by_cases hc : c.1
              · rw [@if_pos _ c.2 hc] at h
                exact p1.1.tr (ih h p1.1.2.1)
              · rw [@if_neg _ c.2 hc] at h
                exact p1.2.tr (ih h p1.2.2.1)
            · rename_i c s hs
              by_cases hc : c.1
              · rw [@if_pos _ c.2 hc] at h
                have p1 : Pure M s.2.2.2 := stp_pure hE hs hc
                exact p1.tr (ih h p1.2.1)
              · rw [@if_neg _ c.2 hc] at h
                cases h
            · cases h
/-- entry locals -/
theorem ents_at {ad : Nat → Nat} : ∀ {vs : List Value} {k i : Nat} {v : Value}, vs.all okV = true → (ents vs)[i]? = some v → v ≠ .null → (k + i, mpv ad v) ∈ lv_args k (vs.map (mpv ad)) := by
  intro vs
  induction vs with
  | nil => intro k i v _ h; cases h
  | cons u t ih =>
    intro k i v hv h hn
    rw [List.all_cons, Bool.and_eq_true] at hv
    cases u with
    | long x =>
      rw [ents] at h
      rw [List.map_cons, lv_args]
      match i, h with
      | 0, h =>
        simp at h
        subst h
        exact List.mem_cons_self
      | 1, h =>
        simp at h
        exact absurd h.symm hn
      | j + 2, h =>
        simp at h
        refine List.mem_cons_of_mem _ ?_
        have := ih (k := k + 2) hv.2 h hn
        rw [show k + (j + 2) = k + 2 + j by omega]
        exact this
    | int x =>
      rw [ents] at h
      · rw [List.map_cons, lv_args]
        match i, h with
        | 0, h =>
          simp at h
          subst h
          exact List.mem_cons_self
        | j + 1, h =>
          simp at h
          refine List.mem_cons_of_mem _ ?_
          have := ih (k := k + 1) hv.2 h hn
          rw [show k + (j + 1) = k + 1 + j by omega]
          exact this
      · intro y hy; cases hy
    | ref x =>
      rw [ents] at h
      · rw [List.map_cons, lv_args]
        match i, h with
        | 0, h =>
          simp at h
          subst h
          exact List.mem_cons_self
        | j + 1, h =>
          simp at h
          refine List.mem_cons_of_mem _ ?_
          have := ih (k := k + 1) hv.2 h hn
          rw [show k + (j + 1) = k + 1 + j by omega]
          exact this
      · intro y hy; cases hy
    | _ => cases hv.1
theorem ents_len {ad : Nat → Nat} : ∀ {vs : List Value}, vs.all okV = true → (lg_sl (vs.map (mpv ad))).length = (ents vs).length := by
  intro vs
  induction vs with
  | nil => intro _; rfl
  | cons u t ih =>
    intro hv
    rw [List.all_cons, Bool.and_eq_true] at hv
    have := ih hv.2
    cases u with
    | long x =>
      simp only [ents, List.map_cons, lg_sl, List.flatMap_cons, List.length_append, List.length_cons] at this ⊢
      rw [this]
      simp [mpv, Value.category]
      omega
    | int x =>
      simp only [ents, List.map_cons, lg_sl, List.flatMap_cons, List.length_append, List.length_cons] at this ⊢
      rw [this]
      simp [mpv, Value.category]
      omega
    | ref x =>
      simp only [ents, List.map_cons, lg_sl, List.flatMap_cons, List.length_append, List.length_cons] at this ⊢
      rw [this]
      simp [mpv, Value.category]
      omega
    | _ => cases hv.1
theorem ents_ok : ∀ {vs : List Value} {i : Nat} {x : UInt64}, vs.all okV = true → (ents vs)[i]? ≠ some (.double x) := by
  intro vs
  induction vs with
  | nil => intro i x _ h; cases h
  | cons u t ih =>
    intro i x hv h
    rw [List.all_cons, Bool.and_eq_true] at hv
    cases u with
    | long y =>
      rw [ents] at h
      match i, h with
      | 0, h => simp at h
      | 1, h => simp at h
      | j + 2, h => exact ih hv.2 (by simpa using h)
    | int y =>
      rw [ents] at h
      · match i, h with
        | 0, h => simp at h
        | j + 1, h => exact ih hv.2 (by simpa using h)
      · intro y hy; cases hy
    | ref y =>
      rw [ents] at h
      · match i, h with
        | 0, h => simp at h
        | j + 1, h => exact ih hv.2 (by simpa using h)
      · intro y hy; cases hy
    | _ => cases hv.1
theorem ent_get {vs : List Value} {n i : Nat} {v : Value} (h : (ent vs n)[i]? = some v) (hn : v ≠ .null) : (ents vs)[i]? = some v := by
  unfold ent at h
  by_cases hi : i < (ents vs).length
  · rwa [List.getElem?_append_left hi] at h
  · rw [List.getElem?_append_right (by omega)] at h
    have := List.mem_of_getElem? h
    rw [List.mem_replicate] at this
    exact absurd this.2 hn
theorem ent_LH {ad : Nat → Nat} {vs : List Value} {n : Nat} (hv : vs.all okV = true) (hl : (ents vs).length ≤ n) : LH ad ((lg_sl (vs.map (mpv ad)) ++ List.replicate (n - (lg_sl (vs.map (mpv ad))).length) Slot.unset).toArray) (ent vs n) := by
  have h := lv_entry (vs.map (mpv ad)) (n := n) (by rw [ents_len hv]; exact hl)
  refine ⟨?_, h.2.1, fun i v hi hn => ?_⟩
  · rw [h.1]
    unfold ent
    rw [List.length_append, List.length_replicate]
    omega
  · have := h.2.2 (0 + i, mpv ad v) (ents_at hv (ent_get hi hn) hn)
    simpa using this
theorem ent_nodb {vs : List Value} {n : Nat} (hv : vs.all okV = true) : nodb (ent vs n) := by
  intro i x h
  exact ents_ok hv (ent_get h (by simp))
