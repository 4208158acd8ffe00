/-! ===== the law up to its loop ===== -/
def I0 (xs : Nat → Int32) (a : Nat) : Nat → Int32 := if a < EXT then Ic a else extI xs a
theorem RB0 {L : Nat} : RB 120 153 0 0 L = fun a => if a < EXT then Rc a else extR L a := by
  funext a k
  obtain ⟨h1, h2, h3, h4⟩ := Rc_0
  unfold RB
  by_cases c1 : a = 0 ∧ k = 8
  · obtain ⟨rfl, rfl⟩ := c1
    rw [if_pos ⟨rfl, rfl⟩, if_pos (by decide), h1]
  · rw [if_neg c1]
    by_cases c2 : a = 0 ∧ k = 9
    · obtain ⟨rfl, rfl⟩ := c2
      rw [if_pos ⟨rfl, rfl⟩, if_pos (by decide), h2]
    · rw [if_neg c2]
      by_cases c3 : a = 5 ∧ k = 2
      · obtain ⟨rfl, rfl⟩ := c3
        rw [if_pos ⟨rfl, rfl⟩, if_pos (by decide), h3]
      · rw [if_neg c3]
        by_cases c4 : a = 51 ∧ k = 2
        · obtain ⟨rfl, rfl⟩ := c4
          rw [if_pos ⟨rfl, rfl⟩, if_pos (by decide), h4]
        · rw [if_neg c4]
          split <;> rfl
theorem ini_some {o : Option (Option Value × LM)} {S : List (Nat × Nat)} (h : (o.map (fun q => (q.1, q.2.1))) = some (none, S)) : o = some (none, memOf o) ∧ (memOf o).1 = S := by
  cases o with
  | none => cases h
  | some q =>
    obtain ⟨r, M⟩ := q
    simp only [Option.map_some, Option.some.injEq, Prod.mk.injEq] at h
    obtain ⟨rfl, h2⟩ := h
    exact ⟨rfl, h2⟩
theorem law_init {L : Nat} {xs : Nat → Int32} {Q : Option Value → LM → Prop} (h : Ends 30 k_L_law 18 [.ref (EXT + 4), .ref 0, .ref 186, .int 0] [] (SH, I0 xs, RB 120 153 0 0 L) Q) : Ends 30 k_L_law 0 [.ref (EXT + 4), .null, .null, .null] [] (M0 L xs) Q := by
  obtain ⟨x1, x2⟩ := ini_some iniX_ok
  obtain ⟨y1, y2⟩ := ini_some iniM_ok
  have r0 : Mr (M0 L xs) E0 := ⟨rfl, fun a ha => ⟨by funext k; show extI xs a k = 0; unfold extI; rw [if_pos ha], by funext k; show extR L a k = 0; unfold extR; rw [if_pos ha]⟩, Nat.zero_le _⟩
  have hX : (0 : Nat) < EXT := by decide
  have r1 : Mr (pN (M0 L xs) (0, 9)) (pN E0 (0, 9)) := Mr_pN r0 hX
  obtain ⟨M1, hr1, hM1⟩ := runH_rel x1 r1
  have hl1 : M1.1.length = 186 := by rw [hM1.1, x2]; rfl
  have r2 : Mr (pN M1 (0, 10)) (pN (memOf iniX) (0, 10)) := Mr_pN hM1 (by rw [x2]; decide +kernel)
  obtain ⟨M2, hr2, hM2⟩ := runH_rel y1 r2
  have p1 := run_pure hr1 (show (pN (M0 L xs) (0, 9)).1.length ≤ EXT by show 1 ≤ EXT; decide)
  have p2 := run_pure hr2 (show (pN M1 (0, 10)).1.length ≤ EXT by show (M1.1 ++ [_]).length ≤ EXT; rw [List.length_append, hl1]; decide)
  have hrow : ∀ a, EXT ≤ a → M2.2.1 a = extI xs a ∧ M2.2.2 a = extR L a := by
    intro a ha
    have hne1 : a ≠ M1.1.length := by
      rw [hl1]
      exact Nat.ne_of_gt (Nat.lt_of_lt_of_le (by decide) ha)
    have hne0 : a ≠ (M0 L xs).1.length := Nat.ne_of_gt (Nat.lt_of_lt_of_le hX ha)
    exact ⟨((p2.2.2 a ha).1.trans (pN_off (M := M1) (q := (0, 10)) a hne1).1).trans ((p1.2.2 a ha).1.trans (pN_off (M := M0 L xs) (q := (0, 9)) a hne0).1), ((p2.2.2 a ha).2.trans (pN_off (M := M1) (q := (0, 10)) a hne1).2).trans ((p1.2.2 a ha).2.trans (pN_off (M := M0 L xs) (q := (0, 9)) a hne0).2)⟩
  have hfin : M2 = (SH, I0 xs, RB 120 153 0 0 L) := by
    refine Prod.ext (hM2.1.trans y2) (Prod.ext ?_ ?_)
    · funext a
      show M2.2.1 a = I0 xs a
      unfold I0
      by_cases ha : a < EXT
      · rw [if_pos ha]
        exact (hM2.2.1 a ha).1
      · rw [if_neg ha]
        exact (hrow a (Nat.le_of_not_lt ha)).1
    · rw [RB0]
      funext a
      show M2.2.2 a = if a < EXT then Rc a else extR L a
      by_cases ha : a < EXT
      · rw [if_pos ha]
        exact (hM2.2.1 a ha).2
      · rw [if_neg ha]
        exact (hrow a (Nat.le_of_not_lt ha)).2
  show Ends (29 + 1) k_L_law 0 _ [] _ Q
  rw [B_L_law_0]
  refine ⟨⟨hX, by decide⟩, trivial, 3000, none, M1, hr1, ?_⟩
  show Ends (29 + 1) k_L_law 7 [.ref (EXT + 4), .null, .null, .null] [.ref 0] M1 Q
  rw [B_L_law_7, hl1]
  refine ⟨⟨by decide, by decide⟩, trivial, 3000, none, M2, hr2, ?_⟩
  show Ends (29 + 1) k_L_law 15 [.ref (EXT + 4), .ref 0, .null, .null] [.ref 186] M2 Q
  rw [B_L_law_15, hfin]
  exact h
