/-! ===== what holds between two calls ===== -/
def SW (I : Nat → Nat → Int32) : Prop := (∀ j, j < 320 → I 2 j = I 189 j) ∧ (∀ s, s < 8 → (I 4 s = -nI 1 ∧ I 187 s = -nI 1) ∨ ∃ e n : Nat, e ≤ 2 ∧ n ≤ 40 ∧ I 4 s = nI n ∧ I 3 s = nI e ∧ I 187 s = nI e ∧ I 188 s = nI n)
def TW (I : Nat → Nat → Int32) : Prop := ∃ n : Nat, n ≤ 500 ∧ I 5 6 = nI n ∧ I 186 10 = nI n ∧ ∀ j, j < n → I 6 j = I 193 j ∧ ∃ b, b < 256 ∧ I 193 j = nI b
def XW (I : Nat → Nat → Int32) : Prop := ∃ n : Nat, n ≤ 16 ∧ I 51 1 = nI n ∧ I 186 32 = nI n ∧ ∀ j, j < n → I 52 j = I 206 j
def IW (I : Nat → Nat → Int32) (k : Nat) : Prop := (I 203 k = nI 0 ∧ I (54 + 33 * k) 8 = nI 0) ∨ (I 203 k = nI 1 ∧ I 186 7 = nI 1 ∧ ∃ g v, GW g ∧ ¬ g 0 0 = 0 ∧ CW I (54 + 33 * k) g v ∧ RW (fun j => I 204 (132 * k + j)) (fun j => I 205 (411 * k + j)) g v)
def Base (xs : Nat → Int32) (I : Nat → Nat → Int32) (l u : Nat) : Prop := ((l = 120 ∧ u = 153) ∨ (l = 153 ∧ u = 120)) ∧ SW I ∧ TW I ∧ XW I ∧ I 0 11 = I 186 1 ∧ I 0 10 = I 186 11 ∧ (∀ k, k < 2 → IW I k) ∧ (∀ a, EXT ≤ a → I a = extI xs a)
def LandP (I : Nat → Nat → Int32) (l : Nat) : Prop := ∃ g v, GW g ∧ CW I l g v ∧ RW (I 190) (I 192) g v ∧ I 186 7 = bi (¬ g 0 0 = 0)
def Rel (xs : Nat → Int32) (I : Nat → Nat → Int32) (l u : Nat) : Prop := Base xs I l u ∧ LandP I l
def Pst (xs : Nat → Int32) (L : Nat) (M : LM) : Prop := ∃ I l u t q, M = (SH, I, RB l u t q L) ∧ Rel xs I l u
def Mid (xs : Nat → Int32) (L : Nat) (M : LM) : Prop := ∃ I l u t q, M = (SH, I, RB l u t q L) ∧ I (EXT + 4) = xs
/-- a call of both: they end, answer alike, and all holds again -/
def Both (y z : Nat) (la lb : List Value) : Prop := ∀ (xs : Nat → Int32) (L : Nat) (M : LM), Pst xs L M → Ends 29 y 0 la [] M (fun r M1 => ∃ w, r = some (.int w) ∧ Mid xs L M1 ∧ Ends 29 z 0 lb [] M1 (fun r2 M2 => r2 = some (.int w) ∧ Pst xs L M2))
theorem CW_fr {I I' : Nat → Nat → Int32} {a : Nat} {g : Nat → Nat → Nat} {v : Nat → Nat → Int32} (hG : GW g) (h : CW I a g v) (hI : ∀ b, a ≤ b → b < a + 33 → I' b = I b) : CW I' a g v := by
  obtain ⟨h0, h1, h2, h3, h4, h5, h6, h7, h8⟩ := h
  have hn := hG.n
  refine ⟨?_, ?_, ?_, ?_, ?_, ?_, ?_, ?_, ?_⟩
  · rw [hI a (by omega) (by omega)]; exact h0
  · rw [hI (a + 1) (by omega) (by omega)]; exact h1
  · rw [hI (a + 3) (by omega) (by omega)]; exact h2
  · rw [hI (a + 4) (by omega) (by omega)]; exact h3
  · rw [hI (a + 2) (by omega) (by omega)]; exact h4
  · rw [hI (a + 5) (by omega) (by omega)]; exact h5
  · rw [hI (a + 6) (by omega) (by omega)]; exact h6
  · rw [hI (a + 7) (by omega) (by omega)]; exact h7
  · intro c hc
    rw [hI (a + 9 + c) (by omega) (by omega)]
    exact h8 c hc
theorem LandP_fr {I I' : Nat → Nat → Int32} {l : Nat} (h : LandP I l) (hI : ∀ b, l ≤ b → b < l + 33 → I' b = I b) (h1 : I' 190 = I 190) (h2 : I' 192 = I 192) (h3 : I' 186 7 = I 186 7) : LandP I' l := by
  obtain ⟨g, v, hG, hC, hR, hT⟩ := h
  exact ⟨g, v, hG, CW_fr hG hC hI, by rw [h1, h2]; exact hR, by rw [h3]; exact hT⟩
theorem SW_fr {I I' : Nat → Nat → Int32} (h : SW I) (h2 : I' 2 = I 2) (h3 : I' 3 = I 3) (h4 : I' 4 = I 4) (h5 : I' 187 = I 187) (h6 : I' 188 = I 188) (h7 : I' 189 = I 189) : SW I' := by
  unfold SW
  rw [h2, h3, h4, h5, h6, h7]
  exact h
theorem TW_fr {I I' : Nat → Nat → Int32} (h : TW I) (h2 : I' 5 6 = I 5 6) (h3 : I' 186 10 = I 186 10) (h4 : I' 6 = I 6) (h5 : I' 193 = I 193) : TW I' := by
  unfold TW
  rw [h2, h3, h4, h5]
  exact h
theorem XW_fr {I I' : Nat → Nat → Int32} (h : XW I) (h2 : I' 51 1 = I 51 1) (h3 : I' 186 32 = I 186 32) (h4 : I' 52 = I 52) (h5 : I' 206 = I 206) : XW I' := by
  unfold XW
  rw [h2, h3, h4, h5]
  exact h
theorem IW_fr {I I' : Nat → Nat → Int32} {k : Nat} (h : IW I k) (h2 : I' 203 = I 203) (h3 : I' 204 = I 204) (h4 : I' 205 = I 205) (h5 : ∀ b, 54 + 33 * k ≤ b → b < 54 + 33 * k + 33 → I' b = I b) (h6 : I' 186 7 = I 186 7) : IW I' k := by
  unfold IW
  rw [h2, h3, h4, h6, h5 (54 + 33 * k) (by omega) (by omega)]
  rcases h with h | ⟨h0, h7, g, v, hG, hT, hC, hR⟩
  · exact Or.inl h
  · exact Or.inr ⟨h0, h7, g, v, hG, hT, CW_fr hG hC h5, hR⟩
/-- rows that matter to the base -/
def kp (a : Nat) : Prop := (2 ≤ a ∧ a ≤ 4) ∨ a = 6 ∨ a = 52 ∨ (54 ≤ a ∧ a < 120) ∨ (187 ≤ a ∧ a ≤ 189) ∨ a = 193 ∨ (203 ≤ a ∧ a ≤ 206) ∨ EXT ≤ a
/-- cells that matter to the base, in rows that hold others too -/
def kc (a k : Nat) : Prop := (a = 0 ∧ (k = 10 ∨ k = 11)) ∨ (a = 5 ∧ k = 6) ∨ (a = 51 ∧ k = 1) ∨ (a = 186 ∧ (k = 1 ∨ k = 7 ∨ k = 10 ∨ k = 11 ∨ k = 32))
theorem Base_fr {xs : Nat → Int32} {I I' : Nat → Nat → Int32} {l u : Nat} (h : Base xs I l u) (h1 : ∀ a, kp a → I' a = I a) (h2 : ∀ a k, kc a k → I' a k = I a k) : Base xs I' l u := by
  obtain ⟨b1, b2, b3, b4, b5, b6, b7, b8⟩ := h
  refine ⟨b1, SW_fr b2 ?_ ?_ ?_ ?_ ?_ ?_, TW_fr b3 ?_ ?_ ?_ ?_, XW_fr b4 ?_ ?_ ?_ ?_, ?_, ?_, fun k hk => IW_fr (b7 k hk) ?_ ?_ ?_ (fun b hb hb2 => h1 b ?_) (h2 186 7 (by unfold kc; omega)), fun a ha => (h1 a ?_).trans (b8 a ha)⟩
  case refine_15 => rw [h2 0 11 (by unfold kc; omega), h2 186 1 (by unfold kc; omega)]; exact b5
  case refine_16 => rw [h2 0 10 (by unfold kc; omega), h2 186 11 (by unfold kc; omega)]; exact b6
  all_goals first
    | (apply h1; unfold kp; omega)
    | (apply h2; unfold kc; omega)
    | (unfold kp; omega)
theorem Base.il {xs : Nat → Int32} {I : Nat → Nat → Int32} {l u : Nat} (h : Base xs I l u) : IL l ∧ IL u ∧ (l = 120 ∧ u = 153 ∨ l = 153 ∧ u = 120) := by
  refine ⟨?_, ?_, h.1⟩ <;> (unfold IL; have := h.1; omega)
theorem Base.ex {xs : Nat → Int32} {I : Nat → Nat → Int32} {l u : Nat} (h : Base xs I l u) : I (EXT + 4) = xs := by
  rw [h.2.2.2.2.2.2.2 (EXT + 4) (Nat.le_add_right _ _)]
  funext i
  rfl
theorem Rel_th {xs : Nat → Int32} {I : Nat → Nat → Int32} {l u : Nat} {x : Int32} (h : Rel xs I l u) : Rel xs (uI I 186 0 x) l u := by
  have hl := h.1.il
  refine ⟨Base_fr h.1 (fun a ha => uI_off (by unfold kp EXT at ha; omega)) (fun a k hk => ?_), LandP_fr h.2 (fun b _ _ => uI_off (by omega)) (uI_off (by decide)) (uI_off (by decide)) (uI_row (by decide))⟩
  rw [uI_at, if_neg]
  unfold kc at hk
  omega
theorem Mid_of {xs : Nat → Int32} {I : Nat → Nat → Int32} {l u t q L : Nat} (h : Rel xs I l u) : Mid xs L (SH, I, RB l u t q L) := ⟨I, l, u, t, q, rfl, h.1.ex⟩
