/-! ===== call: land: a land as it is read: b 0 the counts (towns, men, roads, laws, fairs, pacts), b 1 laws, b 2 roads, b 3 pacts, b 4 homes, b 5 trades, b 6 fairs ===== -/
def st2 (f : Nat → Nat) (i j : Nat) : Nat → Nat := va_up (va_up f i (bs (f i) j 1)) j (bs (f j) i 1)
/-- a matrix of roads or pacts among the first T towns -/
def MXP (T : Nat) (f : Nat → Nat) : Prop := (∀ t, t < 6 → f t < 2 ^ T ∧ (T ≤ t → f t = 0)) ∧ (∀ t, t < 6 → ∀ w, w < 6 → bN (f t) w = bN (f w) t) ∧ (∀ t, t < 6 → bN (f t) t = 0)
theorem st2_j {f : Nat → Nat} {i j : Nat} : st2 f i j j = bs (f j) i 1 := va_up_self _ _ _
theorem st2_i {f : Nat → Nat} {i j : Nat} (h : i ≠ j) : st2 f i j i = bs (f i) j 1 := by
  unfold st2
  rw [va_up_ne _ _ h, va_up_self]
theorem st2_o {f : Nat → Nat} {i j t : Nat} (h1 : t ≠ i) (h2 : t ≠ j) : st2 f i j t = f t := by
  unfold st2
  rw [va_up_ne _ _ h2, va_up_ne _ _ h1]
theorem MXP.lt {T : Nat} {f : Nat → Nat} (h : MXP T f) (hT : T ≤ 6) {t : Nat} (ht : t < 6) : f t < 64 := by
  have h1 := (h.1 t ht).1
  have h2 : 2 ^ T ≤ 2 ^ 6 := Nat.pow_le_pow_right (by decide) hT
  omega
theorem st2_b {T : Nat} {f : Nat → Nat} (h : MXP T f) (hT : T ≤ 6) {i j t w : Nat} (hi : i < T) (hj : j < T) (hij : i ≠ j) (ht : t < 6) (hw : w < 6) : bN (st2 f i j t) w = if (t = i ∧ w = j) ∨ (t = j ∧ w = i) then 1 else bN (f t) w := by
  have mi := h.lt hT (t := i) (by omega)
  have mj := h.lt hT (t := j) (by omega)
  by_cases c1 : t = i
  · subst c1
    rw [st2_i hij]
    by_cases c2 : w = j
    · subst c2
      rw [bs_s mi (by omega) (by omega), if_pos (by omega)]
    · rw [bs_r mi (by omega) (by omega) hw c2, if_neg (by omega)]
  · by_cases c2 : t = j
    · subst c2
      rw [st2_j]
      by_cases c3 : w = i
      · subst c3
        rw [bs_s mj (by omega) (by omega), if_pos (by omega)]
      · rw [bs_r mj (by omega) (by omega) hw c3, if_neg (by omega)]
    · rw [st2_o c1 c2, if_neg (by omega)]
theorem MXP_st {T : Nat} {f : Nat → Nat} (h : MXP T f) (hT : T ≤ 6) {i j : Nat} (hi : i < T) (hj : j < T) (hij : i ≠ j) : MXP T (st2 f i j) := by
  refine ⟨fun t ht => ?_, fun t ht w hw => ?_, fun t ht => ?_⟩
  · obtain ⟨a1, a2⟩ := h.1 t ht
    by_cases c1 : t = i
    · subst c1
      rw [st2_i hij]
      exact ⟨bs_lt hT a1 hj (by omega), fun z => by omega⟩
    · by_cases c2 : t = j
      · subst c2
        rw [st2_j]
        exact ⟨bs_lt hT a1 hi (by omega), fun z => by omega⟩
      · rw [st2_o c1 c2]
        exact ⟨a1, a2⟩
  · rw [st2_b h hT hi hj hij ht hw, st2_b h hT hi hj hij hw ht]
    by_cases c : (t = i ∧ w = j) ∨ (t = j ∧ w = i)
    · rw [if_pos c, if_pos (by omega)]
    · rw [if_neg c, if_neg (by omega)]
      exact h.2.1 t ht w hw
  · rw [st2_b h hT hi hj hij ht ht, if_neg (by omega)]
    exact h.2.2 t ht
theorem MXP_T {T : Nat} {f : Nat → Nat} (h : MXP T f) : MXP (T + 1) f := by
  refine ⟨fun t ht => ?_, h.2⟩
  obtain ⟨a1, a2⟩ := h.1 t ht
  rw [Nat.pow_succ]
  exact ⟨by omega, fun z => a2 (by omega)⟩
def BW (b : Nat → Nat → Nat) : Prop :=
  (b 0 0 ≤ 6 ∧ b 0 1 ≤ 12 ∧ b 0 2 ≤ 12 ∧ b 0 3 ≤ 12 ∧ b 0 4 ≤ 4 ∧ b 0 5 ≤ 12) ∧
  (∀ t, t < b 0 0 → b 1 (4 * t + 0) ≤ 3 ∧ (1 ≤ b 1 (4 * t + 1) ∧ b 1 (4 * t + 1) ≤ 100) ∧ b 1 (4 * t + 2) ≤ 1 ∧ b 1 (4 * t + 3) ≤ 1) ∧
  MXP (b 0 0) (b 2) ∧ MXP (b 0 0) (b 3) ∧ (∀ k, k < b 0 1 → b 4 k < b 0 0) ∧ (∀ t, t < b 0 0 → b 5 t ≤ 99)
def CB (I : Nat → Nat → Int32) (a : Nat) (b : Nat → Nat → Nat) : Prop :=
  (I a 8 = nI (b 0 0) ∧ I a 9 = nI (b 0 1) ∧ I a 10 = nI (b 0 4) ∧ I a 11 = nI 0 ∧ I a 12 = nI 0 ∧ I a 13 = nI 0) ∧
  (∀ t, t < b 0 0 → I (a + 1) t = nI (b 5 t)) ∧ (∀ k, k < 4 * b 0 0 → I (a + 2) k = nI (b 1 k)) ∧
  (∀ t, t < 6 → I (a + 3) t = nI (b 2 t)) ∧ (∀ t, t < 6 → I (a + 4) t = nI (b 3 t)) ∧
  (∀ k, k < 3 * b 0 4 → I (a + 5) k = nI (b 6 k)) ∧ (∀ k, k < b 0 1 → I (a + 6) k = nI (b 4 k) ∧ I (a + 7) k = nI (b 4 k))
def RL (F : Nat → Int32) (b : Nat → Nat → Nat) : Prop :=
  (∀ j, j < 6 → F j = nI (b 0 j)) ∧ (∀ t, t < b 0 0 → F (6 + t) = nI (b 5 t)) ∧ (∀ k, k < b 0 1 → F (12 + k) = nI (b 4 k)) ∧
  (∀ t, t < 6 → ∀ w, w < 6 → F (24 + 6 * t + w) = nI (bN (b 2 t) w)) ∧ (∀ k, k < 4 * b 0 0 → F (60 + k) = nI (b 1 k)) ∧
  (∀ k, k < 3 * b 0 4 → F (84 + k) = nI (b 6 k)) ∧ (∀ t, t < 6 → ∀ w, w < 6 → F (96 + 6 * t + w) = nI (bN (b 3 t) w))
def bT (b : Nat → Nat → Nat) (x : Nat) : Nat → Nat → Nat := gS (gS (gS (gS (gS (gS b 5 (b 0 0) x) 1 (4 * b 0 0) 1) 1 (4 * b 0 0 + 1) 100) 1 (4 * b 0 0 + 2) 1) 1 (4 * b 0 0 + 3) 0) 0 0 (b 0 0 + 1)
def bM (b : Nat → Nat → Nat) (x : Nat) : Nat → Nat → Nat := gS (gS b 4 (b 0 1) x) 0 1 (b 0 1 + 1)
def bR (b : Nat → Nat → Nat) (i j : Nat) : Nat → Nat → Nat := gS (va_up b 2 (st2 (b 2) i j)) 0 2 (b 0 2 + 1)
def bP (b : Nat → Nat → Nat) (i j : Nat) : Nat → Nat → Nat := gS (va_up b 3 (st2 (b 3) i j)) 0 5 (b 0 5 + 1)
def bL (b : Nat → Nat → Nat) (t x y z w : Nat) : Nat → Nat → Nat := gS (gS (gS (gS (gS b 1 (4 * t) x) 1 (4 * t + 1) y) 1 (4 * t + 2) z) 1 (4 * t + 3) w) 0 3 (b 0 3 + 1)
def bF (b : Nat → Nat → Nat) (t x y : Nat) : Nat → Nat → Nat := gS (gS (gS (gS b 6 (3 * b 0 4) t) 6 (3 * b 0 4 + 1) x) 6 (3 * b 0 4 + 2) y) 0 4 (b 0 4 + 1)
theorem vn_o {b : Nat → Nat → Nat} {i j : Nat} {f : Nat → Nat} (h : j ≠ i) : va_up b i f j = b j := va_up_ne _ _ h
theorem vn_s {b : Nat → Nat → Nat} {i j : Nat} {f : Nat → Nat} (h : j = i) : va_up b i f j = f := by subst h; exact va_up_self _ _ _
section Build
variable {b : Nat → Nat → Nat} {x y z w i j p : Nat}
theorem BW_T (h : BW b) (hT : b 0 0 < 6) (hx : x ≤ 99) : BW (bT b x) := by
  obtain ⟨⟨n0, n1, n2, n3, n4, n5⟩, h1, h2, h3, h4, h5⟩ := h
  unfold BW bT
  simp (disch := omega) only [gs_o, gs_s, gs_r, vn_o, vn_s]
  refine ⟨⟨by omega, n1, n2, n3, n4, n5⟩, fun t ht => ?_, MXP_T h2, MXP_T h3, fun k hk => ?_, fun t ht => ?_⟩
  · by_cases c : t = b 0 0
    · rw [c]
      simp (disch := omega) only [gs_o, gs_s, gs_r, vn_o, vn_s]
      omega
    · simp (disch := omega) only [gs_o, gs_s, gs_r, vn_o, vn_s]
      exact h1 t (by omega)
  · have := h4 k hk; omega
  · by_cases c : t = b 0 0
    · rw [c]
      simp (disch := omega) only [gs_o, gs_s, gs_r, vn_o, vn_s]
      exact hx
    · simp (disch := omega) only [gs_o, gs_s, gs_r, vn_o, vn_s]
      exact h5 t (by omega)
theorem BW_M (h : BW b) (hT : b 0 1 < 12) (hx : x < b 0 0) : BW (bM b x) := by
  obtain ⟨⟨n0, n1, n2, n3, n4, n5⟩, h1, h2, h3, h4, h5⟩ := h
  unfold BW bM
  simp (disch := omega) only [gs_o, gs_s, gs_r, vn_o, vn_s]
  refine ⟨⟨n0, by omega, n2, n3, n4, n5⟩, h1, h2, h3, fun k hk => ?_, h5⟩
  by_cases c : k = b 0 1
  · rw [c]
    simp (disch := omega) only [gs_o, gs_s, gs_r, vn_o, vn_s]
    exact hx
  · simp (disch := omega) only [gs_o, gs_s, gs_r, vn_o, vn_s]
    exact h4 k (by omega)
theorem BW_R (h : BW b) (hT : b 0 2 < 12) (hi : i < b 0 0) (hj : j < b 0 0) (hij : i ≠ j) : BW (bR b i j) := by
  obtain ⟨⟨n0, n1, n2, n3, n4, n5⟩, h1, h2, h3, h4, h5⟩ := h
  unfold BW bR
  simp (disch := omega) only [gs_o, gs_s, gs_r, vn_o, vn_s]
  exact ⟨⟨n0, n1, by omega, n3, n4, n5⟩, h1, MXP_st h2 n0 hi hj hij, h3, h4, h5⟩
theorem BW_P (h : BW b) (hT : b 0 5 < 12) (hi : i < b 0 0) (hj : j < b 0 0) (hij : i ≠ j) : BW (bP b i j) := by
  obtain ⟨⟨n0, n1, n2, n3, n4, n5⟩, h1, h2, h3, h4, h5⟩ := h
  unfold BW bP
  simp (disch := omega) only [gs_o, gs_s, gs_r, vn_o, vn_s]
  exact ⟨⟨n0, n1, n2, n3, n4, by omega⟩, h1, h2, MXP_st h3 n0 hi hj hij, h4, h5⟩
theorem BW_L (h : BW b) (hT : b 0 3 < 12) (hi : i < b 0 0) (hx : x ≤ 3) (hy : 1 ≤ y ∧ y ≤ 100) (hz : z ≤ 1) (hw : w ≤ 1) : BW (bL b i x y z w) := by
  obtain ⟨⟨n0, n1, n2, n3, n4, n5⟩, h1, h2, h3, h4, h5⟩ := h
  unfold BW bL
  simp (disch := omega) only [gs_o, gs_s, gs_r, vn_o, vn_s]
  refine ⟨⟨n0, n1, n2, by omega, n4, n5⟩, fun t ht => ?_, h2, h3, h4, h5⟩
  by_cases c : t = i
  · subst c
    simp (disch := omega) only [gs_o, gs_s, gs_r, vn_o, vn_s]
    exact ⟨hx, hy, hz, hw⟩
  · simp (disch := omega) only [gs_o, gs_s, gs_r, vn_o, vn_s]
    exact h1 t ht
theorem BW_F (h : BW b) (hT : b 0 4 < 4) : BW (bF b x y z) := by
  obtain ⟨⟨n0, n1, n2, n3, n4, n5⟩, h1, h2, h3, h4, h5⟩ := h
  unfold BW bF
  simp (disch := omega) only [gs_o, gs_s, gs_r, vn_o, vn_s]
  exact ⟨⟨n0, n1, n2, n3, by omega, n5⟩, h1, h2, h3, h4, h5⟩
/-! the reference's row -/
variable {F : Nat → Int32}
theorem RL_T (h : RL F b) (hB : BW b) (hT : b 0 0 < 6) : RL (upd (upd (upd (upd (upd (upd F (6 + b 0 0) (nI x)) (60 + 4 * b 0 0) (nI 1)) (60 + 4 * b 0 0 + 1) (nI 100)) (60 + 4 * b 0 0 + 2) (nI 1)) (60 + 4 * b 0 0 + 3) (nI 0)) 0 (nI (b 0 0 + 1))) (bT b x) := by
  obtain ⟨⟨n0, n1, n2, n3, n4, n5⟩, -, m2, m3, -, -⟩ := hB
  obtain ⟨h0, h1, h2, h3, h4, h5, h6⟩ := h
  unfold RL bT
  simp (disch := omega) only [gs_o, gs_s, gs_r, vn_o, vn_s]
  refine ⟨fun c hc => ?_, fun t ht => ?_, fun k hk => ?_, fun t ht w hw => ?_, fun k hk => ?_, fun k hk => ?_, fun t ht w hw => ?_⟩
  · by_cases e : c = 0
    · subst e; simp (disch := omega) only [gs_o, gs_s, gs_r, vn_o, vn_s, upd_s, upd_o]
    · simp (disch := omega) only [gs_o, gs_s, gs_r, vn_o, vn_s, upd_s, upd_o]
      exact h0 c hc
  · by_cases e : t = b 0 0
    · rw [e]; simp (disch := omega) only [gs_o, gs_s, gs_r, vn_o, vn_s, upd_s, upd_o]
    · simp (disch := omega) only [gs_o, gs_s, gs_r, vn_o, vn_s, upd_s, upd_o]
      exact h1 t (by omega)
  · simp (disch := omega) only [gs_o, gs_s, gs_r, vn_o, vn_s, upd_s, upd_o]
    exact h2 k hk
  · simp (disch := omega) only [gs_o, gs_s, gs_r, vn_o, vn_s, upd_s, upd_o]
    exact h3 t ht w hw
  · rcases (show k < 4 * b 0 0 ∨ k = 4 * b 0 0 ∨ k = 4 * b 0 0 + 1 ∨ k = 4 * b 0 0 + 2 ∨ k = 4 * b 0 0 + 3 by omega) with e | e | e | e | e
    · simp (disch := omega) only [gs_o, gs_s, gs_r, vn_o, vn_s, upd_s, upd_o]
      exact h4 k e
    · rw [e]; simp (disch := omega) only [gs_o, gs_s, gs_r, vn_o, vn_s, upd_s, upd_o]
    · rw [e]; simp (disch := omega) only [gs_o, gs_s, gs_r, vn_o, vn_s, upd_s, upd_o]
    · rw [e]; simp (disch := omega) only [gs_o, gs_s, gs_r, vn_o, vn_s, upd_s, upd_o]
    · rw [e]; simp (disch := omega) only [gs_o, gs_s, gs_r, vn_o, vn_s, upd_s, upd_o]
  · simp (disch := omega) only [gs_o, gs_s, gs_r, vn_o, vn_s, upd_s, upd_o]
    exact h5 k hk
  · simp (disch := omega) only [gs_o, gs_s, gs_r, vn_o, vn_s, upd_s, upd_o]
    exact h6 t ht w hw
theorem RL_M (h : RL F b) (hB : BW b) (hT : b 0 1 < 12) : RL (upd (upd F (12 + b 0 1) (nI x)) 1 (nI (b 0 1 + 1))) (bM b x) := by
  obtain ⟨⟨n0, n1, n2, n3, n4, n5⟩, -, m2, m3, -, -⟩ := hB
  obtain ⟨h0, h1, h2, h3, h4, h5, h6⟩ := h
  unfold RL bM
  simp (disch := omega) only [gs_o, gs_s, gs_r, vn_o, vn_s]
  refine ⟨fun c hc => ?_, fun t ht => ?_, fun k hk => ?_, fun t ht w hw => ?_, fun k hk => ?_, fun k hk => ?_, fun t ht w hw => ?_⟩
  · by_cases e : c = 1
    · subst e; simp (disch := omega) only [gs_o, gs_s, gs_r, vn_o, vn_s, upd_s, upd_o]
    · simp (disch := omega) only [gs_o, gs_s, gs_r, vn_o, vn_s, upd_s, upd_o]
      exact h0 c hc
  · simp (disch := omega) only [gs_o, gs_s, gs_r, vn_o, vn_s, upd_s, upd_o]
    exact h1 t ht
  · by_cases e : k = b 0 1
    · rw [e]; simp (disch := omega) only [gs_o, gs_s, gs_r, vn_o, vn_s, upd_s, upd_o]
    · simp (disch := omega) only [gs_o, gs_s, gs_r, vn_o, vn_s, upd_s, upd_o]
      exact h2 k (by omega)
  · simp (disch := omega) only [gs_o, gs_s, gs_r, vn_o, vn_s, upd_s, upd_o]
    exact h3 t ht w hw
  · simp (disch := omega) only [gs_o, gs_s, gs_r, vn_o, vn_s, upd_s, upd_o]
    exact h4 k hk
  · simp (disch := omega) only [gs_o, gs_s, gs_r, vn_o, vn_s, upd_s, upd_o]
    exact h5 k hk
  · simp (disch := omega) only [gs_o, gs_s, gs_r, vn_o, vn_s, upd_s, upd_o]
    exact h6 t ht w hw
theorem RL_R (h : RL F b) (hB : BW b) (hi : i < b 0 0) (hj : j < b 0 0) (hij : i ≠ j) : RL (upd (upd (upd F (24 + 6 * i + j) (nI 1)) (24 + 6 * j + i) (nI 1)) 2 (nI (b 0 2 + 1))) (bR b i j) := by
  obtain ⟨⟨n0, n1, n2, n3, n4, n5⟩, -, m2, m3, -, -⟩ := hB
  obtain ⟨h0, h1, h2, h3, h4, h5, h6⟩ := h
  unfold RL bR
  simp (disch := omega) only [gs_o, gs_s, gs_r, vn_o, vn_s]
  refine ⟨fun c hc => ?_, fun t ht => ?_, fun k hk => ?_, fun t ht w hw => ?_, fun k hk => ?_, fun k hk => ?_, fun t ht w hw => ?_⟩
  · by_cases e : c = 2
    · subst e; simp (disch := omega) only [gs_o, gs_s, gs_r, vn_o, vn_s, upd_s, upd_o]
    · simp (disch := omega) only [gs_o, gs_s, gs_r, vn_o, vn_s, upd_s, upd_o]
      exact h0 c hc
  · simp (disch := omega) only [gs_o, gs_s, gs_r, vn_o, vn_s, upd_s, upd_o]
    exact h1 t ht
  · simp (disch := omega) only [gs_o, gs_s, gs_r, vn_o, vn_s, upd_s, upd_o]
    exact h2 k hk
  · simp (disch := omega) only [gs_o, gs_s, gs_r, vn_o, vn_s, upd_s, upd_o]
    rw [st2_b m2 n0 hi hj hij ht hw]
    by_cases c : (t = i ∧ w = j) ∨ (t = j ∧ w = i)
    · rw [if_pos c]
      rcases c with ⟨rfl, rfl⟩ | ⟨rfl, rfl⟩
      · simp (disch := omega) only [gs_o, gs_s, gs_r, vn_o, vn_s, upd_s, upd_o]
      · simp (disch := omega) only [gs_o, gs_s, gs_r, vn_o, vn_s, upd_s, upd_o]
    · rw [if_neg c]
      simp (disch := omega) only [gs_o, gs_s, gs_r, vn_o, vn_s, upd_s, upd_o]
      exact h3 t ht w hw
  · simp (disch := omega) only [gs_o, gs_s, gs_r, vn_o, vn_s, upd_s, upd_o]
    exact h4 k hk
  · simp (disch := omega) only [gs_o, gs_s, gs_r, vn_o, vn_s, upd_s, upd_o]
    exact h5 k hk
  · simp (disch := omega) only [gs_o, gs_s, gs_r, vn_o, vn_s, upd_s, upd_o]
    exact h6 t ht w hw
theorem RL_P (h : RL F b) (hB : BW b) (hi : i < b 0 0) (hj : j < b 0 0) (hij : i ≠ j) : RL (upd (upd (upd F (96 + 6 * i + j) (nI 1)) (96 + 6 * j + i) (nI 1)) 5 (nI (b 0 5 + 1))) (bP b i j) := by
  obtain ⟨⟨n0, n1, n2, n3, n4, n5⟩, -, m2, m3, -, -⟩ := hB
  obtain ⟨h0, h1, h2, h3, h4, h5, h6⟩ := h
  unfold RL bP
  simp (disch := omega) only [gs_o, gs_s, gs_r, vn_o, vn_s]
  refine ⟨fun c hc => ?_, fun t ht => ?_, fun k hk => ?_, fun t ht w hw => ?_, fun k hk => ?_, fun k hk => ?_, fun t ht w hw => ?_⟩
  · by_cases e : c = 5
    · subst e; simp (disch := omega) only [gs_o, gs_s, gs_r, vn_o, vn_s, upd_s, upd_o]
    · simp (disch := omega) only [gs_o, gs_s, gs_r, vn_o, vn_s, upd_s, upd_o]
      exact h0 c hc
  · simp (disch := omega) only [gs_o, gs_s, gs_r, vn_o, vn_s, upd_s, upd_o]
    exact h1 t ht
  · simp (disch := omega) only [gs_o, gs_s, gs_r, vn_o, vn_s, upd_s, upd_o]
    exact h2 k hk
  · simp (disch := omega) only [gs_o, gs_s, gs_r, vn_o, vn_s, upd_s, upd_o]
    exact h3 t ht w hw
  · simp (disch := omega) only [gs_o, gs_s, gs_r, vn_o, vn_s, upd_s, upd_o]
    exact h4 k hk
  · simp (disch := omega) only [gs_o, gs_s, gs_r, vn_o, vn_s, upd_s, upd_o]
    exact h5 k hk
  · simp (disch := omega) only [gs_o, gs_s, gs_r, vn_o, vn_s, upd_s, upd_o]
    rw [st2_b m3 n0 hi hj hij ht hw]
    by_cases c : (t = i ∧ w = j) ∨ (t = j ∧ w = i)
    · rw [if_pos c]
      rcases c with ⟨rfl, rfl⟩ | ⟨rfl, rfl⟩
      · simp (disch := omega) only [gs_o, gs_s, gs_r, vn_o, vn_s, upd_s, upd_o]
      · simp (disch := omega) only [gs_o, gs_s, gs_r, vn_o, vn_s, upd_s, upd_o]
    · rw [if_neg c]
      simp (disch := omega) only [gs_o, gs_s, gs_r, vn_o, vn_s, upd_s, upd_o]
      exact h6 t ht w hw
theorem RL_L (h : RL F b) (hB : BW b) (hi : i < b 0 0) : RL (upd (upd (upd (upd (upd F (60 + 4 * i) (nI x)) (60 + 4 * i + 1) (nI y)) (60 + 4 * i + 2) (nI z)) (60 + 4 * i + 3) (nI w)) 3 (nI (b 0 3 + 1))) (bL b i x y z w) := by
  obtain ⟨⟨n0, n1, n2, n3, n4, n5⟩, -, m2, m3, -, -⟩ := hB
  obtain ⟨h0, h1, h2, h3, h4, h5, h6⟩ := h
  unfold RL bL
  simp (disch := omega) only [gs_o, gs_s, gs_r, vn_o, vn_s]
  refine ⟨fun c hc => ?_, fun t ht => ?_, fun k hk => ?_, fun t ht w hw => ?_, fun k hk => ?_, fun k hk => ?_, fun t ht w hw => ?_⟩
  · by_cases e : c = 3
    · subst e; simp (disch := omega) only [gs_o, gs_s, gs_r, vn_o, vn_s, upd_s, upd_o]
    · simp (disch := omega) only [gs_o, gs_s, gs_r, vn_o, vn_s, upd_s, upd_o]
      exact h0 c hc
  · simp (disch := omega) only [gs_o, gs_s, gs_r, vn_o, vn_s, upd_s, upd_o]
    exact h1 t ht
  · simp (disch := omega) only [gs_o, gs_s, gs_r, vn_o, vn_s, upd_s, upd_o]
    exact h2 k hk
  · simp (disch := omega) only [gs_o, gs_s, gs_r, vn_o, vn_s, upd_s, upd_o]
    exact h3 t ht w hw
  · rcases (show k = 4 * i ∨ k = 4 * i + 1 ∨ k = 4 * i + 2 ∨ k = 4 * i + 3 ∨ (k < 4 * i ∨ 4 * i + 3 < k) by omega) with e | e | e | e | e
    · rw [e]; simp (disch := omega) only [gs_o, gs_s, gs_r, vn_o, vn_s, upd_s, upd_o]
    · rw [e]; simp (disch := omega) only [gs_o, gs_s, gs_r, vn_o, vn_s, upd_s, upd_o]
    · rw [e]; simp (disch := omega) only [gs_o, gs_s, gs_r, vn_o, vn_s, upd_s, upd_o]
    · rw [e]; simp (disch := omega) only [gs_o, gs_s, gs_r, vn_o, vn_s, upd_s, upd_o]
    · simp (disch := omega) only [gs_o, gs_s, gs_r, vn_o, vn_s, upd_s, upd_o]
      exact h4 k hk
  · simp (disch := omega) only [gs_o, gs_s, gs_r, vn_o, vn_s, upd_s, upd_o]
    exact h5 k hk
  · simp (disch := omega) only [gs_o, gs_s, gs_r, vn_o, vn_s, upd_s, upd_o]
    exact h6 t ht w hw
theorem RL_F (h : RL F b) (hB : BW b) (hT : b 0 4 < 4) : RL (upd (upd (upd (upd F (84 + 3 * b 0 4) (nI x)) (84 + 3 * b 0 4 + 1) (nI y)) (84 + 3 * b 0 4 + 2) (nI z)) 4 (nI (b 0 4 + 1))) (bF b x y z) := by
  obtain ⟨⟨n0, n1, n2, n3, n4, n5⟩, -, m2, m3, -, -⟩ := hB
  obtain ⟨h0, h1, h2, h3, h4, h5, h6⟩ := h
  unfold RL bF
  simp (disch := omega) only [gs_o, gs_s, gs_r, vn_o, vn_s]
  refine ⟨fun c hc => ?_, fun t ht => ?_, fun k hk => ?_, fun t ht w hw => ?_, fun k hk => ?_, fun k hk => ?_, fun t ht w hw => ?_⟩
  · by_cases e : c = 4
    · subst e; simp (disch := omega) only [gs_o, gs_s, gs_r, vn_o, vn_s, upd_s, upd_o]
    · simp (disch := omega) only [gs_o, gs_s, gs_r, vn_o, vn_s, upd_s, upd_o]
      exact h0 c hc
  · simp (disch := omega) only [gs_o, gs_s, gs_r, vn_o, vn_s, upd_s, upd_o]
    exact h1 t ht
  · simp (disch := omega) only [gs_o, gs_s, gs_r, vn_o, vn_s, upd_s, upd_o]
    exact h2 k hk
  · simp (disch := omega) only [gs_o, gs_s, gs_r, vn_o, vn_s, upd_s, upd_o]
    exact h3 t ht w hw
  · simp (disch := omega) only [gs_o, gs_s, gs_r, vn_o, vn_s, upd_s, upd_o]
    exact h4 k hk
  · rcases (show k < 3 * b 0 4 ∨ k = 3 * b 0 4 ∨ k = 3 * b 0 4 + 1 ∨ k = 3 * b 0 4 + 2 by omega) with e | e | e | e
    · simp (disch := omega) only [gs_o, gs_s, gs_r, vn_o, vn_s, upd_s, upd_o]
      exact h5 k e
    · rw [e]; simp (disch := omega) only [gs_o, gs_s, gs_r, vn_o, vn_s, upd_s, upd_o]
    · rw [e]; simp (disch := omega) only [gs_o, gs_s, gs_r, vn_o, vn_s, upd_s, upd_o]
    · rw [e]; simp (disch := omega) only [gs_o, gs_s, gs_r, vn_o, vn_s, upd_s, upd_o]
  · simp (disch := omega) only [gs_o, gs_s, gs_r, vn_o, vn_s, upd_s, upd_o]
    exact h6 t ht w hw
end Build
section CBuild
variable {d a l u t q L : Nat} {I : Nat → Nat → Int32} {Q : Option Value → LM → Prop} {g : Nat → Nat → Nat} {v : Nat → Nat → Int32} {x y z : Int32}
variable {b : Nat → Nat → Nat} {i j : Nat}
theorem CB_fr {I' : Nat → Nat → Int32} (h : CB I a b) (hf : ∀ c, a ≤ c → c < a + 33 → I' c = I c) : CB I' a b := by
  obtain ⟨h0, h1, h2, h3, h4, h5, h6⟩ := h
  unfold CB
  rw [hf a (by omega) (by omega), hf (a + 1) (by omega) (by omega), hf (a + 2) (by omega) (by omega), hf (a + 3) (by omega) (by omega), hf (a + 4) (by omega) (by omega), hf (a + 5) (by omega) (by omega), hf (a + 6) (by omega) (by omega), hf (a + 7) (by omega) (by omega)]
  exact ⟨h0, h1, h2, h3, h4, h5, h6⟩
theorem S4_addTown (ha : IL a) (hC : CB I a b) (hT : b 0 0 < 6) {x : Nat} (hQ : ∀ I', (∀ c, ¬ (a ≤ c ∧ c < a + 33) → I' c = I c) → CB I' a (bT b x) → Q none (SH, I', RB l u t q L)) : Ends (d + 1) k_X4_addTown 0 [.ref a, .int (nI x)] [] (SH, I, RB l u t q L) Q := by
  obtain ⟨⟨p0, p1, p2, p3, p4, p5⟩, h1, h2, h3, h4, h5, h6⟩ := id hC
  simp (disch := omega) only [gI_k, gR_k, pI_k, pR_k, pC_k, true_and, and_true, and_self, not_false_eq_true, not_true_eq_false, eq_self, true_or, or_true, false_or, or_false, false_and, and_false, Option.toList_some, Option.toList_none, List.cons_append, List.nil_append, ↓reduceIte, nI_lit, nI_add, nI_mul, nI_clp, nlt0, nle, nlt, neq, leF, leT, ltF, ltT, eqF, eqT, em_t, cond_dec, bi_T, bi_F, Classical.not_not, uI_o, uI_s, uI_r, nI_sb, bi01,  B_X4_addTown_0, B_X4_addTown_23, B_X4_setLaw_0, sh_l ha, rbs_l0 ha, rbn_l0 ha, rbs_l1 ha, rbn_l1 ha, rbs_l2 ha, rbn_l2 ha, rbs_l3 ha, rbn_l3 ha, rbs_l4 ha, rbn_l4 ha, rbs_l5 ha, rbn_l5 ha, rbs_l6 ha, rbn_l6 ha, rbs_l7 ha, rbn_l7 ha, xt_l1 ha, xl_l1 ha, tg_l1 ha, ln_l1 ha, xt_l2 ha, xl_l2 ha, tg_l2 ha, ln_l2 ha, xt_l3 ha, xl_l3 ha, tg_l3 ha, ln_l3 ha, xt_l4 ha, xl_l4 ha, tg_l4 ha, ln_l4 ha, xt_l5 ha, xl_l5 ha, tg_l5 ha, ln_l5 ha, xt_l6 ha, xl_l6 ha, tg_l6 ha, ln_l6 ha, xt_l7 ha, xl_l7 ha, tg_l7 ha, ln_l7 ha, tg_l8 ha, ln_l8 ha, rbs_cc ha, rbn_cc ha, sh_c ha, p0]
  refine hQ _ (fun c hc => by simp (disch := omega) only [uI_o]) ?_
  unfold CB bT
  simp (disch := omega) only [gs_o, gs_s, gs_r, vn_o, vn_s]
  refine ⟨⟨?_, ?_, ?_, ?_, ?_, ?_⟩, fun t ht => ?_, fun k hk => ?_, fun t ht => ?_, fun t ht => ?_, fun k hk => ?_, fun k hk => ?_⟩
  · simp (disch := omega) only [gs_o, gs_s, gs_r, vn_o, vn_s, uI_o, uI_s, uI_r]
  · simp (disch := omega) only [gs_o, gs_s, gs_r, vn_o, vn_s, uI_o, uI_s, uI_r]
    exact p1
  · simp (disch := omega) only [gs_o, gs_s, gs_r, vn_o, vn_s, uI_o, uI_s, uI_r]
    exact p2
  · simp (disch := omega) only [gs_o, gs_s, gs_r, vn_o, vn_s, uI_o, uI_s, uI_r]
    exact p3
  · simp (disch := omega) only [gs_o, gs_s, gs_r, vn_o, vn_s, uI_o, uI_s, uI_r]
    exact p4
  · simp (disch := omega) only [gs_o, gs_s, gs_r, vn_o, vn_s, uI_o, uI_s, uI_r]
    exact p5
  · by_cases e : t = b 0 0
    · rw [e]; simp (disch := omega) only [gs_o, gs_s, gs_r, vn_o, vn_s, uI_o, uI_s, uI_r]
    · simp (disch := omega) only [gs_o, gs_s, gs_r, vn_o, vn_s, uI_o, uI_s, uI_r]
      exact h1 t (by omega)
  · rcases (show k < 4 * b 0 0 ∨ k = 4 * b 0 0 ∨ k = 4 * b 0 0 + 1 ∨ k = 4 * b 0 0 + 2 ∨ k = 4 * b 0 0 + 3 by omega) with e | e | e | e | e
    · simp (disch := omega) only [gs_o, gs_s, gs_r, vn_o, vn_s, uI_o, uI_s, uI_r]
      exact h2 k e
    · rw [e]; simp (disch := omega) only [gs_o, gs_s, gs_r, vn_o, vn_s, uI_o, uI_s, uI_r]
    · rw [e]; simp (disch := omega) only [gs_o, gs_s, gs_r, vn_o, vn_s, uI_o, uI_s, uI_r]
    · rw [e]; simp (disch := omega) only [gs_o, gs_s, gs_r, vn_o, vn_s, uI_o, uI_s, uI_r]
    · rw [e]; simp (disch := omega) only [gs_o, gs_s, gs_r, vn_o, vn_s, uI_o, uI_s, uI_r]
  · simp (disch := omega) only [gs_o, gs_s, gs_r, vn_o, vn_s, uI_o, uI_s, uI_r]
    exact h3 t ht
  · simp (disch := omega) only [gs_o, gs_s, gs_r, vn_o, vn_s, uI_o, uI_s, uI_r]
    exact h4 t ht
  · simp (disch := omega) only [gs_o, gs_s, gs_r, vn_o, vn_s, uI_o, uI_s, uI_r]
    exact h5 k hk
  · simp (disch := omega) only [gs_o, gs_s, gs_r, vn_o, vn_s, uI_o, uI_s, uI_r]
    exact h6 k hk
theorem S4_addMan (ha : IL a) (hC : CB I a b) (hT : b 0 1 < 12) {x : Nat} (hQ : ∀ I', (∀ c, ¬ (a ≤ c ∧ c < a + 33) → I' c = I c) → CB I' a (bM b x) → Q none (SH, I', RB l u t q L)) : Ends (d + 1) k_X4_addMan 0 [.ref a, .int (nI x)] [] (SH, I, RB l u t q L) Q := by
  obtain ⟨⟨p0, p1, p2, p3, p4, p5⟩, h1, h2, h3, h4, h5, h6⟩ := id hC
  simp (disch := omega) only [gI_k, gR_k, pI_k, pR_k, pC_k, true_and, and_true, and_self, not_false_eq_true, not_true_eq_false, eq_self, true_or, or_true, false_or, or_false, false_and, and_false, Option.toList_some, Option.toList_none, List.cons_append, List.nil_append, ↓reduceIte, nI_lit, nI_add, nI_mul, nI_clp, nlt0, nle, nlt, neq, leF, leT, ltF, ltT, eqF, eqT, em_t, cond_dec, bi_T, bi_F, Classical.not_not, uI_o, uI_s, uI_r, nI_sb, bi01,  B_X4_addMan_0, sh_l ha, rbs_l0 ha, rbn_l0 ha, rbs_l1 ha, rbn_l1 ha, rbs_l2 ha, rbn_l2 ha, rbs_l3 ha, rbn_l3 ha, rbs_l4 ha, rbn_l4 ha, rbs_l5 ha, rbn_l5 ha, rbs_l6 ha, rbn_l6 ha, rbs_l7 ha, rbn_l7 ha, xt_l1 ha, xl_l1 ha, tg_l1 ha, ln_l1 ha, xt_l2 ha, xl_l2 ha, tg_l2 ha, ln_l2 ha, xt_l3 ha, xl_l3 ha, tg_l3 ha, ln_l3 ha, xt_l4 ha, xl_l4 ha, tg_l4 ha, ln_l4 ha, xt_l5 ha, xl_l5 ha, tg_l5 ha, ln_l5 ha, xt_l6 ha, xl_l6 ha, tg_l6 ha, ln_l6 ha, xt_l7 ha, xl_l7 ha, tg_l7 ha, ln_l7 ha, tg_l8 ha, ln_l8 ha, rbs_cc ha, rbn_cc ha, sh_c ha, p1]
  refine hQ _ (fun c hc => by simp (disch := omega) only [uI_o]) ?_
  unfold CB bM
  simp (disch := omega) only [gs_o, gs_s, gs_r, vn_o, vn_s]
  refine ⟨⟨?_, ?_, ?_, ?_, ?_, ?_⟩, fun t ht => ?_, fun k hk => ?_, fun t ht => ?_, fun t ht => ?_, fun k hk => ?_, fun k hk => ?_⟩
  · simp (disch := omega) only [gs_o, gs_s, gs_r, vn_o, vn_s, uI_o, uI_s, uI_r]
    exact p0
  · simp (disch := omega) only [gs_o, gs_s, gs_r, vn_o, vn_s, uI_o, uI_s, uI_r]
  · simp (disch := omega) only [gs_o, gs_s, gs_r, vn_o, vn_s, uI_o, uI_s, uI_r]
    exact p2
  · simp (disch := omega) only [gs_o, gs_s, gs_r, vn_o, vn_s, uI_o, uI_s, uI_r]
    exact p3
  · simp (disch := omega) only [gs_o, gs_s, gs_r, vn_o, vn_s, uI_o, uI_s, uI_r]
    exact p4
  · simp (disch := omega) only [gs_o, gs_s, gs_r, vn_o, vn_s, uI_o, uI_s, uI_r]
    exact p5
  · simp (disch := omega) only [gs_o, gs_s, gs_r, vn_o, vn_s, uI_o, uI_s, uI_r]
    exact h1 t ht
  · simp (disch := omega) only [gs_o, gs_s, gs_r, vn_o, vn_s, uI_o, uI_s, uI_r]
    exact h2 k hk
  · simp (disch := omega) only [gs_o, gs_s, gs_r, vn_o, vn_s, uI_o, uI_s, uI_r]
    exact h3 t ht
  · simp (disch := omega) only [gs_o, gs_s, gs_r, vn_o, vn_s, uI_o, uI_s, uI_r]
    exact h4 t ht
  · simp (disch := omega) only [gs_o, gs_s, gs_r, vn_o, vn_s, uI_o, uI_s, uI_r]
    exact h5 k hk
  · by_cases e : k = b 0 1
    · rw [e]; simp (disch := omega) only [gs_o, gs_s, gs_r, vn_o, vn_s, uI_o, uI_s, uI_r]; exact ⟨trivial, trivial⟩
    · simp (disch := omega) only [gs_o, gs_s, gs_r, vn_o, vn_s, uI_o, uI_s, uI_r]
      exact h6 k (by omega)
theorem S4_addRoad (ha : IL a) (hC : CB I a b) (hB : BW b) (hi : i < b 0 0) (hj : j < b 0 0) (hij : i ≠ j) (hQ : ∀ I', (∀ c, ¬ (a ≤ c ∧ c < a + 33) → I' c = I c) → CB I' a (bR b i j) → Q none (SH, I', RB l u t q L)) : Ends (d + 1) k_X4_addRoad 0 [.ref a, .int (nI i), .int (nI j)] [] (SH, I, RB l u t q L) Q := by
  obtain ⟨⟨p0, p1, p2, p3, p4, p5⟩, h1, h2, h3, h4, h5, h6⟩ := id hC
  have n0 := hB.1.1
  have mi := hB.2.2.1.lt n0 (t := i) (by omega)
  have mj := hB.2.2.1.lt n0 (t := j) (by omega)
  have q1 := h3 i (by omega)
  have q2 := h3 j (by omega)
  simp (disch := omega) only [gI_k, gR_k, pI_k, pR_k, pC_k, true_and, and_true, and_self, not_false_eq_true, not_true_eq_false, eq_self, true_or, or_true, false_or, or_false, false_and, and_false, Option.toList_some, Option.toList_none, List.cons_append, List.nil_append, ↓reduceIte, nI_lit, nI_add, nI_mul, nI_clp, nlt0, nle, nlt, neq, leF, leT, ltF, ltT, eqF, eqT, em_t, cond_dec, bi_T, bi_F, Classical.not_not, uI_o, uI_s, uI_r, nI_sb, bi01,  B_X4_addRoad_0, sh_l ha, rbs_l0 ha, rbn_l0 ha, rbs_l1 ha, rbn_l1 ha, rbs_l2 ha, rbn_l2 ha, rbs_l3 ha, rbn_l3 ha, rbs_l4 ha, rbn_l4 ha, rbs_l5 ha, rbn_l5 ha, rbs_l6 ha, rbn_l6 ha, rbs_l7 ha, rbn_l7 ha, xt_l1 ha, xl_l1 ha, tg_l1 ha, ln_l1 ha, xt_l2 ha, xl_l2 ha, tg_l2 ha, ln_l2 ha, xt_l3 ha, xl_l3 ha, tg_l3 ha, ln_l3 ha, xt_l4 ha, xl_l4 ha, tg_l4 ha, ln_l4 ha, xt_l5 ha, xl_l5 ha, tg_l5 ha, ln_l5 ha, xt_l6 ha, xl_l6 ha, tg_l6 ha, ln_l6 ha, xt_l7 ha, xl_l7 ha, tg_l7 ha, ln_l7 ha, tg_l8 ha, ln_l8 ha, rbs_cc ha, rbn_cc ha, sh_c ha, q1, q2, bs_or]
  refine hQ _ (fun c hc => by simp (disch := omega) only [uI_o]) ?_
  unfold CB bR
  simp (disch := omega) only [gs_o, gs_s, gs_r, vn_o, vn_s]
  refine ⟨⟨?_, ?_, ?_, ?_, ?_, ?_⟩, fun t ht => ?_, fun k hk => ?_, fun t ht => ?_, fun t ht => ?_, fun k hk => ?_, fun k hk => ?_⟩
  · simp (disch := omega) only [gs_o, gs_s, gs_r, vn_o, vn_s, uI_o, uI_s, uI_r]
    exact p0
  · simp (disch := omega) only [gs_o, gs_s, gs_r, vn_o, vn_s, uI_o, uI_s, uI_r]
    exact p1
  · simp (disch := omega) only [gs_o, gs_s, gs_r, vn_o, vn_s, uI_o, uI_s, uI_r]
    exact p2
  · simp (disch := omega) only [gs_o, gs_s, gs_r, vn_o, vn_s, uI_o, uI_s, uI_r]
    exact p3
  · simp (disch := omega) only [gs_o, gs_s, gs_r, vn_o, vn_s, uI_o, uI_s, uI_r]
    exact p4
  · simp (disch := omega) only [gs_o, gs_s, gs_r, vn_o, vn_s, uI_o, uI_s, uI_r]
    exact p5
  · simp (disch := omega) only [gs_o, gs_s, gs_r, vn_o, vn_s, uI_o, uI_s, uI_r]
    exact h1 t ht
  · simp (disch := omega) only [gs_o, gs_s, gs_r, vn_o, vn_s, uI_o, uI_s, uI_r]
    exact h2 k hk
  · by_cases e1 : t = j
    · rw [e1, st2_j]; simp (disch := omega) only [gs_o, gs_s, gs_r, vn_o, vn_s, uI_o, uI_s, uI_r]
    · by_cases e2 : t = i
      · rw [e2, st2_i hij]; simp (disch := omega) only [gs_o, gs_s, gs_r, vn_o, vn_s, uI_o, uI_s, uI_r]
      · rw [st2_o e2 e1]; simp (disch := omega) only [gs_o, gs_s, gs_r, vn_o, vn_s, uI_o, uI_s, uI_r]
        exact h3 t ht
  · simp (disch := omega) only [gs_o, gs_s, gs_r, vn_o, vn_s, uI_o, uI_s, uI_r]
    exact h4 t ht
  · simp (disch := omega) only [gs_o, gs_s, gs_r, vn_o, vn_s, uI_o, uI_s, uI_r]
    exact h5 k hk
  · simp (disch := omega) only [gs_o, gs_s, gs_r, vn_o, vn_s, uI_o, uI_s, uI_r]
    exact h6 k hk
theorem S4_addPact (ha : IL a) (hC : CB I a b) (hB : BW b) (hi : i < b 0 0) (hj : j < b 0 0) (hij : i ≠ j) (hQ : ∀ I', (∀ c, ¬ (a ≤ c ∧ c < a + 33) → I' c = I c) → CB I' a (bP b i j) → Q none (SH, I', RB l u t q L)) : Ends (d + 1) k_X4_setPact 0 [.ref a, .int (nI i), .int (nI j), .int (nI 1)] [] (SH, I, RB l u t q L) Q := by
  obtain ⟨⟨p0, p1, p2, p3, p4, p5⟩, h1, h2, h3, h4, h5, h6⟩ := id hC
  have n0 := hB.1.1
  have mi := hB.2.2.2.1.lt n0 (t := i) (by omega)
  have mj := hB.2.2.2.1.lt n0 (t := j) (by omega)
  have q1 := h4 i (by omega)
  have q2 := h4 j (by omega)
  simp (disch := omega) only [gI_k, gR_k, pI_k, pR_k, pC_k, true_and, and_true, and_self, not_false_eq_true, not_true_eq_false, eq_self, true_or, or_true, false_or, or_false, false_and, and_false, Option.toList_some, Option.toList_none, List.cons_append, List.nil_append, ↓reduceIte, nI_lit, nI_add, nI_mul, nI_clp, nlt0, nle, nlt, neq, leF, leT, ltF, ltT, eqF, eqT, em_t, cond_dec, bi_T, bi_F, Classical.not_not, uI_o, uI_s, uI_r, nI_sb, bi01,  B_X4_setPact_0, B_X4_setPact_34, B_X4_setPact_69, sh_l ha, rbs_l0 ha, rbn_l0 ha, rbs_l1 ha, rbn_l1 ha, rbs_l2 ha, rbn_l2 ha, rbs_l3 ha, rbn_l3 ha, rbs_l4 ha, rbn_l4 ha, rbs_l5 ha, rbn_l5 ha, rbs_l6 ha, rbn_l6 ha, rbs_l7 ha, rbn_l7 ha, xt_l1 ha, xl_l1 ha, tg_l1 ha, ln_l1 ha, xt_l2 ha, xl_l2 ha, tg_l2 ha, ln_l2 ha, xt_l3 ha, xl_l3 ha, tg_l3 ha, ln_l3 ha, xt_l4 ha, xl_l4 ha, tg_l4 ha, ln_l4 ha, xt_l5 ha, xl_l5 ha, tg_l5 ha, ln_l5 ha, xt_l6 ha, xl_l6 ha, tg_l6 ha, ln_l6 ha, xt_l7 ha, xl_l7 ha, tg_l7 ha, ln_l7 ha, tg_l8 ha, ln_l8 ha, rbs_cc ha, rbn_cc ha, sh_c ha, q1, q2, bs_or, nI10]
  refine hQ _ (fun c hc => by simp (disch := omega) only [uI_o]) ?_
  unfold CB bP
  simp (disch := omega) only [gs_o, gs_s, gs_r, vn_o, vn_s]
  refine ⟨⟨?_, ?_, ?_, ?_, ?_, ?_⟩, fun t ht => ?_, fun k hk => ?_, fun t ht => ?_, fun t ht => ?_, fun k hk => ?_, fun k hk => ?_⟩
  · simp (disch := omega) only [gs_o, gs_s, gs_r, vn_o, vn_s, uI_o, uI_s, uI_r]
    exact p0
  · simp (disch := omega) only [gs_o, gs_s, gs_r, vn_o, vn_s, uI_o, uI_s, uI_r]
    exact p1
  · simp (disch := omega) only [gs_o, gs_s, gs_r, vn_o, vn_s, uI_o, uI_s, uI_r]
    exact p2
  · simp (disch := omega) only [gs_o, gs_s, gs_r, vn_o, vn_s, uI_o, uI_s, uI_r]
    exact p3
  · simp (disch := omega) only [gs_o, gs_s, gs_r, vn_o, vn_s, uI_o, uI_s, uI_r]
    exact p4
  · simp (disch := omega) only [gs_o, gs_s, gs_r, vn_o, vn_s, uI_o, uI_s, uI_r]
    exact p5
  · simp (disch := omega) only [gs_o, gs_s, gs_r, vn_o, vn_s, uI_o, uI_s, uI_r]
    exact h1 t ht
  · simp (disch := omega) only [gs_o, gs_s, gs_r, vn_o, vn_s, uI_o, uI_s, uI_r]
    exact h2 k hk
  · simp (disch := omega) only [gs_o, gs_s, gs_r, vn_o, vn_s, uI_o, uI_s, uI_r]
    exact h3 t ht
  · by_cases e1 : t = j
    · rw [e1, st2_j]; simp (disch := omega) only [gs_o, gs_s, gs_r, vn_o, vn_s, uI_o, uI_s, uI_r]
    · by_cases e2 : t = i
      · rw [e2, st2_i hij]; simp (disch := omega) only [gs_o, gs_s, gs_r, vn_o, vn_s, uI_o, uI_s, uI_r]
      · rw [st2_o e2 e1]; simp (disch := omega) only [gs_o, gs_s, gs_r, vn_o, vn_s, uI_o, uI_s, uI_r]
        exact h4 t ht
  · simp (disch := omega) only [gs_o, gs_s, gs_r, vn_o, vn_s, uI_o, uI_s, uI_r]
    exact h5 k hk
  · simp (disch := omega) only [gs_o, gs_s, gs_r, vn_o, vn_s, uI_o, uI_s, uI_r]
    exact h6 k hk
theorem S4_setLaw2 (ha : IL a) (hC : CB I a b) (hB : BW b) {x y z w : Nat} (hi : i < b 0 0) (hQ : ∀ I', (∀ c, ¬ (a ≤ c ∧ c < a + 33) → I' c = I c) → CB I' a (bL b i x y z w) → Q none (SH, I', RB l u t q L)) : Ends (d + 1) k_X4_setLaw 0 [.ref a, .int (nI i), .int (nI x), .int (nI y), .int (nI z), .int (nI w), .null] [] (SH, I, RB l u t q L) Q := by
  obtain ⟨⟨p0, p1, p2, p3, p4, p5⟩, h1, h2, h3, h4, h5, h6⟩ := id hC
  have n0 := hB.1.1
  simp (disch := omega) only [gI_k, gR_k, pI_k, pR_k, pC_k, true_and, and_true, and_self, not_false_eq_true, not_true_eq_false, eq_self, true_or, or_true, false_or, or_false, false_and, and_false, Option.toList_some, Option.toList_none, List.cons_append, List.nil_append, ↓reduceIte, nI_lit, nI_add, nI_mul, nI_clp, nlt0, nle, nlt, neq, leF, leT, ltF, ltT, eqF, eqT, em_t, cond_dec, bi_T, bi_F, Classical.not_not, uI_o, uI_s, uI_r, nI_sb, bi01,  B_X4_setLaw_0, sh_l ha, rbs_l0 ha, rbn_l0 ha, rbs_l1 ha, rbn_l1 ha, rbs_l2 ha, rbn_l2 ha, rbs_l3 ha, rbn_l3 ha, rbs_l4 ha, rbn_l4 ha, rbs_l5 ha, rbn_l5 ha, rbs_l6 ha, rbn_l6 ha, rbs_l7 ha, rbn_l7 ha, xt_l1 ha, xl_l1 ha, tg_l1 ha, ln_l1 ha, xt_l2 ha, xl_l2 ha, tg_l2 ha, ln_l2 ha, xt_l3 ha, xl_l3 ha, tg_l3 ha, ln_l3 ha, xt_l4 ha, xl_l4 ha, tg_l4 ha, ln_l4 ha, xt_l5 ha, xl_l5 ha, tg_l5 ha, ln_l5 ha, xt_l6 ha, xl_l6 ha, tg_l6 ha, ln_l6 ha, xt_l7 ha, xl_l7 ha, tg_l7 ha, ln_l7 ha, tg_l8 ha, ln_l8 ha, rbs_cc ha, rbn_cc ha, sh_c ha, p0]
  refine hQ _ (fun c hc => by simp (disch := omega) only [uI_o]) ?_
  unfold CB bL
  simp (disch := omega) only [gs_o, gs_s, gs_r, vn_o, vn_s]
  refine ⟨⟨?_, ?_, ?_, ?_, ?_, ?_⟩, fun t ht => ?_, fun k hk => ?_, fun t ht => ?_, fun t ht => ?_, fun k hk => ?_, fun k hk => ?_⟩
  · simp (disch := omega) only [gs_o, gs_s, gs_r, vn_o, vn_s, uI_o, uI_s, uI_r]
    exact p0
  · simp (disch := omega) only [gs_o, gs_s, gs_r, vn_o, vn_s, uI_o, uI_s, uI_r]
    exact p1
  · simp (disch := omega) only [gs_o, gs_s, gs_r, vn_o, vn_s, uI_o, uI_s, uI_r]
    exact p2
  · simp (disch := omega) only [gs_o, gs_s, gs_r, vn_o, vn_s, uI_o, uI_s, uI_r]
    exact p3
  · simp (disch := omega) only [gs_o, gs_s, gs_r, vn_o, vn_s, uI_o, uI_s, uI_r]
    exact p4
  · simp (disch := omega) only [gs_o, gs_s, gs_r, vn_o, vn_s, uI_o, uI_s, uI_r]
    exact p5
  · simp (disch := omega) only [gs_o, gs_s, gs_r, vn_o, vn_s, uI_o, uI_s, uI_r]
    exact h1 t ht
  · rcases (show k = 4 * i ∨ k = 4 * i + 1 ∨ k = 4 * i + 2 ∨ k = 4 * i + 3 ∨ (k < 4 * i ∨ 4 * i + 3 < k) by omega) with e | e | e | e | e
    · rw [e]; simp (disch := omega) only [gs_o, gs_s, gs_r, vn_o, vn_s, uI_o, uI_s, uI_r]
    · rw [e]; simp (disch := omega) only [gs_o, gs_s, gs_r, vn_o, vn_s, uI_o, uI_s, uI_r]
    · rw [e]; simp (disch := omega) only [gs_o, gs_s, gs_r, vn_o, vn_s, uI_o, uI_s, uI_r]
    · rw [e]; simp (disch := omega) only [gs_o, gs_s, gs_r, vn_o, vn_s, uI_o, uI_s, uI_r]
    · simp (disch := omega) only [gs_o, gs_s, gs_r, vn_o, vn_s, uI_o, uI_s, uI_r]
      exact h2 k hk
  · simp (disch := omega) only [gs_o, gs_s, gs_r, vn_o, vn_s, uI_o, uI_s, uI_r]
    exact h3 t ht
  · simp (disch := omega) only [gs_o, gs_s, gs_r, vn_o, vn_s, uI_o, uI_s, uI_r]
    exact h4 t ht
  · simp (disch := omega) only [gs_o, gs_s, gs_r, vn_o, vn_s, uI_o, uI_s, uI_r]
    exact h5 k hk
  · simp (disch := omega) only [gs_o, gs_s, gs_r, vn_o, vn_s, uI_o, uI_s, uI_r]
    exact h6 k hk
theorem S4_addFair (ha : IL a) (hC : CB I a b) (hT : b 0 4 < 4) {x y z : Nat} (hQ : ∀ I', (∀ c, ¬ (a ≤ c ∧ c < a + 33) → I' c = I c) → CB I' a (bF b x y z) → Q none (SH, I', RB l u t q L)) : Ends (d + 1) k_X4_addFair 0 [.ref a, .int (nI x), .int (nI y), .int (nI z), .null] [] (SH, I, RB l u t q L) Q := by
  obtain ⟨⟨p0, p1, p2, p3, p4, p5⟩, h1, h2, h3, h4, h5, h6⟩ := id hC
  simp (disch := omega) only [gI_k, gR_k, pI_k, pR_k, pC_k, true_and, and_true, and_self, not_false_eq_true, not_true_eq_false, eq_self, true_or, or_true, false_or, or_false, false_and, and_false, Option.toList_some, Option.toList_none, List.cons_append, List.nil_append, ↓reduceIte, nI_lit, nI_add, nI_mul, nI_clp, nlt0, nle, nlt, neq, leF, leT, ltF, ltT, eqF, eqT, em_t, cond_dec, bi_T, bi_F, Classical.not_not, uI_o, uI_s, uI_r, nI_sb, bi01,  B_X4_addFair_0, sh_l ha, rbs_l0 ha, rbn_l0 ha, rbs_l1 ha, rbn_l1 ha, rbs_l2 ha, rbn_l2 ha, rbs_l3 ha, rbn_l3 ha, rbs_l4 ha, rbn_l4 ha, rbs_l5 ha, rbn_l5 ha, rbs_l6 ha, rbn_l6 ha, rbs_l7 ha, rbn_l7 ha, xt_l1 ha, xl_l1 ha, tg_l1 ha, ln_l1 ha, xt_l2 ha, xl_l2 ha, tg_l2 ha, ln_l2 ha, xt_l3 ha, xl_l3 ha, tg_l3 ha, ln_l3 ha, xt_l4 ha, xl_l4 ha, tg_l4 ha, ln_l4 ha, xt_l5 ha, xl_l5 ha, tg_l5 ha, ln_l5 ha, xt_l6 ha, xl_l6 ha, tg_l6 ha, ln_l6 ha, xt_l7 ha, xl_l7 ha, tg_l7 ha, ln_l7 ha, tg_l8 ha, ln_l8 ha, rbs_cc ha, rbn_cc ha, sh_c ha, p2]
  refine hQ _ (fun c hc => by simp (disch := omega) only [uI_o]) ?_
  unfold CB bF
  simp (disch := omega) only [gs_o, gs_s, gs_r, vn_o, vn_s]
  refine ⟨⟨?_, ?_, ?_, ?_, ?_, ?_⟩, fun t ht => ?_, fun k hk => ?_, fun t ht => ?_, fun t ht => ?_, fun k hk => ?_, fun k hk => ?_⟩
  · simp (disch := omega) only [gs_o, gs_s, gs_r, vn_o, vn_s, uI_o, uI_s, uI_r]
    exact p0
  · simp (disch := omega) only [gs_o, gs_s, gs_r, vn_o, vn_s, uI_o, uI_s, uI_r]
    exact p1
  · simp (disch := omega) only [gs_o, gs_s, gs_r, vn_o, vn_s, uI_o, uI_s, uI_r]
  · simp (disch := omega) only [gs_o, gs_s, gs_r, vn_o, vn_s, uI_o, uI_s, uI_r]
    exact p3
  · simp (disch := omega) only [gs_o, gs_s, gs_r, vn_o, vn_s, uI_o, uI_s, uI_r]
    exact p4
  · simp (disch := omega) only [gs_o, gs_s, gs_r, vn_o, vn_s, uI_o, uI_s, uI_r]
    exact p5
  · simp (disch := omega) only [gs_o, gs_s, gs_r, vn_o, vn_s, uI_o, uI_s, uI_r]
    exact h1 t ht
  · simp (disch := omega) only [gs_o, gs_s, gs_r, vn_o, vn_s, uI_o, uI_s, uI_r]
    exact h2 k hk
  · simp (disch := omega) only [gs_o, gs_s, gs_r, vn_o, vn_s, uI_o, uI_s, uI_r]
    exact h3 t ht
  · simp (disch := omega) only [gs_o, gs_s, gs_r, vn_o, vn_s, uI_o, uI_s, uI_r]
    exact h4 t ht
  · rcases (show k < 3 * b 0 4 ∨ k = 3 * b 0 4 ∨ k = 3 * b 0 4 + 1 ∨ k = 3 * b 0 4 + 2 by omega) with e | e | e | e
    · simp (disch := omega) only [gs_o, gs_s, gs_r, vn_o, vn_s, uI_o, uI_s, uI_r]
      exact h5 k e
    · rw [e]; simp (disch := omega) only [gs_o, gs_s, gs_r, vn_o, vn_s, uI_o, uI_s, uI_r]
    · rw [e]; simp (disch := omega) only [gs_o, gs_s, gs_r, vn_o, vn_s, uI_o, uI_s, uI_r]
    · rw [e]; simp (disch := omega) only [gs_o, gs_s, gs_r, vn_o, vn_s, uI_o, uI_s, uI_r]
  · simp (disch := omega) only [gs_o, gs_s, gs_r, vn_o, vn_s, uI_o, uI_s, uI_r]
    exact h6 k hk
end CBuild
