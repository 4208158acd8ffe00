/-! ===== changes of a land (printed by gen_up.py) ===== -/
def gS (g : Nat → Nat → Nat) (i k n : Nat) : Nat → Nat → Nat := va_up g i (va_up (g i) k n)
def vS (v : Nat → Nat → Int32) (i k : Nat) (x : Int32) : Nat → Nat → Int32 := va_up v i (va_up (v i) k x)
theorem gs_o {g : Nat → Nat → Nat} {i k n j : Nat} (h : j ≠ i) : gS g i k n j = g j := by simp [gS, va_up, h]
theorem gs_s {g : Nat → Nat → Nat} {i k n j m : Nat} (h : j = i ∧ m = k) : gS g i k n j m = n := by obtain ⟨rfl, rfl⟩ := h; simp [gS, va_up]
theorem gs_r {g : Nat → Nat → Nat} {i k n j m : Nat} (h : j = i ∧ m ≠ k) : gS g i k n j m = g j m := by obtain ⟨rfl, h⟩ := h; simp [gS, va_up, h]
theorem vs_o {g : Nat → Nat → Int32} {i k j : Nat} {n : Int32} (h : j ≠ i) : vS g i k n j = g j := by simp [vS, va_up, h]
theorem vs_s {g : Nat → Nat → Int32} {i k j m : Nat} {n : Int32} (h : j = i ∧ m = k) : vS g i k n j m = n := by obtain ⟨rfl, rfl⟩ := h; simp [vS, va_up]
theorem vs_r {g : Nat → Nat → Int32} {i k j m : Nat} {n : Int32} (h : j = i ∧ m ≠ k) : vS g i k n j m = g j m := by obtain ⟨rfl, h⟩ := h; simp [vS, va_up, h]
theorem upd_s {f : Nat → Int32} {k j : Nat} {x : Int32} (h : j = k) : upd f k x j = x := by subst h; simp [upd]
theorem upd_o {f : Nat → Int32} {k j : Nat} {x : Int32} (h : j ≠ k) : upd f k x j = f j := by simp [upd, h]
theorem uI_u {I : Nat → Nat → Int32} {a k b : Nat} {x : Int32} (h : b = a) : uI I a k x b = upd (I a) k x := by subst h; simp [uI, va_up]
section Up
variable {I : Nat → Nat → Int32} {g : Nat → Nat → Nat} {v : Nat → Nat → Int32} {a c k n : Nat} {x : Int32} {L N : Nat → Int32}
theorem CW_day (hG : GW g) (h : CW I a g v) : CW (uI I a 12 x) a g (vS v 0 0 x) := by
  have h0 := hG.n
  obtain ⟨⟨p0, p1, p2, p3, p4, p5⟩, h1, h2, h3, h4, h5, h6, h7, h8⟩ := h
  refine ⟨⟨?_, ?_, ?_, ?_, ?_, ?_⟩, fun t ht => ?_, fun t ht => ?_, fun t ht => ?_, fun t ht => ?_, fun t ht => ?_, fun t ht => ?_, fun t ht => ?_, fun t ht => ?_⟩
  · (try simp (disch := omega) only [gs_o, gs_s, gs_r, vs_o, vs_s, vs_r, upd_s, upd_o, uI_o, uI_s, uI_r, oaF]); exact p0
  · (try simp (disch := omega) only [gs_o, gs_s, gs_r, vs_o, vs_s, vs_r, upd_s, upd_o, uI_o, uI_s, uI_r, oaF]); exact p1
  · (try simp (disch := omega) only [gs_o, gs_s, gs_r, vs_o, vs_s, vs_r, upd_s, upd_o, uI_o, uI_s, uI_r, oaF]); exact p2
  · (try simp (disch := omega) only [gs_o, gs_s, gs_r, vs_o, vs_s, vs_r, upd_s, upd_o, uI_o, uI_s, uI_r, oaF]); exact p3
  · simp (disch := omega) only [gs_o, gs_s, gs_r, vs_o, vs_s, vs_r, upd_s, upd_o, uI_o, uI_s, uI_r, oaF]
  · (try simp (disch := omega) only [gs_o, gs_s, gs_r, vs_o, vs_s, vs_r, upd_s, upd_o, uI_o, uI_s, uI_r, oaF]); exact p5
  · (try simp (disch := omega) only [gs_o, gs_s, gs_r, vs_o, vs_s, vs_r, upd_s, upd_o, uI_o, uI_s, uI_r, oaF] at ht); have q := h1 t (by omega); (try simp (disch := omega) only [gs_o, gs_s, gs_r, vs_o, vs_s, vs_r, upd_s, upd_o, uI_o, uI_s, uI_r, oaF]); exact q
  · (try simp (disch := omega) only [gs_o, gs_s, gs_r, vs_o, vs_s, vs_r, upd_s, upd_o, uI_o, uI_s, uI_r, oaF] at ht); have q := h2 t (by omega); (try simp (disch := omega) only [gs_o, gs_s, gs_r, vs_o, vs_s, vs_r, upd_s, upd_o, uI_o, uI_s, uI_r, oaF]); exact q
  · (try simp (disch := omega) only [gs_o, gs_s, gs_r, vs_o, vs_s, vs_r, upd_s, upd_o, uI_o, uI_s, uI_r, oaF] at ht); have q := h3 t (by omega); (try simp (disch := omega) only [gs_o, gs_s, gs_r, vs_o, vs_s, vs_r, upd_s, upd_o, uI_o, uI_s, uI_r, oaF]); exact q
  · (try simp (disch := omega) only [gs_o, gs_s, gs_r, vs_o, vs_s, vs_r, upd_s, upd_o, uI_o, uI_s, uI_r, oaF] at ht); have q := h4 t (by omega); (try simp (disch := omega) only [gs_o, gs_s, gs_r, vs_o, vs_s, vs_r, upd_s, upd_o, uI_o, uI_s, uI_r, oaF]); exact q
  · (try simp (disch := omega) only [gs_o, gs_s, gs_r, vs_o, vs_s, vs_r, upd_s, upd_o, uI_o, uI_s, uI_r, oaF] at ht); have q := h5 t (by omega); (try simp (disch := omega) only [gs_o, gs_s, gs_r, vs_o, vs_s, vs_r, upd_s, upd_o, uI_o, uI_s, uI_r, oaF]); exact q
  · (try simp (disch := omega) only [gs_o, gs_s, gs_r, vs_o, vs_s, vs_r, upd_s, upd_o, uI_o, uI_s, uI_r, oaF] at ht); have q := h6 t (by omega); (try simp (disch := omega) only [gs_o, gs_s, gs_r, vs_o, vs_s, vs_r, upd_s, upd_o, uI_o, uI_s, uI_r, oaF]); exact q
  · (try simp (disch := omega) only [gs_o, gs_s, gs_r, vs_o, vs_s, vs_r, upd_s, upd_o, uI_o, uI_s, uI_r, oaF] at ht); have q := h7 t (by omega); (try simp (disch := omega) only [gs_o, gs_s, gs_r, vs_o, vs_s, vs_r, upd_s, upd_o, uI_o, uI_s, uI_r, oaF]); exact q
  · (try simp (disch := omega) only [gs_o, gs_s, gs_r, vs_o, vs_s, vs_r, upd_s, upd_o, uI_o, uI_s, uI_r, oaF] at ht); have q := h8 t (by omega); (try simp (disch := omega) only [gs_o, gs_s, gs_r, vs_o, vs_s, vs_r, upd_s, upd_o, uI_o, uI_s, uI_r, oaF]); exact q
theorem CW_sz (hG : GW g) (h : CW I a g v) : CW (uI I a 13 x) a g (vS v 0 1 x) := by
  have h0 := hG.n
  obtain ⟨⟨p0, p1, p2, p3, p4, p5⟩, h1, h2, h3, h4, h5, h6, h7, h8⟩ := h
  refine ⟨⟨?_, ?_, ?_, ?_, ?_, ?_⟩, fun t ht => ?_, fun t ht => ?_, fun t ht => ?_, fun t ht => ?_, fun t ht => ?_, fun t ht => ?_, fun t ht => ?_, fun t ht => ?_⟩
  · (try simp (disch := omega) only [gs_o, gs_s, gs_r, vs_o, vs_s, vs_r, upd_s, upd_o, uI_o, uI_s, uI_r, oaF]); exact p0
  · (try simp (disch := omega) only [gs_o, gs_s, gs_r, vs_o, vs_s, vs_r, upd_s, upd_o, uI_o, uI_s, uI_r, oaF]); exact p1
  · (try simp (disch := omega) only [gs_o, gs_s, gs_r, vs_o, vs_s, vs_r, upd_s, upd_o, uI_o, uI_s, uI_r, oaF]); exact p2
  · (try simp (disch := omega) only [gs_o, gs_s, gs_r, vs_o, vs_s, vs_r, upd_s, upd_o, uI_o, uI_s, uI_r, oaF]); exact p3
  · (try simp (disch := omega) only [gs_o, gs_s, gs_r, vs_o, vs_s, vs_r, upd_s, upd_o, uI_o, uI_s, uI_r, oaF]); exact p4
  · simp (disch := omega) only [gs_o, gs_s, gs_r, vs_o, vs_s, vs_r, upd_s, upd_o, uI_o, uI_s, uI_r, oaF]
  · (try simp (disch := omega) only [gs_o, gs_s, gs_r, vs_o, vs_s, vs_r, upd_s, upd_o, uI_o, uI_s, uI_r, oaF] at ht); have q := h1 t (by omega); (try simp (disch := omega) only [gs_o, gs_s, gs_r, vs_o, vs_s, vs_r, upd_s, upd_o, uI_o, uI_s, uI_r, oaF]); exact q
  · (try simp (disch := omega) only [gs_o, gs_s, gs_r, vs_o, vs_s, vs_r, upd_s, upd_o, uI_o, uI_s, uI_r, oaF] at ht); have q := h2 t (by omega); (try simp (disch := omega) only [gs_o, gs_s, gs_r, vs_o, vs_s, vs_r, upd_s, upd_o, uI_o, uI_s, uI_r, oaF]); exact q
  · (try simp (disch := omega) only [gs_o, gs_s, gs_r, vs_o, vs_s, vs_r, upd_s, upd_o, uI_o, uI_s, uI_r, oaF] at ht); have q := h3 t (by omega); (try simp (disch := omega) only [gs_o, gs_s, gs_r, vs_o, vs_s, vs_r, upd_s, upd_o, uI_o, uI_s, uI_r, oaF]); exact q
  · (try simp (disch := omega) only [gs_o, gs_s, gs_r, vs_o, vs_s, vs_r, upd_s, upd_o, uI_o, uI_s, uI_r, oaF] at ht); have q := h4 t (by omega); (try simp (disch := omega) only [gs_o, gs_s, gs_r, vs_o, vs_s, vs_r, upd_s, upd_o, uI_o, uI_s, uI_r, oaF]); exact q
  · (try simp (disch := omega) only [gs_o, gs_s, gs_r, vs_o, vs_s, vs_r, upd_s, upd_o, uI_o, uI_s, uI_r, oaF] at ht); have q := h5 t (by omega); (try simp (disch := omega) only [gs_o, gs_s, gs_r, vs_o, vs_s, vs_r, upd_s, upd_o, uI_o, uI_s, uI_r, oaF]); exact q
  · (try simp (disch := omega) only [gs_o, gs_s, gs_r, vs_o, vs_s, vs_r, upd_s, upd_o, uI_o, uI_s, uI_r, oaF] at ht); have q := h6 t (by omega); (try simp (disch := omega) only [gs_o, gs_s, gs_r, vs_o, vs_s, vs_r, upd_s, upd_o, uI_o, uI_s, uI_r, oaF]); exact q
  · (try simp (disch := omega) only [gs_o, gs_s, gs_r, vs_o, vs_s, vs_r, upd_s, upd_o, uI_o, uI_s, uI_r, oaF] at ht); have q := h7 t (by omega); (try simp (disch := omega) only [gs_o, gs_s, gs_r, vs_o, vs_s, vs_r, upd_s, upd_o, uI_o, uI_s, uI_r, oaF]); exact q
  · (try simp (disch := omega) only [gs_o, gs_s, gs_r, vs_o, vs_s, vs_r, upd_s, upd_o, uI_o, uI_s, uI_r, oaF] at ht); have q := h8 t (by omega); (try simp (disch := omega) only [gs_o, gs_s, gs_r, vs_o, vs_s, vs_r, upd_s, upd_o, uI_o, uI_s, uI_r, oaF]); exact q
theorem CW_pl (hG : GW g) (h : CW I a g v) (hk : k < g 0 1) : CW (uI I (a + 7) k (nI n)) a (gS g 5 k n) v := by
  have h0 := hG.n
  obtain ⟨⟨p0, p1, p2, p3, p4, p5⟩, h1, h2, h3, h4, h5, h6, h7, h8⟩ := h
  refine ⟨⟨?_, ?_, ?_, ?_, ?_, ?_⟩, fun t ht => ?_, fun t ht => ?_, fun t ht => ?_, fun t ht => ?_, fun t ht => ?_, fun t ht => ?_, fun t ht => ?_, fun t ht => ?_⟩
  · (try simp (disch := omega) only [gs_o, gs_s, gs_r, vs_o, vs_s, vs_r, upd_s, upd_o, uI_o, uI_s, uI_r, oaF]); exact p0
  · (try simp (disch := omega) only [gs_o, gs_s, gs_r, vs_o, vs_s, vs_r, upd_s, upd_o, uI_o, uI_s, uI_r, oaF]); exact p1
  · (try simp (disch := omega) only [gs_o, gs_s, gs_r, vs_o, vs_s, vs_r, upd_s, upd_o, uI_o, uI_s, uI_r, oaF]); exact p2
  · (try simp (disch := omega) only [gs_o, gs_s, gs_r, vs_o, vs_s, vs_r, upd_s, upd_o, uI_o, uI_s, uI_r, oaF]); exact p3
  · (try simp (disch := omega) only [gs_o, gs_s, gs_r, vs_o, vs_s, vs_r, upd_s, upd_o, uI_o, uI_s, uI_r, oaF]); exact p4
  · (try simp (disch := omega) only [gs_o, gs_s, gs_r, vs_o, vs_s, vs_r, upd_s, upd_o, uI_o, uI_s, uI_r, oaF]); exact p5
  · (try simp (disch := omega) only [gs_o, gs_s, gs_r, vs_o, vs_s, vs_r, upd_s, upd_o, uI_o, uI_s, uI_r, oaF] at ht); have q := h1 t (by omega); (try simp (disch := omega) only [gs_o, gs_s, gs_r, vs_o, vs_s, vs_r, upd_s, upd_o, uI_o, uI_s, uI_r, oaF]); exact q
  · (try simp (disch := omega) only [gs_o, gs_s, gs_r, vs_o, vs_s, vs_r, upd_s, upd_o, uI_o, uI_s, uI_r, oaF] at ht); have q := h2 t (by omega); (try simp (disch := omega) only [gs_o, gs_s, gs_r, vs_o, vs_s, vs_r, upd_s, upd_o, uI_o, uI_s, uI_r, oaF]); exact q
  · (try simp (disch := omega) only [gs_o, gs_s, gs_r, vs_o, vs_s, vs_r, upd_s, upd_o, uI_o, uI_s, uI_r, oaF] at ht); have q := h3 t (by omega); (try simp (disch := omega) only [gs_o, gs_s, gs_r, vs_o, vs_s, vs_r, upd_s, upd_o, uI_o, uI_s, uI_r, oaF]); exact q
  · (try simp (disch := omega) only [gs_o, gs_s, gs_r, vs_o, vs_s, vs_r, upd_s, upd_o, uI_o, uI_s, uI_r, oaF] at ht); have q := h4 t (by omega); (try simp (disch := omega) only [gs_o, gs_s, gs_r, vs_o, vs_s, vs_r, upd_s, upd_o, uI_o, uI_s, uI_r, oaF]); exact q
  · (try simp (disch := omega) only [gs_o, gs_s, gs_r, vs_o, vs_s, vs_r, upd_s, upd_o, uI_o, uI_s, uI_r, oaF] at ht); have q := h5 t (by omega); (try simp (disch := omega) only [gs_o, gs_s, gs_r, vs_o, vs_s, vs_r, upd_s, upd_o, uI_o, uI_s, uI_r, oaF]); exact q
  · (try simp (disch := omega) only [gs_o, gs_s, gs_r, vs_o, vs_s, vs_r, upd_s, upd_o, uI_o, uI_s, uI_r, oaF] at ht); have q := h6 t (by omega); (try simp (disch := omega) only [gs_o, gs_s, gs_r, vs_o, vs_s, vs_r, upd_s, upd_o, uI_o, uI_s, uI_r, oaF]); exact q
  · by_cases e : t = k
    · subst e; (try simp (disch := omega) only [gs_o, gs_s, gs_r, vs_o, vs_s, vs_r, upd_s, upd_o, uI_o, uI_s, uI_r, oaF] at ht); have q := h7 t (by omega); (try simp (disch := omega) only [gs_o, gs_s, gs_r, vs_o, vs_s, vs_r, upd_s, upd_o, uI_o, uI_s, uI_r, oaF]); (try simp (disch := omega) only [q]); (try simp)
    · (try simp (disch := omega) only [gs_o, gs_s, gs_r, vs_o, vs_s, vs_r, upd_s, upd_o, uI_o, uI_s, uI_r, oaF] at ht); have q := h7 t (by omega); (try simp (disch := omega) only [gs_o, gs_s, gs_r, vs_o, vs_s, vs_r, upd_s, upd_o, uI_o, uI_s, uI_r, oaF]); exact q
  · (try simp (disch := omega) only [gs_o, gs_s, gs_r, vs_o, vs_s, vs_r, upd_s, upd_o, uI_o, uI_s, uI_r, oaF] at ht); have q := h8 t (by omega); (try simp (disch := omega) only [gs_o, gs_s, gs_r, vs_o, vs_s, vs_r, upd_s, upd_o, uI_o, uI_s, uI_r, oaF]); exact q
theorem CW_pc (hG : GW g) (h : CW I a g v) (hk : k < g 0 0) : CW (uI I (a + 4) k (nI n)) a (gS g 3 k n) v := by
  have h0 := hG.n
  obtain ⟨⟨p0, p1, p2, p3, p4, p5⟩, h1, h2, h3, h4, h5, h6, h7, h8⟩ := h
  refine ⟨⟨?_, ?_, ?_, ?_, ?_, ?_⟩, fun t ht => ?_, fun t ht => ?_, fun t ht => ?_, fun t ht => ?_, fun t ht => ?_, fun t ht => ?_, fun t ht => ?_, fun t ht => ?_⟩
  · (try simp (disch := omega) only [gs_o, gs_s, gs_r, vs_o, vs_s, vs_r, upd_s, upd_o, uI_o, uI_s, uI_r, oaF]); exact p0
  · (try simp (disch := omega) only [gs_o, gs_s, gs_r, vs_o, vs_s, vs_r, upd_s, upd_o, uI_o, uI_s, uI_r, oaF]); exact p1
  · (try simp (disch := omega) only [gs_o, gs_s, gs_r, vs_o, vs_s, vs_r, upd_s, upd_o, uI_o, uI_s, uI_r, oaF]); exact p2
  · (try simp (disch := omega) only [gs_o, gs_s, gs_r, vs_o, vs_s, vs_r, upd_s, upd_o, uI_o, uI_s, uI_r, oaF]); exact p3
  · (try simp (disch := omega) only [gs_o, gs_s, gs_r, vs_o, vs_s, vs_r, upd_s, upd_o, uI_o, uI_s, uI_r, oaF]); exact p4
  · (try simp (disch := omega) only [gs_o, gs_s, gs_r, vs_o, vs_s, vs_r, upd_s, upd_o, uI_o, uI_s, uI_r, oaF]); exact p5
  · (try simp (disch := omega) only [gs_o, gs_s, gs_r, vs_o, vs_s, vs_r, upd_s, upd_o, uI_o, uI_s, uI_r, oaF] at ht); have q := h1 t (by omega); (try simp (disch := omega) only [gs_o, gs_s, gs_r, vs_o, vs_s, vs_r, upd_s, upd_o, uI_o, uI_s, uI_r, oaF]); exact q
  · (try simp (disch := omega) only [gs_o, gs_s, gs_r, vs_o, vs_s, vs_r, upd_s, upd_o, uI_o, uI_s, uI_r, oaF] at ht); have q := h2 t (by omega); (try simp (disch := omega) only [gs_o, gs_s, gs_r, vs_o, vs_s, vs_r, upd_s, upd_o, uI_o, uI_s, uI_r, oaF]); exact q
  · by_cases e : t = k
    · subst e; (try simp (disch := omega) only [gs_o, gs_s, gs_r, vs_o, vs_s, vs_r, upd_s, upd_o, uI_o, uI_s, uI_r, oaF] at ht); have q := h3 t (by omega); (try simp (disch := omega) only [gs_o, gs_s, gs_r, vs_o, vs_s, vs_r, upd_s, upd_o, uI_o, uI_s, uI_r, oaF]); (try simp (disch := omega) only [q]); (try simp)
    · (try simp (disch := omega) only [gs_o, gs_s, gs_r, vs_o, vs_s, vs_r, upd_s, upd_o, uI_o, uI_s, uI_r, oaF] at ht); have q := h3 t (by omega); (try simp (disch := omega) only [gs_o, gs_s, gs_r, vs_o, vs_s, vs_r, upd_s, upd_o, uI_o, uI_s, uI_r, oaF]); exact q
  · (try simp (disch := omega) only [gs_o, gs_s, gs_r, vs_o, vs_s, vs_r, upd_s, upd_o, uI_o, uI_s, uI_r, oaF] at ht); have q := h4 t (by omega); (try simp (disch := omega) only [gs_o, gs_s, gs_r, vs_o, vs_s, vs_r, upd_s, upd_o, uI_o, uI_s, uI_r, oaF]); exact q
  · (try simp (disch := omega) only [gs_o, gs_s, gs_r, vs_o, vs_s, vs_r, upd_s, upd_o, uI_o, uI_s, uI_r, oaF] at ht); have q := h5 t (by omega); (try simp (disch := omega) only [gs_o, gs_s, gs_r, vs_o, vs_s, vs_r, upd_s, upd_o, uI_o, uI_s, uI_r, oaF]); exact q
  · (try simp (disch := omega) only [gs_o, gs_s, gs_r, vs_o, vs_s, vs_r, upd_s, upd_o, uI_o, uI_s, uI_r, oaF] at ht); have q := h6 t (by omega); (try simp (disch := omega) only [gs_o, gs_s, gs_r, vs_o, vs_s, vs_r, upd_s, upd_o, uI_o, uI_s, uI_r, oaF]); exact q
  · (try simp (disch := omega) only [gs_o, gs_s, gs_r, vs_o, vs_s, vs_r, upd_s, upd_o, uI_o, uI_s, uI_r, oaF] at ht); have q := h7 t (by omega); (try simp (disch := omega) only [gs_o, gs_s, gs_r, vs_o, vs_s, vs_r, upd_s, upd_o, uI_o, uI_s, uI_r, oaF]); exact q
  · (try simp (disch := omega) only [gs_o, gs_s, gs_r, vs_o, vs_s, vs_r, upd_s, upd_o, uI_o, uI_s, uI_r, oaF] at ht); have q := h8 t (by omega); (try simp (disch := omega) only [gs_o, gs_s, gs_r, vs_o, vs_s, vs_r, upd_s, upd_o, uI_o, uI_s, uI_r, oaF]); exact q
theorem CW_sum (hG : GW g) (h : CW I a g v) (hc : c < g 0 3) : CW (uI I (a + 9 + c) 2 x) a g (vS v 3 c x) := by
  have h0 := hG.n
  obtain ⟨⟨p0, p1, p2, p3, p4, p5⟩, h1, h2, h3, h4, h5, h6, h7, h8⟩ := h
  refine ⟨⟨?_, ?_, ?_, ?_, ?_, ?_⟩, fun t ht => ?_, fun t ht => ?_, fun t ht => ?_, fun t ht => ?_, fun t ht => ?_, fun t ht => ?_, fun t ht => ?_, fun t ht => ?_⟩
  · (try simp (disch := omega) only [gs_o, gs_s, gs_r, vs_o, vs_s, vs_r, upd_s, upd_o, uI_o, uI_s, uI_r, oaF]); exact p0
  · (try simp (disch := omega) only [gs_o, gs_s, gs_r, vs_o, vs_s, vs_r, upd_s, upd_o, uI_o, uI_s, uI_r, oaF]); exact p1
  · (try simp (disch := omega) only [gs_o, gs_s, gs_r, vs_o, vs_s, vs_r, upd_s, upd_o, uI_o, uI_s, uI_r, oaF]); exact p2
  · (try simp (disch := omega) only [gs_o, gs_s, gs_r, vs_o, vs_s, vs_r, upd_s, upd_o, uI_o, uI_s, uI_r, oaF]); exact p3
  · (try simp (disch := omega) only [gs_o, gs_s, gs_r, vs_o, vs_s, vs_r, upd_s, upd_o, uI_o, uI_s, uI_r, oaF]); exact p4
  · (try simp (disch := omega) only [gs_o, gs_s, gs_r, vs_o, vs_s, vs_r, upd_s, upd_o, uI_o, uI_s, uI_r, oaF]); exact p5
  · (try simp (disch := omega) only [gs_o, gs_s, gs_r, vs_o, vs_s, vs_r, upd_s, upd_o, uI_o, uI_s, uI_r, oaF] at ht); have q := h1 t (by omega); (try simp (disch := omega) only [gs_o, gs_s, gs_r, vs_o, vs_s, vs_r, upd_s, upd_o, uI_o, uI_s, uI_r, oaF]); exact q
  · (try simp (disch := omega) only [gs_o, gs_s, gs_r, vs_o, vs_s, vs_r, upd_s, upd_o, uI_o, uI_s, uI_r, oaF] at ht); have q := h2 t (by omega); (try simp (disch := omega) only [gs_o, gs_s, gs_r, vs_o, vs_s, vs_r, upd_s, upd_o, uI_o, uI_s, uI_r, oaF]); exact q
  · (try simp (disch := omega) only [gs_o, gs_s, gs_r, vs_o, vs_s, vs_r, upd_s, upd_o, uI_o, uI_s, uI_r, oaF] at ht); have q := h3 t (by omega); (try simp (disch := omega) only [gs_o, gs_s, gs_r, vs_o, vs_s, vs_r, upd_s, upd_o, uI_o, uI_s, uI_r, oaF]); exact q
  · (try simp (disch := omega) only [gs_o, gs_s, gs_r, vs_o, vs_s, vs_r, upd_s, upd_o, uI_o, uI_s, uI_r, oaF] at ht); have q := h4 t (by omega); (try simp (disch := omega) only [gs_o, gs_s, gs_r, vs_o, vs_s, vs_r, upd_s, upd_o, uI_o, uI_s, uI_r, oaF]); exact q
  · (try simp (disch := omega) only [gs_o, gs_s, gs_r, vs_o, vs_s, vs_r, upd_s, upd_o, uI_o, uI_s, uI_r, oaF] at ht); have q := h5 t (by omega); (try simp (disch := omega) only [gs_o, gs_s, gs_r, vs_o, vs_s, vs_r, upd_s, upd_o, uI_o, uI_s, uI_r, oaF]); exact q
  · (try simp (disch := omega) only [gs_o, gs_s, gs_r, vs_o, vs_s, vs_r, upd_s, upd_o, uI_o, uI_s, uI_r, oaF] at ht); have q := h6 t (by omega); (try simp (disch := omega) only [gs_o, gs_s, gs_r, vs_o, vs_s, vs_r, upd_s, upd_o, uI_o, uI_s, uI_r, oaF]); exact q
  · (try simp (disch := omega) only [gs_o, gs_s, gs_r, vs_o, vs_s, vs_r, upd_s, upd_o, uI_o, uI_s, uI_r, oaF] at ht); have q := h7 t (by omega); (try simp (disch := omega) only [gs_o, gs_s, gs_r, vs_o, vs_s, vs_r, upd_s, upd_o, uI_o, uI_s, uI_r, oaF]); exact q
  · by_cases e : t = c
    · subst e; (try simp (disch := omega) only [gs_o, gs_s, gs_r, vs_o, vs_s, vs_r, upd_s, upd_o, uI_o, uI_s, uI_r, oaF] at ht); have q := h8 t (by omega); (try simp (disch := omega) only [gs_o, gs_s, gs_r, vs_o, vs_s, vs_r, upd_s, upd_o, uI_o, uI_s, uI_r, oaF]); (try simp (disch := omega) only [q]); (try simp)
    · (try simp (disch := omega) only [gs_o, gs_s, gs_r, vs_o, vs_s, vs_r, upd_s, upd_o, uI_o, uI_s, uI_r, oaF] at ht); have q := h8 t (by omega); (try simp (disch := omega) only [gs_o, gs_s, gs_r, vs_o, vs_s, vs_r, upd_s, upd_o, uI_o, uI_s, uI_r, oaF]); exact q
theorem CW_left (hG : GW g) (h : CW I a g v) (hc : c < g 0 3) : CW (uI I (a + 9 + c) 3 (nI n)) a (gS g 8 c n) v := by
  have h0 := hG.n
  obtain ⟨⟨p0, p1, p2, p3, p4, p5⟩, h1, h2, h3, h4, h5, h6, h7, h8⟩ := h
  refine ⟨⟨?_, ?_, ?_, ?_, ?_, ?_⟩, fun t ht => ?_, fun t ht => ?_, fun t ht => ?_, fun t ht => ?_, fun t ht => ?_, fun t ht => ?_, fun t ht => ?_, fun t ht => ?_⟩
  · (try simp (disch := omega) only [gs_o, gs_s, gs_r, vs_o, vs_s, vs_r, upd_s, upd_o, uI_o, uI_s, uI_r, oaF]); exact p0
  · (try simp (disch := omega) only [gs_o, gs_s, gs_r, vs_o, vs_s, vs_r, upd_s, upd_o, uI_o, uI_s, uI_r, oaF]); exact p1
  · (try simp (disch := omega) only [gs_o, gs_s, gs_r, vs_o, vs_s, vs_r, upd_s, upd_o, uI_o, uI_s, uI_r, oaF]); exact p2
  · (try simp (disch := omega) only [gs_o, gs_s, gs_r, vs_o, vs_s, vs_r, upd_s, upd_o, uI_o, uI_s, uI_r, oaF]); exact p3
  · (try simp (disch := omega) only [gs_o, gs_s, gs_r, vs_o, vs_s, vs_r, upd_s, upd_o, uI_o, uI_s, uI_r, oaF]); exact p4
  · (try simp (disch := omega) only [gs_o, gs_s, gs_r, vs_o, vs_s, vs_r, upd_s, upd_o, uI_o, uI_s, uI_r, oaF]); exact p5
  · (try simp (disch := omega) only [gs_o, gs_s, gs_r, vs_o, vs_s, vs_r, upd_s, upd_o, uI_o, uI_s, uI_r, oaF] at ht); have q := h1 t (by omega); (try simp (disch := omega) only [gs_o, gs_s, gs_r, vs_o, vs_s, vs_r, upd_s, upd_o, uI_o, uI_s, uI_r, oaF]); exact q
  · (try simp (disch := omega) only [gs_o, gs_s, gs_r, vs_o, vs_s, vs_r, upd_s, upd_o, uI_o, uI_s, uI_r, oaF] at ht); have q := h2 t (by omega); (try simp (disch := omega) only [gs_o, gs_s, gs_r, vs_o, vs_s, vs_r, upd_s, upd_o, uI_o, uI_s, uI_r, oaF]); exact q
  · (try simp (disch := omega) only [gs_o, gs_s, gs_r, vs_o, vs_s, vs_r, upd_s, upd_o, uI_o, uI_s, uI_r, oaF] at ht); have q := h3 t (by omega); (try simp (disch := omega) only [gs_o, gs_s, gs_r, vs_o, vs_s, vs_r, upd_s, upd_o, uI_o, uI_s, uI_r, oaF]); exact q
  · (try simp (disch := omega) only [gs_o, gs_s, gs_r, vs_o, vs_s, vs_r, upd_s, upd_o, uI_o, uI_s, uI_r, oaF] at ht); have q := h4 t (by omega); (try simp (disch := omega) only [gs_o, gs_s, gs_r, vs_o, vs_s, vs_r, upd_s, upd_o, uI_o, uI_s, uI_r, oaF]); exact q
  · (try simp (disch := omega) only [gs_o, gs_s, gs_r, vs_o, vs_s, vs_r, upd_s, upd_o, uI_o, uI_s, uI_r, oaF] at ht); have q := h5 t (by omega); (try simp (disch := omega) only [gs_o, gs_s, gs_r, vs_o, vs_s, vs_r, upd_s, upd_o, uI_o, uI_s, uI_r, oaF]); exact q
  · (try simp (disch := omega) only [gs_o, gs_s, gs_r, vs_o, vs_s, vs_r, upd_s, upd_o, uI_o, uI_s, uI_r, oaF] at ht); have q := h6 t (by omega); (try simp (disch := omega) only [gs_o, gs_s, gs_r, vs_o, vs_s, vs_r, upd_s, upd_o, uI_o, uI_s, uI_r, oaF]); exact q
  · (try simp (disch := omega) only [gs_o, gs_s, gs_r, vs_o, vs_s, vs_r, upd_s, upd_o, uI_o, uI_s, uI_r, oaF] at ht); have q := h7 t (by omega); (try simp (disch := omega) only [gs_o, gs_s, gs_r, vs_o, vs_s, vs_r, upd_s, upd_o, uI_o, uI_s, uI_r, oaF]); exact q
  · by_cases e : t = c
    · subst e; (try simp (disch := omega) only [gs_o, gs_s, gs_r, vs_o, vs_s, vs_r, upd_s, upd_o, uI_o, uI_s, uI_r, oaF] at ht); have q := h8 t (by omega); (try simp (disch := omega) only [gs_o, gs_s, gs_r, vs_o, vs_s, vs_r, upd_s, upd_o, uI_o, uI_s, uI_r, oaF]); (try simp (disch := omega) only [q]); (try simp)
    · (try simp (disch := omega) only [gs_o, gs_s, gs_r, vs_o, vs_s, vs_r, upd_s, upd_o, uI_o, uI_s, uI_r, oaF] at ht); have q := h8 t (by omega); (try simp (disch := omega) only [gs_o, gs_s, gs_r, vs_o, vs_s, vs_r, upd_s, upd_o, uI_o, uI_s, uI_r, oaF]); exact q
theorem CW_ask (hG : GW g) (h : CW I a g v) (hc : c < g 0 3) : CW (uI I (a + 9 + c) 4 x) a g (vS v 4 c x) := by
  have h0 := hG.n
  obtain ⟨⟨p0, p1, p2, p3, p4, p5⟩, h1, h2, h3, h4, h5, h6, h7, h8⟩ := h
  refine ⟨⟨?_, ?_, ?_, ?_, ?_, ?_⟩, fun t ht => ?_, fun t ht => ?_, fun t ht => ?_, fun t ht => ?_, fun t ht => ?_, fun t ht => ?_, fun t ht => ?_, fun t ht => ?_⟩
  · (try simp (disch := omega) only [gs_o, gs_s, gs_r, vs_o, vs_s, vs_r, upd_s, upd_o, uI_o, uI_s, uI_r, oaF]); exact p0
  · (try simp (disch := omega) only [gs_o, gs_s, gs_r, vs_o, vs_s, vs_r, upd_s, upd_o, uI_o, uI_s, uI_r, oaF]); exact p1
  · (try simp (disch := omega) only [gs_o, gs_s, gs_r, vs_o, vs_s, vs_r, upd_s, upd_o, uI_o, uI_s, uI_r, oaF]); exact p2
  · (try simp (disch := omega) only [gs_o, gs_s, gs_r, vs_o, vs_s, vs_r, upd_s, upd_o, uI_o, uI_s, uI_r, oaF]); exact p3
  · (try simp (disch := omega) only [gs_o, gs_s, gs_r, vs_o, vs_s, vs_r, upd_s, upd_o, uI_o, uI_s, uI_r, oaF]); exact p4
  · (try simp (disch := omega) only [gs_o, gs_s, gs_r, vs_o, vs_s, vs_r, upd_s, upd_o, uI_o, uI_s, uI_r, oaF]); exact p5
  · (try simp (disch := omega) only [gs_o, gs_s, gs_r, vs_o, vs_s, vs_r, upd_s, upd_o, uI_o, uI_s, uI_r, oaF] at ht); have q := h1 t (by omega); (try simp (disch := omega) only [gs_o, gs_s, gs_r, vs_o, vs_s, vs_r, upd_s, upd_o, uI_o, uI_s, uI_r, oaF]); exact q
  · (try simp (disch := omega) only [gs_o, gs_s, gs_r, vs_o, vs_s, vs_r, upd_s, upd_o, uI_o, uI_s, uI_r, oaF] at ht); have q := h2 t (by omega); (try simp (disch := omega) only [gs_o, gs_s, gs_r, vs_o, vs_s, vs_r, upd_s, upd_o, uI_o, uI_s, uI_r, oaF]); exact q
  · (try simp (disch := omega) only [gs_o, gs_s, gs_r, vs_o, vs_s, vs_r, upd_s, upd_o, uI_o, uI_s, uI_r, oaF] at ht); have q := h3 t (by omega); (try simp (disch := omega) only [gs_o, gs_s, gs_r, vs_o, vs_s, vs_r, upd_s, upd_o, uI_o, uI_s, uI_r, oaF]); exact q
  · (try simp (disch := omega) only [gs_o, gs_s, gs_r, vs_o, vs_s, vs_r, upd_s, upd_o, uI_o, uI_s, uI_r, oaF] at ht); have q := h4 t (by omega); (try simp (disch := omega) only [gs_o, gs_s, gs_r, vs_o, vs_s, vs_r, upd_s, upd_o, uI_o, uI_s, uI_r, oaF]); exact q
  · (try simp (disch := omega) only [gs_o, gs_s, gs_r, vs_o, vs_s, vs_r, upd_s, upd_o, uI_o, uI_s, uI_r, oaF] at ht); have q := h5 t (by omega); (try simp (disch := omega) only [gs_o, gs_s, gs_r, vs_o, vs_s, vs_r, upd_s, upd_o, uI_o, uI_s, uI_r, oaF]); exact q
  · (try simp (disch := omega) only [gs_o, gs_s, gs_r, vs_o, vs_s, vs_r, upd_s, upd_o, uI_o, uI_s, uI_r, oaF] at ht); have q := h6 t (by omega); (try simp (disch := omega) only [gs_o, gs_s, gs_r, vs_o, vs_s, vs_r, upd_s, upd_o, uI_o, uI_s, uI_r, oaF]); exact q
  · (try simp (disch := omega) only [gs_o, gs_s, gs_r, vs_o, vs_s, vs_r, upd_s, upd_o, uI_o, uI_s, uI_r, oaF] at ht); have q := h7 t (by omega); (try simp (disch := omega) only [gs_o, gs_s, gs_r, vs_o, vs_s, vs_r, upd_s, upd_o, uI_o, uI_s, uI_r, oaF]); exact q
  · by_cases e : t = c
    · subst e; (try simp (disch := omega) only [gs_o, gs_s, gs_r, vs_o, vs_s, vs_r, upd_s, upd_o, uI_o, uI_s, uI_r, oaF] at ht); have q := h8 t (by omega); (try simp (disch := omega) only [gs_o, gs_s, gs_r, vs_o, vs_s, vs_r, upd_s, upd_o, uI_o, uI_s, uI_r, oaF]); (try simp (disch := omega) only [q]); (try simp)
    · (try simp (disch := omega) only [gs_o, gs_s, gs_r, vs_o, vs_s, vs_r, upd_s, upd_o, uI_o, uI_s, uI_r, oaF] at ht); have q := h8 t (by omega); (try simp (disch := omega) only [gs_o, gs_s, gs_r, vs_o, vs_s, vs_r, upd_s, upd_o, uI_o, uI_s, uI_r, oaF]); exact q
theorem CW_ld (hG : GW g) (h : CW I a g v) (hc : c < g 0 3) : CW (uI I (a + 9 + c) 5 x) a g (vS v 5 c x) := by
  have h0 := hG.n
  obtain ⟨⟨p0, p1, p2, p3, p4, p5⟩, h1, h2, h3, h4, h5, h6, h7, h8⟩ := h
  refine ⟨⟨?_, ?_, ?_, ?_, ?_, ?_⟩, fun t ht => ?_, fun t ht => ?_, fun t ht => ?_, fun t ht => ?_, fun t ht => ?_, fun t ht => ?_, fun t ht => ?_, fun t ht => ?_⟩
  · (try simp (disch := omega) only [gs_o, gs_s, gs_r, vs_o, vs_s, vs_r, upd_s, upd_o, uI_o, uI_s, uI_r, oaF]); exact p0
  · (try simp (disch := omega) only [gs_o, gs_s, gs_r, vs_o, vs_s, vs_r, upd_s, upd_o, uI_o, uI_s, uI_r, oaF]); exact p1
  · (try simp (disch := omega) only [gs_o, gs_s, gs_r, vs_o, vs_s, vs_r, upd_s, upd_o, uI_o, uI_s, uI_r, oaF]); exact p2
  · (try simp (disch := omega) only [gs_o, gs_s, gs_r, vs_o, vs_s, vs_r, upd_s, upd_o, uI_o, uI_s, uI_r, oaF]); exact p3
  · (try simp (disch := omega) only [gs_o, gs_s, gs_r, vs_o, vs_s, vs_r, upd_s, upd_o, uI_o, uI_s, uI_r, oaF]); exact p4
  · (try simp (disch := omega) only [gs_o, gs_s, gs_r, vs_o, vs_s, vs_r, upd_s, upd_o, uI_o, uI_s, uI_r, oaF]); exact p5
  · (try simp (disch := omega) only [gs_o, gs_s, gs_r, vs_o, vs_s, vs_r, upd_s, upd_o, uI_o, uI_s, uI_r, oaF] at ht); have q := h1 t (by omega); (try simp (disch := omega) only [gs_o, gs_s, gs_r, vs_o, vs_s, vs_r, upd_s, upd_o, uI_o, uI_s, uI_r, oaF]); exact q
  · (try simp (disch := omega) only [gs_o, gs_s, gs_r, vs_o, vs_s, vs_r, upd_s, upd_o, uI_o, uI_s, uI_r, oaF] at ht); have q := h2 t (by omega); (try simp (disch := omega) only [gs_o, gs_s, gs_r, vs_o, vs_s, vs_r, upd_s, upd_o, uI_o, uI_s, uI_r, oaF]); exact q
  · (try simp (disch := omega) only [gs_o, gs_s, gs_r, vs_o, vs_s, vs_r, upd_s, upd_o, uI_o, uI_s, uI_r, oaF] at ht); have q := h3 t (by omega); (try simp (disch := omega) only [gs_o, gs_s, gs_r, vs_o, vs_s, vs_r, upd_s, upd_o, uI_o, uI_s, uI_r, oaF]); exact q
  · (try simp (disch := omega) only [gs_o, gs_s, gs_r, vs_o, vs_s, vs_r, upd_s, upd_o, uI_o, uI_s, uI_r, oaF] at ht); have q := h4 t (by omega); (try simp (disch := omega) only [gs_o, gs_s, gs_r, vs_o, vs_s, vs_r, upd_s, upd_o, uI_o, uI_s, uI_r, oaF]); exact q
  · (try simp (disch := omega) only [gs_o, gs_s, gs_r, vs_o, vs_s, vs_r, upd_s, upd_o, uI_o, uI_s, uI_r, oaF] at ht); have q := h5 t (by omega); (try simp (disch := omega) only [gs_o, gs_s, gs_r, vs_o, vs_s, vs_r, upd_s, upd_o, uI_o, uI_s, uI_r, oaF]); exact q
  · (try simp (disch := omega) only [gs_o, gs_s, gs_r, vs_o, vs_s, vs_r, upd_s, upd_o, uI_o, uI_s, uI_r, oaF] at ht); have q := h6 t (by omega); (try simp (disch := omega) only [gs_o, gs_s, gs_r, vs_o, vs_s, vs_r, upd_s, upd_o, uI_o, uI_s, uI_r, oaF]); exact q
  · (try simp (disch := omega) only [gs_o, gs_s, gs_r, vs_o, vs_s, vs_r, upd_s, upd_o, uI_o, uI_s, uI_r, oaF] at ht); have q := h7 t (by omega); (try simp (disch := omega) only [gs_o, gs_s, gs_r, vs_o, vs_s, vs_r, upd_s, upd_o, uI_o, uI_s, uI_r, oaF]); exact q
  · by_cases e : t = c
    · subst e; (try simp (disch := omega) only [gs_o, gs_s, gs_r, vs_o, vs_s, vs_r, upd_s, upd_o, uI_o, uI_s, uI_r, oaF] at ht); have q := h8 t (by omega); (try simp (disch := omega) only [gs_o, gs_s, gs_r, vs_o, vs_s, vs_r, upd_s, upd_o, uI_o, uI_s, uI_r, oaF]); (try simp (disch := omega) only [q]); (try simp)
    · (try simp (disch := omega) only [gs_o, gs_s, gs_r, vs_o, vs_s, vs_r, upd_s, upd_o, uI_o, uI_s, uI_r, oaF] at ht); have q := h8 t (by omega); (try simp (disch := omega) only [gs_o, gs_s, gs_r, vs_o, vs_s, vs_r, upd_s, upd_o, uI_o, uI_s, uI_r, oaF]); exact q
theorem CW_ll (hG : GW g) (h : CW I a g v) (hc : c < g 0 3) : CW (uI I (a + 9 + c) 6 x) a g (vS v 6 c x) := by
  have h0 := hG.n
  obtain ⟨⟨p0, p1, p2, p3, p4, p5⟩, h1, h2, h3, h4, h5, h6, h7, h8⟩ := h
  refine ⟨⟨?_, ?_, ?_, ?_, ?_, ?_⟩, fun t ht => ?_, fun t ht => ?_, fun t ht => ?_, fun t ht => ?_, fun t ht => ?_, fun t ht => ?_, fun t ht => ?_, fun t ht => ?_⟩
  · (try simp (disch := omega) only [gs_o, gs_s, gs_r, vs_o, vs_s, vs_r, upd_s, upd_o, uI_o, uI_s, uI_r, oaF]); exact p0
  · (try simp (disch := omega) only [gs_o, gs_s, gs_r, vs_o, vs_s, vs_r, upd_s, upd_o, uI_o, uI_s, uI_r, oaF]); exact p1
  · (try simp (disch := omega) only [gs_o, gs_s, gs_r, vs_o, vs_s, vs_r, upd_s, upd_o, uI_o, uI_s, uI_r, oaF]); exact p2
  · (try simp (disch := omega) only [gs_o, gs_s, gs_r, vs_o, vs_s, vs_r, upd_s, upd_o, uI_o, uI_s, uI_r, oaF]); exact p3
  · (try simp (disch := omega) only [gs_o, gs_s, gs_r, vs_o, vs_s, vs_r, upd_s, upd_o, uI_o, uI_s, uI_r, oaF]); exact p4
  · (try simp (disch := omega) only [gs_o, gs_s, gs_r, vs_o, vs_s, vs_r, upd_s, upd_o, uI_o, uI_s, uI_r, oaF]); exact p5
  · (try simp (disch := omega) only [gs_o, gs_s, gs_r, vs_o, vs_s, vs_r, upd_s, upd_o, uI_o, uI_s, uI_r, oaF] at ht); have q := h1 t (by omega); (try simp (disch := omega) only [gs_o, gs_s, gs_r, vs_o, vs_s, vs_r, upd_s, upd_o, uI_o, uI_s, uI_r, oaF]); exact q
  · (try simp (disch := omega) only [gs_o, gs_s, gs_r, vs_o, vs_s, vs_r, upd_s, upd_o, uI_o, uI_s, uI_r, oaF] at ht); have q := h2 t (by omega); (try simp (disch := omega) only [gs_o, gs_s, gs_r, vs_o, vs_s, vs_r, upd_s, upd_o, uI_o, uI_s, uI_r, oaF]); exact q
  · (try simp (disch := omega) only [gs_o, gs_s, gs_r, vs_o, vs_s, vs_r, upd_s, upd_o, uI_o, uI_s, uI_r, oaF] at ht); have q := h3 t (by omega); (try simp (disch := omega) only [gs_o, gs_s, gs_r, vs_o, vs_s, vs_r, upd_s, upd_o, uI_o, uI_s, uI_r, oaF]); exact q
  · (try simp (disch := omega) only [gs_o, gs_s, gs_r, vs_o, vs_s, vs_r, upd_s, upd_o, uI_o, uI_s, uI_r, oaF] at ht); have q := h4 t (by omega); (try simp (disch := omega) only [gs_o, gs_s, gs_r, vs_o, vs_s, vs_r, upd_s, upd_o, uI_o, uI_s, uI_r, oaF]); exact q
  · (try simp (disch := omega) only [gs_o, gs_s, gs_r, vs_o, vs_s, vs_r, upd_s, upd_o, uI_o, uI_s, uI_r, oaF] at ht); have q := h5 t (by omega); (try simp (disch := omega) only [gs_o, gs_s, gs_r, vs_o, vs_s, vs_r, upd_s, upd_o, uI_o, uI_s, uI_r, oaF]); exact q
  · (try simp (disch := omega) only [gs_o, gs_s, gs_r, vs_o, vs_s, vs_r, upd_s, upd_o, uI_o, uI_s, uI_r, oaF] at ht); have q := h6 t (by omega); (try simp (disch := omega) only [gs_o, gs_s, gs_r, vs_o, vs_s, vs_r, upd_s, upd_o, uI_o, uI_s, uI_r, oaF]); exact q
  · (try simp (disch := omega) only [gs_o, gs_s, gs_r, vs_o, vs_s, vs_r, upd_s, upd_o, uI_o, uI_s, uI_r, oaF] at ht); have q := h7 t (by omega); (try simp (disch := omega) only [gs_o, gs_s, gs_r, vs_o, vs_s, vs_r, upd_s, upd_o, uI_o, uI_s, uI_r, oaF]); exact q
  · by_cases e : t = c
    · subst e; (try simp (disch := omega) only [gs_o, gs_s, gs_r, vs_o, vs_s, vs_r, upd_s, upd_o, uI_o, uI_s, uI_r, oaF] at ht); have q := h8 t (by omega); (try simp (disch := omega) only [gs_o, gs_s, gs_r, vs_o, vs_s, vs_r, upd_s, upd_o, uI_o, uI_s, uI_r, oaF]); (try simp (disch := omega) only [q]); (try simp)
    · (try simp (disch := omega) only [gs_o, gs_s, gs_r, vs_o, vs_s, vs_r, upd_s, upd_o, uI_o, uI_s, uI_r, oaF] at ht); have q := h8 t (by omega); (try simp (disch := omega) only [gs_o, gs_s, gs_r, vs_o, vs_s, vs_r, upd_s, upd_o, uI_o, uI_s, uI_r, oaF]); exact q
theorem CW_sw (hG : GW g) (h : CW I a g v) (hc : c < g 0 3) : CW (uI I (a + 9 + c) 8 (nI n)) a (gS g 9 c n) v := by
  have h0 := hG.n
  obtain ⟨⟨p0, p1, p2, p3, p4, p5⟩, h1, h2, h3, h4, h5, h6, h7, h8⟩ := h
  refine ⟨⟨?_, ?_, ?_, ?_, ?_, ?_⟩, fun t ht => ?_, fun t ht => ?_, fun t ht => ?_, fun t ht => ?_, fun t ht => ?_, fun t ht => ?_, fun t ht => ?_, fun t ht => ?_⟩
  · (try simp (disch := omega) only [gs_o, gs_s, gs_r, vs_o, vs_s, vs_r, upd_s, upd_o, uI_o, uI_s, uI_r, oaF]); exact p0
  · (try simp (disch := omega) only [gs_o, gs_s, gs_r, vs_o, vs_s, vs_r, upd_s, upd_o, uI_o, uI_s, uI_r, oaF]); exact p1
  · (try simp (disch := omega) only [gs_o, gs_s, gs_r, vs_o, vs_s, vs_r, upd_s, upd_o, uI_o, uI_s, uI_r, oaF]); exact p2
  · (try simp (disch := omega) only [gs_o, gs_s, gs_r, vs_o, vs_s, vs_r, upd_s, upd_o, uI_o, uI_s, uI_r, oaF]); exact p3
  · (try simp (disch := omega) only [gs_o, gs_s, gs_r, vs_o, vs_s, vs_r, upd_s, upd_o, uI_o, uI_s, uI_r, oaF]); exact p4
  · (try simp (disch := omega) only [gs_o, gs_s, gs_r, vs_o, vs_s, vs_r, upd_s, upd_o, uI_o, uI_s, uI_r, oaF]); exact p5
  · (try simp (disch := omega) only [gs_o, gs_s, gs_r, vs_o, vs_s, vs_r, upd_s, upd_o, uI_o, uI_s, uI_r, oaF] at ht); have q := h1 t (by omega); (try simp (disch := omega) only [gs_o, gs_s, gs_r, vs_o, vs_s, vs_r, upd_s, upd_o, uI_o, uI_s, uI_r, oaF]); exact q
  · (try simp (disch := omega) only [gs_o, gs_s, gs_r, vs_o, vs_s, vs_r, upd_s, upd_o, uI_o, uI_s, uI_r, oaF] at ht); have q := h2 t (by omega); (try simp (disch := omega) only [gs_o, gs_s, gs_r, vs_o, vs_s, vs_r, upd_s, upd_o, uI_o, uI_s, uI_r, oaF]); exact q
  · (try simp (disch := omega) only [gs_o, gs_s, gs_r, vs_o, vs_s, vs_r, upd_s, upd_o, uI_o, uI_s, uI_r, oaF] at ht); have q := h3 t (by omega); (try simp (disch := omega) only [gs_o, gs_s, gs_r, vs_o, vs_s, vs_r, upd_s, upd_o, uI_o, uI_s, uI_r, oaF]); exact q
  · (try simp (disch := omega) only [gs_o, gs_s, gs_r, vs_o, vs_s, vs_r, upd_s, upd_o, uI_o, uI_s, uI_r, oaF] at ht); have q := h4 t (by omega); (try simp (disch := omega) only [gs_o, gs_s, gs_r, vs_o, vs_s, vs_r, upd_s, upd_o, uI_o, uI_s, uI_r, oaF]); exact q
  · (try simp (disch := omega) only [gs_o, gs_s, gs_r, vs_o, vs_s, vs_r, upd_s, upd_o, uI_o, uI_s, uI_r, oaF] at ht); have q := h5 t (by omega); (try simp (disch := omega) only [gs_o, gs_s, gs_r, vs_o, vs_s, vs_r, upd_s, upd_o, uI_o, uI_s, uI_r, oaF]); exact q
  · (try simp (disch := omega) only [gs_o, gs_s, gs_r, vs_o, vs_s, vs_r, upd_s, upd_o, uI_o, uI_s, uI_r, oaF] at ht); have q := h6 t (by omega); (try simp (disch := omega) only [gs_o, gs_s, gs_r, vs_o, vs_s, vs_r, upd_s, upd_o, uI_o, uI_s, uI_r, oaF]); exact q
  · (try simp (disch := omega) only [gs_o, gs_s, gs_r, vs_o, vs_s, vs_r, upd_s, upd_o, uI_o, uI_s, uI_r, oaF] at ht); have q := h7 t (by omega); (try simp (disch := omega) only [gs_o, gs_s, gs_r, vs_o, vs_s, vs_r, upd_s, upd_o, uI_o, uI_s, uI_r, oaF]); exact q
  · by_cases e : t = c
    · subst e; (try simp (disch := omega) only [gs_o, gs_s, gs_r, vs_o, vs_s, vs_r, upd_s, upd_o, uI_o, uI_s, uI_r, oaF] at ht); have q := h8 t (by omega); (try simp (disch := omega) only [gs_o, gs_s, gs_r, vs_o, vs_s, vs_r, upd_s, upd_o, uI_o, uI_s, uI_r, oaF]); (try simp (disch := omega) only [q]); (try simp)
    · (try simp (disch := omega) only [gs_o, gs_s, gs_r, vs_o, vs_s, vs_r, upd_s, upd_o, uI_o, uI_s, uI_r, oaF] at ht); have q := h8 t (by omega); (try simp (disch := omega) only [gs_o, gs_s, gs_r, vs_o, vs_s, vs_r, upd_s, upd_o, uI_o, uI_s, uI_r, oaF]); exact q
theorem CW_pd (hG : GW g) (h : CW I a g v) (hc : c < g 0 3) : CW (uI I (a + 9 + c) 9 (nI n)) a (gS g 10 c n) v := by
  have h0 := hG.n
  obtain ⟨⟨p0, p1, p2, p3, p4, p5⟩, h1, h2, h3, h4, h5, h6, h7, h8⟩ := h
  refine ⟨⟨?_, ?_, ?_, ?_, ?_, ?_⟩, fun t ht => ?_, fun t ht => ?_, fun t ht => ?_, fun t ht => ?_, fun t ht => ?_, fun t ht => ?_, fun t ht => ?_, fun t ht => ?_⟩
  · (try simp (disch := omega) only [gs_o, gs_s, gs_r, vs_o, vs_s, vs_r, upd_s, upd_o, uI_o, uI_s, uI_r, oaF]); exact p0
  · (try simp (disch := omega) only [gs_o, gs_s, gs_r, vs_o, vs_s, vs_r, upd_s, upd_o, uI_o, uI_s, uI_r, oaF]); exact p1
  · (try simp (disch := omega) only [gs_o, gs_s, gs_r, vs_o, vs_s, vs_r, upd_s, upd_o, uI_o, uI_s, uI_r, oaF]); exact p2
  · (try simp (disch := omega) only [gs_o, gs_s, gs_r, vs_o, vs_s, vs_r, upd_s, upd_o, uI_o, uI_s, uI_r, oaF]); exact p3
  · (try simp (disch := omega) only [gs_o, gs_s, gs_r, vs_o, vs_s, vs_r, upd_s, upd_o, uI_o, uI_s, uI_r, oaF]); exact p4
  · (try simp (disch := omega) only [gs_o, gs_s, gs_r, vs_o, vs_s, vs_r, upd_s, upd_o, uI_o, uI_s, uI_r, oaF]); exact p5
  · (try simp (disch := omega) only [gs_o, gs_s, gs_r, vs_o, vs_s, vs_r, upd_s, upd_o, uI_o, uI_s, uI_r, oaF] at ht); have q := h1 t (by omega); (try simp (disch := omega) only [gs_o, gs_s, gs_r, vs_o, vs_s, vs_r, upd_s, upd_o, uI_o, uI_s, uI_r, oaF]); exact q
  · (try simp (disch := omega) only [gs_o, gs_s, gs_r, vs_o, vs_s, vs_r, upd_s, upd_o, uI_o, uI_s, uI_r, oaF] at ht); have q := h2 t (by omega); (try simp (disch := omega) only [gs_o, gs_s, gs_r, vs_o, vs_s, vs_r, upd_s, upd_o, uI_o, uI_s, uI_r, oaF]); exact q
  · (try simp (disch := omega) only [gs_o, gs_s, gs_r, vs_o, vs_s, vs_r, upd_s, upd_o, uI_o, uI_s, uI_r, oaF] at ht); have q := h3 t (by omega); (try simp (disch := omega) only [gs_o, gs_s, gs_r, vs_o, vs_s, vs_r, upd_s, upd_o, uI_o, uI_s, uI_r, oaF]); exact q
  · (try simp (disch := omega) only [gs_o, gs_s, gs_r, vs_o, vs_s, vs_r, upd_s, upd_o, uI_o, uI_s, uI_r, oaF] at ht); have q := h4 t (by omega); (try simp (disch := omega) only [gs_o, gs_s, gs_r, vs_o, vs_s, vs_r, upd_s, upd_o, uI_o, uI_s, uI_r, oaF]); exact q
  · (try simp (disch := omega) only [gs_o, gs_s, gs_r, vs_o, vs_s, vs_r, upd_s, upd_o, uI_o, uI_s, uI_r, oaF] at ht); have q := h5 t (by omega); (try simp (disch := omega) only [gs_o, gs_s, gs_r, vs_o, vs_s, vs_r, upd_s, upd_o, uI_o, uI_s, uI_r, oaF]); exact q
  · (try simp (disch := omega) only [gs_o, gs_s, gs_r, vs_o, vs_s, vs_r, upd_s, upd_o, uI_o, uI_s, uI_r, oaF] at ht); have q := h6 t (by omega); (try simp (disch := omega) only [gs_o, gs_s, gs_r, vs_o, vs_s, vs_r, upd_s, upd_o, uI_o, uI_s, uI_r, oaF]); exact q
  · (try simp (disch := omega) only [gs_o, gs_s, gs_r, vs_o, vs_s, vs_r, upd_s, upd_o, uI_o, uI_s, uI_r, oaF] at ht); have q := h7 t (by omega); (try simp (disch := omega) only [gs_o, gs_s, gs_r, vs_o, vs_s, vs_r, upd_s, upd_o, uI_o, uI_s, uI_r, oaF]); exact q
  · by_cases e : t = c
    · subst e; (try simp (disch := omega) only [gs_o, gs_s, gs_r, vs_o, vs_s, vs_r, upd_s, upd_o, uI_o, uI_s, uI_r, oaF] at ht); have q := h8 t (by omega); (try simp (disch := omega) only [gs_o, gs_s, gs_r, vs_o, vs_s, vs_r, upd_s, upd_o, uI_o, uI_s, uI_r, oaF]); (try simp (disch := omega) only [q]); (try simp)
    · (try simp (disch := omega) only [gs_o, gs_s, gs_r, vs_o, vs_s, vs_r, upd_s, upd_o, uI_o, uI_s, uI_r, oaF] at ht); have q := h8 t (by omega); (try simp (disch := omega) only [gs_o, gs_s, gs_r, vs_o, vs_s, vs_r, upd_s, upd_o, uI_o, uI_s, uI_r, oaF]); exact q
theorem RW_day (hG : GW g) (h : RW L N g v) : RW L (upd N 0 x) g (vS v 0 0 x) := by
  have h0 := hG.n
  obtain ⟨⟨p0, p1, p2, p3, p4, p5⟩, h1, h2, h3, h4, h5, h6, h7, h8, h9⟩ := h
  refine ⟨⟨?_, ?_, ?_, ?_, ?_, ?_⟩, fun t ht => ?_, fun t ht w hw => ?_, fun t ht w hw => ?_, fun t ht w hw => ?_, fun t ht => ?_, fun t ht => ?_, fun t ht => ?_, fun t ht => ?_, fun t ht w hw => ?_⟩
  · (try simp (disch := omega) only [gs_o, gs_s, gs_r, vs_o, vs_s, vs_r, upd_s, upd_o, uI_o, uI_s, uI_r, oaF]); exact p0
  · (try simp (disch := omega) only [gs_o, gs_s, gs_r, vs_o, vs_s, vs_r, upd_s, upd_o, uI_o, uI_s, uI_r, oaF]); exact p1
  · (try simp (disch := omega) only [gs_o, gs_s, gs_r, vs_o, vs_s, vs_r, upd_s, upd_o, uI_o, uI_s, uI_r, oaF]); exact p2
  · (try simp (disch := omega) only [gs_o, gs_s, gs_r, vs_o, vs_s, vs_r, upd_s, upd_o, uI_o, uI_s, uI_r, oaF]); exact p3
  · simp (disch := omega) only [gs_o, gs_s, gs_r, vs_o, vs_s, vs_r, upd_s, upd_o, uI_o, uI_s, uI_r, oaF]
  · (try simp (disch := omega) only [gs_o, gs_s, gs_r, vs_o, vs_s, vs_r, upd_s, upd_o, uI_o, uI_s, uI_r, oaF]); exact p5
  · (try simp (disch := omega) only [gs_o, gs_s, gs_r, vs_o, vs_s, vs_r, upd_s, upd_o, uI_o, uI_s, uI_r, oaF] at ht); have q := h1 t (by omega); (try unfold oaF at q); (try simp (disch := omega) only [gs_o, gs_s, gs_r, vs_o, vs_s, vs_r, upd_s, upd_o, uI_o, uI_s, uI_r, oaF]); exact q
  · (try simp (disch := omega) only [gs_o, gs_s, gs_r, vs_o, vs_s, vs_r, upd_s, upd_o, uI_o, uI_s, uI_r, oaF] at ht); have q := h2 t (by omega) w hw; (try unfold oaF at q); (try simp (disch := omega) only [gs_o, gs_s, gs_r, vs_o, vs_s, vs_r, upd_s, upd_o, uI_o, uI_s, uI_r, oaF]); exact q
  · (try simp (disch := omega) only [gs_o, gs_s, gs_r, vs_o, vs_s, vs_r, upd_s, upd_o, uI_o, uI_s, uI_r, oaF] at ht); have q := h3 t (by omega) w hw; (try unfold oaF at q); (try simp (disch := omega) only [gs_o, gs_s, gs_r, vs_o, vs_s, vs_r, upd_s, upd_o, uI_o, uI_s, uI_r, oaF]); exact q
  · (try simp (disch := omega) only [gs_o, gs_s, gs_r, vs_o, vs_s, vs_r, upd_s, upd_o, uI_o, uI_s, uI_r, oaF] at ht); have q := h4 t (by omega) w hw; (try unfold oaF at q); (try simp (disch := omega) only [gs_o, gs_s, gs_r, vs_o, vs_s, vs_r, upd_s, upd_o, uI_o, uI_s, uI_r, oaF]); exact q
  · (try simp (disch := omega) only [gs_o, gs_s, gs_r, vs_o, vs_s, vs_r, upd_s, upd_o, uI_o, uI_s, uI_r, oaF] at ht); have q := h5 t (by omega); (try unfold oaF at q); (try simp (disch := omega) only [gs_o, gs_s, gs_r, vs_o, vs_s, vs_r, upd_s, upd_o, uI_o, uI_s, uI_r, oaF]); exact q
  · (try simp (disch := omega) only [gs_o, gs_s, gs_r, vs_o, vs_s, vs_r, upd_s, upd_o, uI_o, uI_s, uI_r, oaF] at ht); have q := h6 t (by omega); (try unfold oaF at q); (try simp (disch := omega) only [gs_o, gs_s, gs_r, vs_o, vs_s, vs_r, upd_s, upd_o, uI_o, uI_s, uI_r, oaF]); exact q
  · (try simp (disch := omega) only [gs_o, gs_s, gs_r, vs_o, vs_s, vs_r, upd_s, upd_o, uI_o, uI_s, uI_r, oaF] at ht); have q := h7 t (by omega); (try unfold oaF at q); (try simp (disch := omega) only [gs_o, gs_s, gs_r, vs_o, vs_s, vs_r, upd_s, upd_o, uI_o, uI_s, uI_r, oaF]); exact q
  · (try simp (disch := omega) only [gs_o, gs_s, gs_r, vs_o, vs_s, vs_r, upd_s, upd_o, uI_o, uI_s, uI_r, oaF] at ht); have q := h8 t (by omega); (try unfold oaF at q); (try simp (disch := omega) only [gs_o, gs_s, gs_r, vs_o, vs_s, vs_r, upd_s, upd_o, uI_o, uI_s, uI_r, oaF]); exact q
  · (try simp (disch := omega) only [gs_o, gs_s, gs_r, vs_o, vs_s, vs_r, upd_s, upd_o, uI_o, uI_s, uI_r, oaF] at ht); have q := h9 t (by omega) w hw; (try unfold oaF at q); (try simp (disch := omega) only [gs_o, gs_s, gs_r, vs_o, vs_s, vs_r, upd_s, upd_o, uI_o, uI_s, uI_r, oaF]); exact q
theorem RW_sz (hG : GW g) (h : RW L N g v) : RW L (upd N 1 x) g (vS v 0 1 x) := by
  have h0 := hG.n
  obtain ⟨⟨p0, p1, p2, p3, p4, p5⟩, h1, h2, h3, h4, h5, h6, h7, h8, h9⟩ := h
  refine ⟨⟨?_, ?_, ?_, ?_, ?_, ?_⟩, fun t ht => ?_, fun t ht w hw => ?_, fun t ht w hw => ?_, fun t ht w hw => ?_, fun t ht => ?_, fun t ht => ?_, fun t ht => ?_, fun t ht => ?_, fun t ht w hw => ?_⟩
  · (try simp (disch := omega) only [gs_o, gs_s, gs_r, vs_o, vs_s, vs_r, upd_s, upd_o, uI_o, uI_s, uI_r, oaF]); exact p0
  · (try simp (disch := omega) only [gs_o, gs_s, gs_r, vs_o, vs_s, vs_r, upd_s, upd_o, uI_o, uI_s, uI_r, oaF]); exact p1
  · (try simp (disch := omega) only [gs_o, gs_s, gs_r, vs_o, vs_s, vs_r, upd_s, upd_o, uI_o, uI_s, uI_r, oaF]); exact p2
  · (try simp (disch := omega) only [gs_o, gs_s, gs_r, vs_o, vs_s, vs_r, upd_s, upd_o, uI_o, uI_s, uI_r, oaF]); exact p3
  · (try simp (disch := omega) only [gs_o, gs_s, gs_r, vs_o, vs_s, vs_r, upd_s, upd_o, uI_o, uI_s, uI_r, oaF]); exact p4
  · simp (disch := omega) only [gs_o, gs_s, gs_r, vs_o, vs_s, vs_r, upd_s, upd_o, uI_o, uI_s, uI_r, oaF]
  · (try simp (disch := omega) only [gs_o, gs_s, gs_r, vs_o, vs_s, vs_r, upd_s, upd_o, uI_o, uI_s, uI_r, oaF] at ht); have q := h1 t (by omega); (try unfold oaF at q); (try simp (disch := omega) only [gs_o, gs_s, gs_r, vs_o, vs_s, vs_r, upd_s, upd_o, uI_o, uI_s, uI_r, oaF]); exact q
  · (try simp (disch := omega) only [gs_o, gs_s, gs_r, vs_o, vs_s, vs_r, upd_s, upd_o, uI_o, uI_s, uI_r, oaF] at ht); have q := h2 t (by omega) w hw; (try unfold oaF at q); (try simp (disch := omega) only [gs_o, gs_s, gs_r, vs_o, vs_s, vs_r, upd_s, upd_o, uI_o, uI_s, uI_r, oaF]); exact q
  · (try simp (disch := omega) only [gs_o, gs_s, gs_r, vs_o, vs_s, vs_r, upd_s, upd_o, uI_o, uI_s, uI_r, oaF] at ht); have q := h3 t (by omega) w hw; (try unfold oaF at q); (try simp (disch := omega) only [gs_o, gs_s, gs_r, vs_o, vs_s, vs_r, upd_s, upd_o, uI_o, uI_s, uI_r, oaF]); exact q
  · (try simp (disch := omega) only [gs_o, gs_s, gs_r, vs_o, vs_s, vs_r, upd_s, upd_o, uI_o, uI_s, uI_r, oaF] at ht); have q := h4 t (by omega) w hw; (try unfold oaF at q); (try simp (disch := omega) only [gs_o, gs_s, gs_r, vs_o, vs_s, vs_r, upd_s, upd_o, uI_o, uI_s, uI_r, oaF]); exact q
  · (try simp (disch := omega) only [gs_o, gs_s, gs_r, vs_o, vs_s, vs_r, upd_s, upd_o, uI_o, uI_s, uI_r, oaF] at ht); have q := h5 t (by omega); (try unfold oaF at q); (try simp (disch := omega) only [gs_o, gs_s, gs_r, vs_o, vs_s, vs_r, upd_s, upd_o, uI_o, uI_s, uI_r, oaF]); exact q
  · (try simp (disch := omega) only [gs_o, gs_s, gs_r, vs_o, vs_s, vs_r, upd_s, upd_o, uI_o, uI_s, uI_r, oaF] at ht); have q := h6 t (by omega); (try unfold oaF at q); (try simp (disch := omega) only [gs_o, gs_s, gs_r, vs_o, vs_s, vs_r, upd_s, upd_o, uI_o, uI_s, uI_r, oaF]); exact q
  · (try simp (disch := omega) only [gs_o, gs_s, gs_r, vs_o, vs_s, vs_r, upd_s, upd_o, uI_o, uI_s, uI_r, oaF] at ht); have q := h7 t (by omega); (try unfold oaF at q); (try simp (disch := omega) only [gs_o, gs_s, gs_r, vs_o, vs_s, vs_r, upd_s, upd_o, uI_o, uI_s, uI_r, oaF]); exact q
  · (try simp (disch := omega) only [gs_o, gs_s, gs_r, vs_o, vs_s, vs_r, upd_s, upd_o, uI_o, uI_s, uI_r, oaF] at ht); have q := h8 t (by omega); (try unfold oaF at q); (try simp (disch := omega) only [gs_o, gs_s, gs_r, vs_o, vs_s, vs_r, upd_s, upd_o, uI_o, uI_s, uI_r, oaF]); exact q
  · (try simp (disch := omega) only [gs_o, gs_s, gs_r, vs_o, vs_s, vs_r, upd_s, upd_o, uI_o, uI_s, uI_r, oaF] at ht); have q := h9 t (by omega) w hw; (try unfold oaF at q); (try simp (disch := omega) only [gs_o, gs_s, gs_r, vs_o, vs_s, vs_r, upd_s, upd_o, uI_o, uI_s, uI_r, oaF]); exact q
theorem RW_pl (hG : GW g) (h : RW L N g v) (hk : k < g 0 1) : RW L (upd N (3 + k) (nI n)) (gS g 5 k n) v := by
  have h0 := hG.n
  obtain ⟨⟨p0, p1, p2, p3, p4, p5⟩, h1, h2, h3, h4, h5, h6, h7, h8, h9⟩ := h
  refine ⟨⟨?_, ?_, ?_, ?_, ?_, ?_⟩, fun t ht => ?_, fun t ht w hw => ?_, fun t ht w hw => ?_, fun t ht w hw => ?_, fun t ht => ?_, fun t ht => ?_, fun t ht => ?_, fun t ht => ?_, fun t ht w hw => ?_⟩
  · (try simp (disch := omega) only [gs_o, gs_s, gs_r, vs_o, vs_s, vs_r, upd_s, upd_o, uI_o, uI_s, uI_r, oaF]); exact p0
  · (try simp (disch := omega) only [gs_o, gs_s, gs_r, vs_o, vs_s, vs_r, upd_s, upd_o, uI_o, uI_s, uI_r, oaF]); exact p1
  · (try simp (disch := omega) only [gs_o, gs_s, gs_r, vs_o, vs_s, vs_r, upd_s, upd_o, uI_o, uI_s, uI_r, oaF]); exact p2
  · (try simp (disch := omega) only [gs_o, gs_s, gs_r, vs_o, vs_s, vs_r, upd_s, upd_o, uI_o, uI_s, uI_r, oaF]); exact p3
  · (try simp (disch := omega) only [gs_o, gs_s, gs_r, vs_o, vs_s, vs_r, upd_s, upd_o, uI_o, uI_s, uI_r, oaF]); exact p4
  · (try simp (disch := omega) only [gs_o, gs_s, gs_r, vs_o, vs_s, vs_r, upd_s, upd_o, uI_o, uI_s, uI_r, oaF]); exact p5
  · (try simp (disch := omega) only [gs_o, gs_s, gs_r, vs_o, vs_s, vs_r, upd_s, upd_o, uI_o, uI_s, uI_r, oaF] at ht); have q := h1 t (by omega); (try unfold oaF at q); (try simp (disch := omega) only [gs_o, gs_s, gs_r, vs_o, vs_s, vs_r, upd_s, upd_o, uI_o, uI_s, uI_r, oaF]); exact q
  · (try simp (disch := omega) only [gs_o, gs_s, gs_r, vs_o, vs_s, vs_r, upd_s, upd_o, uI_o, uI_s, uI_r, oaF] at ht); have q := h2 t (by omega) w hw; (try unfold oaF at q); (try simp (disch := omega) only [gs_o, gs_s, gs_r, vs_o, vs_s, vs_r, upd_s, upd_o, uI_o, uI_s, uI_r, oaF]); exact q
  · (try simp (disch := omega) only [gs_o, gs_s, gs_r, vs_o, vs_s, vs_r, upd_s, upd_o, uI_o, uI_s, uI_r, oaF] at ht); have q := h3 t (by omega) w hw; (try unfold oaF at q); (try simp (disch := omega) only [gs_o, gs_s, gs_r, vs_o, vs_s, vs_r, upd_s, upd_o, uI_o, uI_s, uI_r, oaF]); exact q
  · (try simp (disch := omega) only [gs_o, gs_s, gs_r, vs_o, vs_s, vs_r, upd_s, upd_o, uI_o, uI_s, uI_r, oaF] at ht); have q := h4 t (by omega) w hw; (try unfold oaF at q); (try simp (disch := omega) only [gs_o, gs_s, gs_r, vs_o, vs_s, vs_r, upd_s, upd_o, uI_o, uI_s, uI_r, oaF]); exact q
  · (try simp (disch := omega) only [gs_o, gs_s, gs_r, vs_o, vs_s, vs_r, upd_s, upd_o, uI_o, uI_s, uI_r, oaF] at ht); have q := h5 t (by omega); (try unfold oaF at q); (try simp (disch := omega) only [gs_o, gs_s, gs_r, vs_o, vs_s, vs_r, upd_s, upd_o, uI_o, uI_s, uI_r, oaF]); exact q
  · (try simp (disch := omega) only [gs_o, gs_s, gs_r, vs_o, vs_s, vs_r, upd_s, upd_o, uI_o, uI_s, uI_r, oaF] at ht); have q := h6 t (by omega); (try unfold oaF at q); (try simp (disch := omega) only [gs_o, gs_s, gs_r, vs_o, vs_s, vs_r, upd_s, upd_o, uI_o, uI_s, uI_r, oaF]); exact q
  · by_cases e : t = k
    · subst e; (try simp (disch := omega) only [gs_o, gs_s, gs_r, vs_o, vs_s, vs_r, upd_s, upd_o, uI_o, uI_s, uI_r, oaF] at ht); have q := h7 t (by omega); (try unfold oaF at q); (try simp (disch := omega) only [gs_o, gs_s, gs_r, vs_o, vs_s, vs_r, upd_s, upd_o, uI_o, uI_s, uI_r, oaF]); (try simp (disch := omega) only [q]); (try simp)
    · (try simp (disch := omega) only [gs_o, gs_s, gs_r, vs_o, vs_s, vs_r, upd_s, upd_o, uI_o, uI_s, uI_r, oaF] at ht); have q := h7 t (by omega); (try unfold oaF at q); (try simp (disch := omega) only [gs_o, gs_s, gs_r, vs_o, vs_s, vs_r, upd_s, upd_o, uI_o, uI_s, uI_r, oaF]); exact q
  · (try simp (disch := omega) only [gs_o, gs_s, gs_r, vs_o, vs_s, vs_r, upd_s, upd_o, uI_o, uI_s, uI_r, oaF] at ht); have q := h8 t (by omega); (try unfold oaF at q); (try simp (disch := omega) only [gs_o, gs_s, gs_r, vs_o, vs_s, vs_r, upd_s, upd_o, uI_o, uI_s, uI_r, oaF]); exact q
  · (try simp (disch := omega) only [gs_o, gs_s, gs_r, vs_o, vs_s, vs_r, upd_s, upd_o, uI_o, uI_s, uI_r, oaF] at ht); have q := h9 t (by omega) w hw; (try unfold oaF at q); (try simp (disch := omega) only [gs_o, gs_s, gs_r, vs_o, vs_s, vs_r, upd_s, upd_o, uI_o, uI_s, uI_r, oaF]); exact q
theorem RW_left (hG : GW g) (h : RW L N g v) (hc : c < g 0 3) : RW L (upd N (51 + 15 * c + 3) (nI n)) (gS g 8 c n) v := by
  have h0 := hG.n
  obtain ⟨⟨p0, p1, p2, p3, p4, p5⟩, h1, h2, h3, h4, h5, h6, h7, h8, h9⟩ := h
  refine ⟨⟨?_, ?_, ?_, ?_, ?_, ?_⟩, fun t ht => ?_, fun t ht w hw => ?_, fun t ht w hw => ?_, fun t ht w hw => ?_, fun t ht => ?_, fun t ht => ?_, fun t ht => ?_, fun t ht => ?_, fun t ht w hw => ?_⟩
  · (try simp (disch := omega) only [gs_o, gs_s, gs_r, vs_o, vs_s, vs_r, upd_s, upd_o, uI_o, uI_s, uI_r, oaF]); exact p0
  · (try simp (disch := omega) only [gs_o, gs_s, gs_r, vs_o, vs_s, vs_r, upd_s, upd_o, uI_o, uI_s, uI_r, oaF]); exact p1
  · (try simp (disch := omega) only [gs_o, gs_s, gs_r, vs_o, vs_s, vs_r, upd_s, upd_o, uI_o, uI_s, uI_r, oaF]); exact p2
  · (try simp (disch := omega) only [gs_o, gs_s, gs_r, vs_o, vs_s, vs_r, upd_s, upd_o, uI_o, uI_s, uI_r, oaF]); exact p3
  · (try simp (disch := omega) only [gs_o, gs_s, gs_r, vs_o, vs_s, vs_r, upd_s, upd_o, uI_o, uI_s, uI_r, oaF]); exact p4
  · (try simp (disch := omega) only [gs_o, gs_s, gs_r, vs_o, vs_s, vs_r, upd_s, upd_o, uI_o, uI_s, uI_r, oaF]); exact p5
  · (try simp (disch := omega) only [gs_o, gs_s, gs_r, vs_o, vs_s, vs_r, upd_s, upd_o, uI_o, uI_s, uI_r, oaF] at ht); have q := h1 t (by omega); (try unfold oaF at q); (try simp (disch := omega) only [gs_o, gs_s, gs_r, vs_o, vs_s, vs_r, upd_s, upd_o, uI_o, uI_s, uI_r, oaF]); exact q
  · (try simp (disch := omega) only [gs_o, gs_s, gs_r, vs_o, vs_s, vs_r, upd_s, upd_o, uI_o, uI_s, uI_r, oaF] at ht); have q := h2 t (by omega) w hw; (try unfold oaF at q); (try simp (disch := omega) only [gs_o, gs_s, gs_r, vs_o, vs_s, vs_r, upd_s, upd_o, uI_o, uI_s, uI_r, oaF]); exact q
  · (try simp (disch := omega) only [gs_o, gs_s, gs_r, vs_o, vs_s, vs_r, upd_s, upd_o, uI_o, uI_s, uI_r, oaF] at ht); have q := h3 t (by omega) w hw; (try unfold oaF at q); (try simp (disch := omega) only [gs_o, gs_s, gs_r, vs_o, vs_s, vs_r, upd_s, upd_o, uI_o, uI_s, uI_r, oaF]); exact q
  · (try simp (disch := omega) only [gs_o, gs_s, gs_r, vs_o, vs_s, vs_r, upd_s, upd_o, uI_o, uI_s, uI_r, oaF] at ht); have q := h4 t (by omega) w hw; (try unfold oaF at q); (try simp (disch := omega) only [gs_o, gs_s, gs_r, vs_o, vs_s, vs_r, upd_s, upd_o, uI_o, uI_s, uI_r, oaF]); exact q
  · (try simp (disch := omega) only [gs_o, gs_s, gs_r, vs_o, vs_s, vs_r, upd_s, upd_o, uI_o, uI_s, uI_r, oaF] at ht); have q := h5 t (by omega); (try unfold oaF at q); (try simp (disch := omega) only [gs_o, gs_s, gs_r, vs_o, vs_s, vs_r, upd_s, upd_o, uI_o, uI_s, uI_r, oaF]); exact q
  · (try simp (disch := omega) only [gs_o, gs_s, gs_r, vs_o, vs_s, vs_r, upd_s, upd_o, uI_o, uI_s, uI_r, oaF] at ht); have q := h6 t (by omega); (try unfold oaF at q); (try simp (disch := omega) only [gs_o, gs_s, gs_r, vs_o, vs_s, vs_r, upd_s, upd_o, uI_o, uI_s, uI_r, oaF]); exact q
  · (try simp (disch := omega) only [gs_o, gs_s, gs_r, vs_o, vs_s, vs_r, upd_s, upd_o, uI_o, uI_s, uI_r, oaF] at ht); have q := h7 t (by omega); (try unfold oaF at q); (try simp (disch := omega) only [gs_o, gs_s, gs_r, vs_o, vs_s, vs_r, upd_s, upd_o, uI_o, uI_s, uI_r, oaF]); exact q
  · by_cases e : t = c
    · subst e; (try simp (disch := omega) only [gs_o, gs_s, gs_r, vs_o, vs_s, vs_r, upd_s, upd_o, uI_o, uI_s, uI_r, oaF] at ht); have q := h8 t (by omega); (try unfold oaF at q); (try simp (disch := omega) only [gs_o, gs_s, gs_r, vs_o, vs_s, vs_r, upd_s, upd_o, uI_o, uI_s, uI_r, oaF]); (try simp (disch := omega) only [q]); (try simp)
    · (try simp (disch := omega) only [gs_o, gs_s, gs_r, vs_o, vs_s, vs_r, upd_s, upd_o, uI_o, uI_s, uI_r, oaF] at ht); have q := h8 t (by omega); (try unfold oaF at q); (try simp (disch := omega) only [gs_o, gs_s, gs_r, vs_o, vs_s, vs_r, upd_s, upd_o, uI_o, uI_s, uI_r, oaF]); exact q
  · (try simp (disch := omega) only [gs_o, gs_s, gs_r, vs_o, vs_s, vs_r, upd_s, upd_o, uI_o, uI_s, uI_r, oaF] at ht); have q := h9 t (by omega) w hw; (try unfold oaF at q); (try simp (disch := omega) only [gs_o, gs_s, gs_r, vs_o, vs_s, vs_r, upd_s, upd_o, uI_o, uI_s, uI_r, oaF]); exact q
theorem RW_ask (hG : GW g) (h : RW L N g v) (hc : c < g 0 3) : RW L (upd N (51 + 15 * c + 5) x) g (vS v 4 c x) := by
  have h0 := hG.n
  obtain ⟨⟨p0, p1, p2, p3, p4, p5⟩, h1, h2, h3, h4, h5, h6, h7, h8, h9⟩ := h
  refine ⟨⟨?_, ?_, ?_, ?_, ?_, ?_⟩, fun t ht => ?_, fun t ht w hw => ?_, fun t ht w hw => ?_, fun t ht w hw => ?_, fun t ht => ?_, fun t ht => ?_, fun t ht => ?_, fun t ht => ?_, fun t ht w hw => ?_⟩
  · (try simp (disch := omega) only [gs_o, gs_s, gs_r, vs_o, vs_s, vs_r, upd_s, upd_o, uI_o, uI_s, uI_r, oaF]); exact p0
  · (try simp (disch := omega) only [gs_o, gs_s, gs_r, vs_o, vs_s, vs_r, upd_s, upd_o, uI_o, uI_s, uI_r, oaF]); exact p1
  · (try simp (disch := omega) only [gs_o, gs_s, gs_r, vs_o, vs_s, vs_r, upd_s, upd_o, uI_o, uI_s, uI_r, oaF]); exact p2
  · (try simp (disch := omega) only [gs_o, gs_s, gs_r, vs_o, vs_s, vs_r, upd_s, upd_o, uI_o, uI_s, uI_r, oaF]); exact p3
  · (try simp (disch := omega) only [gs_o, gs_s, gs_r, vs_o, vs_s, vs_r, upd_s, upd_o, uI_o, uI_s, uI_r, oaF]); exact p4
  · (try simp (disch := omega) only [gs_o, gs_s, gs_r, vs_o, vs_s, vs_r, upd_s, upd_o, uI_o, uI_s, uI_r, oaF]); exact p5
  · (try simp (disch := omega) only [gs_o, gs_s, gs_r, vs_o, vs_s, vs_r, upd_s, upd_o, uI_o, uI_s, uI_r, oaF] at ht); have q := h1 t (by omega); (try unfold oaF at q); (try simp (disch := omega) only [gs_o, gs_s, gs_r, vs_o, vs_s, vs_r, upd_s, upd_o, uI_o, uI_s, uI_r, oaF]); exact q
  · (try simp (disch := omega) only [gs_o, gs_s, gs_r, vs_o, vs_s, vs_r, upd_s, upd_o, uI_o, uI_s, uI_r, oaF] at ht); have q := h2 t (by omega) w hw; (try unfold oaF at q); (try simp (disch := omega) only [gs_o, gs_s, gs_r, vs_o, vs_s, vs_r, upd_s, upd_o, uI_o, uI_s, uI_r, oaF]); exact q
  · (try simp (disch := omega) only [gs_o, gs_s, gs_r, vs_o, vs_s, vs_r, upd_s, upd_o, uI_o, uI_s, uI_r, oaF] at ht); have q := h3 t (by omega) w hw; (try unfold oaF at q); (try simp (disch := omega) only [gs_o, gs_s, gs_r, vs_o, vs_s, vs_r, upd_s, upd_o, uI_o, uI_s, uI_r, oaF]); exact q
  · (try simp (disch := omega) only [gs_o, gs_s, gs_r, vs_o, vs_s, vs_r, upd_s, upd_o, uI_o, uI_s, uI_r, oaF] at ht); have q := h4 t (by omega) w hw; (try unfold oaF at q); (try simp (disch := omega) only [gs_o, gs_s, gs_r, vs_o, vs_s, vs_r, upd_s, upd_o, uI_o, uI_s, uI_r, oaF]); exact q
  · (try simp (disch := omega) only [gs_o, gs_s, gs_r, vs_o, vs_s, vs_r, upd_s, upd_o, uI_o, uI_s, uI_r, oaF] at ht); have q := h5 t (by omega); (try unfold oaF at q); (try simp (disch := omega) only [gs_o, gs_s, gs_r, vs_o, vs_s, vs_r, upd_s, upd_o, uI_o, uI_s, uI_r, oaF]); exact q
  · (try simp (disch := omega) only [gs_o, gs_s, gs_r, vs_o, vs_s, vs_r, upd_s, upd_o, uI_o, uI_s, uI_r, oaF] at ht); have q := h6 t (by omega); (try unfold oaF at q); (try simp (disch := omega) only [gs_o, gs_s, gs_r, vs_o, vs_s, vs_r, upd_s, upd_o, uI_o, uI_s, uI_r, oaF]); exact q
  · (try simp (disch := omega) only [gs_o, gs_s, gs_r, vs_o, vs_s, vs_r, upd_s, upd_o, uI_o, uI_s, uI_r, oaF] at ht); have q := h7 t (by omega); (try unfold oaF at q); (try simp (disch := omega) only [gs_o, gs_s, gs_r, vs_o, vs_s, vs_r, upd_s, upd_o, uI_o, uI_s, uI_r, oaF]); exact q
  · by_cases e : t = c
    · subst e; (try simp (disch := omega) only [gs_o, gs_s, gs_r, vs_o, vs_s, vs_r, upd_s, upd_o, uI_o, uI_s, uI_r, oaF] at ht); have q := h8 t (by omega); (try unfold oaF at q); (try simp (disch := omega) only [gs_o, gs_s, gs_r, vs_o, vs_s, vs_r, upd_s, upd_o, uI_o, uI_s, uI_r, oaF]); (try simp (disch := omega) only [q]); (try simp)
    · (try simp (disch := omega) only [gs_o, gs_s, gs_r, vs_o, vs_s, vs_r, upd_s, upd_o, uI_o, uI_s, uI_r, oaF] at ht); have q := h8 t (by omega); (try unfold oaF at q); (try simp (disch := omega) only [gs_o, gs_s, gs_r, vs_o, vs_s, vs_r, upd_s, upd_o, uI_o, uI_s, uI_r, oaF]); exact q
  · (try simp (disch := omega) only [gs_o, gs_s, gs_r, vs_o, vs_s, vs_r, upd_s, upd_o, uI_o, uI_s, uI_r, oaF] at ht); have q := h9 t (by omega) w hw; (try unfold oaF at q); (try simp (disch := omega) only [gs_o, gs_s, gs_r, vs_o, vs_s, vs_r, upd_s, upd_o, uI_o, uI_s, uI_r, oaF]); exact q
theorem RW_ld (hG : GW g) (h : RW L N g v) (hc : c < g 0 3) : RW L (upd N (51 + 15 * c + 6) x) g (vS v 5 c x) := by
  have h0 := hG.n
  obtain ⟨⟨p0, p1, p2, p3, p4, p5⟩, h1, h2, h3, h4, h5, h6, h7, h8, h9⟩ := h
  refine ⟨⟨?_, ?_, ?_, ?_, ?_, ?_⟩, fun t ht => ?_, fun t ht w hw => ?_, fun t ht w hw => ?_, fun t ht w hw => ?_, fun t ht => ?_, fun t ht => ?_, fun t ht => ?_, fun t ht => ?_, fun t ht w hw => ?_⟩
  · (try simp (disch := omega) only [gs_o, gs_s, gs_r, vs_o, vs_s, vs_r, upd_s, upd_o, uI_o, uI_s, uI_r, oaF]); exact p0
  · (try simp (disch := omega) only [gs_o, gs_s, gs_r, vs_o, vs_s, vs_r, upd_s, upd_o, uI_o, uI_s, uI_r, oaF]); exact p1
  · (try simp (disch := omega) only [gs_o, gs_s, gs_r, vs_o, vs_s, vs_r, upd_s, upd_o, uI_o, uI_s, uI_r, oaF]); exact p2
  · (try simp (disch := omega) only [gs_o, gs_s, gs_r, vs_o, vs_s, vs_r, upd_s, upd_o, uI_o, uI_s, uI_r, oaF]); exact p3
  · (try simp (disch := omega) only [gs_o, gs_s, gs_r, vs_o, vs_s, vs_r, upd_s, upd_o, uI_o, uI_s, uI_r, oaF]); exact p4
  · (try simp (disch := omega) only [gs_o, gs_s, gs_r, vs_o, vs_s, vs_r, upd_s, upd_o, uI_o, uI_s, uI_r, oaF]); exact p5
  · (try simp (disch := omega) only [gs_o, gs_s, gs_r, vs_o, vs_s, vs_r, upd_s, upd_o, uI_o, uI_s, uI_r, oaF] at ht); have q := h1 t (by omega); (try unfold oaF at q); (try simp (disch := omega) only [gs_o, gs_s, gs_r, vs_o, vs_s, vs_r, upd_s, upd_o, uI_o, uI_s, uI_r, oaF]); exact q
  · (try simp (disch := omega) only [gs_o, gs_s, gs_r, vs_o, vs_s, vs_r, upd_s, upd_o, uI_o, uI_s, uI_r, oaF] at ht); have q := h2 t (by omega) w hw; (try unfold oaF at q); (try simp (disch := omega) only [gs_o, gs_s, gs_r, vs_o, vs_s, vs_r, upd_s, upd_o, uI_o, uI_s, uI_r, oaF]); exact q
  · (try simp (disch := omega) only [gs_o, gs_s, gs_r, vs_o, vs_s, vs_r, upd_s, upd_o, uI_o, uI_s, uI_r, oaF] at ht); have q := h3 t (by omega) w hw; (try unfold oaF at q); (try simp (disch := omega) only [gs_o, gs_s, gs_r, vs_o, vs_s, vs_r, upd_s, upd_o, uI_o, uI_s, uI_r, oaF]); exact q
  · (try simp (disch := omega) only [gs_o, gs_s, gs_r, vs_o, vs_s, vs_r, upd_s, upd_o, uI_o, uI_s, uI_r, oaF] at ht); have q := h4 t (by omega) w hw; (try unfold oaF at q); (try simp (disch := omega) only [gs_o, gs_s, gs_r, vs_o, vs_s, vs_r, upd_s, upd_o, uI_o, uI_s, uI_r, oaF]); exact q
  · (try simp (disch := omega) only [gs_o, gs_s, gs_r, vs_o, vs_s, vs_r, upd_s, upd_o, uI_o, uI_s, uI_r, oaF] at ht); have q := h5 t (by omega); (try unfold oaF at q); (try simp (disch := omega) only [gs_o, gs_s, gs_r, vs_o, vs_s, vs_r, upd_s, upd_o, uI_o, uI_s, uI_r, oaF]); exact q
  · (try simp (disch := omega) only [gs_o, gs_s, gs_r, vs_o, vs_s, vs_r, upd_s, upd_o, uI_o, uI_s, uI_r, oaF] at ht); have q := h6 t (by omega); (try unfold oaF at q); (try simp (disch := omega) only [gs_o, gs_s, gs_r, vs_o, vs_s, vs_r, upd_s, upd_o, uI_o, uI_s, uI_r, oaF]); exact q
  · (try simp (disch := omega) only [gs_o, gs_s, gs_r, vs_o, vs_s, vs_r, upd_s, upd_o, uI_o, uI_s, uI_r, oaF] at ht); have q := h7 t (by omega); (try unfold oaF at q); (try simp (disch := omega) only [gs_o, gs_s, gs_r, vs_o, vs_s, vs_r, upd_s, upd_o, uI_o, uI_s, uI_r, oaF]); exact q
  · by_cases e : t = c
    · subst e; (try simp (disch := omega) only [gs_o, gs_s, gs_r, vs_o, vs_s, vs_r, upd_s, upd_o, uI_o, uI_s, uI_r, oaF] at ht); have q := h8 t (by omega); (try unfold oaF at q); (try simp (disch := omega) only [gs_o, gs_s, gs_r, vs_o, vs_s, vs_r, upd_s, upd_o, uI_o, uI_s, uI_r, oaF]); (try simp (disch := omega) only [q]); (try simp)
    · (try simp (disch := omega) only [gs_o, gs_s, gs_r, vs_o, vs_s, vs_r, upd_s, upd_o, uI_o, uI_s, uI_r, oaF] at ht); have q := h8 t (by omega); (try unfold oaF at q); (try simp (disch := omega) only [gs_o, gs_s, gs_r, vs_o, vs_s, vs_r, upd_s, upd_o, uI_o, uI_s, uI_r, oaF]); exact q
  · (try simp (disch := omega) only [gs_o, gs_s, gs_r, vs_o, vs_s, vs_r, upd_s, upd_o, uI_o, uI_s, uI_r, oaF] at ht); have q := h9 t (by omega) w hw; (try unfold oaF at q); (try simp (disch := omega) only [gs_o, gs_s, gs_r, vs_o, vs_s, vs_r, upd_s, upd_o, uI_o, uI_s, uI_r, oaF]); exact q
theorem RW_ll (hG : GW g) (h : RW L N g v) (hc : c < g 0 3) : RW L (upd N (51 + 15 * c + 7) x) g (vS v 6 c x) := by
  have h0 := hG.n
  obtain ⟨⟨p0, p1, p2, p3, p4, p5⟩, h1, h2, h3, h4, h5, h6, h7, h8, h9⟩ := h
  refine ⟨⟨?_, ?_, ?_, ?_, ?_, ?_⟩, fun t ht => ?_, fun t ht w hw => ?_, fun t ht w hw => ?_, fun t ht w hw => ?_, fun t ht => ?_, fun t ht => ?_, fun t ht => ?_, fun t ht => ?_, fun t ht w hw => ?_⟩
  · (try simp (disch := omega) only [gs_o, gs_s, gs_r, vs_o, vs_s, vs_r, upd_s, upd_o, uI_o, uI_s, uI_r, oaF]); exact p0
  · (try simp (disch := omega) only [gs_o, gs_s, gs_r, vs_o, vs_s, vs_r, upd_s, upd_o, uI_o, uI_s, uI_r, oaF]); exact p1
  · (try simp (disch := omega) only [gs_o, gs_s, gs_r, vs_o, vs_s, vs_r, upd_s, upd_o, uI_o, uI_s, uI_r, oaF]); exact p2
  · (try simp (disch := omega) only [gs_o, gs_s, gs_r, vs_o, vs_s, vs_r, upd_s, upd_o, uI_o, uI_s, uI_r, oaF]); exact p3
  · (try simp (disch := omega) only [gs_o, gs_s, gs_r, vs_o, vs_s, vs_r, upd_s, upd_o, uI_o, uI_s, uI_r, oaF]); exact p4
  · (try simp (disch := omega) only [gs_o, gs_s, gs_r, vs_o, vs_s, vs_r, upd_s, upd_o, uI_o, uI_s, uI_r, oaF]); exact p5
  · (try simp (disch := omega) only [gs_o, gs_s, gs_r, vs_o, vs_s, vs_r, upd_s, upd_o, uI_o, uI_s, uI_r, oaF] at ht); have q := h1 t (by omega); (try unfold oaF at q); (try simp (disch := omega) only [gs_o, gs_s, gs_r, vs_o, vs_s, vs_r, upd_s, upd_o, uI_o, uI_s, uI_r, oaF]); exact q
  · (try simp (disch := omega) only [gs_o, gs_s, gs_r, vs_o, vs_s, vs_r, upd_s, upd_o, uI_o, uI_s, uI_r, oaF] at ht); have q := h2 t (by omega) w hw; (try unfold oaF at q); (try simp (disch := omega) only [gs_o, gs_s, gs_r, vs_o, vs_s, vs_r, upd_s, upd_o, uI_o, uI_s, uI_r, oaF]); exact q
  · (try simp (disch := omega) only [gs_o, gs_s, gs_r, vs_o, vs_s, vs_r, upd_s, upd_o, uI_o, uI_s, uI_r, oaF] at ht); have q := h3 t (by omega) w hw; (try unfold oaF at q); (try simp (disch := omega) only [gs_o, gs_s, gs_r, vs_o, vs_s, vs_r, upd_s, upd_o, uI_o, uI_s, uI_r, oaF]); exact q
  · (try simp (disch := omega) only [gs_o, gs_s, gs_r, vs_o, vs_s, vs_r, upd_s, upd_o, uI_o, uI_s, uI_r, oaF] at ht); have q := h4 t (by omega) w hw; (try unfold oaF at q); (try simp (disch := omega) only [gs_o, gs_s, gs_r, vs_o, vs_s, vs_r, upd_s, upd_o, uI_o, uI_s, uI_r, oaF]); exact q
  · (try simp (disch := omega) only [gs_o, gs_s, gs_r, vs_o, vs_s, vs_r, upd_s, upd_o, uI_o, uI_s, uI_r, oaF] at ht); have q := h5 t (by omega); (try unfold oaF at q); (try simp (disch := omega) only [gs_o, gs_s, gs_r, vs_o, vs_s, vs_r, upd_s, upd_o, uI_o, uI_s, uI_r, oaF]); exact q
  · (try simp (disch := omega) only [gs_o, gs_s, gs_r, vs_o, vs_s, vs_r, upd_s, upd_o, uI_o, uI_s, uI_r, oaF] at ht); have q := h6 t (by omega); (try unfold oaF at q); (try simp (disch := omega) only [gs_o, gs_s, gs_r, vs_o, vs_s, vs_r, upd_s, upd_o, uI_o, uI_s, uI_r, oaF]); exact q
  · (try simp (disch := omega) only [gs_o, gs_s, gs_r, vs_o, vs_s, vs_r, upd_s, upd_o, uI_o, uI_s, uI_r, oaF] at ht); have q := h7 t (by omega); (try unfold oaF at q); (try simp (disch := omega) only [gs_o, gs_s, gs_r, vs_o, vs_s, vs_r, upd_s, upd_o, uI_o, uI_s, uI_r, oaF]); exact q
  · by_cases e : t = c
    · subst e; (try simp (disch := omega) only [gs_o, gs_s, gs_r, vs_o, vs_s, vs_r, upd_s, upd_o, uI_o, uI_s, uI_r, oaF] at ht); have q := h8 t (by omega); (try unfold oaF at q); (try simp (disch := omega) only [gs_o, gs_s, gs_r, vs_o, vs_s, vs_r, upd_s, upd_o, uI_o, uI_s, uI_r, oaF]); (try simp (disch := omega) only [q]); (try simp)
    · (try simp (disch := omega) only [gs_o, gs_s, gs_r, vs_o, vs_s, vs_r, upd_s, upd_o, uI_o, uI_s, uI_r, oaF] at ht); have q := h8 t (by omega); (try unfold oaF at q); (try simp (disch := omega) only [gs_o, gs_s, gs_r, vs_o, vs_s, vs_r, upd_s, upd_o, uI_o, uI_s, uI_r, oaF]); exact q
  · (try simp (disch := omega) only [gs_o, gs_s, gs_r, vs_o, vs_s, vs_r, upd_s, upd_o, uI_o, uI_s, uI_r, oaF] at ht); have q := h9 t (by omega) w hw; (try unfold oaF at q); (try simp (disch := omega) only [gs_o, gs_s, gs_r, vs_o, vs_s, vs_r, upd_s, upd_o, uI_o, uI_s, uI_r, oaF]); exact q
theorem GW_pl (h : GW g) (hn : n < g 0 0) : GW (gS g 5 k n) := by
  obtain ⟨h0, h1, h2, h3, h4, h5, h6⟩ := h
  refine ⟨?_, fun t ht => ?_, fun t ht => ?_, fun t ht w hw => ?_, fun t ht => ?_, fun t ht => ?_, fun t ht => ?_⟩
  · (try simp (disch := omega) only [gs_o, gs_s, gs_r, vs_o, vs_s, vs_r, upd_s, upd_o, uI_o, uI_s, uI_r, oaF]); exact h0
  · (try simp (disch := omega) only [gs_o, gs_s, gs_r, vs_o, vs_s, vs_r, upd_s, upd_o, uI_o, uI_s, uI_r, oaF] at ht); have q := h1 t (by omega); (try simp (disch := omega) only [gs_o, gs_s, gs_r, vs_o, vs_s, vs_r, upd_s, upd_o, uI_o, uI_s, uI_r, oaF]); exact q
  · (try simp (disch := omega) only [gs_o, gs_s, gs_r, vs_o, vs_s, vs_r, upd_s, upd_o, uI_o, uI_s, uI_r, oaF] at ht); have q := h2 t (by omega); (try simp (disch := omega) only [gs_o, gs_s, gs_r, vs_o, vs_s, vs_r, upd_s, upd_o, uI_o, uI_s, uI_r, oaF]); exact q
  · (try simp (disch := omega) only [gs_o, gs_s, gs_r, vs_o, vs_s, vs_r, upd_s, upd_o, uI_o, uI_s, uI_r, oaF] at ht); have q := h3 t (by omega) w hw; (try simp (disch := omega) only [gs_o, gs_s, gs_r, vs_o, vs_s, vs_r, upd_s, upd_o, uI_o, uI_s, uI_r, oaF]); exact q
  · (try simp (disch := omega) only [gs_o, gs_s, gs_r, vs_o, vs_s, vs_r, upd_s, upd_o, uI_o, uI_s, uI_r, oaF] at ht); have q := h4 t (by omega); (try simp (disch := omega) only [gs_o, gs_s, gs_r, vs_o, vs_s, vs_r, upd_s, upd_o, uI_o, uI_s, uI_r, oaF]); exact q
  · by_cases e : t = k
    · subst e; (try simp (disch := omega) only [gs_o, gs_s, gs_r, vs_o, vs_s, vs_r, upd_s, upd_o, uI_o, uI_s, uI_r, oaF] at ht); have q := h5 t (by omega); (try simp (disch := omega) only [gs_o, gs_s, gs_r, vs_o, vs_s, vs_r, upd_s, upd_o, uI_o, uI_s, uI_r, oaF]); omega
    · (try simp (disch := omega) only [gs_o, gs_s, gs_r, vs_o, vs_s, vs_r, upd_s, upd_o, uI_o, uI_s, uI_r, oaF] at ht); have q := h5 t (by omega); (try simp (disch := omega) only [gs_o, gs_s, gs_r, vs_o, vs_s, vs_r, upd_s, upd_o, uI_o, uI_s, uI_r, oaF]); exact q
  · (try simp (disch := omega) only [gs_o, gs_s, gs_r, vs_o, vs_s, vs_r, upd_s, upd_o, uI_o, uI_s, uI_r, oaF] at ht); have q := h6 t (by omega); (try simp (disch := omega) only [gs_o, gs_s, gs_r, vs_o, vs_s, vs_r, upd_s, upd_o, uI_o, uI_s, uI_r, oaF]); exact q
theorem GW_left (h : GW g) (hn : n ≤ 999) : GW (gS g 8 c n) := by
  obtain ⟨h0, h1, h2, h3, h4, h5, h6⟩ := h
  refine ⟨?_, fun t ht => ?_, fun t ht => ?_, fun t ht w hw => ?_, fun t ht => ?_, fun t ht => ?_, fun t ht => ?_⟩
  · (try simp (disch := omega) only [gs_o, gs_s, gs_r, vs_o, vs_s, vs_r, upd_s, upd_o, uI_o, uI_s, uI_r, oaF]); exact h0
  · (try simp (disch := omega) only [gs_o, gs_s, gs_r, vs_o, vs_s, vs_r, upd_s, upd_o, uI_o, uI_s, uI_r, oaF] at ht); have q := h1 t (by omega); (try simp (disch := omega) only [gs_o, gs_s, gs_r, vs_o, vs_s, vs_r, upd_s, upd_o, uI_o, uI_s, uI_r, oaF]); exact q
  · (try simp (disch := omega) only [gs_o, gs_s, gs_r, vs_o, vs_s, vs_r, upd_s, upd_o, uI_o, uI_s, uI_r, oaF] at ht); have q := h2 t (by omega); (try simp (disch := omega) only [gs_o, gs_s, gs_r, vs_o, vs_s, vs_r, upd_s, upd_o, uI_o, uI_s, uI_r, oaF]); exact q
  · (try simp (disch := omega) only [gs_o, gs_s, gs_r, vs_o, vs_s, vs_r, upd_s, upd_o, uI_o, uI_s, uI_r, oaF] at ht); have q := h3 t (by omega) w hw; (try simp (disch := omega) only [gs_o, gs_s, gs_r, vs_o, vs_s, vs_r, upd_s, upd_o, uI_o, uI_s, uI_r, oaF]); exact q
  · (try simp (disch := omega) only [gs_o, gs_s, gs_r, vs_o, vs_s, vs_r, upd_s, upd_o, uI_o, uI_s, uI_r, oaF] at ht); have q := h4 t (by omega); (try simp (disch := omega) only [gs_o, gs_s, gs_r, vs_o, vs_s, vs_r, upd_s, upd_o, uI_o, uI_s, uI_r, oaF]); exact q
  · (try simp (disch := omega) only [gs_o, gs_s, gs_r, vs_o, vs_s, vs_r, upd_s, upd_o, uI_o, uI_s, uI_r, oaF] at ht); have q := h5 t (by omega); (try simp (disch := omega) only [gs_o, gs_s, gs_r, vs_o, vs_s, vs_r, upd_s, upd_o, uI_o, uI_s, uI_r, oaF]); exact q
  · by_cases e : t = c
    · subst e; (try simp (disch := omega) only [gs_o, gs_s, gs_r, vs_o, vs_s, vs_r, upd_s, upd_o, uI_o, uI_s, uI_r, oaF] at ht); have q := h6 t (by omega); (try simp (disch := omega) only [gs_o, gs_s, gs_r, vs_o, vs_s, vs_r, upd_s, upd_o, uI_o, uI_s, uI_r, oaF]); omega
    · (try simp (disch := omega) only [gs_o, gs_s, gs_r, vs_o, vs_s, vs_r, upd_s, upd_o, uI_o, uI_s, uI_r, oaF] at ht); have q := h6 t (by omega); (try simp (disch := omega) only [gs_o, gs_s, gs_r, vs_o, vs_s, vs_r, upd_s, upd_o, uI_o, uI_s, uI_r, oaF]); exact q
theorem GW_sw (h : GW g) (hn : n < 64) : GW (gS g 9 c n) := by
  obtain ⟨h0, h1, h2, h3, h4, h5, h6⟩ := h
  refine ⟨?_, fun t ht => ?_, fun t ht => ?_, fun t ht w hw => ?_, fun t ht => ?_, fun t ht => ?_, fun t ht => ?_⟩
  · (try simp (disch := omega) only [gs_o, gs_s, gs_r, vs_o, vs_s, vs_r, upd_s, upd_o, uI_o, uI_s, uI_r, oaF]); exact h0
  · (try simp (disch := omega) only [gs_o, gs_s, gs_r, vs_o, vs_s, vs_r, upd_s, upd_o, uI_o, uI_s, uI_r, oaF] at ht); have q := h1 t (by omega); (try simp (disch := omega) only [gs_o, gs_s, gs_r, vs_o, vs_s, vs_r, upd_s, upd_o, uI_o, uI_s, uI_r, oaF]); exact q
  · (try simp (disch := omega) only [gs_o, gs_s, gs_r, vs_o, vs_s, vs_r, upd_s, upd_o, uI_o, uI_s, uI_r, oaF] at ht); have q := h2 t (by omega); (try simp (disch := omega) only [gs_o, gs_s, gs_r, vs_o, vs_s, vs_r, upd_s, upd_o, uI_o, uI_s, uI_r, oaF]); exact q
  · (try simp (disch := omega) only [gs_o, gs_s, gs_r, vs_o, vs_s, vs_r, upd_s, upd_o, uI_o, uI_s, uI_r, oaF] at ht); have q := h3 t (by omega) w hw; (try simp (disch := omega) only [gs_o, gs_s, gs_r, vs_o, vs_s, vs_r, upd_s, upd_o, uI_o, uI_s, uI_r, oaF]); exact q
  · (try simp (disch := omega) only [gs_o, gs_s, gs_r, vs_o, vs_s, vs_r, upd_s, upd_o, uI_o, uI_s, uI_r, oaF] at ht); have q := h4 t (by omega); (try simp (disch := omega) only [gs_o, gs_s, gs_r, vs_o, vs_s, vs_r, upd_s, upd_o, uI_o, uI_s, uI_r, oaF]); exact q
  · (try simp (disch := omega) only [gs_o, gs_s, gs_r, vs_o, vs_s, vs_r, upd_s, upd_o, uI_o, uI_s, uI_r, oaF] at ht); have q := h5 t (by omega); (try simp (disch := omega) only [gs_o, gs_s, gs_r, vs_o, vs_s, vs_r, upd_s, upd_o, uI_o, uI_s, uI_r, oaF]); exact q
  · by_cases e : t = c
    · subst e; (try simp (disch := omega) only [gs_o, gs_s, gs_r, vs_o, vs_s, vs_r, upd_s, upd_o, uI_o, uI_s, uI_r, oaF] at ht); have q := h6 t (by omega); (try simp (disch := omega) only [gs_o, gs_s, gs_r, vs_o, vs_s, vs_r, upd_s, upd_o, uI_o, uI_s, uI_r, oaF]); omega
    · (try simp (disch := omega) only [gs_o, gs_s, gs_r, vs_o, vs_s, vs_r, upd_s, upd_o, uI_o, uI_s, uI_r, oaF] at ht); have q := h6 t (by omega); (try simp (disch := omega) only [gs_o, gs_s, gs_r, vs_o, vs_s, vs_r, upd_s, upd_o, uI_o, uI_s, uI_r, oaF]); exact q
theorem GW_pd (h : GW g) (hn : n < 64) : GW (gS g 10 c n) := by
  obtain ⟨h0, h1, h2, h3, h4, h5, h6⟩ := h
  refine ⟨?_, fun t ht => ?_, fun t ht => ?_, fun t ht w hw => ?_, fun t ht => ?_, fun t ht => ?_, fun t ht => ?_⟩
  · (try simp (disch := omega) only [gs_o, gs_s, gs_r, vs_o, vs_s, vs_r, upd_s, upd_o, uI_o, uI_s, uI_r, oaF]); exact h0
  · (try simp (disch := omega) only [gs_o, gs_s, gs_r, vs_o, vs_s, vs_r, upd_s, upd_o, uI_o, uI_s, uI_r, oaF] at ht); have q := h1 t (by omega); (try simp (disch := omega) only [gs_o, gs_s, gs_r, vs_o, vs_s, vs_r, upd_s, upd_o, uI_o, uI_s, uI_r, oaF]); exact q
  · (try simp (disch := omega) only [gs_o, gs_s, gs_r, vs_o, vs_s, vs_r, upd_s, upd_o, uI_o, uI_s, uI_r, oaF] at ht); have q := h2 t (by omega); (try simp (disch := omega) only [gs_o, gs_s, gs_r, vs_o, vs_s, vs_r, upd_s, upd_o, uI_o, uI_s, uI_r, oaF]); exact q
  · (try simp (disch := omega) only [gs_o, gs_s, gs_r, vs_o, vs_s, vs_r, upd_s, upd_o, uI_o, uI_s, uI_r, oaF] at ht); have q := h3 t (by omega) w hw; (try simp (disch := omega) only [gs_o, gs_s, gs_r, vs_o, vs_s, vs_r, upd_s, upd_o, uI_o, uI_s, uI_r, oaF]); exact q
  · (try simp (disch := omega) only [gs_o, gs_s, gs_r, vs_o, vs_s, vs_r, upd_s, upd_o, uI_o, uI_s, uI_r, oaF] at ht); have q := h4 t (by omega); (try simp (disch := omega) only [gs_o, gs_s, gs_r, vs_o, vs_s, vs_r, upd_s, upd_o, uI_o, uI_s, uI_r, oaF]); exact q
  · (try simp (disch := omega) only [gs_o, gs_s, gs_r, vs_o, vs_s, vs_r, upd_s, upd_o, uI_o, uI_s, uI_r, oaF] at ht); have q := h5 t (by omega); (try simp (disch := omega) only [gs_o, gs_s, gs_r, vs_o, vs_s, vs_r, upd_s, upd_o, uI_o, uI_s, uI_r, oaF]); exact q
  · by_cases e : t = c
    · subst e; (try simp (disch := omega) only [gs_o, gs_s, gs_r, vs_o, vs_s, vs_r, upd_s, upd_o, uI_o, uI_s, uI_r, oaF] at ht); have q := h6 t (by omega); (try simp (disch := omega) only [gs_o, gs_s, gs_r, vs_o, vs_s, vs_r, upd_s, upd_o, uI_o, uI_s, uI_r, oaF]); omega
    · (try simp (disch := omega) only [gs_o, gs_s, gs_r, vs_o, vs_s, vs_r, upd_s, upd_o, uI_o, uI_s, uI_r, oaF] at ht); have q := h6 t (by omega); (try simp (disch := omega) only [gs_o, gs_s, gs_r, vs_o, vs_s, vs_r, upd_s, upd_o, uI_o, uI_s, uI_r, oaF]); exact q
end Up
