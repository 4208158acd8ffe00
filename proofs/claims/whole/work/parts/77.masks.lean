/-! ===== call: net: payments; sets of men as masks < 4096 ===== -/
theorem sh12 {S i : Nat} (hS : S < 4096) (hi : i < 12) : (nI S >>> (nI i &&& nI 31)) &&& nI 1 = nI (bN S i) := by
  have key : ∀ a, a < 64 → ∀ b, b < 64 → ∀ i, i < 12 → (nI (a + 64 * b) >>> (nI i &&& nI 31)) &&& nI 1 = nI ((a + 64 * b) / 2 ^ i % 2) := by decide +kernel
  have := key (S % 64) (by omega) (S / 64) (by omega) i hi
  rw [show S % 64 + 64 * (S / 64) = S by omega] at this
  exact this
theorem p12 {i : Nat} (hi : i < 12) : nI 1 <<< (nI i &&& nI 31) = nI (2 ^ i) ∧ 2 ^ i < 4096 := by
  have key : ∀ i, i < 12 → nI 1 <<< (nI i &&& nI 31) = nI (2 ^ i) ∧ 2 ^ i < 4096 := by decide +kernel
  exact key i hi
theorem cl12 {S i : Nat} (hS : S < 4096) (hi : i < 12) (h : bN S i = 1) : nI S &&& ((nI 1 <<< (nI i &&& nI 31)) ^^^ -nI 1) = nI (S - 2 ^ i) := by
  have key : ∀ a, a < 64 → ∀ b, b < 64 → ∀ i, i < 12 → (a + 64 * b) / 2 ^ i % 2 = 1 → nI (a + 64 * b) &&& ((nI 1 <<< (nI i &&& nI 31)) ^^^ -nI 1) = nI ((a + 64 * b) - 2 ^ i) := by decide +kernel
  have e : S % 64 + 64 * (S / 64) = S := by omega
  have := key (S % 64) (by omega) (S / 64) (by omega) i hi
  rw [e] at this
  exact this h
theorem bN_pos {S i : Nat} (h : bN S i = 1) : 2 ^ i ≤ S := by
  refine Nat.le_of_not_lt fun hlt => ?_
  unfold bN at h
  rw [Nat.div_eq_of_lt hlt] at h
  omega
