/-! ===== what both objects hold: g (numbers) and v (ints) are a land; the class's rows, the reference's rows =====
g 0: towns, men, fairs, claims; g 1: laws; g 2, g 3: masks of roads, pacts; g 4 homes, g 5 places; of claims: g 6 holder, g 7 debtor, g 8 left, g 9 sworn, g 10 paid.
v 0: day, seized; v 1 trades; v 2 fairs; of claims: v 3 sum, v 4 asked, v 5 letter's day, v 6 letter's rest, v 7 source. -/
def bN (n u : Nat) : Nat := n / 2 ^ u % 2
theorem bN_le (n u : Nat) : bN n u ≤ 1 := by unfold bN; omega
theorem bN_1 {n u : Nat} : (nI (bN n u) = nI 1) = (bN n u = 1) := by
  have := bN_le n u
  exact neq (by omega) (by decide)
theorem bN_0 {n u : Nat} : (nI (bN n u) = nI 0) = (bN n u = 0) := by
  have := bN_le n u
  exact neq (by omega) (by decide)
theorem shb {n u : Nat} (hn : n < 64) (hu : u < 6) : (nI n >>> (nI u &&& nI 31)) &&& nI 1 = nI (bN n u) := by
  have key : ∀ n, n < 64 → ∀ u, u < 6 → (nI n >>> (nI u &&& nI 31)) &&& nI 1 = nI (n / 2 ^ u % 2) := by decide +kernel
  exact key n hn u hu
abbrev NONE : Int32 := -nI 1000000
def GW (g : Nat → Nat → Nat) : Prop :=
  (g 0 0 ≤ 6 ∧ g 0 1 ≤ 12 ∧ g 0 2 ≤ 4 ∧ g 0 3 ≤ 24) ∧
  (∀ t, t < g 0 0 → g 1 (4 * t + 0) ≤ 3 ∧ (1 ≤ g 1 (4 * t + 1) ∧ g 1 (4 * t + 1) ≤ 100) ∧ g 1 (4 * t + 2) ≤ 1 ∧ g 1 (4 * t + 3) ≤ 1) ∧
  (∀ t, t < 6 → g 2 t < 2 ^ g 0 0 ∧ g 3 t < 2 ^ g 0 0 ∧ (g 0 0 ≤ t → g 2 t = 0 ∧ g 3 t = 0)) ∧
  (∀ t, t < 6 → ∀ w, w < 6 → bN (g 2 t) w = bN (g 2 w) t ∧ bN (g 3 t) w = bN (g 3 w) t) ∧
  (∀ t, t < 6 → bN (g 2 t) t = 0 ∧ bN (g 3 t) t = 0) ∧
  (∀ k, k < g 0 1 → g 4 k < g 0 0 ∧ g 5 k < g 0 0) ∧
  (∀ c, c < g 0 3 → g 6 c < g 0 1 ∧ g 7 c < g 0 1 ∧ g 6 c ≠ g 7 c ∧ g 8 c ≤ 999 ∧ g 9 c < 64 ∧ g 10 c < 64)
def CW (I : Nat → Nat → Int32) (a : Nat) (g : Nat → Nat → Nat) (v : Nat → Nat → Int32) : Prop :=
  (I a 8 = nI (g 0 0) ∧ I a 9 = nI (g 0 1) ∧ I a 10 = nI (g 0 2) ∧ I a 11 = nI (g 0 3) ∧ I a 12 = v 0 0 ∧ I a 13 = v 0 1) ∧
  (∀ t, t < g 0 0 → I (a + 1) t = v 1 t) ∧ (∀ t, t < g 0 0 → I (a + 3) t = nI (g 2 t)) ∧ (∀ t, t < g 0 0 → I (a + 4) t = nI (g 3 t)) ∧
  (∀ k, k < 4 * g 0 0 → I (a + 2) k = nI (g 1 k)) ∧
  (∀ k, k < 3 * g 0 2 → I (a + 5) k = v 2 k) ∧
  (∀ k, k < g 0 1 → I (a + 6) k = nI (g 4 k)) ∧ (∀ k, k < g 0 1 → I (a + 7) k = nI (g 5 k)) ∧
  (∀ c, c < g 0 3 → I (a + 9 + c) 0 = nI (g 6 c) ∧ I (a + 9 + c) 1 = nI (g 7 c) ∧ I (a + 9 + c) 2 = v 3 c ∧ I (a + 9 + c) 3 = nI (g 8 c) ∧ I (a + 9 + c) 4 = v 4 c ∧ I (a + 9 + c) 5 = v 5 c ∧ I (a + 9 + c) 6 = v 6 c ∧ I (a + 9 + c) 7 = v 7 c ∧ I (a + 9 + c) 8 = nI (g 9 c) ∧ I (a + 9 + c) 9 = nI (g 10 c))
noncomputable def oaF (g : Nat → Nat → Nat) (c t : Nat) : Int32 := if bN (g 9 c) t = 0 then NONE else nI (bN (g 10 c) t)
def RW (L N : Nat → Int32) (g : Nat → Nat → Nat) (v : Nat → Nat → Int32) : Prop :=
  (L 0 = nI (g 0 0) ∧ L 1 = nI (g 0 1) ∧ L 4 = nI (g 0 2) ∧ N 2 = nI (g 0 3) ∧ N 0 = v 0 0 ∧ N 1 = v 0 1) ∧
  (∀ t, t < g 0 0 → L (6 + t) = v 1 t ∧ ∃ n, n ≤ 99 ∧ v 1 t = nI n) ∧
  (∀ t, t < 6 → ∀ w, w < 6 → L (24 + 6 * t + w) = nI (bN (g 2 t) w)) ∧
  (∀ t, t < 6 → ∀ w, w < 6 → N (15 + 6 * t + w) = nI (bN (g 3 t) w)) ∧
  (∀ t, t < g 0 0 → ∀ p, p < 4 → L (60 + 4 * t + p) = nI (g 1 (4 * t + p))) ∧
  (∀ f, f < g 0 2 → L (84 + 3 * f) = v 2 (3 * f) ∧ L (84 + 3 * f + 1) = v 2 (3 * f + 1) ∧ L (84 + 3 * f + 2) = v 2 (3 * f + 2)) ∧
  (∀ k, k < g 0 1 → L (12 + k) = nI (g 4 k)) ∧ (∀ k, k < g 0 1 → N (3 + k) = nI (g 5 k)) ∧
  (∀ c, c < g 0 3 → N (51 + 15 * c + 0) = nI (g 6 c) ∧ N (51 + 15 * c + 1) = nI (g 7 c) ∧ N (51 + 15 * c + 2) = v 3 c ∧ N (51 + 15 * c + 3) = nI (g 8 c) ∧ N (51 + 15 * c + 4) = bi (v 7 c ≠ NONE) ∧ N (51 + 15 * c + 5) = v 4 c ∧ N (51 + 15 * c + 6) = v 5 c ∧ N (51 + 15 * c + 7) = v 6 c ∧ N (51 + 15 * c + 8) = v 7 c) ∧
  (∀ c, c < g 0 3 → ∀ t, t < 6 → N (51 + 15 * c + (9 + t)) = oaF g c t)
section Proj
variable {g : Nat → Nat → Nat} {v : Nat → Nat → Int32} {I : Nat → Nat → Int32} {a : Nat} {L N : Nat → Int32}
theorem GW.n (h : GW g) : g 0 0 ≤ 6 ∧ g 0 1 ≤ 12 ∧ g 0 2 ≤ 4 ∧ g 0 3 ≤ 24 := h.1
theorem GW.lw (h : GW g) {t : Nat} (ht : t < g 0 0) : g 1 (4 * t + 0) ≤ 3 ∧ (1 ≤ g 1 (4 * t + 1) ∧ g 1 (4 * t + 1) ≤ 100) ∧ g 1 (4 * t + 2) ≤ 1 ∧ g 1 (4 * t + 3) ≤ 1 := h.2.1 t ht
theorem GW.ms (h : GW g) {t : Nat} (ht : t < 6) : g 2 t < 64 ∧ g 3 t < 64 := by
  obtain ⟨h1, h2, -⟩ := h.2.2.1 t ht
  have h3 : 2 ^ g 0 0 ≤ 2 ^ 6 := Nat.pow_le_pow_right (by decide) h.n.1
  omega
theorem GW.sym (h : GW g) {t w : Nat} (ht : t < 6) (hw : w < 6) : bN (g 2 t) w = bN (g 2 w) t ∧ bN (g 3 t) w = bN (g 3 w) t := h.2.2.2.1 t ht w hw
theorem GW.ir (h : GW g) {t : Nat} (ht : t < 6) : bN (g 2 t) t = 0 ∧ bN (g 3 t) t = 0 := h.2.2.2.2.1 t ht
theorem GW.mn (h : GW g) {k : Nat} (hk : k < g 0 1) : g 4 k < g 0 0 ∧ g 5 k < g 0 0 := h.2.2.2.2.2.1 k hk
theorem GW.cl (h : GW g) {c : Nat} (hc : c < g 0 3) : g 6 c < g 0 1 ∧ g 7 c < g 0 1 ∧ g 6 c ≠ g 7 c ∧ g 8 c ≤ 999 ∧ g 9 c < 64 ∧ g 10 c < 64 := h.2.2.2.2.2.2 c hc
theorem CW.T (h : CW I a g v) : I a 8 = nI (g 0 0) := h.1.1
theorem CW.M (h : CW I a g v) : I a 9 = nI (g 0 1) := h.1.2.1
theorem CW.F (h : CW I a g v) : I a 10 = nI (g 0 2) := h.1.2.2.1
theorem CW.C (h : CW I a g v) : I a 11 = nI (g 0 3) := h.1.2.2.2.1
theorem CW.dy (h : CW I a g v) : I a 12 = v 0 0 := h.1.2.2.2.2.1
theorem CW.sz (h : CW I a g v) : I a 13 = v 0 1 := h.1.2.2.2.2.2
theorem CW.tr (h : CW I a g v) {t : Nat} (ht : t < g 0 0) : I (a + 1) t = v 1 t := h.2.1 t ht
theorem CW.rd (h : CW I a g v) {t : Nat} (ht : t < g 0 0) : I (a + 3) t = nI (g 2 t) := h.2.2.1 t ht
theorem CW.pc (h : CW I a g v) {t : Nat} (ht : t < g 0 0) : I (a + 4) t = nI (g 3 t) := h.2.2.2.1 t ht
theorem CW.lw (h : CW I a g v) {t p : Nat} (ht : t < g 0 0) (hp : p < 4) : I (a + 2) (t * 4 + p) = nI (g 1 (4 * t + p)) := by
  rw [Nat.mul_comm]; exact h.2.2.2.2.1 (4 * t + p) (by omega)
theorem CW.f0 (h : CW I a g v) {f : Nat} (hf : f < g 0 2) : I (a + 5) (f * 3) = v 2 (3 * f) := by
  rw [Nat.mul_comm]; exact h.2.2.2.2.2.1 (3 * f) (by omega)
theorem CW.f1 (h : CW I a g v) {f : Nat} (hf : f < g 0 2) : I (a + 5) (f * 3 + 1) = v 2 (3 * f + 1) := by
  rw [Nat.mul_comm]; exact h.2.2.2.2.2.1 (3 * f + 1) (by omega)
theorem CW.f2 (h : CW I a g v) {f : Nat} (hf : f < g 0 2) : I (a + 5) (f * 3 + 2) = v 2 (3 * f + 2) := by
  rw [Nat.mul_comm]; exact h.2.2.2.2.2.1 (3 * f + 2) (by omega)
theorem CW.hm (h : CW I a g v) {k : Nat} (hk : k < g 0 1) : I (a + 6) k = nI (g 4 k) := h.2.2.2.2.2.2.1 k hk
theorem CW.pl (h : CW I a g v) {k : Nat} (hk : k < g 0 1) : I (a + 7) k = nI (g 5 k) := h.2.2.2.2.2.2.2.1 k hk
theorem CW.c0 (h : CW I a g v) {c : Nat} (hc : c < g 0 3) : I (a + 9 + c) 0 = nI (g 6 c) := (h.2.2.2.2.2.2.2.2 c hc).1
theorem CW.c1 (h : CW I a g v) {c : Nat} (hc : c < g 0 3) : I (a + 9 + c) 1 = nI (g 7 c) := (h.2.2.2.2.2.2.2.2 c hc).2.1
theorem CW.c2 (h : CW I a g v) {c : Nat} (hc : c < g 0 3) : I (a + 9 + c) 2 = v 3 c := (h.2.2.2.2.2.2.2.2 c hc).2.2.1
theorem CW.c3 (h : CW I a g v) {c : Nat} (hc : c < g 0 3) : I (a + 9 + c) 3 = nI (g 8 c) := (h.2.2.2.2.2.2.2.2 c hc).2.2.2.1
theorem CW.c4 (h : CW I a g v) {c : Nat} (hc : c < g 0 3) : I (a + 9 + c) 4 = v 4 c := (h.2.2.2.2.2.2.2.2 c hc).2.2.2.2.1
theorem CW.c5 (h : CW I a g v) {c : Nat} (hc : c < g 0 3) : I (a + 9 + c) 5 = v 5 c := (h.2.2.2.2.2.2.2.2 c hc).2.2.2.2.2.1
theorem CW.c6 (h : CW I a g v) {c : Nat} (hc : c < g 0 3) : I (a + 9 + c) 6 = v 6 c := (h.2.2.2.2.2.2.2.2 c hc).2.2.2.2.2.2.1
theorem CW.c7 (h : CW I a g v) {c : Nat} (hc : c < g 0 3) : I (a + 9 + c) 7 = v 7 c := (h.2.2.2.2.2.2.2.2 c hc).2.2.2.2.2.2.2.1
theorem CW.c8 (h : CW I a g v) {c : Nat} (hc : c < g 0 3) : I (a + 9 + c) 8 = nI (g 9 c) := (h.2.2.2.2.2.2.2.2 c hc).2.2.2.2.2.2.2.2.1
theorem CW.c9 (h : CW I a g v) {c : Nat} (hc : c < g 0 3) : I (a + 9 + c) 9 = nI (g 10 c) := (h.2.2.2.2.2.2.2.2 c hc).2.2.2.2.2.2.2.2.2
theorem RW.T (h : RW L N g v) : L 0 = nI (g 0 0) := h.1.1
theorem RW.M (h : RW L N g v) : L 1 = nI (g 0 1) := h.1.2.1
theorem RW.F (h : RW L N g v) : L 4 = nI (g 0 2) := h.1.2.2.1
theorem RW.C (h : RW L N g v) : N 2 = nI (g 0 3) := h.1.2.2.2.1
theorem RW.dy (h : RW L N g v) : N 0 = v 0 0 := h.1.2.2.2.2.1
theorem RW.sz (h : RW L N g v) : N 1 = v 0 1 := h.1.2.2.2.2.2
theorem RW.tr (h : RW L N g v) {t : Nat} (ht : t < g 0 0) : L (6 + t) = v 1 t := (h.2.1 t ht).1
theorem RW.trb (h : RW L N g v) {t : Nat} (ht : t < g 0 0) : ∃ n, n ≤ 99 ∧ v 1 t = nI n := (h.2.1 t ht).2
theorem RW.rd (h : RW L N g v) {t w : Nat} (ht : t < 6) (hw : w < 6) : L (24 + 6 * t + w) = nI (bN (g 2 t) w) := h.2.2.1 t ht w hw
theorem RW.pc (h : RW L N g v) {t w : Nat} (ht : t < 6) (hw : w < 6) : N (15 + 6 * t + w) = nI (bN (g 3 t) w) := h.2.2.2.1 t ht w hw
theorem RW.lw (h : RW L N g v) {t p : Nat} (ht : t < g 0 0) (hp : p < 4) : L (60 + 4 * t + p) = nI (g 1 (4 * t + p)) := h.2.2.2.2.1 t ht p hp
theorem RW.f0 (h : RW L N g v) {f : Nat} (hf : f < g 0 2) : L (84 + 3 * f) = v 2 (3 * f) := (h.2.2.2.2.2.1 f hf).1
theorem RW.f1 (h : RW L N g v) {f : Nat} (hf : f < g 0 2) : L (84 + 3 * f + 1) = v 2 (3 * f + 1) := (h.2.2.2.2.2.1 f hf).2.1
theorem RW.f2 (h : RW L N g v) {f : Nat} (hf : f < g 0 2) : L (84 + 3 * f + 2) = v 2 (3 * f + 2) := (h.2.2.2.2.2.1 f hf).2.2
theorem RW.hm (h : RW L N g v) {k : Nat} (hk : k < g 0 1) : L (12 + k) = nI (g 4 k) := h.2.2.2.2.2.2.1 k hk
theorem RW.pl (h : RW L N g v) {k : Nat} (hk : k < g 0 1) : N (3 + k) = nI (g 5 k) := h.2.2.2.2.2.2.2.1 k hk
theorem RW.c0 (h : RW L N g v) {c : Nat} (hc : c < g 0 3) : N (51 + 15 * c + 0) = nI (g 6 c) := (h.2.2.2.2.2.2.2.2.1 c hc).1
theorem RW.c1 (h : RW L N g v) {c : Nat} (hc : c < g 0 3) : N (51 + 15 * c + 1) = nI (g 7 c) := (h.2.2.2.2.2.2.2.2.1 c hc).2.1
theorem RW.c2 (h : RW L N g v) {c : Nat} (hc : c < g 0 3) : N (51 + 15 * c + 2) = v 3 c := (h.2.2.2.2.2.2.2.2.1 c hc).2.2.1
theorem RW.c3 (h : RW L N g v) {c : Nat} (hc : c < g 0 3) : N (51 + 15 * c + 3) = nI (g 8 c) := (h.2.2.2.2.2.2.2.2.1 c hc).2.2.2.1
theorem RW.c4 (h : RW L N g v) {c : Nat} (hc : c < g 0 3) : N (51 + 15 * c + 4) = bi (v 7 c ≠ NONE) := (h.2.2.2.2.2.2.2.2.1 c hc).2.2.2.2.1
theorem RW.c5 (h : RW L N g v) {c : Nat} (hc : c < g 0 3) : N (51 + 15 * c + 5) = v 4 c := (h.2.2.2.2.2.2.2.2.1 c hc).2.2.2.2.2.1
theorem RW.c6 (h : RW L N g v) {c : Nat} (hc : c < g 0 3) : N (51 + 15 * c + 6) = v 5 c := (h.2.2.2.2.2.2.2.2.1 c hc).2.2.2.2.2.2.1
theorem RW.c7 (h : RW L N g v) {c : Nat} (hc : c < g 0 3) : N (51 + 15 * c + 7) = v 6 c := (h.2.2.2.2.2.2.2.2.1 c hc).2.2.2.2.2.2.2.1
theorem RW.c8 (h : RW L N g v) {c : Nat} (hc : c < g 0 3) : N (51 + 15 * c + 8) = v 7 c := (h.2.2.2.2.2.2.2.2.1 c hc).2.2.2.2.2.2.2.2
theorem RW.oa (h : RW L N g v) {c t : Nat} (hc : c < g 0 3) (ht : t < 6) : N (51 + 15 * c + (9 + t)) = oaF g c t := h.2.2.2.2.2.2.2.2.2 c hc t ht
end Proj
