/-! ===== call: net: the most groups of men whose balances come to 0 ===== -/
/-- the sum of a set's balances, in the order of men -/
def smF (bal : Nat → Int32) (S : Nat) : Nat → Int32 := up (fun i s => if bN S i = 1 then s + bal i else s) (nI 0)
/-- the most groups of a set of n men -/
def gpF (n : Nat) (bal : Nat → Int32) : Nat → Nat → Nat
  | 0, _ => 0
  | k + 1, S => if S = 0 then 0 else up (fun i m => if bN S i = 1 then max m (gpF n bal k (S - 2 ^ i)) else m) 0 n + (if smF bal S n = nI 0 then 1 else 0)
theorem gp_0 {n : Nat} {bal : Nat → Int32} {k : Nat} : gpF n bal k 0 = 0 := by
  cases k with
  | zero => rfl
  | succ k => exact if_pos rfl
theorem gp_fuel {n : Nat} {bal : Nat → Int32} : ∀ k S, S ≤ k → gpF n bal k S = gpF n bal (k + 1) S := by
  intro k
  induction k with
  | zero =>
    intro S hS
    have e : S = 0 := by omega
    subst e
    rw [gp_0, gp_0]
  | succ k ih =>
    intro S hS
    by_cases h0 : S = 0
    · subst h0; rw [gp_0, gp_0]
    · have e1 : gpF n bal (k + 1) S = up (fun i m => if bN S i = 1 then max m (gpF n bal k (S - 2 ^ i)) else m) 0 n + (if smF bal S n = nI 0 then 1 else 0) := if_neg h0
      have e2 : gpF n bal (k + 1 + 1) S = up (fun i m => if bN S i = 1 then max m (gpF n bal (k + 1) (S - 2 ^ i)) else m) 0 n + (if smF bal S n = nI 0 then 1 else 0) := if_neg h0
      rw [e1, e2]
      congr 1
      refine up_congr (fun i m hi => ?_)
      by_cases hb : bN S i = 1
      · have hp := bN_pos hb
        have hp2 : 0 < 2 ^ i := Nat.two_pow_pos i
        rw [if_pos hb, if_pos hb, ih (S - 2 ^ i) (by omega)]
      · rw [if_neg hb, if_neg hb]
theorem gp_all {n : Nat} {bal : Nat → Int32} {S : Nat} : ∀ k, S ≤ k → gpF n bal k S = gpF n bal S S := by
  intro k hk
  obtain ⟨j, rfl⟩ := Nat.exists_eq_add_of_le hk
  clear hk
  induction j with
  | zero => rfl
  | succ j ih => rw [← ih]; exact (gp_fuel (S + j) S (by omega)).symm
/-- the table's own recursion -/
def gqF (n : Nat) (bal : Nat → Int32) (S : Nat) : Nat := gpF n bal S S
theorem gq_0 {n : Nat} {bal : Nat → Int32} : gqF n bal 0 = 0 := gp_0
theorem gq_s {n : Nat} {bal : Nat → Int32} {S : Nat} (h : ¬ S = 0) : gqF n bal S = up (fun i m => if bN S i = 1 then max m (gqF n bal (S - 2 ^ i)) else m) 0 n + (if smF bal S n = nI 0 then 1 else 0) := by
  obtain ⟨k, rfl⟩ : ∃ k, S = k + 1 := ⟨S - 1, by omega⟩
  have e1 : gpF n bal (k + 1) (k + 1) = up (fun i m => if bN (k + 1) i = 1 then max m (gpF n bal k (k + 1 - 2 ^ i)) else m) 0 n + (if smF bal (k + 1) n = nI 0 then 1 else 0) := if_neg h
  show gpF n bal (k + 1) (k + 1) = _
  rw [e1]
  congr 1
  refine up_congr (fun i m hi => ?_)
  by_cases hb : bN (k + 1) i = 1
  · have hp := bN_pos hb
    have hp2 : 0 < 2 ^ i := Nat.two_pow_pos i
    rw [if_pos hb, if_pos hb]
    have := gp_all (n := n) (bal := bal) (S := k + 1 - 2 ^ i) k (by omega)
    rw [this]
    rfl
  · rw [if_neg hb, if_neg hb]
