/-! ===== call: net: the most of some numbers ===== -/
theorem mx_le {p : Nat → Prop} [DecidablePred p] {f : Nat → Nat} {B : Nat} : ∀ n, (up (fun i m => if p i then max m (f i) else m) 0 n ≤ B ↔ ∀ i, i < n → p i → f i ≤ B) := by
  intro n
  induction n with
  | zero => exact ⟨fun _ i hi => by omega, fun _ => Nat.zero_le B⟩
  | succ n ih =>
    show (if p n then max (up (fun i m => if p i then max m (f i) else m) 0 n) (f n) else up (fun i m => if p i then max m (f i) else m) 0 n) ≤ B ↔ _
    by_cases h : p n
    · rw [if_pos h, Nat.max_le, ih]
      constructor
      · rintro ⟨z1, z2⟩ i hi hp
        by_cases e : i = n
        · subst e; exact z2
        · exact z1 i (by omega) hp
      · intro z
        exact ⟨fun i hi hp => z i (by omega) hp, z n (by omega) h⟩
    · rw [if_neg h, ih]
      constructor
      · intro z i hi hp
        by_cases e : i = n
        · subst e; exact absurd hp h
        · exact z i (by omega) hp
      · intro z i hi hp
        exact z i (by omega) hp
theorem mx_ge {p : Nat → Prop} [DecidablePred p] {f : Nat → Nat} {n i : Nat} (hi : i < n) (hp : p i) : f i ≤ up (fun i m => if p i then max m (f i) else m) 0 n := (mx_le n).mp (Nat.le_refl _) i hi hp
