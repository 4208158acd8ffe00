/-! ===== call: net: men whose balance is 0 are no matter of payments ===== -/
theorem bN_sb {S i j : Nat} (h : bN S i = 1) : bN (S - 2 ^ i) j = if j = i then 0 else bN S j := by
  unfold bN at h ⊢
  have hp : 0 < 2 ^ i := Nat.two_pow_pos i
  obtain ⟨q, hq⟩ : ∃ q, S / 2 ^ i = 2 * q + 1 := ⟨S / 2 ^ i / 2, by omega⟩
  obtain ⟨r, hr, hS⟩ : ∃ r, r < 2 ^ i ∧ S = 2 ^ i * (2 * q + 1) + r := ⟨S % 2 ^ i, Nat.mod_lt _ hp, by rw [← hq]; exact (Nat.div_add_mod S (2 ^ i)).symm⟩
  have hT : S - 2 ^ i = 2 ^ i * (2 * q) + r := by
    rw [hS, Nat.mul_add, Nat.mul_one]
    omega
  have hTd : (S - 2 ^ i) / 2 ^ i = 2 * q := by
    rw [hT, Nat.mul_add_div hp, Nat.div_eq_of_lt hr, Nat.add_zero]
  rcases Nat.lt_trichotomy j i with hj | hj | hj
  · rw [if_neg (by omega)]
    have e : 2 ^ i = 2 ^ j * (2 * 2 ^ (i - j - 1)) := by
      rw [← Nat.pow_succ', ← Nat.pow_add]
      congr 1
      omega
    have hpj : 0 < 2 ^ j := Nat.two_pow_pos j
    have t1 : (S - 2 ^ i) / 2 ^ j = 2 * 2 ^ (i - j - 1) * (2 * q) + r / 2 ^ j := by
      rw [hT, e, Nat.mul_assoc, Nat.mul_add_div hpj]
    have t2 : S / 2 ^ j = 2 * 2 ^ (i - j - 1) * (2 * q + 1) + r / 2 ^ j := by
      rw [hS, e, Nat.mul_assoc, Nat.mul_add_div hpj]
    rw [t1, t2, Nat.mul_assoc, Nat.mul_assoc]
    omega
  · subst hj
    rw [if_pos rfl, hTd]
    omega
  · rw [if_neg (by omega)]
    have e : 2 ^ j = 2 ^ i * 2 * 2 ^ (j - i - 1) := by
      rw [← Nat.pow_succ, ← Nat.pow_add]
      congr 1
      omega
    rw [e, ← Nat.div_div_eq_div_mul, ← Nat.div_div_eq_div_mul, ← Nat.div_div_eq_div_mul, ← Nat.div_div_eq_div_mul, hTd, hq]
    rw [show 2 * q / 2 = q by omega, show (2 * q + 1) / 2 = q by omega]
theorem bNz {i : Nat} : bN 0 i = 0 := by unfold bN; rw [Nat.zero_div]
theorem bN_ex : ∀ n S, S < 2 ^ n → ¬ S = 0 → ∃ i, i < n ∧ bN S i = 1 := by
  intro n
  induction n with
  | zero => intro S h1 h2; rw [Nat.pow_zero] at h1; omega
  | succ n ih =>
    intro S h1 h2
    by_cases hb : bN S n = 1
    · exact ⟨n, by omega, hb⟩
    · have hp : 0 < 2 ^ n := Nat.two_pow_pos n
      have hlt : S / 2 ^ n < 2 := by
        rw [Nat.div_lt_iff_lt_mul hp, Nat.mul_comm, ← Nat.pow_succ]
        exact h1
      have h0 : S / 2 ^ n = 0 := by
        unfold bN at hb
        generalize S / 2 ^ n = y at hb hlt ⊢
        omega
      have hlt2 : S < 2 ^ n := by
        rcases Nat.lt_or_ge S (2 ^ n) with z | z
        · exact z
        · have := Nat.div_pos z hp
          omega
      obtain ⟨i, hi, hb2⟩ := ih S hlt2 h2
      exact ⟨i, by omega, hb2⟩
theorem bN_lo {A b r j : Nat} (h : j < r) : bN (A + b * 2 ^ r) j = bN A j := by
  unfold bN
  have e : b * 2 ^ r = 2 ^ j * (2 * (2 ^ (r - j - 1) * b)) := by
    have e2 : 2 ^ r = 2 ^ j * (2 * 2 ^ (r - j - 1)) := by
      rw [← Nat.pow_succ', ← Nat.pow_add]
      congr 1
      omega
    rw [e2, Nat.mul_comm b, Nat.mul_assoc, Nat.mul_assoc]
  rw [e, Nat.add_comm A, Nat.mul_add_div (Nat.two_pow_pos j)]
  omega
theorem bN_at {A b r : Nat} (h : A < 2 ^ r) (hb : b ≤ 1) : bN (A + b * 2 ^ r) r = b := by
  unfold bN
  rw [Nat.add_comm, Nat.mul_comm, Nat.mul_add_div (Nat.two_pow_pos r), Nat.div_eq_of_lt h]
  omega
/-- how many of the men below have a balance -/
def rkF (bal : Nat → Int32) : Nat → Nat
  | 0 => 0
  | k + 1 => rkF bal k + (if bal k = nI 0 then 0 else 1)
/-- a set without those who have none -/
def cpF (bal : Nat → Int32) (S : Nat) : Nat → Nat
  | 0 => 0
  | k + 1 => cpF bal S k + (if bal k = nI 0 then 0 else bN S k * 2 ^ rkF bal k)
/-- how many of a set have none -/
def zcF (bal : Nat → Int32) (S : Nat) : Nat → Nat
  | 0 => 0
  | k + 1 => zcF bal S k + (if bal k = nI 0 then bN S k else 0)
section Zero
variable {bal bal' : Nat → Int32} {S n : Nat}
theorem rk_y {k : Nat} (h : bal k = nI 0) : rkF bal (k + 1) = rkF bal k := by
  show rkF bal k + (if bal k = nI 0 then 0 else 1) = _
  rw [if_pos h, Nat.add_zero]
theorem rk_n {k : Nat} (h : ¬ bal k = nI 0) : rkF bal (k + 1) = rkF bal k + 1 := by
  show rkF bal k + (if bal k = nI 0 then 0 else 1) = _
  rw [if_neg h]
theorem cp_y {k : Nat} (h : bal k = nI 0) : cpF bal S (k + 1) = cpF bal S k := by
  show cpF bal S k + (if bal k = nI 0 then 0 else bN S k * 2 ^ rkF bal k) = _
  rw [if_pos h, Nat.add_zero]
theorem cp_n {k : Nat} (h : ¬ bal k = nI 0) : cpF bal S (k + 1) = cpF bal S k + bN S k * 2 ^ rkF bal k := by
  show cpF bal S k + (if bal k = nI 0 then 0 else bN S k * 2 ^ rkF bal k) = _
  rw [if_neg h]
theorem zc_y {k : Nat} (h : bal k = nI 0) : zcF bal S (k + 1) = zcF bal S k + bN S k := by
  show zcF bal S k + (if bal k = nI 0 then bN S k else 0) = _
  rw [if_pos h]
theorem zc_n {k : Nat} (h : ¬ bal k = nI 0) : zcF bal S (k + 1) = zcF bal S k := by
  show zcF bal S k + (if bal k = nI 0 then bN S k else 0) = _
  rw [if_neg h, Nat.add_zero]
theorem rk_mono : ∀ {k m : Nat}, k ≤ m → rkF bal k ≤ rkF bal m := by
  intro k m h
  induction h with
  | refl => exact Nat.le_refl _
  | step _ ih => exact Nat.le_trans ih (Nat.le_add_right _ _)
theorem rk_lt {k : Nat} (hk : k < n) (h : ¬ bal k = nI 0) : rkF bal k < rkF bal n := by
  have h1 := rk_n h
  have h2 : rkF bal (k + 1) ≤ rkF bal n := rk_mono hk
  omega
theorem rk_le : ∀ k, rkF bal k ≤ k := by
  intro k
  induction k with
  | zero => exact Nat.le_refl 0
  | succ k ih =>
    by_cases h : bal k = nI 0
    · rw [rk_y h]; omega
    · rw [rk_n h]; omega
theorem rk_sur : ∀ n j, j < rkF bal n → ∃ i, i < n ∧ ¬ bal i = nI 0 ∧ rkF bal i = j := by
  intro n
  induction n with
  | zero => intro j h; exact absurd h (Nat.not_lt_zero j)
  | succ n ih =>
    intro j hj
    by_cases h : bal n = nI 0
    · rw [rk_y h] at hj
      obtain ⟨i, h1, h2⟩ := ih j hj
      exact ⟨i, by omega, h2⟩
    · rw [rk_n h] at hj
      by_cases e : j = rkF bal n
      · exact ⟨n, by omega, h, e.symm⟩
      · obtain ⟨i, h1, h2⟩ := ih j (by omega)
        exact ⟨i, by omega, h2⟩
theorem cp_lt : ∀ k, cpF bal S k < 2 ^ rkF bal k := by
  intro k
  induction k with
  | zero => exact Nat.one_pos
  | succ k ih =>
    by_cases h : bal k = nI 0
    · rw [cp_y h, rk_y h]; exact ih
    · rw [cp_n h, rk_n h, Nat.pow_succ]
      have := bN_le S k
      rcases (show bN S k = 0 ∨ bN S k = 1 by omega) with z | z
      · rw [z, Nat.zero_mul]; omega
      · rw [z, Nat.one_mul]; omega
theorem cp_bit : ∀ n k, k < n → ¬ bal k = nI 0 → bN (cpF bal S n) (rkF bal k) = bN S k := by
  intro n
  induction n with
  | zero => intro k h; exact absurd h (Nat.not_lt_zero k)
  | succ n ih =>
    intro k hk hb
    by_cases e : k = n
    · subst e
      rw [cp_n hb, bN_at (cp_lt k) (bN_le S k)]
    · have hk2 : k < n := by omega
      by_cases h : bal n = nI 0
      · rw [cp_y h]; exact ih k hk2 hb
      · rw [cp_n h, bN_lo (rk_lt hk2 hb)]; exact ih k hk2 hb
theorem cp_sb {i : Nat} (hi : bN S i = 1) : ∀ k, cpF bal (S - 2 ^ i) k + (if i < k ∧ ¬ bal i = nI 0 then 2 ^ rkF bal i else 0) = cpF bal S k := by
  intro k
  induction k with
  | zero => rw [if_neg (fun z => Nat.not_lt_zero i z.1)]; rfl
  | succ k ih =>
    by_cases h : bal k = nI 0
    · rw [cp_y h, cp_y h, ← ih]
      congr 1
      by_cases e : i = k
      · subst e; rw [if_neg (fun z => z.2 h), if_neg (fun z => z.2 h)]
      · by_cases e2 : i < k ∧ ¬ bal i = nI 0
        · rw [if_pos e2, if_pos ⟨by omega, e2.2⟩]
        · rw [if_neg e2, if_neg (fun z => e2 ⟨by omega, z.2⟩)]
    · rw [cp_n h, cp_n h, ← ih, bN_sb hi]
      by_cases e : i = k
      · subst e
        rw [if_pos rfl, if_pos ⟨by omega, h⟩, if_neg (fun z => Nat.lt_irrefl i z.1), hi]
        omega
      · rw [if_neg (fun z => e z.symm)]
        by_cases e2 : i < k ∧ ¬ bal i = nI 0
        · rw [if_pos e2, if_pos ⟨by omega, e2.2⟩]; omega
        · rw [if_neg e2, if_neg (fun z => e2 ⟨by omega, z.2⟩)]; omega
theorem zc_sb {i : Nat} (hi : bN S i = 1) : ∀ k, zcF bal (S - 2 ^ i) k + (if i < k ∧ bal i = nI 0 then 1 else 0) = zcF bal S k := by
  intro k
  induction k with
  | zero => rw [if_neg (fun z => Nat.not_lt_zero i z.1)]; rfl
  | succ k ih =>
    by_cases h : bal k = nI 0
    · rw [zc_y h, zc_y h, ← ih, bN_sb hi]
      by_cases e : i = k
      · subst e
        rw [if_pos rfl, if_pos ⟨by omega, h⟩, if_neg (fun z => Nat.lt_irrefl i z.1), hi]
      · rw [if_neg (fun z => e z.symm)]
        by_cases e2 : i < k ∧ bal i = nI 0
        · rw [if_pos e2, if_pos ⟨by omega, e2.2⟩]; omega
        · rw [if_neg e2, if_neg (fun z => e2 ⟨by omega, z.2⟩)]; omega
    · rw [zc_n h, zc_n h, ← ih]
      congr 1
      by_cases e : i = k
      · subst e; rw [if_neg (fun z => h z.2), if_neg (fun z => h z.2)]
      · by_cases e2 : i < k ∧ bal i = nI 0
        · rw [if_pos e2, if_pos ⟨by omega, e2.2⟩]
        · rw [if_neg e2, if_neg (fun z => e2 ⟨by omega, z.2⟩)]
theorem cp_0 : ∀ k, cpF bal 0 k = 0 := by
  intro k
  induction k with
  | zero => rfl
  | succ k ih =>
    by_cases h : bal k = nI 0
    · rw [cp_y h]; exact ih
    · rw [cp_n h, ih, bNz, Nat.zero_mul]
theorem zc_0 : ∀ k, zcF bal 0 k = 0 := by
  intro k
  induction k with
  | zero => rfl
  | succ k ih =>
    by_cases h : bal k = nI 0
    · rw [zc_y h, ih, bNz]
    · rw [zc_n h]; exact ih
theorem sm_1 {k : Nat} (h : bN S k = 1) : smF bal S (k + 1) = smF bal S k + bal k := if_pos h
theorem sm_0 {k : Nat} (h : ¬ bN S k = 1) : smF bal S (k + 1) = smF bal S k := if_neg h
theorem sm_z : ∀ k, smF bal 0 k = nI 0 := by
  intro k
  induction k with
  | zero => rfl
  | succ k ih => rw [sm_0 (by rw [bNz]; omega)]; exact ih
theorem sm_cp (hb : ∀ i, i < n → ¬ bal i = nI 0 → bal' (rkF bal i) = bal i) : ∀ k, k ≤ n → smF bal S k = smF bal' (cpF bal S n) (rkF bal k) := by
  intro k
  induction k with
  | zero => intro _; rfl
  | succ k ih =>
    intro hk
    have ih := ih (by omega)
    by_cases h : bal k = nI 0
    · rw [rk_y h, ← ih]
      by_cases hs : bN S k = 1
      · rw [sm_1 hs, h]; exact Int32.add_zero _
      · rw [sm_0 hs]
    · rw [rk_n h]
      have hc := cp_bit (S := S) n k (by omega) h
      by_cases hs : bN S k = 1
      · rw [sm_1 hs, sm_1 (hc.trans hs), ← ih, hb k (by omega) h]
      · rw [sm_0 hs, sm_0 (by rw [hc]; exact hs), ← ih]
theorem gq_cp (hb : ∀ i, i < n → ¬ bal i = nI 0 → bal' (rkF bal i) = bal i) : ∀ S, S < 2 ^ n → gqF n bal S = gqF (rkF bal n) bal' (cpF bal S n) + zcF bal S n := by
  intro S
  induction S using Nat.strongRecOn with
  | ind S ih =>
    intro hS
    by_cases h0 : S = 0
    · subst h0
      rw [gq_0, cp_0, zc_0, gq_0]
    have hex := bN_ex n S hS h0
    have hsub : ∀ i, bN S i = 1 → S - 2 ^ i < S := fun i hi => by
      have h1 := bN_pos hi
      have h2 : 0 < 2 ^ i := Nat.two_pow_pos i
      omega
    have ih2 : ∀ i, bN S i = 1 → gqF n bal (S - 2 ^ i) = gqF (rkF bal n) bal' (cpF bal (S - 2 ^ i) n) + zcF bal (S - 2 ^ i) n := fun i hi => ih _ (hsub i hi) (Nat.lt_trans (hsub i hi) hS)
    have hz : ∀ i, i < n → bN S i = 1 → bal i = nI 0 → cpF bal (S - 2 ^ i) n = cpF bal S n ∧ zcF bal (S - 2 ^ i) n + 1 = zcF bal S n := by
      intro i hi hs hbz
      have e1 := cp_sb (bal := bal) hs n
      have e2 := zc_sb (bal := bal) hs n
      rw [if_neg (fun z => z.2 hbz)] at e1
      rw [if_pos ⟨hi, hbz⟩] at e2
      exact ⟨e1, e2⟩
    have hn : ∀ i, i < n → bN S i = 1 → ¬ bal i = nI 0 → cpF bal (S - 2 ^ i) n = cpF bal S n - 2 ^ rkF bal i ∧ zcF bal (S - 2 ^ i) n = zcF bal S n := by
      intro i hi hs hbz
      have e1 := cp_sb (bal := bal) hs n
      have e2 := zc_sb (bal := bal) hs n
      rw [if_pos ⟨hi, hbz⟩] at e1
      rw [if_neg (fun z => hbz z.2)] at e2
      exact ⟨by omega, e2⟩
    rw [gq_s h0, sm_cp hb n (Nat.le_refl n)]
    have hbit : ∀ i, i < n → ¬ bal i = nI 0 → bN (cpF bal S n) (rkF bal i) = bN S i := fun i hi hnb => cp_bit n i hi hnb
    have hlt : cpF bal S n < 2 ^ rkF bal n := cp_lt n
    generalize cpF bal S n = C at ih2 hz hn hbit hlt
    by_cases hC : C = 0
    · subst hC
      have hall : ∀ i, i < n → bN S i = 1 → bal i = nI 0 := fun i hi hs => Classical.byContradiction fun hnb => by
        have := hbit i hi hnb
        rw [bNz, hs] at this
        omega
      have hval : ∀ i, i < n → bN S i = 1 → gqF n bal (S - 2 ^ i) + 1 = zcF bal S n := by
        intro i hi hs
        obtain ⟨e1, e2⟩ := hz i hi hs (hall i hi hs)
        rw [ih2 i hs, e1, gq_0]
        omega
      rw [gq_0, sm_z, if_pos rfl]
      obtain ⟨i, hi, hs⟩ := hex
      have h1 := hval i hi hs
      have h2 := mx_ge (p := fun i => bN S i = 1) (f := fun i => gqF n bal (S - 2 ^ i)) hi hs
      have h3 := (mx_le (p := fun i => bN S i = 1) (f := fun i => gqF n bal (S - 2 ^ i)) (B := zcF bal S n - 1) n).mpr (fun j hj hp => by have := hval j hj hp; omega)
      omega
    · rw [gq_s hC]
      generalize he : (if smF bal' C (rkF bal n) = nI 0 then 1 else 0) = e at *
      have he1 : e ≤ 1 := by rw [← he]; split <;> omega
      have hgC : gqF (rkF bal n) bal' C = up (fun i m => if bN C i = 1 then max m (gqF (rkF bal n) bal' (C - 2 ^ i)) else m) 0 (rkF bal n) + e := by rw [gq_s hC, he]
      obtain ⟨j0, hj0, hs0⟩ := bN_ex (rkF bal n) C hlt hC
      have hvn : ∀ j, j < rkF bal n → bN C j = 1 → gqF (rkF bal n) bal' (C - 2 ^ j) + zcF bal S n ≤ up (fun i m => if bN S i = 1 then max m (gqF n bal (S - 2 ^ i)) else m) 0 n := by
        intro j hj hs
        obtain ⟨i, hi, hnb, rfl⟩ := rk_sur n j hj
        have hsi : bN S i = 1 := by rw [← hbit i hi hnb]; exact hs
        obtain ⟨e1, e2⟩ := hn i hi hsi hnb
        have h2 := mx_ge (p := fun i => bN S i = 1) (f := fun i => gqF n bal (S - 2 ^ i)) hi hsi
        rw [ih2 i hsi, e1, e2] at h2
        exact h2
      have hge : up (fun i m => if bN C i = 1 then max m (gqF (rkF bal n) bal' (C - 2 ^ i)) else m) 0 (rkF bal n) + zcF bal S n ≤ up (fun i m => if bN S i = 1 then max m (gqF n bal (S - 2 ^ i)) else m) 0 n := by
        have h3 := (mx_le (p := fun i => bN C i = 1) (f := fun i => gqF (rkF bal n) bal' (C - 2 ^ i)) (B := up (fun i m => if bN S i = 1 then max m (gqF n bal (S - 2 ^ i)) else m) 0 n - zcF bal S n) (rkF bal n)).mpr (fun j hj hp => by have := hvn j hj hp; omega)
        have h4 := hvn j0 hj0 hs0
        omega
      have hle : up (fun i m => if bN S i = 1 then max m (gqF n bal (S - 2 ^ i)) else m) 0 n ≤ up (fun i m => if bN C i = 1 then max m (gqF (rkF bal n) bal' (C - 2 ^ i)) else m) 0 (rkF bal n) + zcF bal S n := by
        refine (mx_le (p := fun i => bN S i = 1) (f := fun i => gqF n bal (S - 2 ^ i)) n).mpr (fun i hi hsi => ?_)
        rw [ih2 i hsi]
        by_cases hnb : bal i = nI 0
        · obtain ⟨e1, e2⟩ := hz i hi hsi hnb
          rw [e1, hgC]
          omega
        · obtain ⟨e1, e2⟩ := hn i hi hsi hnb
          have hs2 : bN C (rkF bal i) = 1 := by rw [hbit i hi hnb]; exact hsi
          have h2 := mx_ge (p := fun i => bN C i = 1) (f := fun i => gqF (rkF bal n) bal' (C - 2 ^ i)) (rk_lt hi hnb) hs2
          rw [e1, e2]
          omega
      omega
theorem zc_le : ∀ k, zcF bal S k ≤ k := by
  intro k
  induction k with
  | zero => exact Nat.le_refl 0
  | succ k ih =>
    by_cases h : bal k = nI 0
    · have := bN_le S k
      rw [zc_y h]; omega
    · rw [zc_n h]; omega
theorem gq_le : ∀ S, S < 2 ^ n → gqF n bal S ≤ zcF (fun _ => nI 0) S n := by
  intro S
  induction S using Nat.strongRecOn with
  | ind S ih =>
    intro hS
    by_cases h0 : S = 0
    · subst h0
      rw [gq_0]; exact Nat.zero_le _
    obtain ⟨i, hi, hs⟩ := bN_ex n S hS h0
    have hv : ∀ i, i < n → bN S i = 1 → gqF n bal (S - 2 ^ i) + 1 ≤ zcF (fun _ => nI 0) S n := by
      intro i hi hs
      have h1 := bN_pos hs
      have h2 : 0 < 2 ^ i := Nat.two_pow_pos i
      have h3 := ih (S - 2 ^ i) (by omega) (by omega)
      have e2 := zc_sb (bal := fun _ => nI 0) hs n
      rw [if_pos ⟨hi, rfl⟩] at e2
      omega
    have h1 := hv i hi hs
    have h3 := (mx_le (p := fun i => bN S i = 1) (f := fun i => gqF n bal (S - 2 ^ i)) (B := zcF (fun _ => nI 0) S n - 1) n).mpr (fun j hj hp => by have := hv j hj hp; omega)
    rw [gq_s h0]
    split <;> omega
theorem gq_12 (hn : n ≤ 12) {S : Nat} (hS : S < 2 ^ n) : gqF n bal S ≤ 12 := by
  have h1 := gq_le (bal := bal) S hS
  have h2 := zc_le (bal := fun _ => nI 0) (S := S) n
  omega
theorem full_b {n k : Nat} (hn : n ≤ 12) (hk : k < n) : bN (2 ^ n - 1) k = 1 := by
  have key : ∀ n, n < 13 → ∀ k, k < n → (2 ^ n - 1) / 2 ^ k % 2 = 1 := by decide +kernel
  exact key n (by omega) k hk
theorem cp_full (hn : n ≤ 12) : ∀ k, k ≤ n → cpF bal (2 ^ n - 1) k + 1 = 2 ^ rkF bal k ∧ zcF bal (2 ^ n - 1) k + rkF bal k = k := by
  intro k
  induction k with
  | zero => intro _; exact ⟨rfl, rfl⟩
  | succ k ih =>
    intro hk
    obtain ⟨e1, e2⟩ := ih (by omega)
    by_cases h : bal k = nI 0
    · rw [cp_y h, zc_y h, rk_y h, full_b hn (by omega)]
      exact ⟨e1, by omega⟩
    · rw [cp_n h, zc_n h, rk_n h, full_b hn (by omega), Nat.pow_succ, Nat.one_mul]
      exact ⟨by omega, by omega⟩
theorem pay_eq (hn : n ≤ 12) (hb : ∀ i, i < n → ¬ bal i = nI 0 → bal' (rkF bal i) = bal i) : nI (rkF bal n) - nI (gqF (rkF bal n) bal' (2 ^ rkF bal n - 1)) = nI n - nI (gqF n bal (2 ^ n - 1)) := by
  have hp : 0 < 2 ^ n := Nat.two_pow_pos n
  obtain ⟨e1, e2⟩ := cp_full (bal := bal) hn n (Nat.le_refl n)
  have h1 := gq_cp hb (2 ^ n - 1) (by omega)
  rw [show cpF bal (2 ^ n - 1) n = 2 ^ rkF bal n - 1 by omega] at h1
  have h2 := gq_le (bal := bal) (n := n) (2 ^ n - 1) (by omega)
  have h3 := zc_le (bal := fun _ => nI 0) (S := 2 ^ n - 1) n
  rw [nI_sb (by omega), nI_sb (by omega)]
  congr 1
  omega
end Zero
