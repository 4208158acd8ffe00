/-! ===== numbers, truth values, loops ===== -/
noncomputable def bi (p : Prop) : Int32 := @ite _ p (Classical.propDecidable p) (nI 1) (nI 0)
theorem bi_t {p : Prop} (h : p) : bi p = nI 1 := @if_pos _ (Classical.propDecidable p) h _ _ _
theorem bi_f {p : Prop} (h : ¬ p) : bi p = nI 0 := @if_neg _ (Classical.propDecidable p) h _ _ _
theorem nI10 : ¬ nI 1 = nI 0 := by decide
theorem bi_0 {p : Prop} : (bi p = nI 0) = ¬ p := by
  by_cases h : p
  · rw [bi_t h]; simp [h, nI10]
  · rw [bi_f h]; simp [h]
theorem bi_1 {p : Prop} : (bi p = nI 1) = p := by
  by_cases h : p
  · rw [bi_t h]; simp [h]
  · rw [bi_f h]; simp [h, Ne.symm nI10]
theorem bi01 {p : Prop} : (bi p = nI 0 ∨ bi p = nI 1) = True := by
  rw [bi_0, bi_1]; by_cases h : p <;> simp [h]
theorem bi_T : bi True = nI 1 := bi_t trivial
theorem bi_F : bi False = nI 0 := bi_f id
theorem bi_e {p q : Prop} (h : p ↔ q) : bi p = bi q := by rw [propext h]
theorem em_t {p : Prop} : (¬ p ∨ p) = True := by
  by_cases h : p <;> simp [h]
theorem nI_lit {n : Nat} : (no_index (OfNat.ofNat n) : Int32) = nI (OfNat.ofNat n) := Eq.trans rfl rfl
theorem gI_k {S : List (Nat × Nat)} {I : Nat → Nat → Int32} {R : Nat → Nat → Nat} {a k : Nat} : gI (S, I, R) a k = I a k := Eq.trans rfl rfl
theorem gR_k {S : List (Nat × Nat)} {I : Nat → Nat → Int32} {R : Nat → Nat → Nat} {a k : Nat} : gR (S, I, R) a k = R a k := Eq.trans rfl rfl
theorem pI_k {S : List (Nat × Nat)} {I : Nat → Nat → Int32} {R : Nat → Nat → Nat} {a k : Nat} {v : Int32} : pI (S, I, R) a k v = (S, uI I a k v, R) := Eq.trans rfl rfl
theorem pR_k {S : List (Nat × Nat)} {I : Nat → Nat → Int32} {R : Nat → Nat → Nat} {a k v : Nat} : pR (S, I, R) a k v = (S, I, uR R a k v) := Eq.trans rfl rfl
theorem pC_k {S : List (Nat × Nat)} {I : Nat → Nat → Int32} {R : Nat → Nat → Nat} {a : Nat} {f : Nat → Int32} : pC (S, I, R) a f = (S, va_up I a f, R) := Eq.trans rfl rfl
theorem nI_mul (a b : Nat) : nI a * nI b = nI (a * b) := (Int32.ofNat_mul a b).symm
theorem nI_clp {n : Nat} (h : n < 2147483648) : (nI n).toNatClampNeg = n := nI_clamp h
theorem nlt0 {n : Nat} (h : n < 2147483648) : (nI n < nI 0) = False := by
  rw [eq_iff_iff, iff_false, nI_ltI h (by decide)]; omega
theorem nle {a b : Nat} (h : a < 2147483648) (h2 : b < 2147483648) : (nI a ≤ nI b) = (a ≤ b) := propext (nI_leI h h2)
theorem nlt {a b : Nat} (h : a < 2147483648) (h2 : b < 2147483648) : (nI a < nI b) = (a < b) := propext (nI_ltI h h2)
theorem neq {a b : Nat} (h : a < 2147483648) (h2 : b < 2147483648) : (nI a = nI b) = (a = b) := propext (nI_eq h h2)
theorem nI_sb {a b : Nat} (h : b ≤ a) : nI a - nI b = nI (a - b) := by
  have : nI a = nI (a - b) + nI b := by rw [nI_add, Nat.sub_add_cancel h]
  rw [this, Int32.add_sub_cancel]
theorem leF {a b : Nat} (h : b < a) : (a ≤ b) = False := by simp; omega
theorem leT {a b : Nat} (h : a ≤ b) : (a ≤ b) = True := by simp [h]
theorem ltF {a b : Nat} (h : b ≤ a) : (a < b) = False := by simp; omega
theorem ltT {a b : Nat} (h : a < b) : (a < b) = True := by simp [h]
theorem eqF {a b : Nat} (h : a ≠ b) : (a = b) = False := by simp [h]
theorem eqT {a b : Nat} (h : a = b) : (a = b) = True := by simp [h]
theorem iltF {a b : Int} (h : b ≤ a) : (a < b) = False := by simp; omega
theorem iltT {a b : Int} (h : a < b) : (a < b) = True := by simp [h]
theorem ileF {a b : Int} (h : b < a) : (a ≤ b) = False := by simp; omega
theorem ileT {a b : Int} (h : a ≤ b) : (a ≤ b) = True := by simp [h]
theorem x_lt {x : Int32} {k : Nat} (h : k < 2147483648) : (x < nI k) = (x.toInt < (k : Int)) := by
  rw [Int32.lt_iff_toInt_lt, nI_toInt h]
theorem lt_x {x : Int32} {k : Nat} (h : k < 2147483648) : (nI k < x) = ((k : Int) < x.toInt) := by
  rw [Int32.lt_iff_toInt_lt, nI_toInt h]
theorem x_le {x : Int32} {k : Nat} (h : k < 2147483648) : (x ≤ nI k) = (x.toInt ≤ (k : Int)) := by
  rw [Int32.le_iff_toInt_le, nI_toInt h]
theorem le_x {x : Int32} {k : Nat} (h : k < 2147483648) : (nI k ≤ x) = ((k : Int) ≤ x.toInt) := by
  rw [Int32.le_iff_toInt_le, nI_toInt h]
theorem x_eq {x : Int32} {k : Nat} (h : k < 2147483648) : (x = nI k) = (x.toInt = (k : Int)) := by
  rw [← Int32.toInt_inj, nI_toInt h]
theorem cond_dec {c P : Prop} {_ : Decidable c} : cond (decide c) P False = (c ∧ P) := by
  by_cases h : c <;> simp [h]
theorem uI_o {I : Nat → Nat → Int32} {a k b : Nat} {v : Int32} (h : b ≠ a) : uI I a k v b = I b := uI_off h
theorem uI_s {I : Nat → Nat → Int32} {a k b j : Nat} {v : Int32} (h : b = a ∧ j = k) : uI I a k v b j = v := by
  obtain ⟨rfl, rfl⟩ := h; exact uI_same
theorem uI_r {I : Nat → Nat → Int32} {a k b j : Nat} {v : Int32} (h : b = a ∧ j ≠ k) : uI I a k v b j = I b j := by
  obtain ⟨rfl, h⟩ := h; exact uI_row h
theorem q_bi {c : Prop} {_ : Decidable c} {M : LM} {Q : Option Value → LM → Prop} : (if c then Q (some (.int (nI 1))) M else Q (some (.int (nI 0))) M) = Q (some (.int (bi c))) M := by
  by_cases h : c
  · rw [if_pos h, bi_t h]
  · rw [if_neg h, bi_f h]
theorem q_bj {c : Prop} {_ : Decidable c} {M : LM} {Q : Option Value → LM → Prop} : (if c then Q (some (.int (nI 0))) M else Q (some (.int (nI 1))) M) = Q (some (.int (bi (¬ c)))) M := by
  by_cases h : c
  · rw [if_pos h, bi_f (by simpa using h)]
  · rw [if_neg h, bi_t h]
theorem q_ba {c p : Prop} {_ : Decidable c} {M : LM} {Q : Option Value → LM → Prop} : (if c then Q (some (.int (bi p))) M else Q (some (.int (nI 0))) M) = Q (some (.int (bi (c ∧ p)))) M := by
  by_cases h : c
  · rw [if_pos h, bi_e (p := c ∧ p) (q := p) (by simp [h])]
  · rw [if_neg h, bi_f (p := c ∧ p) (by simp [h])]
theorem q_bb {c p : Prop} {_ : Decidable c} {M : LM} {Q : Option Value → LM → Prop} : (if c then Q (some (.int (nI 0))) M else Q (some (.int (bi p))) M) = Q (some (.int (bi (¬ c ∧ p)))) M := by
  by_cases h : c
  · rw [if_pos h, bi_f (p := ¬ c ∧ p) (by simp [h])]
  · rw [if_neg h, bi_e (p := ¬ c ∧ p) (q := p) (by simp [h])]
theorem q_bc {c p : Prop} {_ : Decidable c} {M : LM} {Q : Option Value → LM → Prop} : (if c then Q (some (.int (nI 1))) M else Q (some (.int (bi p))) M) = Q (some (.int (bi (c ∨ p)))) M := by
  by_cases h : c
  · rw [if_pos h, bi_t (p := c ∨ p) (by simp [h])]
  · rw [if_neg h, bi_e (p := c ∨ p) (q := p) (by simp [h])]
theorem q_bd {c p : Prop} {_ : Decidable c} {M : LM} {Q : Option Value → LM → Prop} : (if c then Q (some (.int (bi p))) M else Q (some (.int (nI 1))) M) = Q (some (.int (bi (¬ c ∨ p)))) M := by
  by_cases h : c
  · rw [if_pos h, bi_e (p := ¬ c ∨ p) (q := p) (by simp [h])]
  · rw [if_neg h, bi_t (p := ¬ c ∨ p) (by simp [h])]
theorem q_be {c p p' : Prop} {_ : Decidable c} {M : LM} {Q : Option Value → LM → Prop} : (if c then Q (some (.int (bi p))) M else Q (some (.int (bi p'))) M) = Q (some (.int (bi (c ∧ p ∨ ¬ c ∧ p')))) M := by
  by_cases h : c
  · rw [if_pos h, bi_e (p := c ∧ p ∨ ¬ c ∧ p') (q := p) (by simp [h])]
  · rw [if_neg h, bi_e (p := c ∧ p ∨ ¬ c ∧ p') (q := p') (by simp [h])]
theorem rbs_cc {l u t q L a c : Nat} (h : IL a) (hc : c < 24) : RB l u t q L (a + 8) c - 1 = a + 9 + c := by
  rw [rb_c h hc]; rfl
theorem rbn_cc {l u t q L a c : Nat} (h : IL a) (hc : c < 24) : (RB l u t q L (a + 8) c = 0) = False := by
  rw [rb_c h hc]; simp
/-- 0 to n - 1 -/
def isN (x : Int32) (n : Nat) : Prop := 0 ≤ x.toInt ∧ x.toInt < (n : Int)
theorem isN_c {x : Int32} {n : Nat} (h : n < 2147483648) : (¬ x < nI 0 ∧ ¬ nI n ≤ x) = isN x n := by
  rw [x_lt (by decide), le_x h]
  unfold isN
  rw [eq_iff_iff]
  omega
theorem isN_nI {k n : Nat} (h : k < n) (hn : n < 2147483648) : isN (nI k) n = True := by
  rw [eq_iff_iff, iff_true]
  unfold isN
  rw [nI_toInt (by omega)]
  omega
theorem isN_of {x : Int32} {n : Nat} (h : isN x n) (hn : n < 2147483648) : ∃ k, k < n ∧ x = nI k := by
  obtain ⟨h1, h2⟩ := h
  refine ⟨x.toInt.toNat, by omega, Int32.toInt_inj.mp ?_⟩
  rw [nI_toInt (by omega)]
  omega
/-! loops -/
def up {α : Type} (f : Nat → α → α) (s : α) : Nat → α
  | 0 => s
  | n + 1 => f n (up f s n)
theorem lpI {α : Type} {E : Nat → α → Prop} {P : Nat → α → Prop} {f : Nat → α → α} {n : Nat} {s : α} (h0 : P 0 s) (h : ∀ k s, k < n → P k s → E k s = E (k + 1) (f k s) ∧ P (k + 1) (f k s)) : E 0 s = E n (up f s n) ∧ P n (up f s n) := by
  have key : ∀ j, j ≤ n → E 0 s = E j (up f s j) ∧ P j (up f s j) := by
    intro j
    induction j with
    | zero => intro _; exact ⟨rfl, h0⟩
    | succ j ih =>
      intro hj
      obtain ⟨e, p⟩ := ih (by omega)
      obtain ⟨e2, p2⟩ := h j _ (by omega) p
      exact ⟨e.trans e2, p2⟩
  exact key n (Nat.le_refl n)
theorem lp {α : Type} {E : Nat → α → Prop} {f : Nat → α → α} {n : Nat} {s : α} (h : ∀ k s, k < n → E k s = E (k + 1) (f k s)) : E 0 s = E n (up f s n) :=
  (lpI (P := fun _ _ => True) trivial (fun k s hk _ => ⟨h k s hk, trivial⟩)).1
theorem sr {E : Nat → Prop} {p : Nat → Prop} {A : Prop} {n : Nat} (h : ∀ k, k < n → (p k → E k = A) ∧ (¬ p k → E k = E (k + 1))) : ((∃ k, k < n ∧ p k) → E 0 = A) ∧ ((¬ ∃ k, k < n ∧ p k) → E 0 = E n) := by
  have key : ∀ j, j ≤ n → ((∃ k, k < j ∧ p k) → E 0 = A) ∧ ((¬ ∃ k, k < j ∧ p k) → E 0 = E j) := by
    intro j
    induction j with
    | zero => intro _; exact ⟨fun ⟨k, hk, _⟩ => absurd hk (Nat.not_lt_zero k), fun _ => rfl⟩
    | succ j ih =>
      intro hj
      obtain ⟨i1, i2⟩ := ih (by omega)
      constructor
      · rintro ⟨k, hk, hp⟩
        by_cases he : ∃ k, k < j ∧ p k
        · exact i1 he
        · have : k = j := by
            rcases Nat.lt_or_ge k j with z | z
            · exact absurd ⟨k, z, hp⟩ he
            · omega
          subst this
          rw [i2 he]
          exact (h k (by omega)).1 hp
      · intro hn
        have hj' : ¬ p j := fun hp => hn ⟨j, Nat.lt_succ_self j, hp⟩
        rw [i2 (fun ⟨k, hk, hp⟩ => hn ⟨k, Nat.lt_succ_of_lt hk, hp⟩)]
        exact (h j (by omega)).2 hj'
  exact key n (Nat.le_refl n)
theorem up_congr {α : Type} {f g : Nat → α → α} {s : α} {n : Nat} (h : ∀ k s, k < n → f k s = g k s) : up f s n = up g s n := by
  induction n with
  | zero => rfl
  | succ n ih =>
    show f n (up f s n) = g n (up g s n)
    rw [ih (fun k s hk => h k s (by omega)), h n _ (by omega)]
theorem lpi {α : Type} {E : Nat → α → Prop} {P : Nat → α → Prop} {f : Nat → α → α} {n : Nat} {s : α} (h0 : P 0 s) (h : ∀ k s, k < n → P k s → P (k + 1) (f k s) ∧ (E (k + 1) (f k s) → E k s)) (h2 : P n (up f s n) → E n (up f s n)) : E 0 s := by
  have key : ∀ j, j ≤ n → P j (up f s j) ∧ (E j (up f s j) → E 0 s) := by
    intro j
    induction j with
    | zero => intro _; exact ⟨h0, id⟩
    | succ j ih =>
      intro hj
      obtain ⟨p, e⟩ := ih (by omega)
      obtain ⟨p2, e2⟩ := h j _ (by omega) p
      exact ⟨p2, fun hh => e (e2 hh)⟩
  obtain ⟨p, e⟩ := key n (Nat.le_refl n)
  exact e (h2 p)
theorem lp0 {α : Type} {E : Nat → α → Prop} {f : Nat → α → α} {n : Nat} {s : α} (h : ∀ k s, k < n → E (k + 1) (f k s) → E k s) (h2 : E n (up f s n)) : E 0 s :=
  lpi (P := fun _ _ => True) trivial (fun k s hk _ => ⟨trivial, h k s hk⟩) (fun _ => h2)
theorem sri {E : Nat → Prop} {n : Nat} (h : ∀ k, k < n → E (k + 1) → E k) (hn : E n) : E 0 := by
  have key : ∀ j, j ≤ n → (E j → E 0) := by
    intro j
    induction j with
    | zero => intro _; exact id
    | succ j ih => intro hj he; exact ih (by omega) (h j (by omega) he)
  exact key n (Nat.le_refl n) hn
theorem srT {E : Nat → Prop} {p : Nat → Prop} {n : Nat} (hex : ∃ k, k < n ∧ p k) (h : ∀ k, k < n → (p k → E k) ∧ (¬ p k → E (k + 1) → E k)) : E 0 := by
  obtain ⟨m, hm, hp⟩ := hex
  have key : ∀ j, j ≤ m → E (m - j) := by
    intro j
    induction j with
    | zero => intro _; exact (h m hm).1 hp
    | succ j ih =>
      intro hj
      by_cases h1 : p (m - (j + 1))
      · exact (h _ (by omega)).1 h1
      · refine (h _ (by omega)).2 h1 ?_
        have e : m - (j + 1) + 1 = m - j := by omega
        rw [e]
        exact ih (by omega)
  have := key m (Nat.le_refl m)
  rw [Nat.sub_self] at this
  exact this
theorem srF {E : Nat → Prop} {p : Nat → Prop} {n : Nat} (hno : ¬ ∃ k, k < n ∧ p k) (h : ∀ k, k < n → ¬ p k → E (k + 1) → E k) (hn : E n) : E 0 :=
  sri (n := n) (fun k hk => h k hk (fun hp => hno ⟨k, hk, hp⟩)) hn
theorem q_z0 {c : Prop} {_ : Decidable (bi c = nI 0)} {M : LM} {Q : Option Value → LM → Prop} : (if bi c = nI 0 then Q (some (.int (nI 0))) M else Q (some (.int (nI 1))) M) = Q (some (.int (bi (c)))) M := by
  by_cases h : c <;> simp [bi_0, h, bi_T, bi_F, nI10]
theorem q_z1 {c p : Prop} {_ : Decidable (bi c = nI 0)} {M : LM} {Q : Option Value → LM → Prop} : (if bi c = nI 0 then Q (some (.int (nI 0))) M else Q (some (.int (bi p))) M) = Q (some (.int (bi (c ∧ p)))) M := by
  by_cases h : c <;> by_cases h2 : p <;> simp [bi_0, h, h2, bi_T, bi_F, nI10]
theorem q_z2 {c : Prop} {_ : Decidable (bi c = nI 0)} {M : LM} {Q : Option Value → LM → Prop} : (if bi c = nI 0 then Q (some (.int (nI 1))) M else Q (some (.int (nI 0))) M) = Q (some (.int (bi (¬ c)))) M := by
  by_cases h : c <;> simp [bi_0, h, bi_T, bi_F, nI10]
theorem q_z3 {c p : Prop} {_ : Decidable (bi c = nI 0)} {M : LM} {Q : Option Value → LM → Prop} : (if bi c = nI 0 then Q (some (.int (bi p))) M else Q (some (.int (nI 1))) M) = Q (some (.int (bi (c ∨ p)))) M := by
  by_cases h : c <;> by_cases h2 : p <;> simp [bi_0, h, h2, bi_T, bi_F, nI10]
theorem q_z4 {c p : Prop} {_ : Decidable (bi c = nI 0)} {M : LM} {Q : Option Value → LM → Prop} : (if bi c = nI 0 then Q (some (.int (bi p))) M else Q (some (.int (nI 0))) M) = Q (some (.int (bi (¬ c ∧ p)))) M := by
  by_cases h : c <;> by_cases h2 : p <;> simp [bi_0, h, h2, bi_T, bi_F, nI10]
