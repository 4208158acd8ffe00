/-! ===== call: land: the class's words ===== -/
def tcN : List (List Nat) := [[116, 111, 119, 110], [109, 97, 110], [114, 111, 97, 100], [108, 97, 119], [102, 97, 105, 114], [112, 97, 99, 116]]
def tch (i j : Nat) : Nat := (tcN.getD i []).getD j 0
def tl (i : Nat) : Nat := (tcN.getD i []).length
theorem tl_le {i : Nat} (h : i < 6) : tl i ≤ 4 := by
  have key : ∀ i, i < 6 → (tcN.getD i []).length ≤ 4 := by decide
  exact key i h
theorem tch_lt {i j : Nat} (h : i < 6) (hj : j < 4) : tch i j < 128 := by
  have key : ∀ i, i < 6 → ∀ j, j < 4 → (tcN.getD i []).getD j 0 < 128 := by decide
  exact key i h j hj
theorem e200 {i : Nat} : EXT + 200 + i - 100 = EXT + 100 + i := by omega
theorem ch7 {c : Nat} (h : c < 128) : ((nI c &&& nI 255).toUInt32 % 65536).toInt32 = nI c := by
  have key : ∀ c, c < 128 → ((nI c &&& nI 255).toUInt32 % 65536).toInt32 = nI c := by decide +kernel
  exact key c h
theorem ch8 {c : Nat} (h : c < 128) : ((nI c).toUInt32 % 65536).toInt32 = nI c := by
  have key : ∀ c, c < 128 → ((nI c).toUInt32 % 65536).toInt32 = nI c := by decide +kernel
  exact key c h
theorem shz {c : Nat} (h : c < 16) : nI c >>> (nI 0 &&& nI 31) = nI c := by
  have key : ∀ c, c < 16 → nI c >>> (nI 0 &&& nI 31) = nI c := by decide +kernel
  exact key c h
theorem isW_0 {B : Nat → Nat} {s e : Nat} : isW B s e 0 ↔ (e = s + 4 ∧ B s = 116 ∧ B (s + 1) = 111 ∧ B (s + 2) = 119 ∧ B (s + 3) = 110) := by
  constructor
  · rintro (h | h | h | h | h | h)
    · exact h.2
    · exact absurd h.1 (by decide)
    · exact absurd h.1 (by decide)
    · exact absurd h.1 (by decide)
    · exact absurd h.1 (by decide)
    · exact absurd h.1 (by decide)
  · intro h
    exact Or.inl ⟨rfl, h⟩
theorem isW_1 {B : Nat → Nat} {s e : Nat} : isW B s e 1 ↔ (e = s + 3 ∧ B s = 109 ∧ B (s + 1) = 97 ∧ B (s + 2) = 110) := by
  constructor
  · rintro (h | h | h | h | h | h)
    · exact absurd h.1 (by decide)
    · exact h.2
    · exact absurd h.1 (by decide)
    · exact absurd h.1 (by decide)
    · exact absurd h.1 (by decide)
    · exact absurd h.1 (by decide)
  · intro h
    exact Or.inr (Or.inl ⟨rfl, h⟩)
theorem isW_2 {B : Nat → Nat} {s e : Nat} : isW B s e 2 ↔ (e = s + 4 ∧ B s = 114 ∧ B (s + 1) = 111 ∧ B (s + 2) = 97 ∧ B (s + 3) = 100) := by
  constructor
  · rintro (h | h | h | h | h | h)
    · exact absurd h.1 (by decide)
    · exact absurd h.1 (by decide)
    · exact h.2
    · exact absurd h.1 (by decide)
    · exact absurd h.1 (by decide)
    · exact absurd h.1 (by decide)
  · intro h
    exact Or.inr (Or.inr (Or.inl ⟨rfl, h⟩))
theorem isW_3 {B : Nat → Nat} {s e : Nat} : isW B s e 3 ↔ (e = s + 3 ∧ B s = 108 ∧ B (s + 1) = 97 ∧ B (s + 2) = 119) := by
  constructor
  · rintro (h | h | h | h | h | h)
    · exact absurd h.1 (by decide)
    · exact absurd h.1 (by decide)
    · exact absurd h.1 (by decide)
    · exact h.2
    · exact absurd h.1 (by decide)
    · exact absurd h.1 (by decide)
  · intro h
    exact Or.inr (Or.inr (Or.inr (Or.inl ⟨rfl, h⟩)))
theorem isW_4 {B : Nat → Nat} {s e : Nat} : isW B s e 4 ↔ (e = s + 4 ∧ B s = 102 ∧ B (s + 1) = 97 ∧ B (s + 2) = 105 ∧ B (s + 3) = 114) := by
  constructor
  · rintro (h | h | h | h | h | h)
    · exact absurd h.1 (by decide)
    · exact absurd h.1 (by decide)
    · exact absurd h.1 (by decide)
    · exact absurd h.1 (by decide)
    · exact h.2
    · exact absurd h.1 (by decide)
  · intro h
    exact Or.inr (Or.inr (Or.inr (Or.inr (Or.inl ⟨rfl, h⟩))))
theorem isW_5 {B : Nat → Nat} {s e : Nat} : isW B s e 5 ↔ (e = s + 4 ∧ B s = 112 ∧ B (s + 1) = 97 ∧ B (s + 2) = 99 ∧ B (s + 3) = 116) := by
  constructor
  · rintro (h | h | h | h | h | h)
    · exact absurd h.1 (by decide)
    · exact absurd h.1 (by decide)
    · exact absurd h.1 (by decide)
    · exact absurd h.1 (by decide)
    · exact absurd h.1 (by decide)
    · exact h.2
  · intro h
    exact Or.inr (Or.inr (Or.inr (Or.inr (Or.inr (⟨rfl, h⟩)))))
theorem isW_iff {B : Nat → Nat} {s e w : Nat} (hw : w < 6) (hs : s ≤ e) : isW B s e w ↔ (e - s = tl w ∧ ∀ j, j < tl w → B (s + j) = tch w j) := by
  rcases (show w = 0 ∨ w = 1 ∨ w = 2 ∨ w = 3 ∨ w = 4 ∨ w = 5 by omega) with rfl | rfl | rfl | rfl | rfl | rfl
  · rw [isW_0]
    constructor
    · rintro ⟨h0, h1, h2, h3, h4⟩
      refine ⟨by show e - s = 4; omega, fun j hj => ?_⟩
      have hj : j < 4 := hj
      rcases (show j = 0 ∨ j = 1 ∨ j = 2 ∨ j = 3 by omega) with rfl | rfl | rfl | rfl
      · exact h1
      · exact h2
      · exact h3
      · exact h4
    · rintro ⟨h0, h1⟩
      have h0 : e - s = 4 := h0
      exact ⟨by omega, h1 0 (by decide), h1 1 (by decide), h1 2 (by decide), h1 3 (by decide)⟩
  · rw [isW_1]
    constructor
    · rintro ⟨h0, h1, h2, h3⟩
      refine ⟨by show e - s = 3; omega, fun j hj => ?_⟩
      have hj : j < 3 := hj
      rcases (show j = 0 ∨ j = 1 ∨ j = 2 by omega) with rfl | rfl | rfl
      · exact h1
      · exact h2
      · exact h3
    · rintro ⟨h0, h1⟩
      have h0 : e - s = 3 := h0
      exact ⟨by omega, h1 0 (by decide), h1 1 (by decide), h1 2 (by decide)⟩
  · rw [isW_2]
    constructor
    · rintro ⟨h0, h1, h2, h3, h4⟩
      refine ⟨by show e - s = 4; omega, fun j hj => ?_⟩
      have hj : j < 4 := hj
      rcases (show j = 0 ∨ j = 1 ∨ j = 2 ∨ j = 3 by omega) with rfl | rfl | rfl | rfl
      · exact h1
      · exact h2
      · exact h3
      · exact h4
    · rintro ⟨h0, h1⟩
      have h0 : e - s = 4 := h0
      exact ⟨by omega, h1 0 (by decide), h1 1 (by decide), h1 2 (by decide), h1 3 (by decide)⟩
  · rw [isW_3]
    constructor
    · rintro ⟨h0, h1, h2, h3⟩
      refine ⟨by show e - s = 3; omega, fun j hj => ?_⟩
      have hj : j < 3 := hj
      rcases (show j = 0 ∨ j = 1 ∨ j = 2 by omega) with rfl | rfl | rfl
      · exact h1
      · exact h2
      · exact h3
    · rintro ⟨h0, h1⟩
      have h0 : e - s = 3 := h0
      exact ⟨by omega, h1 0 (by decide), h1 1 (by decide), h1 2 (by decide)⟩
  · rw [isW_4]
    constructor
    · rintro ⟨h0, h1, h2, h3, h4⟩
      refine ⟨by show e - s = 4; omega, fun j hj => ?_⟩
      have hj : j < 4 := hj
      rcases (show j = 0 ∨ j = 1 ∨ j = 2 ∨ j = 3 by omega) with rfl | rfl | rfl | rfl
      · exact h1
      · exact h2
      · exact h3
      · exact h4
    · rintro ⟨h0, h1⟩
      have h0 : e - s = 4 := h0
      exact ⟨by omega, h1 0 (by decide), h1 1 (by decide), h1 2 (by decide), h1 3 (by decide)⟩
  · rw [isW_5]
    constructor
    · rintro ⟨h0, h1, h2, h3, h4⟩
      refine ⟨by show e - s = 4; omega, fun j hj => ?_⟩
      have hj : j < 4 := hj
      rcases (show j = 0 ∨ j = 1 ∨ j = 2 ∨ j = 3 by omega) with rfl | rfl | rfl | rfl
      · exact h1
      · exact h2
      · exact h3
      · exact h4
    · rintro ⟨h0, h1⟩
      have h0 : e - s = 4 := h0
      exact ⟨by omega, h1 0 (by decide), h1 1 (by decide), h1 2 (by decide), h1 3 (by decide)⟩
theorem isW_one {B : Nat → Nat} {s e w w' : Nat} (h : isW B s e w) (h' : isW B s e w') : w = w' := by
  rcases h with h | h | h | h | h | h <;> rcases h' with h' | h' | h' | h' | h' | h' <;> omega
theorem isW_lt {B : Nat → Nat} {s e w : Nat} (h : isW B s e w) : w < 6 := by
  rcases h with h | h | h | h | h | h <;> omega
section Words
variable {d a l u t q L : Nat} {I : Nat → Nat → Int32} {Q : Option Value → LM → Prop} {g : Nat → Nat → Nat} {v : Nat → Nat → Int32} {x y z : Int32}
variable {n s e k : Nat} {B : Nat → Nat} {xs : Nat → Int32}
theorem xtT {i : Nat} (hi : i < 6) : xtg (SH, I, RB l u t q L) (EXT + 100 + i) = 2 := by
  unfold xtg
  rw [if_neg (by omega), if_neg (by omega), if_pos (by omega)]
theorem xlT {i : Nat} (hi : i < 6) : xln (SH, I, RB l u t q L) (EXT + 100 + i) = tl i := by
  unfold xln
  rw [if_neg (by omega)]
  show RB l u t q L (EXT + 100 + i) 0 = _
  unfold RB
  rw [if_neg (by omega), if_neg (by omega), if_neg (by omega), if_neg (by omega), if_neg (by omega)]
  unfold extR
  rw [if_neg (by omega), if_neg (by omega), if_neg (by omega), Nat.add_sub_cancel_left]
  rcases (show i = 0 ∨ i = 1 ∨ i = 2 ∨ i = 3 ∨ i = 4 ∨ i = 5 by omega) with rfl | rfl | rfl | rfl | rfl | rfl <;> rfl
theorem gIT (hE : ∀ a, EXT ≤ a → I a = extI xs a) {i j : Nat} (hi : i < 6) (hj : j < 4) : I (EXT + 100 + i) j = nI (tch i j) := by
  rw [hE _ (by omega)]
  unfold extI
  rw [if_neg (by omega), if_neg (by omega), if_neg (by omega), Nat.add_sub_cancel_left]
  rcases (show i = 0 ∨ i = 1 ∨ i = 2 ∨ i = 3 ∨ i = 4 ∨ i = 5 by omega) with rfl | rfl | rfl | rfl | rfl | rfl <;> rcases (show j = 0 ∨ j = 1 ∨ j = 2 ∨ j = 3 by omega) with rfl | rfl | rfl | rfl <;> rfl
theorem S0_length {i : Nat} (hi : i < 6) : Ends (d + 1) k_J0_length_8abf5 0 [.ref (EXT + 200 + i)] [] (SH, I, RB l u t q L) Q = Q (some (.int (nI (tl i)))) (SH, I, RB l u t q L) := by
  have h4 := tl_le hi
  have hof : ∀ n : Nat, Int32.ofNat n = nI n := fun _ => rfl
  simp (disch := omega) only [gI_k, gR_k, pI_k, pR_k, pC_k, true_and, and_true, and_self, not_false_eq_true, not_true_eq_false, eq_self, true_or, or_true, false_or, or_false, false_and, and_false, Option.toList_some, Option.toList_none, List.cons_append, List.nil_append, ↓reduceIte, nI_lit, nI_add, nI_mul, nI_clp, nlt0, nle, nlt, neq, leF, leT, ltF, ltT, eqF, eqT, em_t, cond_dec, bi_T, bi_F, Classical.not_not, uI_o, uI_s, uI_r, nI_sb, bi01,  B_J0_length_8abf5_0, B_J0_length_8abf5_9, B_J0_coder_7d493_0, e200, xtT, xlT, hof, i8, shz]
theorem S0_charAt (hE : ∀ a, EXT ≤ a → I a = extI xs a) {i j : Nat} (hi : i < 6) (hj : j < tl i) : Ends (d + 2) k_J0_charAt_5068e 0 [.ref (EXT + 200 + i), .int (nI j)] [] (SH, I, RB l u t q L) Q = Q (some (.int (nI (tch i j)))) (SH, I, RB l u t q L) := by
  have h4 := tl_le hi
  have h5 := tch_lt (j := j) hi (by omega)
  have e1 := gIT hE (j := j) hi (by omega)
  have c8 : (cat8 [] = true) = True := eq_true rfl
  have hof : ∀ n : Nat, Int32.ofNat n = nI n := fun _ => rfl
  simp (disch := omega) only [gI_k, gR_k, pI_k, pR_k, pC_k, true_and, and_true, and_self, not_false_eq_true, not_true_eq_false, eq_self, true_or, or_true, false_or, or_false, false_and, and_false, Option.toList_some, Option.toList_none, List.cons_append, List.nil_append, ↓reduceIte, nI_lit, nI_add, nI_mul, nI_clp, nlt0, nle, nlt, neq, leF, leT, ltF, ltT, eqF, eqT, em_t, cond_dec, bi_T, bi_F, Classical.not_not, uI_o, uI_s, uI_r, nI_sb, bi01,  B_J0_charAt_5068e_0, B_J0_charAt_5068e_4, B_J0_charAt_5068e_15, B_J0_isLatin1_aae02_0, B_J1_charAt_3b067_0, e200, xtT, xlT, hof, e1, ch7, ch8, c8]
theorem S6_isName (hE : ∀ a, EXT ≤ a → I a = extI xs a) (hn : n ≤ 500) (hT : TF n B s e k) (hb : ∀ j, j < n → B j < 256) (hC : CT I n B s e k) {i : Nat} (hi : i < 6) : Ends (d + 3) k_X6_isName 0 [.ref 5, .ref (EXT + 200 + i), .null] [] (SH, I, RB l u t q L) Q = Q (some (.int (bi (isW B s e i)))) (SH, I, RB l u t q L) := by
  obtain ⟨c7, c4, c3, c6, c5, ct⟩ := hC
  have h1 := hT.1
  have h2 := hT.2.1
  have h4 := tl_le hi
  refine Ends_eq (fun Q hQ => ?_)
  rw [propext (isW_iff (B := B) hi h1)] at hQ
  simp (disch := omega) only [gI_k, gR_k, pI_k, pR_k, pC_k, true_and, and_true, and_self, not_false_eq_true, not_true_eq_false, eq_self, true_or, or_true, false_or, or_false, false_and, and_false, Option.toList_some, Option.toList_none, List.cons_append, List.nil_append, ↓reduceIte, nI_lit, nI_add, nI_mul, nI_clp, nlt0, nle, nlt, neq, leF, leT, ltF, ltT, eqF, eqT, em_t, cond_dec, bi_T, bi_F, Classical.not_not, uI_o, uI_s, uI_r, nI_sb, bi01,  B_X6_isName_0, B_X6_isName_13, S0_length, ln_2, ln_3, ln_4, ln_43, ln_44, ln_46, ln_48, ln_49, ln_50, ln_52, ln_53, ln_6, ln_7, rbn_0_0, rbn_0_1, rbn_0_2, rbn_0_3, rbn_0_4, rbn_0_5, rbn_0_6, rbn_0_7, rbn_0_8, rbn_0_9, rbn_1_0, rbn_1_1, rbn_1_2, rbn_42_0, rbn_42_1, rbn_45_0, rbn_47_0, rbn_47_1, rbn_47_2, rbn_51_0, rbn_5_0, rbn_5_1, rbn_8_0, rbn_asked, rbn_into, rbs_0_0, rbs_0_1, rbs_0_2, rbs_0_3, rbs_0_4, rbs_0_5, rbs_0_6, rbs_0_7, rbs_0_8, rbs_0_9, rbs_1_0, rbs_1_1, rbs_1_2, rbs_42_0, rbs_42_1, rbs_45_0, rbs_47_0, rbs_47_1, rbs_47_2, rbs_51_0, rbs_5_0, rbs_5_1, rbs_8_0, rbs_asked, rbs_into, sh_0, sh_1, sh_42, sh_45, sh_47, sh_5, sh_51, sh_8, tg_2, tg_3, tg_4, tg_43, tg_44, tg_46, tg_48, tg_49, tg_50, tg_52, tg_53, tg_6, tg_7, xl_2, xl_3, xl_4, xl_43, xl_44, xl_46, xl_48, xl_49, xl_50, xl_52, xl_53, xl_6, xl_7, xt_2, xt_3, xt_4, xt_43, xt_44, xt_46, xt_48, xt_49, xt_50, xt_52, xt_53, xt_6, xt_7, c4, c7]
  by_cases c : e - s = tl i
  · by_cases hex : ∃ j, j < tl i ∧ ¬ B (s + j) = tch i j
    · rw [bi_x (fun z => by obtain ⟨j, hj, hne⟩ := hex; exact hne (z.2 j hj))] at hQ
      simp (disch := omega) only [gI_k, gR_k, pI_k, pR_k, pC_k, true_and, and_true, and_self, not_false_eq_true, not_true_eq_false, eq_self, true_or, or_true, false_or, or_false, false_and, and_false, Option.toList_some, Option.toList_none, List.cons_append, List.nil_append, ↓reduceIte, nI_lit, nI_add, nI_mul, nI_clp, nlt0, nle, nlt, neq, leF, leT, ltF, ltT, eqF, eqT, em_t, cond_dec, bi_T, bi_F, Classical.not_not, uI_o, uI_s, uI_r, nI_sb, bi01,  c]
      refine srT (E := fun j => Ends (d + 3) k_X6_isName 20 [.ref 5, .ref (EXT + 200 + i), .int (nI j)] [] (SH, I, RB l u t q L) Q) hex (fun j hj => ⟨fun hp => ?_, fun hp hE2 => ?_⟩)
      · show Ends (d + 3) k_X6_isName 20 [.ref 5, .ref (EXT + 200 + i), .int (nI j)] [] (SH, I, RB l u t q L) Q
        have e6 := ct (s + j) (by omega)
        have hbj := hb (s + j) (by omega)
        have h5 := tch_lt (j := j) hi (by omega)
        rw [B_X6_isName_20]
        simp (disch := omega) only [gI_k, gR_k, pI_k, pR_k, pC_k, true_and, and_true, and_self, not_false_eq_true, not_true_eq_false, eq_self, true_or, or_true, false_or, or_false, false_and, and_false, Option.toList_some, Option.toList_none, List.cons_append, List.nil_append, ↓reduceIte, nI_lit, nI_add, nI_mul, nI_clp, nlt0, nle, nlt, neq, leF, leT, ltF, ltT, eqF, eqT, em_t, cond_dec, bi_T, bi_F, Classical.not_not, uI_o, uI_s, uI_r, nI_sb, bi01,  B_X6_isName_25, B_X6_isName_44, S0_length, S0_charAt hE, ln_2, ln_3, ln_4, ln_43, ln_44, ln_46, ln_48, ln_49, ln_50, ln_52, ln_53, ln_6, ln_7, rbn_0_0, rbn_0_1, rbn_0_2, rbn_0_3, rbn_0_4, rbn_0_5, rbn_0_6, rbn_0_7, rbn_0_8, rbn_0_9, rbn_1_0, rbn_1_1, rbn_1_2, rbn_42_0, rbn_42_1, rbn_45_0, rbn_47_0, rbn_47_1, rbn_47_2, rbn_51_0, rbn_5_0, rbn_5_1, rbn_8_0, rbn_asked, rbn_into, rbs_0_0, rbs_0_1, rbs_0_2, rbs_0_3, rbs_0_4, rbs_0_5, rbs_0_6, rbs_0_7, rbs_0_8, rbs_0_9, rbs_1_0, rbs_1_1, rbs_1_2, rbs_42_0, rbs_42_1, rbs_45_0, rbs_47_0, rbs_47_1, rbs_47_2, rbs_51_0, rbs_5_0, rbs_5_1, rbs_8_0, rbs_asked, rbs_into, sh_0, sh_1, sh_42, sh_45, sh_47, sh_5, sh_51, sh_8, tg_2, tg_3, tg_4, tg_43, tg_44, tg_46, tg_48, tg_49, tg_50, tg_52, tg_53, tg_6, tg_7, xl_2, xl_3, xl_4, xl_43, xl_44, xl_46, xl_48, xl_49, xl_50, xl_52, xl_53, xl_6, xl_7, xt_2, xt_3, xt_4, xt_43, xt_44, xt_46, xt_48, xt_49, xt_50, xt_52, xt_53, xt_6, xt_7, c7, e6, hp]
        exact hQ
      · show Ends (d + 3) k_X6_isName 20 [.ref 5, .ref (EXT + 200 + i), .int (nI j)] [] (SH, I, RB l u t q L) Q
        have hp : B (s + j) = tch i j := Classical.not_not.mp hp
        have e6 := ct (s + j) (by omega)
        have h5 := tch_lt (j := j) hi (by omega)
        rw [hp] at e6
        rw [B_X6_isName_20]
        simp (disch := omega) only [gI_k, gR_k, pI_k, pR_k, pC_k, true_and, and_true, and_self, not_false_eq_true, not_true_eq_false, eq_self, true_or, or_true, false_or, or_false, false_and, and_false, Option.toList_some, Option.toList_none, List.cons_append, List.nil_append, ↓reduceIte, nI_lit, nI_add, nI_mul, nI_clp, nlt0, nle, nlt, neq, leF, leT, ltF, ltT, eqF, eqT, em_t, cond_dec, bi_T, bi_F, Classical.not_not, uI_o, uI_s, uI_r, nI_sb, bi01,  B_X6_isName_25, B_X6_isName_44, S0_length, S0_charAt hE, ln_2, ln_3, ln_4, ln_43, ln_44, ln_46, ln_48, ln_49, ln_50, ln_52, ln_53, ln_6, ln_7, rbn_0_0, rbn_0_1, rbn_0_2, rbn_0_3, rbn_0_4, rbn_0_5, rbn_0_6, rbn_0_7, rbn_0_8, rbn_0_9, rbn_1_0, rbn_1_1, rbn_1_2, rbn_42_0, rbn_42_1, rbn_45_0, rbn_47_0, rbn_47_1, rbn_47_2, rbn_51_0, rbn_5_0, rbn_5_1, rbn_8_0, rbn_asked, rbn_into, rbs_0_0, rbs_0_1, rbs_0_2, rbs_0_3, rbs_0_4, rbs_0_5, rbs_0_6, rbs_0_7, rbs_0_8, rbs_0_9, rbs_1_0, rbs_1_1, rbs_1_2, rbs_42_0, rbs_42_1, rbs_45_0, rbs_47_0, rbs_47_1, rbs_47_2, rbs_51_0, rbs_5_0, rbs_5_1, rbs_8_0, rbs_asked, rbs_into, sh_0, sh_1, sh_42, sh_45, sh_47, sh_5, sh_51, sh_8, tg_2, tg_3, tg_4, tg_43, tg_44, tg_46, tg_48, tg_49, tg_50, tg_52, tg_53, tg_6, tg_7, xl_2, xl_3, xl_4, xl_43, xl_44, xl_46, xl_48, xl_49, xl_50, xl_52, xl_53, xl_6, xl_7, xt_2, xt_3, xt_4, xt_43, xt_44, xt_46, xt_48, xt_49, xt_50, xt_52, xt_53, xt_6, xt_7, c7, e6]
        exact hE2
    · rw [bi_y ⟨c, fun j hj => Classical.byContradiction fun z => hex ⟨j, hj, z⟩⟩] at hQ
      simp (disch := omega) only [gI_k, gR_k, pI_k, pR_k, pC_k, true_and, and_true, and_self, not_false_eq_true, not_true_eq_false, eq_self, true_or, or_true, false_or, or_false, false_and, and_false, Option.toList_some, Option.toList_none, List.cons_append, List.nil_append, ↓reduceIte, nI_lit, nI_add, nI_mul, nI_clp, nlt0, nle, nlt, neq, leF, leT, ltF, ltT, eqF, eqT, em_t, cond_dec, bi_T, bi_F, Classical.not_not, uI_o, uI_s, uI_r, nI_sb, bi01,  c]
      refine srF (E := fun j => Ends (d + 3) k_X6_isName 20 [.ref 5, .ref (EXT + 200 + i), .int (nI j)] [] (SH, I, RB l u t q L) Q) (n := tl i) hex (fun j hj hp hE2 => ?_) ?_
      · show Ends (d + 3) k_X6_isName 20 [.ref 5, .ref (EXT + 200 + i), .int (nI j)] [] (SH, I, RB l u t q L) Q
        have hp : B (s + j) = tch i j := Classical.not_not.mp hp
        have e6 := ct (s + j) (by omega)
        have h5 := tch_lt (j := j) hi (by omega)
        rw [hp] at e6
        rw [B_X6_isName_20]
        simp (disch := omega) only [gI_k, gR_k, pI_k, pR_k, pC_k, true_and, and_true, and_self, not_false_eq_true, not_true_eq_false, eq_self, true_or, or_true, false_or, or_false, false_and, and_false, Option.toList_some, Option.toList_none, List.cons_append, List.nil_append, ↓reduceIte, nI_lit, nI_add, nI_mul, nI_clp, nlt0, nle, nlt, neq, leF, leT, ltF, ltT, eqF, eqT, em_t, cond_dec, bi_T, bi_F, Classical.not_not, uI_o, uI_s, uI_r, nI_sb, bi01,  B_X6_isName_25, B_X6_isName_44, S0_length, S0_charAt hE, ln_2, ln_3, ln_4, ln_43, ln_44, ln_46, ln_48, ln_49, ln_50, ln_52, ln_53, ln_6, ln_7, rbn_0_0, rbn_0_1, rbn_0_2, rbn_0_3, rbn_0_4, rbn_0_5, rbn_0_6, rbn_0_7, rbn_0_8, rbn_0_9, rbn_1_0, rbn_1_1, rbn_1_2, rbn_42_0, rbn_42_1, rbn_45_0, rbn_47_0, rbn_47_1, rbn_47_2, rbn_51_0, rbn_5_0, rbn_5_1, rbn_8_0, rbn_asked, rbn_into, rbs_0_0, rbs_0_1, rbs_0_2, rbs_0_3, rbs_0_4, rbs_0_5, rbs_0_6, rbs_0_7, rbs_0_8, rbs_0_9, rbs_1_0, rbs_1_1, rbs_1_2, rbs_42_0, rbs_42_1, rbs_45_0, rbs_47_0, rbs_47_1, rbs_47_2, rbs_51_0, rbs_5_0, rbs_5_1, rbs_8_0, rbs_asked, rbs_into, sh_0, sh_1, sh_42, sh_45, sh_47, sh_5, sh_51, sh_8, tg_2, tg_3, tg_4, tg_43, tg_44, tg_46, tg_48, tg_49, tg_50, tg_52, tg_53, tg_6, tg_7, xl_2, xl_3, xl_4, xl_43, xl_44, xl_46, xl_48, xl_49, xl_50, xl_52, xl_53, xl_6, xl_7, xt_2, xt_3, xt_4, xt_43, xt_44, xt_46, xt_48, xt_49, xt_50, xt_52, xt_53, xt_6, xt_7, c7, e6]
        exact hE2
      · show Ends (d + 3) k_X6_isName 20 [.ref 5, .ref (EXT + 200 + i), .int (nI (tl i))] [] (SH, I, RB l u t q L) Q
        rw [B_X6_isName_20]
        simp (disch := omega) only [gI_k, gR_k, pI_k, pR_k, pC_k, true_and, and_true, and_self, not_false_eq_true, not_true_eq_false, eq_self, true_or, or_true, false_or, or_false, false_and, and_false, Option.toList_some, Option.toList_none, List.cons_append, List.nil_append, ↓reduceIte, nI_lit, nI_add, nI_mul, nI_clp, nlt0, nle, nlt, neq, leF, leT, ltF, ltT, eqF, eqT, em_t, cond_dec, bi_T, bi_F, Classical.not_not, uI_o, uI_s, uI_r, nI_sb, bi01,  B_X6_isName_25, S0_length, ln_2, ln_3, ln_4, ln_43, ln_44, ln_46, ln_48, ln_49, ln_50, ln_52, ln_53, ln_6, ln_7, rbn_0_0, rbn_0_1, rbn_0_2, rbn_0_3, rbn_0_4, rbn_0_5, rbn_0_6, rbn_0_7, rbn_0_8, rbn_0_9, rbn_1_0, rbn_1_1, rbn_1_2, rbn_42_0, rbn_42_1, rbn_45_0, rbn_47_0, rbn_47_1, rbn_47_2, rbn_51_0, rbn_5_0, rbn_5_1, rbn_8_0, rbn_asked, rbn_into, rbs_0_0, rbs_0_1, rbs_0_2, rbs_0_3, rbs_0_4, rbs_0_5, rbs_0_6, rbs_0_7, rbs_0_8, rbs_0_9, rbs_1_0, rbs_1_1, rbs_1_2, rbs_42_0, rbs_42_1, rbs_45_0, rbs_47_0, rbs_47_1, rbs_47_2, rbs_51_0, rbs_5_0, rbs_5_1, rbs_8_0, rbs_asked, rbs_into, sh_0, sh_1, sh_42, sh_45, sh_47, sh_5, sh_51, sh_8, tg_2, tg_3, tg_4, tg_43, tg_44, tg_46, tg_48, tg_49, tg_50, tg_52, tg_53, tg_6, tg_7, xl_2, xl_3, xl_4, xl_43, xl_44, xl_46, xl_48, xl_49, xl_50, xl_52, xl_53, xl_6, xl_7, xt_2, xt_3, xt_4, xt_43, xt_44, xt_46, xt_48, xt_49, xt_50, xt_52, xt_53, xt_6, xt_7, c7]
        exact hQ
  · rw [bi_x (fun z => c z.1)] at hQ
    simp (disch := omega) only [gI_k, gR_k, pI_k, pR_k, pC_k, true_and, and_true, and_self, not_false_eq_true, not_true_eq_false, eq_self, true_or, or_true, false_or, or_false, false_and, and_false, Option.toList_some, Option.toList_none, List.cons_append, List.nil_append, ↓reduceIte, nI_lit, nI_add, nI_mul, nI_clp, nlt0, nle, nlt, neq, leF, leT, ltF, ltT, eqF, eqT, em_t, cond_dec, bi_T, bi_F, Classical.not_not, uI_o, uI_s, uI_r, nI_sb, bi01,  c]
    exact hQ
theorem S6_wordN (hE : ∀ a, EXT ≤ a → I a = extI xs a) (hn : n ≤ 500) (hT : TF n B s e k) (hb : ∀ j, j < n → B j < 256) (hC : CT I n B s e k) (hno : ∀ w, w < 6 → ¬ (k = 0 ∧ isW B s e w)) : Ends (d + 4) k_X6_wordTold 0 [.ref 5] [] (SH, I, RB l u t q L) Q = Q (some (.int (-nI 1))) (SH, I, RB l u t q L) := by
  have c3 := hC.2.2.1
  have hk4 := hT.2.2.1
  by_cases c : k = 0
  · have n0 : ¬ isW B s e 0 := fun z => hno 0 (by omega) ⟨c, z⟩
    have n1 : ¬ isW B s e 1 := fun z => hno 1 (by omega) ⟨c, z⟩
    have n2 : ¬ isW B s e 2 := fun z => hno 2 (by omega) ⟨c, z⟩
    have n3 : ¬ isW B s e 3 := fun z => hno 3 (by omega) ⟨c, z⟩
    have n4 : ¬ isW B s e 4 := fun z => hno 4 (by omega) ⟨c, z⟩
    have n5 : ¬ isW B s e 5 := fun z => hno 5 (by omega) ⟨c, z⟩
    rw [c] at c3
    simp (disch := omega) only [gI_k, gR_k, pI_k, pR_k, pC_k, true_and, and_true, and_self, not_false_eq_true, not_true_eq_false, eq_self, true_or, or_true, false_or, or_false, false_and, and_false, Option.toList_some, Option.toList_none, List.cons_append, List.nil_append, ↓reduceIte, nI_lit, nI_add, nI_mul, nI_clp, nlt0, nle, nlt, neq, leF, leT, ltF, ltT, eqF, eqT, em_t, cond_dec, bi_T, bi_F, Classical.not_not, uI_o, uI_s, uI_r, nI_sb, bi01,  B_X6_wordTold_0, B_X6_wordTold_15, B_X6_wordTold_26, B_X6_wordTold_37, B_X6_wordTold_48, B_X6_wordTold_59, B_X6_wordTold_70, ln_2, ln_3, ln_4, ln_43, ln_44, ln_46, ln_48, ln_49, ln_50, ln_52, ln_53, ln_6, ln_7, rbn_0_0, rbn_0_1, rbn_0_2, rbn_0_3, rbn_0_4, rbn_0_5, rbn_0_6, rbn_0_7, rbn_0_8, rbn_0_9, rbn_1_0, rbn_1_1, rbn_1_2, rbn_42_0, rbn_42_1, rbn_45_0, rbn_47_0, rbn_47_1, rbn_47_2, rbn_51_0, rbn_5_0, rbn_5_1, rbn_8_0, rbn_asked, rbn_into, rbs_0_0, rbs_0_1, rbs_0_2, rbs_0_3, rbs_0_4, rbs_0_5, rbs_0_6, rbs_0_7, rbs_0_8, rbs_0_9, rbs_1_0, rbs_1_1, rbs_1_2, rbs_42_0, rbs_42_1, rbs_45_0, rbs_47_0, rbs_47_1, rbs_47_2, rbs_51_0, rbs_5_0, rbs_5_1, rbs_8_0, rbs_asked, rbs_into, sh_0, sh_1, sh_42, sh_45, sh_47, sh_5, sh_51, sh_8, tg_2, tg_3, tg_4, tg_43, tg_44, tg_46, tg_48, tg_49, tg_50, tg_52, tg_53, tg_6, tg_7, xl_2, xl_3, xl_4, xl_43, xl_44, xl_46, xl_48, xl_49, xl_50, xl_52, xl_53, xl_6, xl_7, xt_2, xt_3, xt_4, xt_43, xt_44, xt_46, xt_48, xt_49, xt_50, xt_52, xt_53, xt_6, xt_7, c3, S6_isName hE hn hT hb hC, n0, n1, n2, n3, n4, n5]
  · simp (disch := omega) only [gI_k, gR_k, pI_k, pR_k, pC_k, true_and, and_true, and_self, not_false_eq_true, not_true_eq_false, eq_self, true_or, or_true, false_or, or_false, false_and, and_false, Option.toList_some, Option.toList_none, List.cons_append, List.nil_append, ↓reduceIte, nI_lit, nI_add, nI_mul, nI_clp, nlt0, nle, nlt, neq, leF, leT, ltF, ltT, eqF, eqT, em_t, cond_dec, bi_T, bi_F, Classical.not_not, uI_o, uI_s, uI_r, nI_sb, bi01,  B_X6_wordTold_0, B_X6_wordTold_15, B_X6_wordTold_26, B_X6_wordTold_37, B_X6_wordTold_48, B_X6_wordTold_59, B_X6_wordTold_70, ln_2, ln_3, ln_4, ln_43, ln_44, ln_46, ln_48, ln_49, ln_50, ln_52, ln_53, ln_6, ln_7, rbn_0_0, rbn_0_1, rbn_0_2, rbn_0_3, rbn_0_4, rbn_0_5, rbn_0_6, rbn_0_7, rbn_0_8, rbn_0_9, rbn_1_0, rbn_1_1, rbn_1_2, rbn_42_0, rbn_42_1, rbn_45_0, rbn_47_0, rbn_47_1, rbn_47_2, rbn_51_0, rbn_5_0, rbn_5_1, rbn_8_0, rbn_asked, rbn_into, rbs_0_0, rbs_0_1, rbs_0_2, rbs_0_3, rbs_0_4, rbs_0_5, rbs_0_6, rbs_0_7, rbs_0_8, rbs_0_9, rbs_1_0, rbs_1_1, rbs_1_2, rbs_42_0, rbs_42_1, rbs_45_0, rbs_47_0, rbs_47_1, rbs_47_2, rbs_51_0, rbs_5_0, rbs_5_1, rbs_8_0, rbs_asked, rbs_into, sh_0, sh_1, sh_42, sh_45, sh_47, sh_5, sh_51, sh_8, tg_2, tg_3, tg_4, tg_43, tg_44, tg_46, tg_48, tg_49, tg_50, tg_52, tg_53, tg_6, tg_7, xl_2, xl_3, xl_4, xl_43, xl_44, xl_46, xl_48, xl_49, xl_50, xl_52, xl_53, xl_6, xl_7, xt_2, xt_3, xt_4, xt_43, xt_44, xt_46, xt_48, xt_49, xt_50, xt_52, xt_53, xt_6, xt_7, c3, c]
theorem S6_wordY (hE : ∀ a, EXT ≤ a → I a = extI xs a) (hn : n ≤ 500) (hT : TF n B s e 0) (hb : ∀ j, j < n → B j < 256) (hC : CT I n B s e 0) {w : Nat} (hW : isW B s e w) : Ends (d + 4) k_X6_wordTold 0 [.ref 5] [] (SH, I, RB l u t q L) Q = Q (some (.int (nI w))) (SH, I, RB l u t q L) := by
  have c3 := hC.2.2.1
  have hne : ∀ i, i ≠ w → ¬ isW B s e i := fun i hi z => hi (isW_one z hW)
  have hw6 := isW_lt hW
  rcases (show w = 0 ∨ w = 1 ∨ w = 2 ∨ w = 3 ∨ w = 4 ∨ w = 5 by omega) with rfl | rfl | rfl | rfl | rfl | rfl
  · simp (disch := omega) only [gI_k, gR_k, pI_k, pR_k, pC_k, true_and, and_true, and_self, not_false_eq_true, not_true_eq_false, eq_self, true_or, or_true, false_or, or_false, false_and, and_false, Option.toList_some, Option.toList_none, List.cons_append, List.nil_append, ↓reduceIte, nI_lit, nI_add, nI_mul, nI_clp, nlt0, nle, nlt, neq, leF, leT, ltF, ltT, eqF, eqT, em_t, cond_dec, bi_T, bi_F, Classical.not_not, uI_o, uI_s, uI_r, nI_sb, bi01,  B_X6_wordTold_0, B_X6_wordTold_15, B_X6_wordTold_26, B_X6_wordTold_37, B_X6_wordTold_48, B_X6_wordTold_59, B_X6_wordTold_70, ln_2, ln_3, ln_4, ln_43, ln_44, ln_46, ln_48, ln_49, ln_50, ln_52, ln_53, ln_6, ln_7, rbn_0_0, rbn_0_1, rbn_0_2, rbn_0_3, rbn_0_4, rbn_0_5, rbn_0_6, rbn_0_7, rbn_0_8, rbn_0_9, rbn_1_0, rbn_1_1, rbn_1_2, rbn_42_0, rbn_42_1, rbn_45_0, rbn_47_0, rbn_47_1, rbn_47_2, rbn_51_0, rbn_5_0, rbn_5_1, rbn_8_0, rbn_asked, rbn_into, rbs_0_0, rbs_0_1, rbs_0_2, rbs_0_3, rbs_0_4, rbs_0_5, rbs_0_6, rbs_0_7, rbs_0_8, rbs_0_9, rbs_1_0, rbs_1_1, rbs_1_2, rbs_42_0, rbs_42_1, rbs_45_0, rbs_47_0, rbs_47_1, rbs_47_2, rbs_51_0, rbs_5_0, rbs_5_1, rbs_8_0, rbs_asked, rbs_into, sh_0, sh_1, sh_42, sh_45, sh_47, sh_5, sh_51, sh_8, tg_2, tg_3, tg_4, tg_43, tg_44, tg_46, tg_48, tg_49, tg_50, tg_52, tg_53, tg_6, tg_7, xl_2, xl_3, xl_4, xl_43, xl_44, xl_46, xl_48, xl_49, xl_50, xl_52, xl_53, xl_6, xl_7, xt_2, xt_3, xt_4, xt_43, xt_44, xt_46, xt_48, xt_49, xt_50, xt_52, xt_53, xt_6, xt_7, c3, S6_isName hE hn hT hb hC, hW, nI10]
  · have n0 := hne 0 (by decide)
    simp (disch := omega) only [gI_k, gR_k, pI_k, pR_k, pC_k, true_and, and_true, and_self, not_false_eq_true, not_true_eq_false, eq_self, true_or, or_true, false_or, or_false, false_and, and_false, Option.toList_some, Option.toList_none, List.cons_append, List.nil_append, ↓reduceIte, nI_lit, nI_add, nI_mul, nI_clp, nlt0, nle, nlt, neq, leF, leT, ltF, ltT, eqF, eqT, em_t, cond_dec, bi_T, bi_F, Classical.not_not, uI_o, uI_s, uI_r, nI_sb, bi01,  B_X6_wordTold_0, B_X6_wordTold_15, B_X6_wordTold_26, B_X6_wordTold_37, B_X6_wordTold_48, B_X6_wordTold_59, B_X6_wordTold_70, ln_2, ln_3, ln_4, ln_43, ln_44, ln_46, ln_48, ln_49, ln_50, ln_52, ln_53, ln_6, ln_7, rbn_0_0, rbn_0_1, rbn_0_2, rbn_0_3, rbn_0_4, rbn_0_5, rbn_0_6, rbn_0_7, rbn_0_8, rbn_0_9, rbn_1_0, rbn_1_1, rbn_1_2, rbn_42_0, rbn_42_1, rbn_45_0, rbn_47_0, rbn_47_1, rbn_47_2, rbn_51_0, rbn_5_0, rbn_5_1, rbn_8_0, rbn_asked, rbn_into, rbs_0_0, rbs_0_1, rbs_0_2, rbs_0_3, rbs_0_4, rbs_0_5, rbs_0_6, rbs_0_7, rbs_0_8, rbs_0_9, rbs_1_0, rbs_1_1, rbs_1_2, rbs_42_0, rbs_42_1, rbs_45_0, rbs_47_0, rbs_47_1, rbs_47_2, rbs_51_0, rbs_5_0, rbs_5_1, rbs_8_0, rbs_asked, rbs_into, sh_0, sh_1, sh_42, sh_45, sh_47, sh_5, sh_51, sh_8, tg_2, tg_3, tg_4, tg_43, tg_44, tg_46, tg_48, tg_49, tg_50, tg_52, tg_53, tg_6, tg_7, xl_2, xl_3, xl_4, xl_43, xl_44, xl_46, xl_48, xl_49, xl_50, xl_52, xl_53, xl_6, xl_7, xt_2, xt_3, xt_4, xt_43, xt_44, xt_46, xt_48, xt_49, xt_50, xt_52, xt_53, xt_6, xt_7, c3, S6_isName hE hn hT hb hC, hW, nI10, n0]
  · have n0 := hne 0 (by decide)
    have n1 := hne 1 (by decide)
    simp (disch := omega) only [gI_k, gR_k, pI_k, pR_k, pC_k, true_and, and_true, and_self, not_false_eq_true, not_true_eq_false, eq_self, true_or, or_true, false_or, or_false, false_and, and_false, Option.toList_some, Option.toList_none, List.cons_append, List.nil_append, ↓reduceIte, nI_lit, nI_add, nI_mul, nI_clp, nlt0, nle, nlt, neq, leF, leT, ltF, ltT, eqF, eqT, em_t, cond_dec, bi_T, bi_F, Classical.not_not, uI_o, uI_s, uI_r, nI_sb, bi01,  B_X6_wordTold_0, B_X6_wordTold_15, B_X6_wordTold_26, B_X6_wordTold_37, B_X6_wordTold_48, B_X6_wordTold_59, B_X6_wordTold_70, ln_2, ln_3, ln_4, ln_43, ln_44, ln_46, ln_48, ln_49, ln_50, ln_52, ln_53, ln_6, ln_7, rbn_0_0, rbn_0_1, rbn_0_2, rbn_0_3, rbn_0_4, rbn_0_5, rbn_0_6, rbn_0_7, rbn_0_8, rbn_0_9, rbn_1_0, rbn_1_1, rbn_1_2, rbn_42_0, rbn_42_1, rbn_45_0, rbn_47_0, rbn_47_1, rbn_47_2, rbn_51_0, rbn_5_0, rbn_5_1, rbn_8_0, rbn_asked, rbn_into, rbs_0_0, rbs_0_1, rbs_0_2, rbs_0_3, rbs_0_4, rbs_0_5, rbs_0_6, rbs_0_7, rbs_0_8, rbs_0_9, rbs_1_0, rbs_1_1, rbs_1_2, rbs_42_0, rbs_42_1, rbs_45_0, rbs_47_0, rbs_47_1, rbs_47_2, rbs_51_0, rbs_5_0, rbs_5_1, rbs_8_0, rbs_asked, rbs_into, sh_0, sh_1, sh_42, sh_45, sh_47, sh_5, sh_51, sh_8, tg_2, tg_3, tg_4, tg_43, tg_44, tg_46, tg_48, tg_49, tg_50, tg_52, tg_53, tg_6, tg_7, xl_2, xl_3, xl_4, xl_43, xl_44, xl_46, xl_48, xl_49, xl_50, xl_52, xl_53, xl_6, xl_7, xt_2, xt_3, xt_4, xt_43, xt_44, xt_46, xt_48, xt_49, xt_50, xt_52, xt_53, xt_6, xt_7, c3, S6_isName hE hn hT hb hC, hW, nI10, n0, n1]
  · have n0 := hne 0 (by decide)
    have n1 := hne 1 (by decide)
    have n2 := hne 2 (by decide)
    simp (disch := omega) only [gI_k, gR_k, pI_k, pR_k, pC_k, true_and, and_true, and_self, not_false_eq_true, not_true_eq_false, eq_self, true_or, or_true, false_or, or_false, false_and, and_false, Option.toList_some, Option.toList_none, List.cons_append, List.nil_append, ↓reduceIte, nI_lit, nI_add, nI_mul, nI_clp, nlt0, nle, nlt, neq, leF, leT, ltF, ltT, eqF, eqT, em_t, cond_dec, bi_T, bi_F, Classical.not_not, uI_o, uI_s, uI_r, nI_sb, bi01,  B_X6_wordTold_0, B_X6_wordTold_15, B_X6_wordTold_26, B_X6_wordTold_37, B_X6_wordTold_48, B_X6_wordTold_59, B_X6_wordTold_70, ln_2, ln_3, ln_4, ln_43, ln_44, ln_46, ln_48, ln_49, ln_50, ln_52, ln_53, ln_6, ln_7, rbn_0_0, rbn_0_1, rbn_0_2, rbn_0_3, rbn_0_4, rbn_0_5, rbn_0_6, rbn_0_7, rbn_0_8, rbn_0_9, rbn_1_0, rbn_1_1, rbn_1_2, rbn_42_0, rbn_42_1, rbn_45_0, rbn_47_0, rbn_47_1, rbn_47_2, rbn_51_0, rbn_5_0, rbn_5_1, rbn_8_0, rbn_asked, rbn_into, rbs_0_0, rbs_0_1, rbs_0_2, rbs_0_3, rbs_0_4, rbs_0_5, rbs_0_6, rbs_0_7, rbs_0_8, rbs_0_9, rbs_1_0, rbs_1_1, rbs_1_2, rbs_42_0, rbs_42_1, rbs_45_0, rbs_47_0, rbs_47_1, rbs_47_2, rbs_51_0, rbs_5_0, rbs_5_1, rbs_8_0, rbs_asked, rbs_into, sh_0, sh_1, sh_42, sh_45, sh_47, sh_5, sh_51, sh_8, tg_2, tg_3, tg_4, tg_43, tg_44, tg_46, tg_48, tg_49, tg_50, tg_52, tg_53, tg_6, tg_7, xl_2, xl_3, xl_4, xl_43, xl_44, xl_46, xl_48, xl_49, xl_50, xl_52, xl_53, xl_6, xl_7, xt_2, xt_3, xt_4, xt_43, xt_44, xt_46, xt_48, xt_49, xt_50, xt_52, xt_53, xt_6, xt_7, c3, S6_isName hE hn hT hb hC, hW, nI10, n0, n1, n2]
  · have n0 := hne 0 (by decide)
    have n1 := hne 1 (by decide)
    have n2 := hne 2 (by decide)
    have n3 := hne 3 (by decide)
    simp (disch := omega) only [gI_k, gR_k, pI_k, pR_k, pC_k, true_and, and_true, and_self, not_false_eq_true, not_true_eq_false, eq_self, true_or, or_true, false_or, or_false, false_and, and_false, Option.toList_some, Option.toList_none, List.cons_append, List.nil_append, ↓reduceIte, nI_lit, nI_add, nI_mul, nI_clp, nlt0, nle, nlt, neq, leF, leT, ltF, ltT, eqF, eqT, em_t, cond_dec, bi_T, bi_F, Classical.not_not, uI_o, uI_s, uI_r, nI_sb, bi01,  B_X6_wordTold_0, B_X6_wordTold_15, B_X6_wordTold_26, B_X6_wordTold_37, B_X6_wordTold_48, B_X6_wordTold_59, B_X6_wordTold_70, ln_2, ln_3, ln_4, ln_43, ln_44, ln_46, ln_48, ln_49, ln_50, ln_52, ln_53, ln_6, ln_7, rbn_0_0, rbn_0_1, rbn_0_2, rbn_0_3, rbn_0_4, rbn_0_5, rbn_0_6, rbn_0_7, rbn_0_8, rbn_0_9, rbn_1_0, rbn_1_1, rbn_1_2, rbn_42_0, rbn_42_1, rbn_45_0, rbn_47_0, rbn_47_1, rbn_47_2, rbn_51_0, rbn_5_0, rbn_5_1, rbn_8_0, rbn_asked, rbn_into, rbs_0_0, rbs_0_1, rbs_0_2, rbs_0_3, rbs_0_4, rbs_0_5, rbs_0_6, rbs_0_7, rbs_0_8, rbs_0_9, rbs_1_0, rbs_1_1, rbs_1_2, rbs_42_0, rbs_42_1, rbs_45_0, rbs_47_0, rbs_47_1, rbs_47_2, rbs_51_0, rbs_5_0, rbs_5_1, rbs_8_0, rbs_asked, rbs_into, sh_0, sh_1, sh_42, sh_45, sh_47, sh_5, sh_51, sh_8, tg_2, tg_3, tg_4, tg_43, tg_44, tg_46, tg_48, tg_49, tg_50, tg_52, tg_53, tg_6, tg_7, xl_2, xl_3, xl_4, xl_43, xl_44, xl_46, xl_48, xl_49, xl_50, xl_52, xl_53, xl_6, xl_7, xt_2, xt_3, xt_4, xt_43, xt_44, xt_46, xt_48, xt_49, xt_50, xt_52, xt_53, xt_6, xt_7, c3, S6_isName hE hn hT hb hC, hW, nI10, n0, n1, n2, n3]
  · have n0 := hne 0 (by decide)
    have n1 := hne 1 (by decide)
    have n2 := hne 2 (by decide)
    have n3 := hne 3 (by decide)
    have n4 := hne 4 (by decide)
    simp (disch := omega) only [gI_k, gR_k, pI_k, pR_k, pC_k, true_and, and_true, and_self, not_false_eq_true, not_true_eq_false, eq_self, true_or, or_true, false_or, or_false, false_and, and_false, Option.toList_some, Option.toList_none, List.cons_append, List.nil_append, ↓reduceIte, nI_lit, nI_add, nI_mul, nI_clp, nlt0, nle, nlt, neq, leF, leT, ltF, ltT, eqF, eqT, em_t, cond_dec, bi_T, bi_F, Classical.not_not, uI_o, uI_s, uI_r, nI_sb, bi01,  B_X6_wordTold_0, B_X6_wordTold_15, B_X6_wordTold_26, B_X6_wordTold_37, B_X6_wordTold_48, B_X6_wordTold_59, B_X6_wordTold_70, ln_2, ln_3, ln_4, ln_43, ln_44, ln_46, ln_48, ln_49, ln_50, ln_52, ln_53, ln_6, ln_7, rbn_0_0, rbn_0_1, rbn_0_2, rbn_0_3, rbn_0_4, rbn_0_5, rbn_0_6, rbn_0_7, rbn_0_8, rbn_0_9, rbn_1_0, rbn_1_1, rbn_1_2, rbn_42_0, rbn_42_1, rbn_45_0, rbn_47_0, rbn_47_1, rbn_47_2, rbn_51_0, rbn_5_0, rbn_5_1, rbn_8_0, rbn_asked, rbn_into, rbs_0_0, rbs_0_1, rbs_0_2, rbs_0_3, rbs_0_4, rbs_0_5, rbs_0_6, rbs_0_7, rbs_0_8, rbs_0_9, rbs_1_0, rbs_1_1, rbs_1_2, rbs_42_0, rbs_42_1, rbs_45_0, rbs_47_0, rbs_47_1, rbs_47_2, rbs_51_0, rbs_5_0, rbs_5_1, rbs_8_0, rbs_asked, rbs_into, sh_0, sh_1, sh_42, sh_45, sh_47, sh_5, sh_51, sh_8, tg_2, tg_3, tg_4, tg_43, tg_44, tg_46, tg_48, tg_49, tg_50, tg_52, tg_53, tg_6, tg_7, xl_2, xl_3, xl_4, xl_43, xl_44, xl_46, xl_48, xl_49, xl_50, xl_52, xl_53, xl_6, xl_7, xt_2, xt_3, xt_4, xt_43, xt_44, xt_46, xt_48, xt_49, xt_50, xt_52, xt_53, xt_6, xt_7, c3, S6_isName hE hn hT hb hC, hW, nI10, n0, n1, n2, n3, n4]
end Words
