/-! ===== call: land: the loop over the rows, both sides at once ===== -/
def FCl (I I' : Nat → Nat → Int32) (u : Nat) : Prop := ∀ c, c ≠ 5 → c ≠ 7 → ¬ (u ≤ c ∧ c < u + 33) → I' c = I c
def HCl (xs : Nat → Int32) (I : Nat → Nat → Int32) (n : Nat) (B : Nat → Nat) (s e k u : Nat) (b : Nat → Nat → Nat) : Prop := CT I n B s e k ∧ I 5 8 = nI 0 ∧ CB I u b ∧ (∀ j, j < 6 → I 7 j = nI (b 0 j)) ∧ (∀ a, EXT ≤ a → I a = extI xs a)
def CLF (n : Nat) (B : Nat → Nat) (s e k u : Nat) (b : Nat → Nat → Nat) (w f s' : Nat) : Prop := ∀ (d l q L r : Nat) (xs : Nat → Int32) (I : Nat → Nat → Int32) (Q : Option Value → LM → Prop), HCl xs I n B s e k u b → r ≤ s → (∀ I', FCl I I' u → I' 5 8 = nI f → I' 5 7 = nI s' → Q (some (.int (nI 0))) (SH, I', RB l u (u + 1) q L)) → Ends (d + 7) k_X6_readLand 38 [.ref 5, .ref u, .int (nI w), .int (nI r), .null] [] (SH, I, RB l u (u + 1) q L) Q
def CLO (n : Nat) (B : Nat → Nat) (s e k u : Nat) (b : Nat → Nat → Nat) (w : Nat) (b' : Nat → Nat → Nat) : Prop := ∀ (d l q L r : Nat) (xs : Nat → Int32) (I : Nat → Nat → Int32) (Q : Option Value → LM → Prop), HCl xs I n B s e k u b → r ≤ s → (∀ I', FCl I I' u → CB I' u b' → Q (some (.int (nI 1))) (SH, I', RB l u (u + 1) q L)) → Ends (d + 7) k_X6_readLand 38 [.ref 5, .ref u, .int (nI w), .int (nI r), .null] [] (SH, I, RB l u (u + 1) q L) Q
def RLF (n : Nat) (B : Nat → Nat) (s e k : Nat) (b : Nat → Nat → Nat) (w f s' : Nat) : Prop := ∀ (d l u t q L : Nat) (x : Int32) (I : Nat → Nat → Int32) (Q : Option Value → LM → Prop), RT I n B s e k → I 186 17 = nI 0 → RL (I 191) b → (∀ I', FRr I I' → I' 186 17 = nI f → I' 186 18 = nI s' → Ends (d + 7) k_X10_land 204 [.ref 186, .int x] [] (SH, I', RB l u t q L) Q) → Ends (d + 7) k_X10_land (pcw w) [.ref 186, .int x] [] (SH, I, RB l u t q L) Q
def RLO (n : Nat) (B : Nat → Nat) (s e k : Nat) (b : Nat → Nat → Nat) (w : Nat) (b' : Nat → Nat → Nat) : Prop := ∀ (d l u t q L : Nat) (x : Int32) (I : Nat → Nat → Int32) (Q : Option Value → LM → Prop), RT I n B s e k → I 186 17 = nI 0 → RL (I 191) b → (∀ I', FRr I I' → I' 186 17 = nI 0 → RL (I' 191) b' → Ends (d + 7) k_X10_land 204 [.ref 186, .int x] [] (SH, I', RB l u t q L) Q) → Ends (d + 7) k_X10_land (pcw w) [.ref 186, .int x] [] (SH, I, RB l u t q L) Q
def LoopP (n : Nat) (B : Nat → Nat) (s e k u : Nat) (b : Nat → Nat → Nat) (w : Nat) : Prop :=
  (∃ f s', (0 < f ∧ f < 4) ∧ CLF n B s e k u b w f s' ∧ RLF n B s e k b w f s') ∨
  (∃ b', BW b' ∧ 0 < b' 0 0 ∧ CLO n B s e k u b w b' ∧ RLO n B s e k b w b')
theorem FRr.tr {I I1 I2 : Nat → Nat → Int32} (h : FRr I I1) (h2 : FRr I1 I2) : FRr I I2 := ⟨fun c c1 c2 => (h2.1 c c1 c2).trans (h.1 c c1 c2), fun c hc => (h2.2 c hc).trans (h.2 c hc)⟩
theorem FRr.nx {I I1 : Nat → Nat → Int32} (h1 : ∀ b, b ≠ 186 → I1 b = I b) (h2 : ∀ c, ¬ (13 ≤ c ∧ c ≤ 16) → I1 186 c = I 186 c) : FRr I I1 := ⟨fun c c1 _ => h1 c c1, fun c hc => h2 c (by unfold f18 at hc; omega)⟩
theorem FCl.tr {I I1 I2 : Nat → Nat → Int32} {u : Nat} (h : FCl I I1 u) (h2 : FCl I1 I2 u) : FCl I I2 u := fun c c1 c2 c3 => (h2 c c1 c2 c3).trans (h c c1 c2 c3)
theorem ltM1 {j : Nat} (h : j < 2147483648) : (-nI 1 < nI j) = True := by
  rw [eq_iff_iff, iff_true, Int32.lt_iff_toInt_lt, neg_toInt (by omega), nI_toInt h]
  omega
theorem rm_le {b : Nat → Nat → Nat} (hB : BW b) {w : Nat} (hw : w < 6) : b 0 w ≤ rm w ∧ rm w ≤ 12 := by
  obtain ⟨⟨n0, n1, n2, n3, n4, n5⟩, -⟩ := hB
  rcases (show w = 0 ∨ w = 1 ∨ w = 2 ∨ w = 3 ∨ w = 4 ∨ w = 5 by omega) with rfl | rfl | rfl | rfl | rfl | rfl
  · exact ⟨n0, by decide⟩
  · exact ⟨n1, by decide⟩
  · exact ⟨n2, by decide⟩
  · exact ⟨n3, by decide⟩
  · exact ⟨n4, by decide⟩
  · exact ⟨n5, by decide⟩
theorem ka1 {xs : Nat → Int32} {I : Nat → Nat → Int32} (hE : ∀ a, EXT ≤ a → I a = extI xs a) {w : Nat} (hw : w < 6) : I (EXT + 1) w = nI (rm w) := by
  rw [hE _ (by omega)]
  rcases (show w = 0 ∨ w = 1 ∨ w = 2 ∨ w = 3 ∨ w = 4 ∨ w = 5 by omega) with rfl | rfl | rfl | rfl | rfl | rfl <;> rfl
section Loop
variable {n u : Nat} {B : Nat → Nat}
/-- the class, where a word stands that may: behind its nextToken -/
theorem preC (hn : n ≤ 500) (hb : ∀ j, j < n → B j < 256) (hu : IL u) {s e w w' s1 e1 k1 : Nat} {b : Nat → Nat → Nat} (hT : TF n B s e 0) (hB : BW b) (hw : w < 6) (hW : isW B s e w') (hle : w ≤ w') (h0 : b 0 0 = 0 → w' = 0) (hr : b 0 w' < rm w') (hX : NX n B e s1 e1 k1) {d l q L r : Nat} {xs : Nat → Int32} {I : Nat → Nat → Int32} {Q : Option Value → LM → Prop} (hH : HCl xs I n B s e 0 u b) (hrs : r ≤ s) (hE2 : ∀ I', (∀ c, c ≠ 5 → c ≠ 7 → I' c = I c) → I' 5 8 = nI 0 → CT I' n B s1 e1 k1 → (∀ j, j < 6 → I' 7 j = nI (if j = w' then b 0 j + 1 else b 0 j)) → Ends (d + 7) k_X6_readLand 125 [.ref 5, .ref u, .int (nI w'), .int (nI r), .int (nI w')] [] (SH, I', RB l u (u + 1) q L) Q) : Ends (d + 7) k_X6_readLand 38 [.ref 5, .ref u, .int (nI w), .int (nI r), .null] [] (SH, I, RB l u (u + 1) q L) Q := by
  obtain ⟨hC, h8, hCB, h7, hE⟩ := hH
  have hw6 := isW_lt hW
  have h12 := rm_le hB hw6
  have h12' := rm_le hB (w := 0) (by decide)
  have e0 := h7 0 (by decide)
  have ew := h7 w' hw6
  have er := ka1 hE hw6
  have hse : s < e := hT.2.2.2.2.1 (by decide)
  have hen := hT.2.1
  have c3 := hC.2.2.1
  have key : Ends (d + 7) k_X6_readLand 85 [.ref 5, .ref u, .int (nI w), .int (nI r), .int (nI w')] [] (SH, I, RB l u (u + 1) q L) Q := by
    rw [B_X6_readLand_85]
    simp (disch := omega) only [gI_k, gR_k, pI_k, pR_k, pC_k, true_and, and_true, and_self, not_false_eq_true, not_true_eq_false, eq_self, true_or, or_true, false_or, or_false, false_and, and_false, Option.toList_some, Option.toList_none, List.cons_append, List.nil_append, ↓reduceIte, nI_lit, nI_add, nI_mul, nI_clp, nlt0, nle, nlt, neq, leF, leT, ltF, ltT, eqF, eqT, em_t, cond_dec, bi_T, bi_F, Classical.not_not, uI_o, uI_s, uI_r, nI_sb, bi01,  ln_2, ln_3, ln_4, ln_43, ln_44, ln_46, ln_48, ln_49, ln_50, ln_52, ln_53, ln_6, ln_7, rbn_0_0, rbn_0_1, rbn_0_2, rbn_0_3, rbn_0_4, rbn_0_5, rbn_0_6, rbn_0_7, rbn_0_8, rbn_0_9, rbn_1_0, rbn_1_1, rbn_1_2, rbn_42_0, rbn_42_1, rbn_45_0, rbn_47_0, rbn_47_1, rbn_47_2, rbn_51_0, rbn_5_0, rbn_5_1, rbn_8_0, rbn_asked, rbn_into, rbs_0_0, rbs_0_1, rbs_0_2, rbs_0_3, rbs_0_4, rbs_0_5, rbs_0_6, rbs_0_7, rbs_0_8, rbs_0_9, rbs_1_0, rbs_1_1, rbs_1_2, rbs_42_0, rbs_42_1, rbs_45_0, rbs_47_0, rbs_47_1, rbs_47_2, rbs_51_0, rbs_5_0, rbs_5_1, rbs_8_0, rbs_asked, rbs_into, sh_0, sh_1, sh_42, sh_45, sh_47, sh_5, sh_51, sh_8, tg_2, tg_3, tg_4, tg_43, tg_44, tg_46, tg_48, tg_49, tg_50, tg_52, tg_53, tg_6, tg_7, xl_2, xl_3, xl_4, xl_43, xl_44, xl_46, xl_48, xl_49, xl_50, xl_52, xl_53, xl_6, xl_7, xt_2, xt_3, xt_4, xt_43, xt_44, xt_46, xt_48, xt_49, xt_50, xt_52, xt_53, xt_6, xt_7, xtE, xlE, ew, er]
    refine S6_next hX hn hb (by rw [uI_off (by decide)]; exact hC.2.1) (by rw [uI_off (by decide)]; exact hC.2.2.2.1) (fun j hj => by rw [uI_off (by decide)]; exact hC.2.2.2.2.2 j hj) (fun I' f1 f8 hC' => ?_)
    simp (disch := omega) only [gI_k, gR_k, pI_k, pR_k, pC_k, true_and, and_true, and_self, not_false_eq_true, not_true_eq_false, eq_self, true_or, or_true, false_or, or_false, false_and, and_false, Option.toList_some, Option.toList_none, List.cons_append, List.nil_append, ↓reduceIte, nI_lit, nI_add, nI_mul, nI_clp, nlt0, nle, nlt, neq, leF, leT, ltF, ltT, eqF, eqT, em_t, cond_dec, bi_T, bi_F, Classical.not_not, uI_o, uI_s, uI_r, nI_sb, bi01,  true_and]
    refine hE2 I' (fun c c1 c2 => by rw [f1 c c1, uI_off c2]) (by rw [f8, uI_off (by decide)]; exact h8) hC' (fun j hj => ?_)
    rw [f1 7 (by decide)]
    by_cases c : j = w'
    · rw [if_pos c, c, uI_same]
    · rw [if_neg c, uI_row c]; exact h7 j hj
  rw [B_X6_readLand_38]
  by_cases z : b 0 0 = 0
  · have hw0 := h0 z
    subst hw0
    have hw00 : w = 0 := by omega
    subst hw00
    simp (disch := omega) only [gI_k, gR_k, pI_k, pR_k, pC_k, true_and, and_true, and_self, not_false_eq_true, not_true_eq_false, eq_self, true_or, or_true, false_or, or_false, false_and, and_false, Option.toList_some, Option.toList_none, List.cons_append, List.nil_append, ↓reduceIte, nI_lit, nI_add, nI_mul, nI_clp, nlt0, nle, nlt, neq, leF, leT, ltF, ltT, eqF, eqT, em_t, cond_dec, bi_T, bi_F, Classical.not_not, uI_o, uI_s, uI_r, nI_sb, bi01,  B_X6_readLand_57, ln_2, ln_3, ln_4, ln_43, ln_44, ln_46, ln_48, ln_49, ln_50, ln_52, ln_53, ln_6, ln_7, rbn_0_0, rbn_0_1, rbn_0_2, rbn_0_3, rbn_0_4, rbn_0_5, rbn_0_6, rbn_0_7, rbn_0_8, rbn_0_9, rbn_1_0, rbn_1_1, rbn_1_2, rbn_42_0, rbn_42_1, rbn_45_0, rbn_47_0, rbn_47_1, rbn_47_2, rbn_51_0, rbn_5_0, rbn_5_1, rbn_8_0, rbn_asked, rbn_into, rbs_0_0, rbs_0_1, rbs_0_2, rbs_0_3, rbs_0_4, rbs_0_5, rbs_0_6, rbs_0_7, rbs_0_8, rbs_0_9, rbs_1_0, rbs_1_1, rbs_1_2, rbs_42_0, rbs_42_1, rbs_45_0, rbs_47_0, rbs_47_1, rbs_47_2, rbs_51_0, rbs_5_0, rbs_5_1, rbs_8_0, rbs_asked, rbs_into, sh_0, sh_1, sh_42, sh_45, sh_47, sh_5, sh_51, sh_8, tg_2, tg_3, tg_4, tg_43, tg_44, tg_46, tg_48, tg_49, tg_50, tg_52, tg_53, tg_6, tg_7, xl_2, xl_3, xl_4, xl_43, xl_44, xl_46, xl_48, xl_49, xl_50, xl_52, xl_53, xl_6, xl_7, xt_2, xt_3, xt_4, xt_43, xt_44, xt_46, xt_48, xt_49, xt_50, xt_52, xt_53, xt_6, xt_7, c3, S6_wordY hE hn hT hb hC hW, e0, z]
    exact key
  · simp (disch := omega) only [gI_k, gR_k, pI_k, pR_k, pC_k, true_and, and_true, and_self, not_false_eq_true, not_true_eq_false, eq_self, true_or, or_true, false_or, or_false, false_and, and_false, Option.toList_some, Option.toList_none, List.cons_append, List.nil_append, ↓reduceIte, nI_lit, nI_add, nI_mul, nI_clp, nlt0, nle, nlt, neq, leF, leT, ltF, ltT, eqF, eqT, em_t, cond_dec, bi_T, bi_F, Classical.not_not, uI_o, uI_s, uI_r, nI_sb, bi01,  B_X6_readLand_57, ln_2, ln_3, ln_4, ln_43, ln_44, ln_46, ln_48, ln_49, ln_50, ln_52, ln_53, ln_6, ln_7, rbn_0_0, rbn_0_1, rbn_0_2, rbn_0_3, rbn_0_4, rbn_0_5, rbn_0_6, rbn_0_7, rbn_0_8, rbn_0_9, rbn_1_0, rbn_1_1, rbn_1_2, rbn_42_0, rbn_42_1, rbn_45_0, rbn_47_0, rbn_47_1, rbn_47_2, rbn_51_0, rbn_5_0, rbn_5_1, rbn_8_0, rbn_asked, rbn_into, rbs_0_0, rbs_0_1, rbs_0_2, rbs_0_3, rbs_0_4, rbs_0_5, rbs_0_6, rbs_0_7, rbs_0_8, rbs_0_9, rbs_1_0, rbs_1_1, rbs_1_2, rbs_42_0, rbs_42_1, rbs_45_0, rbs_47_0, rbs_47_1, rbs_47_2, rbs_51_0, rbs_5_0, rbs_5_1, rbs_8_0, rbs_asked, rbs_into, sh_0, sh_1, sh_42, sh_45, sh_47, sh_5, sh_51, sh_8, tg_2, tg_3, tg_4, tg_43, tg_44, tg_46, tg_48, tg_49, tg_50, tg_52, tg_53, tg_6, tg_7, xl_2, xl_3, xl_4, xl_43, xl_44, xl_46, xl_48, xl_49, xl_50, xl_52, xl_53, xl_6, xl_7, xt_2, xt_3, xt_4, xt_43, xt_44, xt_46, xt_48, xt_49, xt_50, xt_52, xt_53, xt_6, xt_7, c3, S6_wordY hE hn hT hb hC hW, e0, z]
    exact key
/-- the reference, likewise: inside the row's method -/
theorem preR (hn : n ≤ 500) (hb : ∀ j, j < n → B j < 256) {s e w w' : Nat} {b : Nat → Nat → Nat} (hT : TF n B s e 0) (hW : isW B s e w') (hle : w ≤ w') {d l u t q L : Nat} {x : Int32} {I : Nat → Nat → Int32} {Q : Option Value → LM → Prop} (hR : RT I n B s e 0) (h17 : I 186 17 = nI 0) (hE2 : Ends (d + 6) (rxY w') 0 (rxL w') [] (SH, I, RB l u t q L) (fun r M' => r = none ∧ Ends (d + 7) k_X10_land (pcw w') [.ref 186, .int x] [] M' Q)) : Ends (d + 7) k_X10_land (pcw w) [.ref 186, .int x] [] (SH, I, RB l u t q L) Q := by
  have hw6 := isW_lt hW
  rw [LW_to hn hT hR h17 (by omega) (w := w') (by omega) (w' - w) w (by omega) (fun i h1 h2 z => by
    have := (wd_iff hT (w := i) (by omega)).mp z
    have := isW_one this.2 hW
    omega)]
  exact LW_m hn hT hR h17 hw6 ((wd_iff hT hw6).mpr ⟨rfl, hW⟩) hE2
theorem loopAll (hn : n ≤ 500) (hb : ∀ j, j < n → B j < 256) (hu : IL u) : ∀ m s e k b w, n - s = m → TF n B s e k → BW b → w < 6 → (0 < b 0 0 ∨ (k = 0 ∧ isW B s e 0 ∧ w = 0)) → LoopP n B s e k u b w := by
  have hIL : u = 9 ∨ u = 54 ∨ u = 87 ∨ u = 120 ∨ u = 153 := hu
  intro m
  induction m using Nat.strongRecOn with
  | ind m ih =>
    intro s e k b w hm hT hB hw hst
    have hk4 := hT.2.2.1
    have hse0 := hT.1
    have hen := hT.2.1
    by_cases hk3 : k = 3
    · -- the end of the text
      subst hk3
      have hpos : 0 < b 0 0 := hst.elim id (fun z => by have := z.1; omega)
      have hsn := hT.2.2.2.1 rfl
      have hn0 := hB.1.1
      refine Or.inr ⟨b, hB, hpos, ?_, ?_⟩
      · intro d l q L r xs I Q hH hrs hQ
        obtain ⟨hC, h8, hCB, h7, hE⟩ := hH
        have c3 := hC.2.2.1
        have e0 := h7 0 (by decide)
        have hq := hQ I (fun _ _ _ _ => rfl) hCB
        rw [B_X6_readLand_38]
        by_cases c : 500 ≤ r
        · simp (disch := omega) only [gI_k, gR_k, pI_k, pR_k, pC_k, true_and, and_true, and_self, not_false_eq_true, not_true_eq_false, eq_self, true_or, or_true, false_or, or_false, false_and, and_false, Option.toList_some, Option.toList_none, List.cons_append, List.nil_append, ↓reduceIte, nI_lit, nI_add, nI_mul, nI_clp, nlt0, nle, nlt, neq, leF, leT, ltF, ltT, eqF, eqT, em_t, cond_dec, bi_T, bi_F, Classical.not_not, uI_o, uI_s, uI_r, nI_sb, bi01,  B_X6_readLand_149, B_X6_readLand_166, ln_2, ln_3, ln_4, ln_43, ln_44, ln_46, ln_48, ln_49, ln_50, ln_52, ln_53, ln_6, ln_7, rbn_0_0, rbn_0_1, rbn_0_2, rbn_0_3, rbn_0_4, rbn_0_5, rbn_0_6, rbn_0_7, rbn_0_8, rbn_0_9, rbn_1_0, rbn_1_1, rbn_1_2, rbn_42_0, rbn_42_1, rbn_45_0, rbn_47_0, rbn_47_1, rbn_47_2, rbn_51_0, rbn_5_0, rbn_5_1, rbn_8_0, rbn_asked, rbn_into, rbs_0_0, rbs_0_1, rbs_0_2, rbs_0_3, rbs_0_4, rbs_0_5, rbs_0_6, rbs_0_7, rbs_0_8, rbs_0_9, rbs_1_0, rbs_1_1, rbs_1_2, rbs_42_0, rbs_42_1, rbs_45_0, rbs_47_0, rbs_47_1, rbs_47_2, rbs_51_0, rbs_5_0, rbs_5_1, rbs_8_0, rbs_asked, rbs_into, sh_0, sh_1, sh_42, sh_45, sh_47, sh_5, sh_51, sh_8, tg_2, tg_3, tg_4, tg_43, tg_44, tg_46, tg_48, tg_49, tg_50, tg_52, tg_53, tg_6, tg_7, xl_2, xl_3, xl_4, xl_43, xl_44, xl_46, xl_48, xl_49, xl_50, xl_52, xl_53, xl_6, xl_7, xt_2, xt_3, xt_4, xt_43, xt_44, xt_46, xt_48, xt_49, xt_50, xt_52, xt_53, xt_6, xt_7, c3, e0]
          exact hq
        · simp (disch := omega) only [gI_k, gR_k, pI_k, pR_k, pC_k, true_and, and_true, and_self, not_false_eq_true, not_true_eq_false, eq_self, true_or, or_true, false_or, or_false, false_and, and_false, Option.toList_some, Option.toList_none, List.cons_append, List.nil_append, ↓reduceIte, nI_lit, nI_add, nI_mul, nI_clp, nlt0, nle, nlt, neq, leF, leT, ltF, ltT, eqF, eqT, em_t, cond_dec, bi_T, bi_F, Classical.not_not, uI_o, uI_s, uI_r, nI_sb, bi01,  B_X6_readLand_149, B_X6_readLand_166, ln_2, ln_3, ln_4, ln_43, ln_44, ln_46, ln_48, ln_49, ln_50, ln_52, ln_53, ln_6, ln_7, rbn_0_0, rbn_0_1, rbn_0_2, rbn_0_3, rbn_0_4, rbn_0_5, rbn_0_6, rbn_0_7, rbn_0_8, rbn_0_9, rbn_1_0, rbn_1_1, rbn_1_2, rbn_42_0, rbn_42_1, rbn_45_0, rbn_47_0, rbn_47_1, rbn_47_2, rbn_51_0, rbn_5_0, rbn_5_1, rbn_8_0, rbn_asked, rbn_into, rbs_0_0, rbs_0_1, rbs_0_2, rbs_0_3, rbs_0_4, rbs_0_5, rbs_0_6, rbs_0_7, rbs_0_8, rbs_0_9, rbs_1_0, rbs_1_1, rbs_1_2, rbs_42_0, rbs_42_1, rbs_45_0, rbs_47_0, rbs_47_1, rbs_47_2, rbs_51_0, rbs_5_0, rbs_5_1, rbs_8_0, rbs_asked, rbs_into, sh_0, sh_1, sh_42, sh_45, sh_47, sh_5, sh_51, sh_8, tg_2, tg_3, tg_4, tg_43, tg_44, tg_46, tg_48, tg_49, tg_50, tg_52, tg_53, tg_6, tg_7, xl_2, xl_3, xl_4, xl_43, xl_44, xl_46, xl_48, xl_49, xl_50, xl_52, xl_53, xl_6, xl_7, xt_2, xt_3, xt_4, xt_43, xt_44, xt_46, xt_48, xt_49, xt_50, xt_52, xt_53, xt_6, xt_7, c3, e0]
          exact hq
      · intro d l u2 t q L x I Q hR h17 hRL hQ
        have ez : wdR B s e 3 0 = 0 := by unfold wdR; rw [if_neg (by omega)]
        rw [LW_to hn hT hR h17 (by omega) (w := 5) (by omega) (5 - w) w (by omega) (fun i _ _ => by have := (wdC_lt (w := i)).1; omega)]
        show Ends (d + 7) k_X10_land 163 [.ref 186, .int x] [] (SH, I, RB l u2 t q L) Q
        rw [LW_end3 hn hT hR h17]
        exact hQ I ⟨fun _ _ _ => rfl, fun _ _ => rfl⟩ h17 hRL
    have hse : s < e := hT.2.2.2.2.1 hk3
    -- a fault at this token
    have flt1 : ∀ (hC1 : ∀ (d l q L r : Nat) (xs : Nat → Int32) (I : Nat → Nat → Int32) (Q : Option Value → LM → Prop), HCl xs I n B s e k u b → r ≤ s → Q (some (.int (nI 0))) (SH, uI I 5 8 (nI 1), RB l u (u + 1) q L) → Ends (d + 7) k_X6_readLand 38 [.ref 5, .ref u, .int (nI w), .int (nI r), .null] [] (SH, I, RB l u (u + 1) q L) Q) (hne : ∀ i, w ≤ i → i < 6 → ¬ (k = 0 ∧ isW B s e i)), LoopP n B s e k u b w := by
      intro hC1 hne
      refine Or.inl ⟨1, s, by decide, ?_, ?_⟩
      · intro d l q L r xs I Q hH hrs hQ
        exact hC1 d l q L r xs I Q hH hrs (hQ _ (fun c c1 _ _ => uI_off c1) uI_same (by rw [uI_row (by decide)]; exact hH.1.1))
      · intro d l u2 t q L x I Q hR h17 hRL hQ
        rw [LW_to hn hT hR h17 (by omega) (w := 5) (by omega) (5 - w) w (by omega) (fun i h1 h2 z => hne i h1 (by omega) ((wd_iff hT (by omega)).mp z))]
        show Ends (d + 7) k_X10_land 163 [.ref 186, .int x] [] (SH, I, RB l u2 t q L) Q
        rw [LW_endB hn hT hR h17 hk3 (fun z => hne 5 (by omega) (by omega) ((wd_iff hT (by omega)).mp z))]
        exact hQ _ ⟨fun c c1 _ => by rw [uI_off c1, uI_off c1], fun c hc => by unfold f18 at hc; rw [uI_row (by omega), uI_row (by omega)]⟩ (by rw [uI_row (by decide), uI_same]) uI_same
    by_cases hex : ∃ i, i < 6 ∧ (k = 0 ∧ isW B s e i)
    case neg =>
      refine flt1 (fun d l q L r xs I Q hH hrs hq => ?_) (fun i _ hi z => hex ⟨i, hi, z⟩)
      obtain ⟨hC, h8, hCB, h7, hE⟩ := hH
      have c3 := hC.2.2.1
      rw [B_X6_readLand_38]
      simp (disch := omega) only [gI_k, gR_k, pI_k, pR_k, pC_k, true_and, and_true, and_self, not_false_eq_true, not_true_eq_false, eq_self, true_or, or_true, false_or, or_false, false_and, and_false, Option.toList_some, Option.toList_none, List.cons_append, List.nil_append, ↓reduceIte, nI_lit, nI_add, nI_mul, nI_clp, nlt0, nle, nlt, neq, leF, leT, ltF, ltT, eqF, eqT, em_t, cond_dec, bi_T, bi_F, Classical.not_not, uI_o, uI_s, uI_r, nI_sb, bi01,  B_X6_readLand_57, B_X6_readLand_79, B_X6_readLand_84, B_X6_fails_0, ln_2, ln_3, ln_4, ln_43, ln_44, ln_46, ln_48, ln_49, ln_50, ln_52, ln_53, ln_6, ln_7, rbn_0_0, rbn_0_1, rbn_0_2, rbn_0_3, rbn_0_4, rbn_0_5, rbn_0_6, rbn_0_7, rbn_0_8, rbn_0_9, rbn_1_0, rbn_1_1, rbn_1_2, rbn_42_0, rbn_42_1, rbn_45_0, rbn_47_0, rbn_47_1, rbn_47_2, rbn_51_0, rbn_5_0, rbn_5_1, rbn_8_0, rbn_asked, rbn_into, rbs_0_0, rbs_0_1, rbs_0_2, rbs_0_3, rbs_0_4, rbs_0_5, rbs_0_6, rbs_0_7, rbs_0_8, rbs_0_9, rbs_1_0, rbs_1_1, rbs_1_2, rbs_42_0, rbs_42_1, rbs_45_0, rbs_47_0, rbs_47_1, rbs_47_2, rbs_51_0, rbs_5_0, rbs_5_1, rbs_8_0, rbs_asked, rbs_into, sh_0, sh_1, sh_42, sh_45, sh_47, sh_5, sh_51, sh_8, tg_2, tg_3, tg_4, tg_43, tg_44, tg_46, tg_48, tg_49, tg_50, tg_52, tg_53, tg_6, tg_7, xl_2, xl_3, xl_4, xl_43, xl_44, xl_46, xl_48, xl_49, xl_50, xl_52, xl_53, xl_6, xl_7, xt_2, xt_3, xt_4, xt_43, xt_44, xt_46, xt_48, xt_49, xt_50, xt_52, xt_53, xt_6, xt_7, c3, S6_wordN hE hn hT hb hC (fun i hi z => hex ⟨i, hi, z⟩), ltM1]
      exact hq
    obtain ⟨w', hw6, hk0, hW⟩ := hex
    subst hk0
    by_cases hlt : w' < w
    · refine flt1 (fun d l q L r xs I Q hH hrs hq => ?_) (fun i hi _ z => by have := isW_one z.2 hW; omega)
      obtain ⟨hC, h8, hCB, h7, hE⟩ := hH
      have c3 := hC.2.2.1
      rw [B_X6_readLand_38]
      simp (disch := omega) only [gI_k, gR_k, pI_k, pR_k, pC_k, true_and, and_true, and_self, not_false_eq_true, not_true_eq_false, eq_self, true_or, or_true, false_or, or_false, false_and, and_false, Option.toList_some, Option.toList_none, List.cons_append, List.nil_append, ↓reduceIte, nI_lit, nI_add, nI_mul, nI_clp, nlt0, nle, nlt, neq, leF, leT, ltF, ltT, eqF, eqT, em_t, cond_dec, bi_T, bi_F, Classical.not_not, uI_o, uI_s, uI_r, nI_sb, bi01,  B_X6_readLand_57, B_X6_readLand_79, B_X6_readLand_84, B_X6_fails_0, ln_2, ln_3, ln_4, ln_43, ln_44, ln_46, ln_48, ln_49, ln_50, ln_52, ln_53, ln_6, ln_7, rbn_0_0, rbn_0_1, rbn_0_2, rbn_0_3, rbn_0_4, rbn_0_5, rbn_0_6, rbn_0_7, rbn_0_8, rbn_0_9, rbn_1_0, rbn_1_1, rbn_1_2, rbn_42_0, rbn_42_1, rbn_45_0, rbn_47_0, rbn_47_1, rbn_47_2, rbn_51_0, rbn_5_0, rbn_5_1, rbn_8_0, rbn_asked, rbn_into, rbs_0_0, rbs_0_1, rbs_0_2, rbs_0_3, rbs_0_4, rbs_0_5, rbs_0_6, rbs_0_7, rbs_0_8, rbs_0_9, rbs_1_0, rbs_1_1, rbs_1_2, rbs_42_0, rbs_42_1, rbs_45_0, rbs_47_0, rbs_47_1, rbs_47_2, rbs_51_0, rbs_5_0, rbs_5_1, rbs_8_0, rbs_asked, rbs_into, sh_0, sh_1, sh_42, sh_45, sh_47, sh_5, sh_51, sh_8, tg_2, tg_3, tg_4, tg_43, tg_44, tg_46, tg_48, tg_49, tg_50, tg_52, tg_53, tg_6, tg_7, xl_2, xl_3, xl_4, xl_43, xl_44, xl_46, xl_48, xl_49, xl_50, xl_52, xl_53, xl_6, xl_7, xt_2, xt_3, xt_4, xt_43, xt_44, xt_46, xt_48, xt_49, xt_50, xt_52, xt_53, xt_6, xt_7, c3, S6_wordY hE hn hT hb hC hW]
      exact hq
    have hle : w ≤ w' := by omega
    have h0 : b 0 0 = 0 → w' = 0 := fun z => by
      rcases hst with y | y
      · omega
      · exact isW_one hW y.2.1
    have hrm := rm_le hB hw6
    by_cases hfull : b 0 w' = rm w'
    · -- no room
      have hz : ¬ b 0 0 = 0 := fun z => by
        have := h0 z
        subst this
        have h6 : rm 0 = 6 := rfl
        omega
      refine Or.inl ⟨3, s, by decide, ?_, ?_⟩
      · intro d l q L r xs I Q hH hrs hQ
        have hq := hQ (uI I 5 8 (nI 3)) (fun c c1 _ _ => uI_off c1) uI_same (by rw [uI_row (by decide)]; exact hH.1.1)
        obtain ⟨hC, h8, hCB, h7, hE⟩ := hH
        have c3 := hC.2.2.1
        have e0 := h7 0 (by decide)
        have hn0 := hB.1.1
        have ew := h7 w' hw6
        rw [hfull] at ew
        have er := ka1 hE hw6
        rw [B_X6_readLand_38]
        simp (disch := omega) only [gI_k, gR_k, pI_k, pR_k, pC_k, true_and, and_true, and_self, not_false_eq_true, not_true_eq_false, eq_self, true_or, or_true, false_or, or_false, false_and, and_false, Option.toList_some, Option.toList_none, List.cons_append, List.nil_append, ↓reduceIte, nI_lit, nI_add, nI_mul, nI_clp, nlt0, nle, nlt, neq, leF, leT, ltF, ltT, eqF, eqT, em_t, cond_dec, bi_T, bi_F, Classical.not_not, uI_o, uI_s, uI_r, nI_sb, bi01,  B_X6_readLand_57, B_X6_readLand_85, B_X6_readLand_106, B_X6_fails_0, ln_2, ln_3, ln_4, ln_43, ln_44, ln_46, ln_48, ln_49, ln_50, ln_52, ln_53, ln_6, ln_7, rbn_0_0, rbn_0_1, rbn_0_2, rbn_0_3, rbn_0_4, rbn_0_5, rbn_0_6, rbn_0_7, rbn_0_8, rbn_0_9, rbn_1_0, rbn_1_1, rbn_1_2, rbn_42_0, rbn_42_1, rbn_45_0, rbn_47_0, rbn_47_1, rbn_47_2, rbn_51_0, rbn_5_0, rbn_5_1, rbn_8_0, rbn_asked, rbn_into, rbs_0_0, rbs_0_1, rbs_0_2, rbs_0_3, rbs_0_4, rbs_0_5, rbs_0_6, rbs_0_7, rbs_0_8, rbs_0_9, rbs_1_0, rbs_1_1, rbs_1_2, rbs_42_0, rbs_42_1, rbs_45_0, rbs_47_0, rbs_47_1, rbs_47_2, rbs_51_0, rbs_5_0, rbs_5_1, rbs_8_0, rbs_asked, rbs_into, sh_0, sh_1, sh_42, sh_45, sh_47, sh_5, sh_51, sh_8, tg_2, tg_3, tg_4, tg_43, tg_44, tg_46, tg_48, tg_49, tg_50, tg_52, tg_53, tg_6, tg_7, xl_2, xl_3, xl_4, xl_43, xl_44, xl_46, xl_48, xl_49, xl_50, xl_52, xl_53, xl_6, xl_7, xt_2, xt_3, xt_4, xt_43, xt_44, xt_46, xt_48, xt_49, xt_50, xt_52, xt_53, xt_6, xt_7, xtE, xlE, c3, S6_wordY hE hn hT hb hC hW, e0, hz, ew, er]
        exact hq
      · intro d l u2 t q L x I Q hR h17 hRL hQ
        refine preR (b := b) hn hb hT hW hle hR h17 ?_
        refine RE_B hR h17 hw6 (by rw [hRL.1 w' hw6, hfull]) (fun I' f1 g17 g18 hR' => ⟨rfl, ?_⟩)
        rw [LW_fall hn hT hR' g17 (by decide) (by omega)]
        exact hQ I' f1 g17 g18
    have hr : b 0 w' < rm w' := by omega
    obtain ⟨s1, e1, k1, hX1⟩ := nx_ex (B := B) hen
    obtain ⟨t1, hT1⟩ := hX1.tf
    have q1 := hT1.1
    rcases rowAll hn hb hT1 hu hB hw6 hr (fun z => Nat.pos_of_ne_zero (fun y => z (h0 y))) with ⟨f, s', hf, hcf, hrf⟩ | ⟨s2, e2, k2, b', t2, hT2, hB', hcnt, hco, hrb, hro⟩
    · refine Or.inl ⟨f, s', hf, ?_, ?_⟩
      · intro d l q L r xs I Q hH hrs hQ
        refine preC hn hb hu hT hB hw hW hle h0 hr hX1 hH hrs (fun I1 f1 h81 hC1 h71 => ?_)
        rw [B_X6_readLand_125]
        simp (disch := omega) only [gI_k, gR_k, pI_k, pR_k, pC_k, true_and, and_true, and_self, not_false_eq_true, not_true_eq_false, eq_self, true_or, or_true, false_or, or_false, false_and, and_false, Option.toList_some, Option.toList_none, List.cons_append, List.nil_append, ↓reduceIte, nI_lit, nI_add, nI_mul, nI_clp, nlt0, nle, nlt, neq, leF, leT, ltF, ltT, eqF, eqT, em_t, cond_dec, bi_T, bi_F, Classical.not_not, uI_o, uI_s, uI_r, nI_sb, bi01,  ln_2, ln_3, ln_4, ln_43, ln_44, ln_46, ln_48, ln_49, ln_50, ln_52, ln_53, ln_6, ln_7, rbn_0_0, rbn_0_1, rbn_0_2, rbn_0_3, rbn_0_4, rbn_0_5, rbn_0_6, rbn_0_7, rbn_0_8, rbn_0_9, rbn_1_0, rbn_1_1, rbn_1_2, rbn_42_0, rbn_42_1, rbn_45_0, rbn_47_0, rbn_47_1, rbn_47_2, rbn_51_0, rbn_5_0, rbn_5_1, rbn_8_0, rbn_asked, rbn_into, rbs_0_0, rbs_0_1, rbs_0_2, rbs_0_3, rbs_0_4, rbs_0_5, rbs_0_6, rbs_0_7, rbs_0_8, rbs_0_9, rbs_1_0, rbs_1_1, rbs_1_2, rbs_42_0, rbs_42_1, rbs_45_0, rbs_47_0, rbs_47_1, rbs_47_2, rbs_51_0, rbs_5_0, rbs_5_1, rbs_8_0, rbs_asked, rbs_into, sh_0, sh_1, sh_42, sh_45, sh_47, sh_5, sh_51, sh_8, tg_2, tg_3, tg_4, tg_43, tg_44, tg_46, tg_48, tg_49, tg_50, tg_52, tg_53, tg_6, tg_7, xl_2, xl_3, xl_4, xl_43, xl_44, xl_46, xl_48, xl_49, xl_50, xl_52, xl_53, xl_6, xl_7, xt_2, xt_3, xt_4, xt_43, xt_44, xt_46, xt_48, xt_49, xt_50, xt_52, xt_53, xt_6, xt_7]
        refine hcf (d + 1) l q L I1 _ hC1 h81 (CB_fr hH.2.2.1 (fun c a1 a2 => f1 c (by omega) (by omega))) (fun I2 f2 h82 h72 => ?_)
        simp (disch := omega) only [gI_k, gR_k, pI_k, pR_k, pC_k, true_and, and_true, and_self, not_false_eq_true, not_true_eq_false, eq_self, true_or, or_true, false_or, or_false, false_and, and_false, Option.toList_some, Option.toList_none, List.cons_append, List.nil_append, ↓reduceIte, nI_lit, nI_add, nI_mul, nI_clp, nlt0, nle, nlt, neq, leF, leT, ltF, ltT, eqF, eqT, em_t, cond_dec, bi_T, bi_F, Classical.not_not, uI_o, uI_s, uI_r, nI_sb, bi01,  B_X6_readLand_131]
        exact hQ I2 (fun c c1 c2 c3 => by rw [f2 c c1 c3, f1 c c1 c2]) h82 h72
      · intro d l u2 t q L x I Q hR h17 hRL hQ
        refine preR (b := b) hn hb hT hW hle hR h17 ?_
        refine RE_O hn hb hR h17 hw6 hr (hRL.1 w' hw6) hX1 (fun I1 f1 g1 hR1 => ?_)
        refine hrf d l u2 t q L I1 _ hR1 (by rw [g1 17 (by omega)]; exact h17) (by rw [f1 191 (by decide)]; exact hRL) (fun I2 a c m2 f2 g17 g18 hTa hRa => ⟨rfl, ?_⟩)
        rw [LW_fall hn hTa hRa g17 hf (by omega)]
        exact hQ I2 ((FRr.nx f1 g1).tr f2) g17 g18
    have q2 := hT2.1
    by_cases hk2 : k2 = 2
    case neg =>
      refine Or.inl ⟨1, s2, by decide, ?_, ?_⟩
      · intro d l q L r xs I Q hH hrs hQ
        refine preC hn hb hu hT hB hw hW hle h0 hr hX1 hH hrs (fun I1 f1 h81 hC1 h71 => ?_)
        rw [B_X6_readLand_125]
        simp (disch := omega) only [gI_k, gR_k, pI_k, pR_k, pC_k, true_and, and_true, and_self, not_false_eq_true, not_true_eq_false, eq_self, true_or, or_true, false_or, or_false, false_and, and_false, Option.toList_some, Option.toList_none, List.cons_append, List.nil_append, ↓reduceIte, nI_lit, nI_add, nI_mul, nI_clp, nlt0, nle, nlt, neq, leF, leT, ltF, ltT, eqF, eqT, em_t, cond_dec, bi_T, bi_F, Classical.not_not, uI_o, uI_s, uI_r, nI_sb, bi01,  ln_2, ln_3, ln_4, ln_43, ln_44, ln_46, ln_48, ln_49, ln_50, ln_52, ln_53, ln_6, ln_7, rbn_0_0, rbn_0_1, rbn_0_2, rbn_0_3, rbn_0_4, rbn_0_5, rbn_0_6, rbn_0_7, rbn_0_8, rbn_0_9, rbn_1_0, rbn_1_1, rbn_1_2, rbn_42_0, rbn_42_1, rbn_45_0, rbn_47_0, rbn_47_1, rbn_47_2, rbn_51_0, rbn_5_0, rbn_5_1, rbn_8_0, rbn_asked, rbn_into, rbs_0_0, rbs_0_1, rbs_0_2, rbs_0_3, rbs_0_4, rbs_0_5, rbs_0_6, rbs_0_7, rbs_0_8, rbs_0_9, rbs_1_0, rbs_1_1, rbs_1_2, rbs_42_0, rbs_42_1, rbs_45_0, rbs_47_0, rbs_47_1, rbs_47_2, rbs_51_0, rbs_5_0, rbs_5_1, rbs_8_0, rbs_asked, rbs_into, sh_0, sh_1, sh_42, sh_45, sh_47, sh_5, sh_51, sh_8, tg_2, tg_3, tg_4, tg_43, tg_44, tg_46, tg_48, tg_49, tg_50, tg_52, tg_53, tg_6, tg_7, xl_2, xl_3, xl_4, xl_43, xl_44, xl_46, xl_48, xl_49, xl_50, xl_52, xl_53, xl_6, xl_7, xt_2, xt_3, xt_4, xt_43, xt_44, xt_46, xt_48, xt_49, xt_50, xt_52, xt_53, xt_6, xt_7]
        refine hco (d + 1) l q L I1 _ hC1 h81 (CB_fr hH.2.2.1 (fun c a1 a2 => f1 c (by omega) (by omega))) (fun I2 f2 h82 hC2 hCB2 => ?_)
        simp (disch := omega) only [gI_k, gR_k, pI_k, pR_k, pC_k, true_and, and_true, and_self, not_false_eq_true, not_true_eq_false, eq_self, true_or, or_true, false_or, or_false, false_and, and_false, Option.toList_some, Option.toList_none, List.cons_append, List.nil_append, ↓reduceIte, nI_lit, nI_add, nI_mul, nI_clp, nlt0, nle, nlt, neq, leF, leT, ltF, ltT, eqF, eqT, em_t, cond_dec, bi_T, bi_F, Classical.not_not, uI_o, uI_s, uI_r, nI_sb, bi01,  B_X6_readLand_131, ln_2, ln_3, ln_4, ln_43, ln_44, ln_46, ln_48, ln_49, ln_50, ln_52, ln_53, ln_6, ln_7, rbn_0_0, rbn_0_1, rbn_0_2, rbn_0_3, rbn_0_4, rbn_0_5, rbn_0_6, rbn_0_7, rbn_0_8, rbn_0_9, rbn_1_0, rbn_1_1, rbn_1_2, rbn_42_0, rbn_42_1, rbn_45_0, rbn_47_0, rbn_47_1, rbn_47_2, rbn_51_0, rbn_5_0, rbn_5_1, rbn_8_0, rbn_asked, rbn_into, rbs_0_0, rbs_0_1, rbs_0_2, rbs_0_3, rbs_0_4, rbs_0_5, rbs_0_6, rbs_0_7, rbs_0_8, rbs_0_9, rbs_1_0, rbs_1_1, rbs_1_2, rbs_42_0, rbs_42_1, rbs_45_0, rbs_47_0, rbs_47_1, rbs_47_2, rbs_51_0, rbs_5_0, rbs_5_1, rbs_8_0, rbs_asked, rbs_into, sh_0, sh_1, sh_42, sh_45, sh_47, sh_5, sh_51, sh_8, tg_2, tg_3, tg_4, tg_43, tg_44, tg_46, tg_48, tg_49, tg_50, tg_52, tg_53, tg_6, tg_7, xl_2, xl_3, xl_4, xl_43, xl_44, xl_46, xl_48, xl_49, xl_50, xl_52, xl_53, xl_6, xl_7, xt_2, xt_3, xt_4, xt_43, xt_44, xt_46, xt_48, xt_49, xt_50, xt_52, xt_53, xt_6, xt_7, S6_semiB hT2 hC2 hk2, B_X6_readLand_138]
        exact hQ _ (fun c c1 c2 c3 => by rw [uI_off c1, f2 c c1 c3, f1 c c1 c2]) uI_same (by rw [uI_row (by decide)]; exact hC2.1)
      · intro d l u2 t q L x I Q hR h17 hRL hQ
        refine preR (b := b) hn hb hT hW hle hR h17 ?_
        refine RE_O hn hb hR h17 hw6 hr (hRL.1 w' hw6) hX1 (fun I1 f1 g1 hR1 => ?_)
        refine hrb hk2 d l u2 t q L I1 _ hR1 (by rw [g1 17 (by omega)]; exact h17) (by rw [f1 191 (by decide)]; exact hRL) (fun I2 a c m2 f2 g17 g18 hTa hRa => ⟨rfl, ?_⟩)
        rw [LW_fall hn hTa hRa g17 (by decide) (by omega)]
        exact hQ I2 ((FRr.nx f1 g1).tr f2) g17 g18
    subst hk2
    obtain ⟨s3, e3, k3, hX3⟩ := nx_ex (B := B) hT2.2.1
    obtain ⟨t3, hT3⟩ := hX3.tf
    have q3 := hT3.1
    have hpos : 0 < b' 0 0 := by
      rw [hcnt 0]
      by_cases z : 0 = w'
      · rw [if_pos z]; omega
      · rw [if_neg z]
        exact Nat.pos_of_ne_zero (fun y => z (h0 y).symm)
    -- one round of each
    have stC : ∀ (d l q L r : Nat) (xs : Nat → Int32) (I : Nat → Nat → Int32) (Q : Option Value → LM → Prop), HCl xs I n B s e 0 u b → r ≤ s → (∀ I', FCl I I' u → HCl xs I' n B s3 e3 k3 u b' → Ends (d + 7) k_X6_readLand 38 [.ref 5, .ref u, .int (nI w'), .int (nI (r + 1)), .null] [] (SH, I', RB l u (u + 1) q L) Q) → Ends (d + 7) k_X6_readLand 38 [.ref 5, .ref u, .int (nI w), .int (nI r), .null] [] (SH, I, RB l u (u + 1) q L) Q := by
      intro d l q L r xs I Q hH hrs hE2
      refine preC hn hb hu hT hB hw hW hle h0 hr hX1 hH hrs (fun I1 f1 h81 hC1 h71 => ?_)
      rw [B_X6_readLand_125]
      simp (disch := omega) only [gI_k, gR_k, pI_k, pR_k, pC_k, true_and, and_true, and_self, not_false_eq_true, not_true_eq_false, eq_self, true_or, or_true, false_or, or_false, false_and, and_false, Option.toList_some, Option.toList_none, List.cons_append, List.nil_append, ↓reduceIte, nI_lit, nI_add, nI_mul, nI_clp, nlt0, nle, nlt, neq, leF, leT, ltF, ltT, eqF, eqT, em_t, cond_dec, bi_T, bi_F, Classical.not_not, uI_o, uI_s, uI_r, nI_sb, bi01,  ln_2, ln_3, ln_4, ln_43, ln_44, ln_46, ln_48, ln_49, ln_50, ln_52, ln_53, ln_6, ln_7, rbn_0_0, rbn_0_1, rbn_0_2, rbn_0_3, rbn_0_4, rbn_0_5, rbn_0_6, rbn_0_7, rbn_0_8, rbn_0_9, rbn_1_0, rbn_1_1, rbn_1_2, rbn_42_0, rbn_42_1, rbn_45_0, rbn_47_0, rbn_47_1, rbn_47_2, rbn_51_0, rbn_5_0, rbn_5_1, rbn_8_0, rbn_asked, rbn_into, rbs_0_0, rbs_0_1, rbs_0_2, rbs_0_3, rbs_0_4, rbs_0_5, rbs_0_6, rbs_0_7, rbs_0_8, rbs_0_9, rbs_1_0, rbs_1_1, rbs_1_2, rbs_42_0, rbs_42_1, rbs_45_0, rbs_47_0, rbs_47_1, rbs_47_2, rbs_51_0, rbs_5_0, rbs_5_1, rbs_8_0, rbs_asked, rbs_into, sh_0, sh_1, sh_42, sh_45, sh_47, sh_5, sh_51, sh_8, tg_2, tg_3, tg_4, tg_43, tg_44, tg_46, tg_48, tg_49, tg_50, tg_52, tg_53, tg_6, tg_7, xl_2, xl_3, xl_4, xl_43, xl_44, xl_46, xl_48, xl_49, xl_50, xl_52, xl_53, xl_6, xl_7, xt_2, xt_3, xt_4, xt_43, xt_44, xt_46, xt_48, xt_49, xt_50, xt_52, xt_53, xt_6, xt_7]
      refine hco (d + 1) l q L I1 _ hC1 h81 (CB_fr hH.2.2.1 (fun c a1 a2 => f1 c (by omega) (by omega))) (fun I2 f2 h82 hC2 hCB2 => ?_)
      simp (disch := omega) only [gI_k, gR_k, pI_k, pR_k, pC_k, true_and, and_true, and_self, not_false_eq_true, not_true_eq_false, eq_self, true_or, or_true, false_or, or_false, false_and, and_false, Option.toList_some, Option.toList_none, List.cons_append, List.nil_append, ↓reduceIte, nI_lit, nI_add, nI_mul, nI_clp, nlt0, nle, nlt, neq, leF, leT, ltF, ltT, eqF, eqT, em_t, cond_dec, bi_T, bi_F, Classical.not_not, uI_o, uI_s, uI_r, nI_sb, bi01,  B_X6_readLand_131, ln_2, ln_3, ln_4, ln_43, ln_44, ln_46, ln_48, ln_49, ln_50, ln_52, ln_53, ln_6, ln_7, rbn_0_0, rbn_0_1, rbn_0_2, rbn_0_3, rbn_0_4, rbn_0_5, rbn_0_6, rbn_0_7, rbn_0_8, rbn_0_9, rbn_1_0, rbn_1_1, rbn_1_2, rbn_42_0, rbn_42_1, rbn_45_0, rbn_47_0, rbn_47_1, rbn_47_2, rbn_51_0, rbn_5_0, rbn_5_1, rbn_8_0, rbn_asked, rbn_into, rbs_0_0, rbs_0_1, rbs_0_2, rbs_0_3, rbs_0_4, rbs_0_5, rbs_0_6, rbs_0_7, rbs_0_8, rbs_0_9, rbs_1_0, rbs_1_1, rbs_1_2, rbs_42_0, rbs_42_1, rbs_45_0, rbs_47_0, rbs_47_1, rbs_47_2, rbs_51_0, rbs_5_0, rbs_5_1, rbs_8_0, rbs_asked, rbs_into, sh_0, sh_1, sh_42, sh_45, sh_47, sh_5, sh_51, sh_8, tg_2, tg_3, tg_4, tg_43, tg_44, tg_46, tg_48, tg_49, tg_50, tg_52, tg_53, tg_6, tg_7, xl_2, xl_3, xl_4, xl_43, xl_44, xl_46, xl_48, xl_49, xl_50, xl_52, xl_53, xl_6, xl_7, xt_2, xt_3, xt_4, xt_43, xt_44, xt_46, xt_48, xt_49, xt_50, xt_52, xt_53, xt_6, xt_7, nI10]
      refine S6_semiO hn hb hC2 h82 hX3 (fun I3 f3 h83 hC3 => ?_)
      simp (disch := omega) only [gI_k, gR_k, pI_k, pR_k, pC_k, true_and, and_true, and_self, not_false_eq_true, not_true_eq_false, eq_self, true_or, or_true, false_or, or_false, false_and, and_false, Option.toList_some, Option.toList_none, List.cons_append, List.nil_append, ↓reduceIte, nI_lit, nI_add, nI_mul, nI_clp, nlt0, nle, nlt, neq, leF, leT, ltF, ltT, eqF, eqT, em_t, cond_dec, bi_T, bi_F, Classical.not_not, uI_o, uI_s, uI_r, nI_sb, bi01,  B_X6_readLand_138, nI10]
      refine Ends_w (ls := [.ref 5, .ref u, .int (nI w'), .int (nI (r + 1)), .null]) (LeL_e (LeL_e (LeL_e (LeL_e (LeL_i LeL_rf))))) ?_
      refine hE2 I3 (fun c c1 c2 c3 => by rw [f3 c c1, f2 c c1 c3, f1 c c1 c2]) ⟨hC3, h83, CB_fr hCB2 (fun c a1 a2 => f3 c (by omega)), fun j hj => ?_, fun a ha => ?_⟩
      · rw [f3 7 (by decide), f2 7 (by decide) (by omega), h71 j hj, hcnt j]
      · rw [f3 a (by unfold EXT at ha; omega), f2 a (by unfold EXT at ha; omega) (by unfold EXT at ha; omega), f1 a (by unfold EXT at ha; omega) (by unfold EXT at ha; omega)]
        exact hH.2.2.2.2 a ha
    have stR : ∀ (d l u2 t q L : Nat) (x : Int32) (I : Nat → Nat → Int32) (Q : Option Value → LM → Prop), RT I n B s e 0 → I 186 17 = nI 0 → RL (I 191) b → (∀ I', FRr I I' → I' 186 17 = nI 0 → RT I' n B s3 e3 k3 → RL (I' 191) b' → Ends (d + 7) k_X10_land (pcw w') [.ref 186, .int x] [] (SH, I', RB l u2 t q L) Q) → Ends (d + 7) k_X10_land (pcw w) [.ref 186, .int x] [] (SH, I, RB l u2 t q L) Q := by
      intro d l u2 t q L x I Q hR h17 hRL hE2
      refine preR (b := b) hn hb hT hW hle hR h17 ?_
      refine RE_O hn hb hR h17 hw6 hr (hRL.1 w' hw6) hX1 (fun I1 f1 g1 hR1 => ?_)
      exact hro rfl s3 e3 k3 hX3 d l u2 t q L I1 _ hR1 (by rw [g1 17 (by omega)]; exact h17) (by rw [f1 191 (by decide)]; exact hRL) (fun I2 f2 g17 hR2 hRL2 => ⟨rfl, hE2 I2 ((FRr.nx f1 g1).tr f2) g17 hR2 hRL2⟩)
    rcases ih (n - s3) (by omega) s3 e3 k3 b' w' rfl hT3 hB' hw6 (Or.inl hpos) with ⟨f, s', hf, hcf, hrf⟩ | ⟨b2, hB2, hp2, hco2, hro2⟩
    · refine Or.inl ⟨f, s', hf, ?_, ?_⟩
      · intro d l q L r xs I Q hH hrs hQ
        exact stC d l q L r xs I Q hH hrs (fun I' f1 hH' => hcf d l q L (r + 1) xs I' Q hH' (by omega) (fun I2 f2 a1 a2 => hQ I2 (f1.tr f2) a1 a2))
      · intro d l u2 t q L x I Q hR h17 hRL hQ
        exact stR d l u2 t q L x I Q hR h17 hRL (fun I' f1 g17 hR' hRL' => hrf d l u2 t q L x I' Q hR' g17 hRL' (fun I2 f2 a1 a2 => hQ I2 (f1.tr f2) a1 a2))
    · refine Or.inr ⟨b2, hB2, hp2, ?_, ?_⟩
      · intro d l q L r xs I Q hH hrs hQ
        exact stC d l q L r xs I Q hH hrs (fun I' f1 hH' => hco2 d l q L (r + 1) xs I' Q hH' (by omega) (fun I2 f2 a1 => hQ I2 (f1.tr f2) a1))
      · intro d l u2 t q L x I Q hR h17 hRL hQ
        exact stR d l u2 t q L x I Q hR h17 hRL (fun I' f1 g17 hR' hRL' => hro2 d l u2 t q L x I' Q hR' g17 hRL' (fun I2 f2 a1 a2 => hQ I2 (f1.tr f2) a1 a2))
end Loop
