/-! ===== call: opened ===== -/
def MK (x : Int32) : Prop := ∃ n, n < 16777216 ∧ x = nI n
theorem b_or {n m : Nat} (hn : n < 16777216) (hm : m < 16777216) : nI n ||| nI m = nI (n ||| m) ∧ n ||| m < 16777216 := by
  have h : n ||| m < 2 ^ 24 := Nat.or_lt_two_pow hn hm
  refine ⟨?_, h⟩
  apply Int32.toBitVec_inj.mp
  rw [Int32.toBitVec_or, nI_bv, nI_bv, nI_bv]
  apply BitVec.eq_of_toNat_eq
  rw [BitVec.toNat_or, BitVec.toNat_ofNat, BitVec.toNat_ofNat, BitVec.toNat_ofNat, Nat.mod_eq_of_lt (by omega), Nat.mod_eq_of_lt (by omega), Nat.mod_eq_of_lt (by omega)]
theorem MK_or {x y : Int32} (h1 : MK x) (h2 : MK y) : MK (x ||| y) := by
  obtain ⟨n, hn, rfl⟩ := h1
  obtain ⟨m, hm, rfl⟩ := h2
  exact ⟨n ||| m, (b_or hn hm).2, (b_or hn hm).1⟩
theorem MK_0 : MK (nI 0) := ⟨0, by omega, rfl⟩
theorem MK_bar {g : Nat → Nat → Nat} {v : Nat → Nat → Int32} {k w : Nat} : ∀ c, c ≤ 24 → MK (barF g v k w c) := by
  intro c
  induction c with
  | zero => intro _; exact MK_0
  | succ c ih =>
    intro hc
    by_cases h : lackF g v c (nI k) (g 4 k) w = nI 0
    · rw [barF_s h]
      have key : ∀ c, c < 24 → nI 1 <<< (nI c &&& nI 31) = nI (2 ^ c) ∧ 2 ^ c < 16777216 := by decide +kernel
      exact MK_or (ih (by omega)) ⟨2 ^ c, (key c (by omega)).2, (key c (by omega)).1⟩
    · rw [barF_n h]; exact ih (by omega)
/-- what is chosen of the best so far and a new one -/
def coF (b o : Int32) : Int32 := if b = NONE then o else if bcF o < bcF b then o else if bcF o = bcF b then (if b ≤ o then b else o) else b
def OB (b : Int32) : Prop := b = NONE ∨ MK b
theorem OB_ch {b o : Int32} (hb : OB b) (ho : MK o) : OB (coF b o) := by
  unfold coF
  by_cases h1 : b = NONE
  · rw [if_pos h1]; exact Or.inr ho
  · rw [if_neg h1]
    by_cases h2 : bcF o < bcF b
    · rw [if_pos h2]; exact Or.inr ho
    · rw [if_neg h2]
      by_cases h3 : bcF o = bcF b
      · rw [if_pos h3]
        by_cases h4 : b ≤ o
        · rw [if_pos h4]; exact hb
        · rw [if_neg h4]; exact Or.inr ho
      · rw [if_neg h3]; exact hb
noncomputable def wkF (g : Nat → Nat → Nat) (bar : Nat → Int32) (w : Nat) : Nat → Nat → Nat → Int32 → Int32 → Int32
  | 0, _, _, _, b => b
  | n + 1, p, m, o, b => if p = w then coF b o else up (fun s b => if bN m s = 0 ∧ bN (g 2 p) s = 1 then wkF g bar w n s (bs m s 1) (o ||| bar s) b else b) b (g 0 0)
theorem OB_wk {g : Nat → Nat → Nat} {bar : Nat → Int32} {w : Nat} (hbar : ∀ s, s < g 0 0 → MK (bar s)) : ∀ n p m o b, MK o → OB b → OB (wkF g bar w n p m o b) := by
  intro n
  induction n with
  | zero => intro p m o b _ hb; exact hb
  | succ n ih =>
    intro p m o b ho hb
    unfold wkF
    by_cases h : p = w
    · rw [if_pos h]; exact OB_ch hb ho
    · rw [if_neg h]
      have key : ∀ j, j ≤ g 0 0 → OB (up (fun s b => if bN m s = 0 ∧ bN (g 2 p) s = 1 then wkF g bar w n s (bs m s 1) (o ||| bar s) b else b) b j) := by
        intro j
        induction j with
        | zero => intro _; exact hb
        | succ j ihj =>
          intro hj
          show OB (if bN m j = 0 ∧ bN (g 2 p) j = 1 then wkF g bar w n j (bs m j 1) (o ||| bar j) _ else _)
          by_cases hc : bN m j = 0 ∧ bN (g 2 p) j = 1
          · rw [if_pos hc]; exact ih _ _ _ _ (MK_or ho (hbar j (by omega))) (ihj (by omega))
          · rw [if_neg hc]; exact ihj (by omega)
      exact key _ (Nat.le_refl _)
/-- what the towns before s give -/
noncomputable def wlF (g : Nat → Nat → Nat) (bar : Nat → Int32) (w n p m : Nat) (o b : Int32) : Nat → Int32 := up (fun s b => if bN m s = 0 ∧ bN (g 2 p) s = 1 then wkF g bar w n s (bs m s 1) (o ||| bar s) b else b) b
theorem wl_0 {g : Nat → Nat → Nat} {bar : Nat → Int32} {w n p m : Nat} {o b : Int32} : wlF g bar w n p m o b 0 = b := rfl
theorem wl_s {g : Nat → Nat → Nat} {bar : Nat → Int32} {w n p m s : Nat} {o b : Int32} (h : bN m s = 0 ∧ bN (g 2 p) s = 1) : wlF g bar w n p m o b (s + 1) = wkF g bar w n s (bs m s 1) (o ||| bar s) (wlF g bar w n p m o b s) := if_pos h
theorem wl_n {g : Nat → Nat → Nat} {bar : Nat → Int32} {w n p m s : Nat} {o b : Int32} (h : ¬ (bN m s = 0 ∧ bN (g 2 p) s = 1)) : wlF g bar w n p m o b (s + 1) = wlF g bar w n p m o b s := if_neg h
theorem wk_w {g : Nat → Nat → Nat} {bar : Nat → Int32} {w n p m : Nat} {o b : Int32} (h : p = w) : wkF g bar w (n + 1) p m o b = coF b o := if_pos h
theorem wk_l {g : Nat → Nat → Nat} {bar : Nat → Int32} {w n p m : Nat} {o b : Int32} (h : ¬ p = w) : wkF g bar w (n + 1) p m o b = wlF g bar w n p m o b (g 0 0) := if_neg h
theorem OB_wl {g : Nat → Nat → Nat} {bar : Nat → Int32} {w n p m : Nat} {o b : Int32} (hbar : ∀ s, s < g 0 0 → MK (bar s)) (ho : MK o) (hb : OB b) : ∀ j, j ≤ g 0 0 → OB (wlF g bar w n p m o b j) := by
  intro j
  induction j with
  | zero => intro _; exact hb
  | succ j ihj =>
    intro hj
    by_cases hc : bN m j = 0 ∧ bN (g 2 p) j = 1
    · rw [wl_s hc]; exact OB_wk hbar _ _ _ _ _ (MK_or ho (hbar j (by omega))) (ihj (by omega))
    · rw [wl_n hc]; exact ihj (by omega)
theorem pc_bs {m s : Nat} (hm : m < 64) (hs : s < 6) (h : bN m s = 0) : pcN (bs m s 1) = pcN m + 1 ∧ bs m s 1 < 64 ∧ bs (bs m s 1) s 0 = m := by
  have key : ∀ m, m < 64 → ∀ s, s < 6 → m / 2 ^ s % 2 = 0 → (let x := m + 1 * 2 ^ s - m / 2 ^ s % 2 * 2 ^ s; x / 2 ^ 0 % 2 + x / 2 ^ 1 % 2 + x / 2 ^ 2 % 2 + x / 2 ^ 3 % 2 + x / 2 ^ 4 % 2 + x / 2 ^ 5 % 2 = (m / 2 ^ 0 % 2 + m / 2 ^ 1 % 2 + m / 2 ^ 2 % 2 + m / 2 ^ 3 % 2 + m / 2 ^ 4 % 2 + m / 2 ^ 5 % 2) + 1 ∧ x < 64 ∧ x + 0 * 2 ^ s - x / 2 ^ s % 2 * 2 ^ s = m) := by decide +kernel
  exact key m hm s hs h
theorem pc_lt {m s : Nat} (hs : s < 6) (h : bN m s = 0) : pcN m ≤ 5 := by
  have h0 := bN_le m 0
  have h1 := bN_le m 1
  have h2 := bN_le m 2
  have h3 := bN_le m 3
  have h4 := bN_le m 4
  have h5 := bN_le m 5
  unfold pcN
  rcases (show s = 0 ∨ s = 1 ∨ s = 2 ∨ s = 3 ∨ s = 4 ∨ s = 5 by omega) with rfl | rfl | rfl | rfl | rfl | rfl <;> omega
section Walk
variable {d a l u t q L : Nat} {I : Nat → Nat → Int32} {Q : Option Value → LM → Prop} {g : Nat → Nat → Nat} {v : Nat → Nat → Int32} {x y z : Int32}
theorem uI_vv {k : Nat} : uI (uI I a k x) a k y = uI I a k y := by
  funext b j
  by_cases e : b = a
  · subst e
    by_cases e2 : j = k
    · subst e2; rw [uI_s ⟨rfl, rfl⟩, uI_s ⟨rfl, rfl⟩]
    · rw [uI_row e2, uI_row e2, uI_row e2]
  · rw [uI_off e, uI_off e, uI_off e]
theorem S8_choose {b o : Int32} (hb : OB b) (ho : MK o) : Ends (d + 1) k_X8_choose 0 [.ref 45, .int o, .null] [] (SH, uI I 45 1 b, RB l u t q L) Q = Q none (SH, uI I 45 1 (coF b o), RB l u t q L) := by
  obtain ⟨y, hy, rfl⟩ := ho
  have p1 := pcK_le 24 y
  unfold coF
  rcases hb with rfl | ⟨z, hz, rfl⟩
  · rw [if_pos rfl]
    simp (disch := omega) only [gI_k, gR_k, pI_k, pR_k, pC_k, true_and, and_true, and_self, not_false_eq_true, not_true_eq_false, eq_self, true_or, or_true, false_or, or_false, false_and, and_false, Option.toList_some, Option.toList_none, List.cons_append, List.nil_append, ↓reduceIte, nI_lit, nI_add, nI_mul, nI_clp, nlt0, nle, nlt, neq, leF, leT, ltF, ltT, eqF, eqT, em_t, cond_dec, bi_T, bi_F, Classical.not_not, uI_o, uI_s, uI_r, nI_sb, bi01,  B_X8_choose_0, B_X8_choose_17, B_X8_choose_24, B_X8_choose_27, B_X8_choose_44, ln_2, ln_3, ln_4, ln_43, ln_44, ln_46, ln_48, ln_49, ln_50, ln_52, ln_53, ln_6, ln_7, rbn_0_0, rbn_0_1, rbn_0_2, rbn_0_3, rbn_0_4, rbn_0_5, rbn_0_6, rbn_0_7, rbn_0_8, rbn_0_9, rbn_1_0, rbn_1_1, rbn_1_2, rbn_42_0, rbn_42_1, rbn_45_0, rbn_47_0, rbn_47_1, rbn_47_2, rbn_51_0, rbn_5_0, rbn_5_1, rbn_8_0, rbn_asked, rbn_into, rbs_0_0, rbs_0_1, rbs_0_2, rbs_0_3, rbs_0_4, rbs_0_5, rbs_0_6, rbs_0_7, rbs_0_8, rbs_0_9, rbs_1_0, rbs_1_1, rbs_1_2, rbs_42_0, rbs_42_1, rbs_45_0, rbs_47_0, rbs_47_1, rbs_47_2, rbs_51_0, rbs_5_0, rbs_5_1, rbs_8_0, rbs_asked, rbs_into, sh_0, sh_1, sh_42, sh_45, sh_47, sh_5, sh_51, sh_8, tg_2, tg_3, tg_4, tg_43, tg_44, tg_46, tg_48, tg_49, tg_50, tg_52, tg_53, tg_6, tg_7, xl_2, xl_3, xl_4, xl_43, xl_44, xl_46, xl_48, xl_49, xl_50, xl_52, xl_53, xl_6, xl_7, xt_2, xt_3, xt_4, xt_43, xt_44, xt_46, xt_48, xt_49, xt_50, xt_52, xt_53, xt_6, xt_7, uI_vv, ltN0]
  · have p2 := pcK_le 24 z
    have hne : ¬ nI z = NONE := by rw [neN (by omega)]; exact id
    rw [if_neg hne, bcF_24 hy, bcF_24 hz]
    rcases Nat.lt_trichotomy (pcK 24 y) (pcK 24 z) with h | h | h
    · simp (disch := omega) only [gI_k, gR_k, pI_k, pR_k, pC_k, true_and, and_true, and_self, not_false_eq_true, not_true_eq_false, eq_self, true_or, or_true, false_or, or_false, false_and, and_false, Option.toList_some, Option.toList_none, List.cons_append, List.nil_append, ↓reduceIte, nI_lit, nI_add, nI_mul, nI_clp, nlt0, nle, nlt, neq, leF, leT, ltF, ltT, eqF, eqT, em_t, cond_dec, bi_T, bi_F, Classical.not_not, uI_o, uI_s, uI_r, nI_sb, bi01,  B_X8_choose_0, B_X8_choose_17, B_X8_choose_24, B_X8_choose_27, B_X8_choose_44, B_J6_compare_7cf53_0, ln_2, ln_3, ln_4, ln_43, ln_44, ln_46, ln_48, ln_49, ln_50, ln_52, ln_53, ln_6, ln_7, rbn_0_0, rbn_0_1, rbn_0_2, rbn_0_3, rbn_0_4, rbn_0_5, rbn_0_6, rbn_0_7, rbn_0_8, rbn_0_9, rbn_1_0, rbn_1_1, rbn_1_2, rbn_42_0, rbn_42_1, rbn_45_0, rbn_47_0, rbn_47_1, rbn_47_2, rbn_51_0, rbn_5_0, rbn_5_1, rbn_8_0, rbn_asked, rbn_into, rbs_0_0, rbs_0_1, rbs_0_2, rbs_0_3, rbs_0_4, rbs_0_5, rbs_0_6, rbs_0_7, rbs_0_8, rbs_0_9, rbs_1_0, rbs_1_1, rbs_1_2, rbs_42_0, rbs_42_1, rbs_45_0, rbs_47_0, rbs_47_1, rbs_47_2, rbs_51_0, rbs_5_0, rbs_5_1, rbs_8_0, rbs_asked, rbs_into, sh_0, sh_1, sh_42, sh_45, sh_47, sh_5, sh_51, sh_8, tg_2, tg_3, tg_4, tg_43, tg_44, tg_46, tg_48, tg_49, tg_50, tg_52, tg_53, tg_6, tg_7, xl_2, xl_3, xl_4, xl_43, xl_44, xl_46, xl_48, xl_49, xl_50, xl_52, xl_53, xl_6, xl_7, xt_2, xt_3, xt_4, xt_43, xt_44, xt_46, xt_48, xt_49, xt_50, xt_52, xt_53, xt_6, xt_7, uI_vv, hne, SJ_bitCount, bcF_24 hy, bcF_24 hz, ltN0]
    · by_cases h4 : z ≤ y
      · simp (disch := omega) only [gI_k, gR_k, pI_k, pR_k, pC_k, true_and, and_true, and_self, not_false_eq_true, not_true_eq_false, eq_self, true_or, or_true, false_or, or_false, false_and, and_false, Option.toList_some, Option.toList_none, List.cons_append, List.nil_append, ↓reduceIte, nI_lit, nI_add, nI_mul, nI_clp, nlt0, nle, nlt, neq, leF, leT, ltF, ltT, eqF, eqT, em_t, cond_dec, bi_T, bi_F, Classical.not_not, uI_o, uI_s, uI_r, nI_sb, bi01,  B_X8_choose_0, B_X8_choose_17, B_X8_choose_24, B_X8_choose_27, B_X8_choose_44, B_J6_compare_7cf53_0, ln_2, ln_3, ln_4, ln_43, ln_44, ln_46, ln_48, ln_49, ln_50, ln_52, ln_53, ln_6, ln_7, rbn_0_0, rbn_0_1, rbn_0_2, rbn_0_3, rbn_0_4, rbn_0_5, rbn_0_6, rbn_0_7, rbn_0_8, rbn_0_9, rbn_1_0, rbn_1_1, rbn_1_2, rbn_42_0, rbn_42_1, rbn_45_0, rbn_47_0, rbn_47_1, rbn_47_2, rbn_51_0, rbn_5_0, rbn_5_1, rbn_8_0, rbn_asked, rbn_into, rbs_0_0, rbs_0_1, rbs_0_2, rbs_0_3, rbs_0_4, rbs_0_5, rbs_0_6, rbs_0_7, rbs_0_8, rbs_0_9, rbs_1_0, rbs_1_1, rbs_1_2, rbs_42_0, rbs_42_1, rbs_45_0, rbs_47_0, rbs_47_1, rbs_47_2, rbs_51_0, rbs_5_0, rbs_5_1, rbs_8_0, rbs_asked, rbs_into, sh_0, sh_1, sh_42, sh_45, sh_47, sh_5, sh_51, sh_8, tg_2, tg_3, tg_4, tg_43, tg_44, tg_46, tg_48, tg_49, tg_50, tg_52, tg_53, tg_6, tg_7, xl_2, xl_3, xl_4, xl_43, xl_44, xl_46, xl_48, xl_49, xl_50, xl_52, xl_53, xl_6, xl_7, xt_2, xt_3, xt_4, xt_43, xt_44, xt_46, xt_48, xt_49, xt_50, xt_52, xt_53, xt_6, xt_7, uI_vv, hne, SJ_bitCount, bcF_24 hy, bcF_24 hz, h]
      · simp (disch := omega) only [gI_k, gR_k, pI_k, pR_k, pC_k, true_and, and_true, and_self, not_false_eq_true, not_true_eq_false, eq_self, true_or, or_true, false_or, or_false, false_and, and_false, Option.toList_some, Option.toList_none, List.cons_append, List.nil_append, ↓reduceIte, nI_lit, nI_add, nI_mul, nI_clp, nlt0, nle, nlt, neq, leF, leT, ltF, ltT, eqF, eqT, em_t, cond_dec, bi_T, bi_F, Classical.not_not, uI_o, uI_s, uI_r, nI_sb, bi01,  B_X8_choose_0, B_X8_choose_17, B_X8_choose_24, B_X8_choose_27, B_X8_choose_44, B_J6_compare_7cf53_0, ln_2, ln_3, ln_4, ln_43, ln_44, ln_46, ln_48, ln_49, ln_50, ln_52, ln_53, ln_6, ln_7, rbn_0_0, rbn_0_1, rbn_0_2, rbn_0_3, rbn_0_4, rbn_0_5, rbn_0_6, rbn_0_7, rbn_0_8, rbn_0_9, rbn_1_0, rbn_1_1, rbn_1_2, rbn_42_0, rbn_42_1, rbn_45_0, rbn_47_0, rbn_47_1, rbn_47_2, rbn_51_0, rbn_5_0, rbn_5_1, rbn_8_0, rbn_asked, rbn_into, rbs_0_0, rbs_0_1, rbs_0_2, rbs_0_3, rbs_0_4, rbs_0_5, rbs_0_6, rbs_0_7, rbs_0_8, rbs_0_9, rbs_1_0, rbs_1_1, rbs_1_2, rbs_42_0, rbs_42_1, rbs_45_0, rbs_47_0, rbs_47_1, rbs_47_2, rbs_51_0, rbs_5_0, rbs_5_1, rbs_8_0, rbs_asked, rbs_into, sh_0, sh_1, sh_42, sh_45, sh_47, sh_5, sh_51, sh_8, tg_2, tg_3, tg_4, tg_43, tg_44, tg_46, tg_48, tg_49, tg_50, tg_52, tg_53, tg_6, tg_7, xl_2, xl_3, xl_4, xl_43, xl_44, xl_46, xl_48, xl_49, xl_50, xl_52, xl_53, xl_6, xl_7, xt_2, xt_3, xt_4, xt_43, xt_44, xt_46, xt_48, xt_49, xt_50, xt_52, xt_53, xt_6, xt_7, uI_vv, hne, SJ_bitCount, bcF_24 hy, bcF_24 hz, h]
    · simp (disch := omega) only [gI_k, gR_k, pI_k, pR_k, pC_k, true_and, and_true, and_self, not_false_eq_true, not_true_eq_false, eq_self, true_or, or_true, false_or, or_false, false_and, and_false, Option.toList_some, Option.toList_none, List.cons_append, List.nil_append, ↓reduceIte, nI_lit, nI_add, nI_mul, nI_clp, nlt0, nle, nlt, neq, leF, leT, ltF, ltT, eqF, eqT, em_t, cond_dec, bi_T, bi_F, Classical.not_not, uI_o, uI_s, uI_r, nI_sb, bi01,  B_X8_choose_0, B_X8_choose_17, B_X8_choose_24, B_X8_choose_27, B_X8_choose_44, B_J6_compare_7cf53_0, ln_2, ln_3, ln_4, ln_43, ln_44, ln_46, ln_48, ln_49, ln_50, ln_52, ln_53, ln_6, ln_7, rbn_0_0, rbn_0_1, rbn_0_2, rbn_0_3, rbn_0_4, rbn_0_5, rbn_0_6, rbn_0_7, rbn_0_8, rbn_0_9, rbn_1_0, rbn_1_1, rbn_1_2, rbn_42_0, rbn_42_1, rbn_45_0, rbn_47_0, rbn_47_1, rbn_47_2, rbn_51_0, rbn_5_0, rbn_5_1, rbn_8_0, rbn_asked, rbn_into, rbs_0_0, rbs_0_1, rbs_0_2, rbs_0_3, rbs_0_4, rbs_0_5, rbs_0_6, rbs_0_7, rbs_0_8, rbs_0_9, rbs_1_0, rbs_1_1, rbs_1_2, rbs_42_0, rbs_42_1, rbs_45_0, rbs_47_0, rbs_47_1, rbs_47_2, rbs_51_0, rbs_5_0, rbs_5_1, rbs_8_0, rbs_asked, rbs_into, sh_0, sh_1, sh_42, sh_45, sh_47, sh_5, sh_51, sh_8, tg_2, tg_3, tg_4, tg_43, tg_44, tg_46, tg_48, tg_49, tg_50, tg_52, tg_53, tg_6, tg_7, xl_2, xl_3, xl_4, xl_43, xl_44, xl_46, xl_48, xl_49, xl_50, xl_52, xl_53, xl_6, xl_7, xt_2, xt_3, xt_4, xt_43, xt_44, xt_46, xt_48, xt_49, xt_50, xt_52, xt_53, xt_6, xt_7, uI_vv, hne, SJ_bitCount, bcF_24 hy, bcF_24 hz]
theorem S8_walk (ha : IL a) (hC : CW I a g v) (hG : GW g) {bar : Nat → Int32} {w : Nat} (hw : w < g 0 0) (hb46 : ∀ w, w < g 0 0 → I 46 w = bar w) (hbar : ∀ s, s < g 0 0 → MK (bar s)) : ∀ n p m o b Q, 7 ≤ pcN m + n → p < g 0 0 → m < 64 → MK o → OB b → Q none (SH, uI I 45 1 (wkF g bar w n p m o b), RB l u t q L) → Ends (d + 2 + n) k_X8_walk 0 [.ref 45, .ref a, .int (nI p), .int (nI w), .int (nI m), .int o, .null, .null] [] (SH, uI I 45 1 b, RB l u t q L) Q := by
  have h0 := hG.n
  intro n
  induction n with
  | zero =>
    intro p m o b Q h1
    have := pcN_le (n := m)
    omega
  | succ n ih =>
    intro p m o b Q h1 hp hm ho hb hQ
    show Ends (d + 2 + n + 1) k_X8_walk 0 [.ref 45, .ref a, .int (nI p), .int (nI w), .int (nI m), .int o, .null, .null] [] (SH, uI I 45 1 b, RB l u t q L) Q
    rw [B_X8_walk_0]
    by_cases hpw : p = w
    · rw [wk_w hpw] at hQ
      rw [show d + 2 + n = d + 1 + n + 1 by omega]
      simp (disch := omega) only [gI_k, gR_k, pI_k, pR_k, pC_k, true_and, and_true, and_self, not_false_eq_true, not_true_eq_false, eq_self, true_or, or_true, false_or, or_false, false_and, and_false, Option.toList_some, Option.toList_none, List.cons_append, List.nil_append, ↓reduceIte, nI_lit, nI_add, nI_mul, nI_clp, nlt0, nle, nlt, neq, leF, leT, ltF, ltT, eqF, eqT, em_t, cond_dec, bi_T, bi_F, Classical.not_not, uI_o, uI_s, uI_r, nI_sb, bi01,  hpw, ln_2, ln_3, ln_4, ln_43, ln_44, ln_46, ln_48, ln_49, ln_50, ln_52, ln_53, ln_6, ln_7, rbn_0_0, rbn_0_1, rbn_0_2, rbn_0_3, rbn_0_4, rbn_0_5, rbn_0_6, rbn_0_7, rbn_0_8, rbn_0_9, rbn_1_0, rbn_1_1, rbn_1_2, rbn_42_0, rbn_42_1, rbn_45_0, rbn_47_0, rbn_47_1, rbn_47_2, rbn_51_0, rbn_5_0, rbn_5_1, rbn_8_0, rbn_asked, rbn_into, rbs_0_0, rbs_0_1, rbs_0_2, rbs_0_3, rbs_0_4, rbs_0_5, rbs_0_6, rbs_0_7, rbs_0_8, rbs_0_9, rbs_1_0, rbs_1_1, rbs_1_2, rbs_42_0, rbs_42_1, rbs_45_0, rbs_47_0, rbs_47_1, rbs_47_2, rbs_51_0, rbs_5_0, rbs_5_1, rbs_8_0, rbs_asked, rbs_into, sh_0, sh_1, sh_42, sh_45, sh_47, sh_5, sh_51, sh_8, tg_2, tg_3, tg_4, tg_43, tg_44, tg_46, tg_48, tg_49, tg_50, tg_52, tg_53, tg_6, tg_7, xl_2, xl_3, xl_4, xl_43, xl_44, xl_46, xl_48, xl_49, xl_50, xl_52, xl_53, xl_6, xl_7, xt_2, xt_3, xt_4, xt_43, xt_44, xt_46, xt_48, xt_49, xt_50, xt_52, xt_53, xt_6, xt_7, S8_choose hb ho, B_X8_walk_11]
      exact hQ
    · rw [wk_l hpw] at hQ
      simp (disch := omega) only [gI_k, gR_k, pI_k, pR_k, pC_k, true_and, and_true, and_self, not_false_eq_true, not_true_eq_false, eq_self, true_or, or_true, false_or, or_false, false_and, and_false, Option.toList_some, Option.toList_none, List.cons_append, List.nil_append, ↓reduceIte, nI_lit, nI_add, nI_mul, nI_clp, nlt0, nle, nlt, neq, leF, leT, ltF, ltT, eqF, eqT, em_t, cond_dec, bi_T, bi_F, Classical.not_not, uI_o, uI_s, uI_r, nI_sb, bi01,  hpw]
      refine sri (E := fun s => Ends (d + 2 + n + 1) k_X8_walk 15 [.ref 45, .ref a, .int (nI p), .int (nI w), .int (nI m), .int o, .int (nI s), .null] [] (SH, uI I 45 1 (wlF g bar w n p m o b s), RB l u t q L) Q) (n := g 0 0) (fun s hs hE => ?_) ?_
      · show Ends (d + 2 + n + 1) k_X8_walk 15 [.ref 45, .ref a, .int (nI p), .int (nI w), .int (nI m), .int o, .int (nI s), .null] [] (SH, uI I 45 1 (wlF g bar w n p m o b s), RB l u t q L) Q
        have hC2 : ∀ x, CW (uI I 45 1 x) a g v := fun x => CW_fr hG hC (fun b h1 h2 => uI_off (by unfold IL at ha; omega))
        have hE2 : ∀ x : Int32, Ends (d + 2 + n + 1) k_X8_walk 15 [.ref 45, .ref a, .int (nI p), .int (nI w), .int (nI m), .int o, .int (nI (s + 1)), .int x] [] (SH, uI I 45 1 (wlF g bar w n p m o b (s + 1)), RB l u t q L) Q := fun x => Ends_w (LeL_e (LeL_e (LeL_e (LeL_e (LeL_e (LeL_e (LeL_e (LeL_i LeL_rf)))))))) hE
        have hob := OB_wl (w := w) (n := n) (p := p) (m := m) hbar ho hb s (by omega)
        have hs6 : s < 6 := by omega
        have hmx := bN_le m s
        rw [B_X8_walk_15]
        by_cases hm0 : bN m s = 0
        · by_cases hr : bN (g 2 p) s = 1
          · rw [wl_s ⟨hm0, hr⟩] at hE2
            obtain ⟨c1, c2, -⟩ := pc_bs hm hs6 hm0
            generalize wlF g bar w n p m o b s = b1 at hE2 hob
            have hC3 := hC2 b1
            simp (disch := omega) only [gI_k, gR_k, pI_k, pR_k, pC_k, true_and, and_true, and_self, not_false_eq_true, not_true_eq_false, eq_self, true_or, or_true, false_or, or_false, false_and, and_false, Option.toList_some, Option.toList_none, List.cons_append, List.nil_append, ↓reduceIte, nI_lit, nI_add, nI_mul, nI_clp, nlt0, nle, nlt, neq, leF, leT, ltF, ltT, eqF, eqT, em_t, cond_dec, bi_T, bi_F, Classical.not_not, uI_o, uI_s, uI_r, nI_sb, bi01,  B_X8_walk_39, B_X8_walk_53, ln_2, ln_3, ln_4, ln_43, ln_44, ln_46, ln_48, ln_49, ln_50, ln_52, ln_53, ln_6, ln_7, rbn_0_0, rbn_0_1, rbn_0_2, rbn_0_3, rbn_0_4, rbn_0_5, rbn_0_6, rbn_0_7, rbn_0_8, rbn_0_9, rbn_1_0, rbn_1_1, rbn_1_2, rbn_42_0, rbn_42_1, rbn_45_0, rbn_47_0, rbn_47_1, rbn_47_2, rbn_51_0, rbn_5_0, rbn_5_1, rbn_8_0, rbn_asked, rbn_into, rbs_0_0, rbs_0_1, rbs_0_2, rbs_0_3, rbs_0_4, rbs_0_5, rbs_0_6, rbs_0_7, rbs_0_8, rbs_0_9, rbs_1_0, rbs_1_1, rbs_1_2, rbs_42_0, rbs_42_1, rbs_45_0, rbs_47_0, rbs_47_1, rbs_47_2, rbs_51_0, rbs_5_0, rbs_5_1, rbs_8_0, rbs_asked, rbs_into, sh_0, sh_1, sh_42, sh_45, sh_47, sh_5, sh_51, sh_8, tg_2, tg_3, tg_4, tg_43, tg_44, tg_46, tg_48, tg_49, tg_50, tg_52, tg_53, tg_6, tg_7, xl_2, xl_3, xl_4, xl_43, xl_44, xl_46, xl_48, xl_49, xl_50, xl_52, xl_53, xl_6, xl_7, xt_2, xt_3, xt_4, xt_43, xt_44, xt_46, xt_48, xt_49, xt_50, xt_52, xt_53, xt_6, xt_7, sh_l ha, rbs_l0 ha, rbn_l0 ha, rbs_l1 ha, rbn_l1 ha, rbs_l2 ha, rbn_l2 ha, rbs_l3 ha, rbn_l3 ha, rbs_l4 ha, rbn_l4 ha, rbs_l5 ha, rbn_l5 ha, rbs_l6 ha, rbn_l6 ha, rbs_l7 ha, rbn_l7 ha, xt_l1 ha, xl_l1 ha, tg_l1 ha, ln_l1 ha, xt_l2 ha, xl_l2 ha, tg_l2 ha, ln_l2 ha, xt_l3 ha, xl_l3 ha, tg_l3 ha, ln_l3 ha, xt_l4 ha, xl_l4 ha, tg_l4 ha, ln_l4 ha, xt_l5 ha, xl_l5 ha, tg_l5 ha, ln_l5 ha, xt_l6 ha, xl_l6 ha, tg_l6 ha, ln_l6 ha, xt_l7 ha, xl_l7 ha, tg_l7 ha, ln_l7 ha, tg_l8 ha, ln_l8 ha, rbs_cc ha, rbn_cc ha, sh_c ha, hC3.T, shb, bN_0, hm0, S4_hasRoad ha hC3 hG, hr, bs_or, hb46]
            refine ih s (bs m s 1) (o ||| bar s) b1 _ (by omega) hs c2 (MK_or ho (hbar s hs)) hob ?_
            simp (disch := omega) only [gI_k, gR_k, pI_k, pR_k, pC_k, true_and, and_true, and_self, not_false_eq_true, not_true_eq_false, eq_self, true_or, or_true, false_or, or_false, false_and, and_false, Option.toList_some, Option.toList_none, List.cons_append, List.nil_append, ↓reduceIte, nI_lit, nI_add, nI_mul, nI_clp, nlt0, nle, nlt, neq, leF, leT, ltF, ltT, eqF, eqT, em_t, cond_dec, bi_T, bi_F, Classical.not_not, uI_o, uI_s, uI_r, nI_sb, bi01,  B_X8_walk_81]
            exact hE2 _
          · rw [wl_n (fun z => hr z.2)] at hE2
            generalize wlF g bar w n p m o b s = b1 at hE2 hob
            have hC3 := hC2 b1
            simp (disch := omega) only [gI_k, gR_k, pI_k, pR_k, pC_k, true_and, and_true, and_self, not_false_eq_true, not_true_eq_false, eq_self, true_or, or_true, false_or, or_false, false_and, and_false, Option.toList_some, Option.toList_none, List.cons_append, List.nil_append, ↓reduceIte, nI_lit, nI_add, nI_mul, nI_clp, nlt0, nle, nlt, neq, leF, leT, ltF, ltT, eqF, eqT, em_t, cond_dec, bi_T, bi_F, Classical.not_not, uI_o, uI_s, uI_r, nI_sb, bi01,  B_X8_walk_39, B_X8_walk_53, B_X8_walk_81, ln_2, ln_3, ln_4, ln_43, ln_44, ln_46, ln_48, ln_49, ln_50, ln_52, ln_53, ln_6, ln_7, rbn_0_0, rbn_0_1, rbn_0_2, rbn_0_3, rbn_0_4, rbn_0_5, rbn_0_6, rbn_0_7, rbn_0_8, rbn_0_9, rbn_1_0, rbn_1_1, rbn_1_2, rbn_42_0, rbn_42_1, rbn_45_0, rbn_47_0, rbn_47_1, rbn_47_2, rbn_51_0, rbn_5_0, rbn_5_1, rbn_8_0, rbn_asked, rbn_into, rbs_0_0, rbs_0_1, rbs_0_2, rbs_0_3, rbs_0_4, rbs_0_5, rbs_0_6, rbs_0_7, rbs_0_8, rbs_0_9, rbs_1_0, rbs_1_1, rbs_1_2, rbs_42_0, rbs_42_1, rbs_45_0, rbs_47_0, rbs_47_1, rbs_47_2, rbs_51_0, rbs_5_0, rbs_5_1, rbs_8_0, rbs_asked, rbs_into, sh_0, sh_1, sh_42, sh_45, sh_47, sh_5, sh_51, sh_8, tg_2, tg_3, tg_4, tg_43, tg_44, tg_46, tg_48, tg_49, tg_50, tg_52, tg_53, tg_6, tg_7, xl_2, xl_3, xl_4, xl_43, xl_44, xl_46, xl_48, xl_49, xl_50, xl_52, xl_53, xl_6, xl_7, xt_2, xt_3, xt_4, xt_43, xt_44, xt_46, xt_48, xt_49, xt_50, xt_52, xt_53, xt_6, xt_7, sh_l ha, rbs_l0 ha, rbn_l0 ha, rbs_l1 ha, rbn_l1 ha, rbs_l2 ha, rbn_l2 ha, rbs_l3 ha, rbn_l3 ha, rbs_l4 ha, rbn_l4 ha, rbs_l5 ha, rbn_l5 ha, rbs_l6 ha, rbn_l6 ha, rbs_l7 ha, rbn_l7 ha, xt_l1 ha, xl_l1 ha, tg_l1 ha, ln_l1 ha, xt_l2 ha, xl_l2 ha, tg_l2 ha, ln_l2 ha, xt_l3 ha, xl_l3 ha, tg_l3 ha, ln_l3 ha, xt_l4 ha, xl_l4 ha, tg_l4 ha, ln_l4 ha, xt_l5 ha, xl_l5 ha, tg_l5 ha, ln_l5 ha, xt_l6 ha, xl_l6 ha, tg_l6 ha, ln_l6 ha, xt_l7 ha, xl_l7 ha, tg_l7 ha, ln_l7 ha, tg_l8 ha, ln_l8 ha, rbs_cc ha, rbn_cc ha, sh_c ha, hC3.T, shb, bN_0, hm0, S4_hasRoad ha hC3 hG, hr]
            exact hE2 _
        · rw [wl_n (fun z => hm0 z.1)] at hE2
          generalize wlF g bar w n p m o b s = b1 at hE2 hob
          have hC3 := hC2 b1
          simp (disch := omega) only [gI_k, gR_k, pI_k, pR_k, pC_k, true_and, and_true, and_self, not_false_eq_true, not_true_eq_false, eq_self, true_or, or_true, false_or, or_false, false_and, and_false, Option.toList_some, Option.toList_none, List.cons_append, List.nil_append, ↓reduceIte, nI_lit, nI_add, nI_mul, nI_clp, nlt0, nle, nlt, neq, leF, leT, ltF, ltT, eqF, eqT, em_t, cond_dec, bi_T, bi_F, Classical.not_not, uI_o, uI_s, uI_r, nI_sb, bi01,  B_X8_walk_39, B_X8_walk_53, B_X8_walk_81, ln_2, ln_3, ln_4, ln_43, ln_44, ln_46, ln_48, ln_49, ln_50, ln_52, ln_53, ln_6, ln_7, rbn_0_0, rbn_0_1, rbn_0_2, rbn_0_3, rbn_0_4, rbn_0_5, rbn_0_6, rbn_0_7, rbn_0_8, rbn_0_9, rbn_1_0, rbn_1_1, rbn_1_2, rbn_42_0, rbn_42_1, rbn_45_0, rbn_47_0, rbn_47_1, rbn_47_2, rbn_51_0, rbn_5_0, rbn_5_1, rbn_8_0, rbn_asked, rbn_into, rbs_0_0, rbs_0_1, rbs_0_2, rbs_0_3, rbs_0_4, rbs_0_5, rbs_0_6, rbs_0_7, rbs_0_8, rbs_0_9, rbs_1_0, rbs_1_1, rbs_1_2, rbs_42_0, rbs_42_1, rbs_45_0, rbs_47_0, rbs_47_1, rbs_47_2, rbs_51_0, rbs_5_0, rbs_5_1, rbs_8_0, rbs_asked, rbs_into, sh_0, sh_1, sh_42, sh_45, sh_47, sh_5, sh_51, sh_8, tg_2, tg_3, tg_4, tg_43, tg_44, tg_46, tg_48, tg_49, tg_50, tg_52, tg_53, tg_6, tg_7, xl_2, xl_3, xl_4, xl_43, xl_44, xl_46, xl_48, xl_49, xl_50, xl_52, xl_53, xl_6, xl_7, xt_2, xt_3, xt_4, xt_43, xt_44, xt_46, xt_48, xt_49, xt_50, xt_52, xt_53, xt_6, xt_7, sh_l ha, rbs_l0 ha, rbn_l0 ha, rbs_l1 ha, rbn_l1 ha, rbs_l2 ha, rbn_l2 ha, rbs_l3 ha, rbn_l3 ha, rbs_l4 ha, rbn_l4 ha, rbs_l5 ha, rbn_l5 ha, rbs_l6 ha, rbn_l6 ha, rbs_l7 ha, rbn_l7 ha, xt_l1 ha, xl_l1 ha, tg_l1 ha, ln_l1 ha, xt_l2 ha, xl_l2 ha, tg_l2 ha, ln_l2 ha, xt_l3 ha, xl_l3 ha, tg_l3 ha, ln_l3 ha, xt_l4 ha, xl_l4 ha, tg_l4 ha, ln_l4 ha, xt_l5 ha, xl_l5 ha, tg_l5 ha, ln_l5 ha, xt_l6 ha, xl_l6 ha, tg_l6 ha, ln_l6 ha, xt_l7 ha, xl_l7 ha, tg_l7 ha, ln_l7 ha, tg_l8 ha, ln_l8 ha, rbs_cc ha, rbn_cc ha, sh_c ha, hC3.T, shb, bN_0, hm0]
          exact hE2 _
      · show Ends (d + 2 + n + 1) k_X8_walk 15 [.ref 45, .ref a, .int (nI p), .int (nI w), .int (nI m), .int o, .int (nI (g 0 0)), .null] [] (SH, uI I 45 1 (wlF g bar w n p m o b (g 0 0)), RB l u t q L) Q
        have hC3 : CW (uI I 45 1 (wlF g bar w n p m o b (g 0 0))) a g v := CW_fr hG hC (fun b h1 h2 => uI_off (by unfold IL at ha; omega))
        rw [B_X8_walk_15]
        simp (disch := omega) only [gI_k, gR_k, pI_k, pR_k, pC_k, true_and, and_true, and_self, not_false_eq_true, not_true_eq_false, eq_self, true_or, or_true, false_or, or_false, false_and, and_false, Option.toList_some, Option.toList_none, List.cons_append, List.nil_append, ↓reduceIte, nI_lit, nI_add, nI_mul, nI_clp, nlt0, nle, nlt, neq, leF, leT, ltF, ltT, eqF, eqT, em_t, cond_dec, bi_T, bi_F, Classical.not_not, uI_o, uI_s, uI_r, nI_sb, bi01,  ln_2, ln_3, ln_4, ln_43, ln_44, ln_46, ln_48, ln_49, ln_50, ln_52, ln_53, ln_6, ln_7, rbn_0_0, rbn_0_1, rbn_0_2, rbn_0_3, rbn_0_4, rbn_0_5, rbn_0_6, rbn_0_7, rbn_0_8, rbn_0_9, rbn_1_0, rbn_1_1, rbn_1_2, rbn_42_0, rbn_42_1, rbn_45_0, rbn_47_0, rbn_47_1, rbn_47_2, rbn_51_0, rbn_5_0, rbn_5_1, rbn_8_0, rbn_asked, rbn_into, rbs_0_0, rbs_0_1, rbs_0_2, rbs_0_3, rbs_0_4, rbs_0_5, rbs_0_6, rbs_0_7, rbs_0_8, rbs_0_9, rbs_1_0, rbs_1_1, rbs_1_2, rbs_42_0, rbs_42_1, rbs_45_0, rbs_47_0, rbs_47_1, rbs_47_2, rbs_51_0, rbs_5_0, rbs_5_1, rbs_8_0, rbs_asked, rbs_into, sh_0, sh_1, sh_42, sh_45, sh_47, sh_5, sh_51, sh_8, tg_2, tg_3, tg_4, tg_43, tg_44, tg_46, tg_48, tg_49, tg_50, tg_52, tg_53, tg_6, tg_7, xl_2, xl_3, xl_4, xl_43, xl_44, xl_46, xl_48, xl_49, xl_50, xl_52, xl_53, xl_6, xl_7, xt_2, xt_3, xt_4, xt_43, xt_44, xt_46, xt_48, xt_49, xt_50, xt_52, xt_53, xt_6, xt_7, sh_l ha, rbs_l0 ha, rbn_l0 ha, rbs_l1 ha, rbn_l1 ha, rbs_l2 ha, rbn_l2 ha, rbs_l3 ha, rbn_l3 ha, rbs_l4 ha, rbn_l4 ha, rbs_l5 ha, rbn_l5 ha, rbs_l6 ha, rbn_l6 ha, rbs_l7 ha, rbn_l7 ha, xt_l1 ha, xl_l1 ha, tg_l1 ha, ln_l1 ha, xt_l2 ha, xl_l2 ha, tg_l2 ha, ln_l2 ha, xt_l3 ha, xl_l3 ha, tg_l3 ha, ln_l3 ha, xt_l4 ha, xl_l4 ha, tg_l4 ha, ln_l4 ha, xt_l5 ha, xl_l5 ha, tg_l5 ha, ln_l5 ha, xt_l6 ha, xl_l6 ha, tg_l6 ha, ln_l6 ha, xt_l7 ha, xl_l7 ha, tg_l7 ha, ln_l7 ha, tg_l8 ha, ln_l8 ha, rbs_cc ha, rbn_cc ha, sh_c ha, hC3.T]
        exact hQ
end Walk
