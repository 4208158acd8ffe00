/-! ===== call: land: both ===== -/
/-- a text's outcome: what the class answers and leaves, what the reference answers and leaves -/
def LandO (n : Nat) (B : Nat → Nat) (s e k u : Nat) : Prop :=
  (∃ f s', (0 < f ∧ f < 4) ∧ CLF n B s e k u b0 0 f s' ∧ (∀ (d l u2 t q L : Nat) (x : Int32) (I : Nat → Nat → Int32) (Q : Option Value → LM → Prop), RT I n B s e k → I 186 17 = nI 0 → RL (I 191) b0 → (∀ I', FRr I I' → I' 186 17 = nI f → I' 186 18 = nI s' → Ends (d + 7) k_X10_land 204 [.ref 186, .int x] [] (SH, I', RB l u2 t q L) Q) → Ends (d + 7) k_X10_land 54 [.ref 186, .int x] [] (SH, I, RB l u2 t q L) Q)) ∨
  (∃ b', BW b' ∧ 0 < b' 0 0 ∧ CLO n B s e k u b0 0 b' ∧ (∀ (d l u2 t q L : Nat) (x : Int32) (I : Nat → Nat → Int32) (Q : Option Value → LM → Prop), RT I n B s e k → I 186 17 = nI 0 → RL (I 191) b0 → (∀ I', FRr I I' → I' 186 17 = nI 0 → RL (I' 191) b' → Ends (d + 7) k_X10_land 204 [.ref 186, .int x] [] (SH, I', RB l u2 t q L) Q) → Ends (d + 7) k_X10_land 54 [.ref 186, .int x] [] (SH, I, RB l u2 t q L) Q))
theorem landO {n u s e k : Nat} {B : Nat → Nat} (hn : n ≤ 500) (hb : ∀ j, j < n → B j < 256) (hu : IL u) (hT : TF n B s e k) : LandO n B s e k u := by
  have lw := fun c hc => lgW (f := 0) hT (c := c) hc
  have hk4 := hT.2.2.1
  have hse0 := hT.1
  have hen := hT.2.1
  by_cases hfirst : k = 0 ∧ isW B s e 0
  · -- a town's word
    have hm : wdR B s e k 0 = 1953462126 := (wd_iff hT (w := 0) (by decide)).mpr hfirst
    have start : ∀ (d l u2 t q L : Nat) (x : Int32) (I : Nat → Nat → Int32) (Q : Option Value → LM → Prop), RT I n B s e k → I 186 17 = nI 0 → Ends (d + 7) k_X10_land (pcw 0) [.ref 186, .int x] [] (SH, I, RB l u2 t q L) Q → Ends (d + 7) k_X10_land 54 [.ref 186, .int x] [] (SH, I, RB l u2 t q L) Q := by
      intro d l u2 t q L x I Q hR h17 hE
      rw [B_X10_land_54]
      simp (disch := omega) only [gI_k, gR_k, pI_k, pR_k, pC_k, true_and, and_true, and_self, not_false_eq_true, not_true_eq_false, eq_self, true_or, or_true, false_or, or_false, false_and, and_false, Option.toList_some, Option.toList_none, List.cons_append, List.nil_append, ↓reduceIte, nI_lit, nI_add, nI_mul, nI_clp, nlt0, nle, nlt, neq, leF, leT, ltF, ltT, eqF, eqT, em_t, cond_dec, bi_T, bi_F, Classical.not_not, uI_o, uI_s, uI_r, nI_sb, bi01,  B_X10_land_58, ln_187, ln_188, ln_189, ln_190, ln_191, ln_192, ln_193, ln_194, ln_195, ln_196, ln_197, ln_198, ln_199, ln_200, ln_201, ln_202, ln_203, ln_204, ln_205, ln_206, rbn_186_19, rbn_186_2, rbn_186_20, rbn_186_21, rbn_186_22, rbn_186_23, rbn_186_24, rbn_186_25, rbn_186_26, rbn_186_27, rbn_186_28, rbn_186_29, rbn_186_3, rbn_186_30, rbn_186_31, rbn_186_4, rbn_186_5, rbn_186_6, rbn_186_8, rbn_186_9, rbs_186_19, rbs_186_2, rbs_186_20, rbs_186_21, rbs_186_22, rbs_186_23, rbs_186_24, rbs_186_25, rbs_186_26, rbs_186_27, rbs_186_28, rbs_186_29, rbs_186_3, rbs_186_30, rbs_186_31, rbs_186_4, rbs_186_5, rbs_186_6, rbs_186_8, rbs_186_9, sh_186, tg_187, tg_188, tg_189, tg_190, tg_191, tg_192, tg_193, tg_194, tg_195, tg_196, tg_197, tg_198, tg_199, tg_200, tg_201, tg_202, tg_203, tg_204, tg_205, tg_206, xl_187, xl_188, xl_189, xl_190, xl_191, xl_192, xl_193, xl_194, xl_195, xl_196, xl_197, xl_198, xl_199, xl_200, xl_201, xl_202, xl_203, xl_204, xl_205, xl_206, xt_187, xt_188, xt_189, xt_190, xt_191, xt_192, xt_193, xt_194, xt_195, xt_196, xt_197, xt_198, xt_199, xt_200, xt_201, xt_202, xt_203, xt_204, xt_205, xt_206, S10_word hn hT hR h17 (by omega), LL0, lw, hm]
      exact hE
    rcases loopAll hn hb hu (n - s) s e k b0 0 rfl hT BW_0 (by decide) (Or.inr ⟨hfirst.1, hfirst.2, rfl⟩) with ⟨f, s', hf, hcf, hrf⟩ | ⟨b', hB', hp, hco, hro⟩
    · exact Or.inl ⟨f, s', hf, hcf, fun d l u2 t q L x I Q hR h17 hRL hQ => start d l u2 t q L x I Q hR h17 (hrf d l u2 t q L x I Q hR h17 hRL hQ)⟩
    · exact Or.inr ⟨b', hB', hp, hco, fun d l u2 t q L x I Q hR h17 hRL hQ => start d l u2 t q L x I Q hR h17 (hro d l u2 t q L x I Q hR h17 hRL hQ)⟩
  · -- none
    have hm : ¬ wdR B s e k 0 = 1953462126 := fun z => hfirst ((wd_iff hT (w := 0) (by decide)).mp z)
    refine Or.inl ⟨1, s, by decide, ?_, ?_⟩
    · intro d l q L r xs I Q hH hrs hQ
      have hq := hQ (uI I 5 8 (nI 1)) (fun c c1 _ _ => uI_off c1) uI_same (by rw [uI_row (by decide)]; exact hH.1.1)
      obtain ⟨hC, h8, hCB, h7, hE⟩ := hH
      have c3 := hC.2.2.1
      have e0 : I 7 0 = nI 0 := h7 0 (by decide)
      rw [B_X6_readLand_38]
      by_cases hk3 : k = 3
      · by_cases c : 500 ≤ r
        · simp (disch := omega) only [gI_k, gR_k, pI_k, pR_k, pC_k, true_and, and_true, and_self, not_false_eq_true, not_true_eq_false, eq_self, true_or, or_true, false_or, or_false, false_and, and_false, Option.toList_some, Option.toList_none, List.cons_append, List.nil_append, ↓reduceIte, nI_lit, nI_add, nI_mul, nI_clp, nlt0, nle, nlt, neq, leF, leT, ltF, ltT, eqF, eqT, em_t, cond_dec, bi_T, bi_F, Classical.not_not, uI_o, uI_s, uI_r, nI_sb, bi01,  B_X6_readLand_149, B_X6_readLand_163, B_X6_fails_0, ln_2, ln_3, ln_4, ln_43, ln_44, ln_46, ln_48, ln_49, ln_50, ln_52, ln_53, ln_6, ln_7, rbn_0_0, rbn_0_1, rbn_0_2, rbn_0_3, rbn_0_4, rbn_0_5, rbn_0_6, rbn_0_7, rbn_0_8, rbn_0_9, rbn_1_0, rbn_1_1, rbn_1_2, rbn_42_0, rbn_42_1, rbn_45_0, rbn_47_0, rbn_47_1, rbn_47_2, rbn_51_0, rbn_5_0, rbn_5_1, rbn_8_0, rbn_asked, rbn_into, rbs_0_0, rbs_0_1, rbs_0_2, rbs_0_3, rbs_0_4, rbs_0_5, rbs_0_6, rbs_0_7, rbs_0_8, rbs_0_9, rbs_1_0, rbs_1_1, rbs_1_2, rbs_42_0, rbs_42_1, rbs_45_0, rbs_47_0, rbs_47_1, rbs_47_2, rbs_51_0, rbs_5_0, rbs_5_1, rbs_8_0, rbs_asked, rbs_into, sh_0, sh_1, sh_42, sh_45, sh_47, sh_5, sh_51, sh_8, tg_2, tg_3, tg_4, tg_43, tg_44, tg_46, tg_48, tg_49, tg_50, tg_52, tg_53, tg_6, tg_7, xl_2, xl_3, xl_4, xl_43, xl_44, xl_46, xl_48, xl_49, xl_50, xl_52, xl_53, xl_6, xl_7, xt_2, xt_3, xt_4, xt_43, xt_44, xt_46, xt_48, xt_49, xt_50, xt_52, xt_53, xt_6, xt_7, c3, e0, hk3]
          exact hq
        · simp (disch := omega) only [gI_k, gR_k, pI_k, pR_k, pC_k, true_and, and_true, and_self, not_false_eq_true, not_true_eq_false, eq_self, true_or, or_true, false_or, or_false, false_and, and_false, Option.toList_some, Option.toList_none, List.cons_append, List.nil_append, ↓reduceIte, nI_lit, nI_add, nI_mul, nI_clp, nlt0, nle, nlt, neq, leF, leT, ltF, ltT, eqF, eqT, em_t, cond_dec, bi_T, bi_F, Classical.not_not, uI_o, uI_s, uI_r, nI_sb, bi01,  B_X6_readLand_149, B_X6_readLand_163, B_X6_fails_0, ln_2, ln_3, ln_4, ln_43, ln_44, ln_46, ln_48, ln_49, ln_50, ln_52, ln_53, ln_6, ln_7, rbn_0_0, rbn_0_1, rbn_0_2, rbn_0_3, rbn_0_4, rbn_0_5, rbn_0_6, rbn_0_7, rbn_0_8, rbn_0_9, rbn_1_0, rbn_1_1, rbn_1_2, rbn_42_0, rbn_42_1, rbn_45_0, rbn_47_0, rbn_47_1, rbn_47_2, rbn_51_0, rbn_5_0, rbn_5_1, rbn_8_0, rbn_asked, rbn_into, rbs_0_0, rbs_0_1, rbs_0_2, rbs_0_3, rbs_0_4, rbs_0_5, rbs_0_6, rbs_0_7, rbs_0_8, rbs_0_9, rbs_1_0, rbs_1_1, rbs_1_2, rbs_42_0, rbs_42_1, rbs_45_0, rbs_47_0, rbs_47_1, rbs_47_2, rbs_51_0, rbs_5_0, rbs_5_1, rbs_8_0, rbs_asked, rbs_into, sh_0, sh_1, sh_42, sh_45, sh_47, sh_5, sh_51, sh_8, tg_2, tg_3, tg_4, tg_43, tg_44, tg_46, tg_48, tg_49, tg_50, tg_52, tg_53, tg_6, tg_7, xl_2, xl_3, xl_4, xl_43, xl_44, xl_46, xl_48, xl_49, xl_50, xl_52, xl_53, xl_6, xl_7, xt_2, xt_3, xt_4, xt_43, xt_44, xt_46, xt_48, xt_49, xt_50, xt_52, xt_53, xt_6, xt_7, c3, e0, hk3]
          exact hq
      · have hse : s < e := hT.2.2.2.2.1 hk3
        by_cases hex : ∃ i, i < 6 ∧ (k = 0 ∧ isW B s e i)
        · obtain ⟨w', hw6, hk0, hW⟩ := hex
          subst hk0
          have hw0 : ¬ w' = 0 := fun z => by subst z; exact hfirst ⟨rfl, hW⟩
          simp (disch := omega) only [gI_k, gR_k, pI_k, pR_k, pC_k, true_and, and_true, and_self, not_false_eq_true, not_true_eq_false, eq_self, true_or, or_true, false_or, or_false, false_and, and_false, Option.toList_some, Option.toList_none, List.cons_append, List.nil_append, ↓reduceIte, nI_lit, nI_add, nI_mul, nI_clp, nlt0, nle, nlt, neq, leF, leT, ltF, ltT, eqF, eqT, em_t, cond_dec, bi_T, bi_F, Classical.not_not, uI_o, uI_s, uI_r, nI_sb, bi01,  B_X6_readLand_57, B_X6_readLand_79, B_X6_readLand_84, B_X6_fails_0, ln_2, ln_3, ln_4, ln_43, ln_44, ln_46, ln_48, ln_49, ln_50, ln_52, ln_53, ln_6, ln_7, rbn_0_0, rbn_0_1, rbn_0_2, rbn_0_3, rbn_0_4, rbn_0_5, rbn_0_6, rbn_0_7, rbn_0_8, rbn_0_9, rbn_1_0, rbn_1_1, rbn_1_2, rbn_42_0, rbn_42_1, rbn_45_0, rbn_47_0, rbn_47_1, rbn_47_2, rbn_51_0, rbn_5_0, rbn_5_1, rbn_8_0, rbn_asked, rbn_into, rbs_0_0, rbs_0_1, rbs_0_2, rbs_0_3, rbs_0_4, rbs_0_5, rbs_0_6, rbs_0_7, rbs_0_8, rbs_0_9, rbs_1_0, rbs_1_1, rbs_1_2, rbs_42_0, rbs_42_1, rbs_45_0, rbs_47_0, rbs_47_1, rbs_47_2, rbs_51_0, rbs_5_0, rbs_5_1, rbs_8_0, rbs_asked, rbs_into, sh_0, sh_1, sh_42, sh_45, sh_47, sh_5, sh_51, sh_8, tg_2, tg_3, tg_4, tg_43, tg_44, tg_46, tg_48, tg_49, tg_50, tg_52, tg_53, tg_6, tg_7, xl_2, xl_3, xl_4, xl_43, xl_44, xl_46, xl_48, xl_49, xl_50, xl_52, xl_53, xl_6, xl_7, xt_2, xt_3, xt_4, xt_43, xt_44, xt_46, xt_48, xt_49, xt_50, xt_52, xt_53, xt_6, xt_7, c3, e0, hk3, S6_wordY hE hn hT hb hC hW, hw0]
          exact hq
        · simp (disch := omega) only [gI_k, gR_k, pI_k, pR_k, pC_k, true_and, and_true, and_self, not_false_eq_true, not_true_eq_false, eq_self, true_or, or_true, false_or, or_false, false_and, and_false, Option.toList_some, Option.toList_none, List.cons_append, List.nil_append, ↓reduceIte, nI_lit, nI_add, nI_mul, nI_clp, nlt0, nle, nlt, neq, leF, leT, ltF, ltT, eqF, eqT, em_t, cond_dec, bi_T, bi_F, Classical.not_not, uI_o, uI_s, uI_r, nI_sb, bi01,  B_X6_readLand_57, B_X6_readLand_79, B_X6_readLand_84, B_X6_fails_0, ln_2, ln_3, ln_4, ln_43, ln_44, ln_46, ln_48, ln_49, ln_50, ln_52, ln_53, ln_6, ln_7, rbn_0_0, rbn_0_1, rbn_0_2, rbn_0_3, rbn_0_4, rbn_0_5, rbn_0_6, rbn_0_7, rbn_0_8, rbn_0_9, rbn_1_0, rbn_1_1, rbn_1_2, rbn_42_0, rbn_42_1, rbn_45_0, rbn_47_0, rbn_47_1, rbn_47_2, rbn_51_0, rbn_5_0, rbn_5_1, rbn_8_0, rbn_asked, rbn_into, rbs_0_0, rbs_0_1, rbs_0_2, rbs_0_3, rbs_0_4, rbs_0_5, rbs_0_6, rbs_0_7, rbs_0_8, rbs_0_9, rbs_1_0, rbs_1_1, rbs_1_2, rbs_42_0, rbs_42_1, rbs_45_0, rbs_47_0, rbs_47_1, rbs_47_2, rbs_51_0, rbs_5_0, rbs_5_1, rbs_8_0, rbs_asked, rbs_into, sh_0, sh_1, sh_42, sh_45, sh_47, sh_5, sh_51, sh_8, tg_2, tg_3, tg_4, tg_43, tg_44, tg_46, tg_48, tg_49, tg_50, tg_52, tg_53, tg_6, tg_7, xl_2, xl_3, xl_4, xl_43, xl_44, xl_46, xl_48, xl_49, xl_50, xl_52, xl_53, xl_6, xl_7, xt_2, xt_3, xt_4, xt_43, xt_44, xt_46, xt_48, xt_49, xt_50, xt_52, xt_53, xt_6, xt_7, c3, e0, hk3, S6_wordN hE hn hT hb hC (fun i hi z => hex ⟨i, hi, z⟩), ltM1]
          exact hq
    · intro d l u2 t q L x I Q hR h17 hRL hQ
      have j17 : uI (uI I 186 17 (nI 1)) 186 18 (nI s) 186 17 = nI 1 := by rw [uI_row (by decide), uI_same]
      have hR' : RT (uI (uI I 186 17 (nI 1)) 186 18 (nI s)) n B s e k := RT_fr hR (fun c c1 c2 => by rw [uI_row (by omega), uI_row (by omega)]) (by rw [uI_off (by decide), uI_off (by decide)])
      have hq := hQ (uI (uI I 186 17 (nI 1)) 186 18 (nI s)) ⟨fun c c1 _ => by rw [uI_off c1, uI_off c1], fun c hc => by unfold f18 at hc; rw [uI_row (by omega), uI_row (by omega)]⟩ j17 uI_same
      have hfall := LW_fall (d := d + 6) (x := x) (l := l) (u := u2) (t := t) (q := q) (L := L) (Q := Q) (w := 0) hn hT hR' j17 (by decide) (by decide)
      rw [B_X10_land_54]
      simp (disch := omega) only [gI_k, gR_k, pI_k, pR_k, pC_k, true_and, and_true, and_self, not_false_eq_true, not_true_eq_false, eq_self, true_or, or_true, false_or, or_false, false_and, and_false, Option.toList_some, Option.toList_none, List.cons_append, List.nil_append, ↓reduceIte, nI_lit, nI_add, nI_mul, nI_clp, nlt0, nle, nlt, neq, leF, leT, ltF, ltT, eqF, eqT, em_t, cond_dec, bi_T, bi_F, Classical.not_not, uI_o, uI_s, uI_r, nI_sb, bi01,  B_X10_land_58, ln_187, ln_188, ln_189, ln_190, ln_191, ln_192, ln_193, ln_194, ln_195, ln_196, ln_197, ln_198, ln_199, ln_200, ln_201, ln_202, ln_203, ln_204, ln_205, ln_206, rbn_186_19, rbn_186_2, rbn_186_20, rbn_186_21, rbn_186_22, rbn_186_23, rbn_186_24, rbn_186_25, rbn_186_26, rbn_186_27, rbn_186_28, rbn_186_29, rbn_186_3, rbn_186_30, rbn_186_31, rbn_186_4, rbn_186_5, rbn_186_6, rbn_186_8, rbn_186_9, rbs_186_19, rbs_186_2, rbs_186_20, rbs_186_21, rbs_186_22, rbs_186_23, rbs_186_24, rbs_186_25, rbs_186_26, rbs_186_27, rbs_186_28, rbs_186_29, rbs_186_3, rbs_186_30, rbs_186_31, rbs_186_4, rbs_186_5, rbs_186_6, rbs_186_8, rbs_186_9, sh_186, tg_187, tg_188, tg_189, tg_190, tg_191, tg_192, tg_193, tg_194, tg_195, tg_196, tg_197, tg_198, tg_199, tg_200, tg_201, tg_202, tg_203, tg_204, tg_205, tg_206, xl_187, xl_188, xl_189, xl_190, xl_191, xl_192, xl_193, xl_194, xl_195, xl_196, xl_197, xl_198, xl_199, xl_200, xl_201, xl_202, xl_203, xl_204, xl_205, xl_206, xt_187, xt_188, xt_189, xt_190, xt_191, xt_192, xt_193, xt_194, xt_195, xt_196, xt_197, xt_198, xt_199, xt_200, xt_201, xt_202, xt_203, xt_204, xt_205, xt_206, S10_word hn hT hR h17 (by omega), LL0, lw, hm, S10_badN h17 hR.1]
      exact hfall.mpr hq
theorem c_land : C_land := by
  intro xs L M hP; obtain ⟨I, l, u, t, q, rfl, hRel⟩ := hP; obtain ⟨hB, g, v, hG, hC, hR, hT⟩ := id hRel; have h0 := hG.n; obtain ⟨ha, hu, hlu⟩ := hB.il; have hR1 : RW (uI I 186 0 (nI 0) 190) (uI I 186 0 (nI 0) 192) g v := by rw [uI_off (by decide), uI_off (by decide)]; exact hR
  obtain ⟨n, hn, t1, t2, t3⟩ := hB.2.2.1
  have hE := hB.2.2.2.2.2.2.2
  obtain ⟨B, hBb, hB1, hB2⟩ : ∃ B : Nat → Nat, (∀ j, j < n → B j < 256) ∧ (∀ j, j < n → I 6 j = nI (B j)) ∧ (∀ j, j < n → I 193 j = nI (B j)) := by
    refine ⟨fun j => (I 193 j).toNatClampNeg, fun j hj => ?_, fun j hj => ?_, fun j hj => ?_⟩
    · obtain ⟨b, hb1, hb2⟩ := (t3 j hj).2
      show (I 193 j).toNatClampNeg < 256
      rw [hb2, nI_clp (by omega)]; exact hb1
    · obtain ⟨b, hb1, hb2⟩ := (t3 j hj).2
      show I 6 j = nI (I 193 j).toNatClampNeg
      rw [(t3 j hj).1, hb2, nI_clp (by omega)]
    · obtain ⟨b, hb1, hb2⟩ := (t3 j hj).2
      show I 193 j = nI (I 193 j).toNatClampNeg
      rw [hb2, nI_clp (by omega)]
  obtain ⟨s, e, k, hX⟩ := nx_ex (B := B) (Nat.zero_le n)
  obtain ⟨-, hT0⟩ := hX.tf
  rw [B_X9_land_0]
  simp (disch := omega) only [gI_k, gR_k, pI_k, pR_k, pC_k, true_and, and_true, and_self, not_false_eq_true, not_true_eq_false, eq_self, true_or, or_true, false_or, or_false, false_and, and_false, Option.toList_some, Option.toList_none, List.cons_append, List.nil_append, ↓reduceIte, nI_lit, nI_add, nI_mul, nI_clp, nlt0, nle, nlt, neq, leF, leT, ltF, ltT, eqF, eqT, em_t, cond_dec, bi_T, bi_F, Classical.not_not, uI_o, uI_s, uI_r, nI_sb, bi01,  ln_2, ln_3, ln_4, ln_43, ln_44, ln_46, ln_48, ln_49, ln_50, ln_52, ln_53, ln_6, ln_7, rbn_0_0, rbn_0_1, rbn_0_2, rbn_0_3, rbn_0_4, rbn_0_5, rbn_0_6, rbn_0_7, rbn_0_8, rbn_0_9, rbn_1_0, rbn_1_1, rbn_1_2, rbn_42_0, rbn_42_1, rbn_45_0, rbn_47_0, rbn_47_1, rbn_47_2, rbn_51_0, rbn_5_0, rbn_5_1, rbn_8_0, rbn_asked, rbn_into, rbs_0_0, rbs_0_1, rbs_0_2, rbs_0_3, rbs_0_4, rbs_0_5, rbs_0_6, rbs_0_7, rbs_0_8, rbs_0_9, rbs_1_0, rbs_1_1, rbs_1_2, rbs_42_0, rbs_42_1, rbs_45_0, rbs_47_0, rbs_47_1, rbs_47_2, rbs_51_0, rbs_5_0, rbs_5_1, rbs_8_0, rbs_asked, rbs_into, sh_0, sh_1, sh_42, sh_45, sh_47, sh_5, sh_51, sh_8, tg_2, tg_3, tg_4, tg_43, tg_44, tg_46, tg_48, tg_49, tg_50, tg_52, tg_53, tg_6, tg_7, xl_2, xl_3, xl_4, xl_43, xl_44, xl_46, xl_48, xl_49, xl_50, xl_52, xl_53, xl_6, xl_7, xt_2, xt_3, xt_4, xt_43, xt_44, xt_46, xt_48, xt_49, xt_50, xt_52, xt_53, xt_6, xt_7]
  refine S6_start (d := 21) hn hBb hu t1 hB1 hE hX (fun I1 f1 hH1 => ?_)
  rcases landO hn hBb hu hT0 with ⟨f, s', hf, hcf, hrf⟩ | ⟨b', hB', hp, hco, hro⟩
  · refine hcf 21 l q L 0 xs I1 _ hH1 (Nat.zero_le _) (fun I2 f2 g8 g7 => ?_)
    have F2 : FCl I I2 u := f1.tr f2
    simp (disch := omega) only [gI_k, gR_k, pI_k, pR_k, pC_k, true_and, and_true, and_self, not_false_eq_true, not_true_eq_false, eq_self, true_or, or_true, false_or, or_false, false_and, and_false, Option.toList_some, Option.toList_none, List.cons_append, List.nil_append, ↓reduceIte, nI_lit, nI_add, nI_mul, nI_clp, nlt0, nle, nlt, neq, leF, leT, ltF, ltT, eqF, eqT, em_t, cond_dec, bi_T, bi_F, Classical.not_not, uI_o, uI_s, uI_r, nI_sb, bi01,  B_X9_land_11, B_X9_land_19, B_X6_empty_0, ln_2, ln_3, ln_4, ln_43, ln_44, ln_46, ln_48, ln_49, ln_50, ln_52, ln_53, ln_6, ln_7, rbn_0_0, rbn_0_1, rbn_0_2, rbn_0_3, rbn_0_4, rbn_0_5, rbn_0_6, rbn_0_7, rbn_0_8, rbn_0_9, rbn_1_0, rbn_1_1, rbn_1_2, rbn_42_0, rbn_42_1, rbn_45_0, rbn_47_0, rbn_47_1, rbn_47_2, rbn_51_0, rbn_5_0, rbn_5_1, rbn_8_0, rbn_asked, rbn_into, rbs_0_0, rbs_0_1, rbs_0_2, rbs_0_3, rbs_0_4, rbs_0_5, rbs_0_6, rbs_0_7, rbs_0_8, rbs_0_9, rbs_1_0, rbs_1_1, rbs_1_2, rbs_42_0, rbs_42_1, rbs_45_0, rbs_47_0, rbs_47_1, rbs_47_2, rbs_51_0, rbs_5_0, rbs_5_1, rbs_8_0, rbs_asked, rbs_into, sh_0, sh_1, sh_42, sh_45, sh_47, sh_5, sh_51, sh_8, tg_2, tg_3, tg_4, tg_43, tg_44, tg_46, tg_48, tg_49, tg_50, tg_52, tg_53, tg_6, tg_7, xl_2, xl_3, xl_4, xl_43, xl_44, xl_46, xl_48, xl_49, xl_50, xl_52, xl_53, xl_6, xl_7, xt_2, xt_3, xt_4, xt_43, xt_44, xt_46, xt_48, xt_49, xt_50, xt_52, xt_53, xt_6, xt_7, g8, g7]
    refine ⟨_, rfl, Mid_mk (by rw [uI_off (by unfold EXT; omega), uI_off (by unfold EXT; omega), F2 _ (by unfold EXT; omega) (by unfold EXT; omega) (by unfold EXT; omega)]; exact hB.ex), ?_⟩
    generalize hJ : uI (uI I2 5 6 (nI 0)) 0 10 (nI f) = J
    have J1 : ∀ c, c ≠ 0 → c ≠ 5 → c ≠ 7 → ¬ (u ≤ c ∧ c < u + 33) → J c = I c := fun c h1 h2 h3 h4 => by rw [← hJ, uI_off h1, uI_off h2, F2 c h2 h3 h4]
    have J2 : ∀ c, c ≠ 10 → J 0 c = I 0 c := fun c h1 => by rw [← hJ, uI_row h1, uI_off (by decide), F2 0 (by decide) (by decide) (by omega)]
    have J3 : J 0 10 = nI f := by rw [← hJ, uI_same]
    have J4 : J 5 6 = nI 0 := by rw [← hJ, uI_off (by decide), uI_same]
    have J186 : J 186 = I 186 := J1 186 (by decide) (by decide) (by decide) (by omega)
    have J193 : J 193 = I 193 := J1 193 (by decide) (by decide) (by decide) (by omega)
    refine S10_start (d := 27) hn hBb (by rw [J186]; exact t2) (by rw [J193]; exact hB2) hX (fun K f3 f4 f10 f17 hRK hRLK => ?_)
    refine hrf 22 l u (u + 1) q L (nI 132) K _ hRK f17 hRLK (fun K2 f5 k17 k18 => ?_)
    rw [S10_finF k17 k18 hf]
    refine ⟨rfl, _, _, _, _, _, rfl, Base_land hB (fun a ha => ?_) ?_ ?_ ?_ ?_ ?_ ?_ ?_ (Or.inl ?_) hB.1, LandP_fr hRel.2 (fun c h1 h2 => ?_) ?_ ?_ ?_⟩
    · have hak : a ≠ 0 ∧ a ≠ 5 ∧ a ≠ 7 ∧ ¬ (u ≤ a ∧ a < u + 33) ∧ a ≠ 186 ∧ a ≠ 191 := by unfold kp EXT at ha; omega
      rw [uI_off hak.2.2.2.2.1, f5.1 a hak.2.2.2.2.1 hak.2.2.2.2.2, f3 a hak.2.2.2.2.1 hak.2.2.2.2.2, J1 a hak.1 hak.2.1 hak.2.2.1 hak.2.2.2.1]
    · rw [uI_off (by decide), f5.1 0 (by decide) (by decide), f3 0 (by decide) (by decide), J2 11 (by decide)]
    · rw [uI_row (by decide), f5.2 1 (by unfold f18; omega), f4 1 (by omega), J186]
    · rw [uI_off (by decide), f5.1 51 (by decide) (by decide), f3 51 (by decide) (by decide), J1 51 (by decide) (by decide) (by decide) (by omega)]
    · rw [uI_row (by decide), f5.2 32 (by unfold f18; omega), f4 32 (by omega), J186]
    · rw [uI_off (by decide), uI_same, f5.1 0 (by decide) (by decide), f3 0 (by decide) (by decide), J3]
    · rw [uI_off (by decide), f5.1 5 (by decide) (by decide), f3 5 (by decide) (by decide), J4]
    · rw [uI_row (by decide), f5.2 10 (by unfold f18; omega), f10]
    · rw [uI_row (by decide), f5.2 7 (by unfold f18; omega), f4 7 (by omega), J186]
    · rw [uI_off (by omega), f5.1 c (by omega) (by omega), f3 c (by omega) (by omega), J1 c (by omega) (by omega) (by omega) (by omega)]
    · rw [uI_off (by decide), f5.1 190 (by decide) (by decide), f3 190 (by decide) (by decide), J1 190 (by decide) (by decide) (by decide) (by omega)]
    · rw [uI_off (by decide), f5.1 192 (by decide) (by decide), f3 192 (by decide) (by decide), J1 192 (by decide) (by decide) (by decide) (by omega)]
    · rw [uI_row (by decide), f5.2 7 (by unfold f18; omega), f4 7 (by omega), J186]
  · refine hco 21 l q L 0 xs I1 _ hH1 (Nat.zero_le _) (fun I2 f2 hCB2 => ?_)
    have F2 : FCl I I2 u := f1.tr f2
    have p0 : I2 u 8 = nI (b' 0 0) := hCB2.1.1
    simp (disch := omega) only [gI_k, gR_k, pI_k, pR_k, pC_k, true_and, and_true, and_self, not_false_eq_true, not_true_eq_false, eq_self, true_or, or_true, false_or, or_false, false_and, and_false, Option.toList_some, Option.toList_none, List.cons_append, List.nil_append, ↓reduceIte, nI_lit, nI_add, nI_mul, nI_clp, nlt0, nle, nlt, neq, leF, leT, ltF, ltT, eqF, eqT, em_t, cond_dec, bi_T, bi_F, Classical.not_not, uI_o, uI_s, uI_r, nI_sb, bi01,  B_X9_land_11, B_X9_land_19, B_X6_empty_0, ln_2, ln_3, ln_4, ln_43, ln_44, ln_46, ln_48, ln_49, ln_50, ln_52, ln_53, ln_6, ln_7, rbn_0_0, rbn_0_1, rbn_0_2, rbn_0_3, rbn_0_4, rbn_0_5, rbn_0_6, rbn_0_7, rbn_0_8, rbn_0_9, rbn_1_0, rbn_1_1, rbn_1_2, rbn_42_0, rbn_42_1, rbn_45_0, rbn_47_0, rbn_47_1, rbn_47_2, rbn_51_0, rbn_5_0, rbn_5_1, rbn_8_0, rbn_asked, rbn_into, rbs_0_0, rbs_0_1, rbs_0_2, rbs_0_3, rbs_0_4, rbs_0_5, rbs_0_6, rbs_0_7, rbs_0_8, rbs_0_9, rbs_1_0, rbs_1_1, rbs_1_2, rbs_42_0, rbs_42_1, rbs_45_0, rbs_47_0, rbs_47_1, rbs_47_2, rbs_51_0, rbs_5_0, rbs_5_1, rbs_8_0, rbs_asked, rbs_into, sh_0, sh_1, sh_42, sh_45, sh_47, sh_5, sh_51, sh_8, tg_2, tg_3, tg_4, tg_43, tg_44, tg_46, tg_48, tg_49, tg_50, tg_52, tg_53, tg_6, tg_7, xl_2, xl_3, xl_4, xl_43, xl_44, xl_46, xl_48, xl_49, xl_50, xl_52, xl_53, xl_6, xl_7, xt_2, xt_3, xt_4, xt_43, xt_44, xt_46, xt_48, xt_49, xt_50, xt_52, xt_53, xt_6, xt_7, sh_l hu, rbs_l0 hu, rbn_l0 hu, rbs_l1 hu, rbn_l1 hu, rbs_l2 hu, rbn_l2 hu, rbs_l3 hu, rbn_l3 hu, rbs_l4 hu, rbn_l4 hu, rbs_l5 hu, rbn_l5 hu, rbs_l6 hu, rbn_l6 hu, rbs_l7 hu, rbn_l7 hu, xt_l1 hu, xl_l1 hu, tg_l1 hu, ln_l1 hu, xt_l2 hu, xl_l2 hu, tg_l2 hu, ln_l2 hu, xt_l3 hu, xl_l3 hu, tg_l3 hu, ln_l3 hu, xt_l4 hu, xl_l4 hu, tg_l4 hu, ln_l4 hu, xt_l5 hu, xl_l5 hu, tg_l5 hu, ln_l5 hu, xt_l6 hu, xl_l6 hu, tg_l6 hu, ln_l6 hu, xt_l7 hu, xl_l7 hu, tg_l7 hu, ln_l7 hu, tg_l8 hu, ln_l8 hu, rbs_cc hu, rbn_cc hu, sh_c hu, nI10, uR_land, uR_unread, p0]
    refine ⟨_, rfl, Mid_mk (by rw [uI_off (by unfold EXT; omega), F2 _ (by unfold EXT; omega) (by unfold EXT; omega) (by unfold EXT; omega)]; exact hB.ex), ?_⟩
    generalize hJ : uI I2 5 6 (nI 0) = J
    have J0 : ∀ c, c ≠ 5 → J c = I2 c := fun c h1 => by rw [← hJ, uI_off h1]
    have J1 : ∀ c, c ≠ 5 → c ≠ 7 → ¬ (u ≤ c ∧ c < u + 33) → J c = I c := fun c h2 h3 h4 => by rw [J0 c h2, F2 c h2 h3 h4]
    have J4 : J 5 6 = nI 0 := by rw [← hJ, uI_same]
    have J186 : J 186 = I 186 := J1 186 (by decide) (by decide) (by omega)
    have J193 : J 193 = I 193 := J1 193 (by decide) (by decide) (by omega)
    refine S10_start (d := 27) hn hBb (by rw [J186]; exact t2) (by rw [J193]; exact hB2) hX (fun K f3 f4 f10 f17 hRK hRLK => ?_)
    refine hro 22 u l (u + 1) q L (nI 132) K _ hRK f17 hRLK (fun K2 f5 k17 hRL2 => ?_)
    refine S10_finO k17 hRL2 hB' (fun K3 f6 f7 k7 hRW => ?_)
    have K3o : ∀ c, c ≠ 186 → c ≠ 190 → c ≠ 191 → c ≠ 192 → K3 c = J c := fun c h1 h2 h3 h4 => by rw [f6 c h1 h2 h4, f5.1 c h1 h3, f3 c h1 h3]
    refine ⟨rfl, _, _, _, _, _, rfl, Base_land hB (fun a ha => ?_) ?_ ?_ ?_ ?_ ?_ ?_ ?_ (Or.inr k7) (by omega), gE b', vE b', GW_E hB', CW_E hB' (CB_fr hCB2 (fun c h1 h2 => ?_)), hRW, ?_⟩
    · have hak : a ≠ 5 ∧ a ≠ 7 ∧ ¬ (u ≤ a ∧ a < u + 33) ∧ a ≠ 186 ∧ a ≠ 190 ∧ a ≠ 191 ∧ a ≠ 192 := by unfold kp EXT at ha; omega
      rw [K3o a hak.2.2.2.1 hak.2.2.2.2.1 hak.2.2.2.2.2.1 hak.2.2.2.2.2.2, J1 a hak.1 hak.2.1 hak.2.2.1]
    · rw [K3o 0 (by decide) (by decide) (by decide) (by decide), J1 0 (by decide) (by decide) (by omega)]
    · rw [f7 1 (by decide), f5.2 1 (by unfold f18; omega), f4 1 (by omega), J186]
    · rw [K3o 51 (by decide) (by decide) (by decide) (by decide), J1 51 (by decide) (by decide) (by omega)]
    · rw [f7 32 (by decide), f5.2 32 (by unfold f18; omega), f4 32 (by omega), J186]
    · rw [K3o 0 (by decide) (by decide) (by decide) (by decide), J1 0 (by decide) (by decide) (by omega), f7 11 (by decide), f5.2 11 (by unfold f18; omega), f4 11 (by omega), J186]
      exact hB.2.2.2.2.2.1
    · rw [K3o 5 (by decide) (by decide) (by decide) (by decide), J4]
    · rw [f7 10 (by decide), f5.2 10 (by unfold f18; omega), f10]
    · rw [K3o c (by omega) (by omega) (by omega) (by omega), J0 c (by omega)]
    · rw [k7]
      exact (bi_y (fun z => by have z : b' 0 0 = 0 := z; omega)).symm
