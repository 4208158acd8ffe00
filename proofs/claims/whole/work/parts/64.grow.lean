/-! ===== grown: all seize what they may ===== -/
theorem Rel_gen {xs : Nat → Int32} {I I' : Nat → Nat → Int32} {l u : Nat} {g' : Nat → Nat → Nat} {v' : Nat → Nat → Int32} (h : Rel xs I l u) (hrow : ∀ a, ¬ scr a → a ≠ 190 → a ≠ 192 → ¬ (l ≤ a ∧ a < l + 33) → I' a = I a) (h186 : ∀ k, k ≠ 0 → I' 186 k = I 186 k) (hG : GW g') (hC : CW I' l g' v') (hR : RW (I' 190) (I' 192) g' v') (hT : I 186 7 = bi (¬ g' 0 0 = 0)) : Rel xs I' l u := by
  have hl := h.1.il
  unfold scr at hrow
  refine ⟨Base_fr h.1 (fun a ha => hrow a ?_ ?_ ?_ ?_) (fun a k hk => ?_), g', v', hG, hC, hR, by rw [h186 7 (by decide)]; exact hT⟩
  any_goals (unfold kp EXT at ha; omega)
  unfold kc at hk
  by_cases e : a = 186
  · subst e; exact h186 k (by omega)
  · rw [hrow a (by omega) (by omega) (by omega) (by omega)]
noncomputable def ff (p : Nat → Prop) : Nat → Nat → Nat
  | 0, k => k
  | j + 1, k => iF (p k) k (ff p j (k + 1))
theorem ff_t {p : Nat → Prop} {j k : Nat} (h : p k) : ff p (j + 1) k = k := by
  show iF (p k) k (ff p j (k + 1)) = k
  rw [iF_t h]
theorem ff_f {p : Nat → Prop} {j k : Nat} (h : ¬ p k) : ff p (j + 1) k = ff p j (k + 1) := by
  show iF (p k) k (ff p j (k + 1)) = _
  rw [iF_f h]
theorem ff_r {p : Nat → Prop} : ∀ j k, k ≤ ff p j k ∧ ff p j k ≤ k + j ∧ (ff p j k < k + j → p (ff p j k)) := by
  intro j
  induction j with
  | zero => intro k; exact ⟨Nat.le_refl k, Nat.le_refl k, fun h => absurd h (Nat.lt_irrefl k)⟩
  | succ j ih =>
    intro k
    by_cases c : p k
    · rw [ff_t c]; exact ⟨Nat.le_refl k, by omega, fun _ => c⟩
    · rw [ff_f c]
      obtain ⟨i1, i2, i3⟩ := ih (k + 1)
      exact ⟨by omega, by omega, fun h => i3 (by omega)⟩
abbrev GV : Type := (Nat → Nat → Nat) × (Nat → Nat → Int32)
def foP (s : GV) (c k : Nat) : Prop := lackF s.1 s.2 c (nI k) (s.1 4 k) (s.1 5 k) = nI 0
noncomputable def foK (s : GV) (c : Nat) : Nat := ff (foP s c) (s.1 0 1) 0
noncomputable def tkS (s : GV) (c k : Nat) : GV := (tkG s.1 c k (s.1 5 k) (mostF s.1 s.2 c (s.1 5 k)).toNatClampNeg, tkV s.1 s.2 c k (s.1 5 k) (mostF s.1 s.2 c (s.1 5 k)).toNatClampNeg)
noncomputable def seF (c : Nat) (s : GV) : GV := iF (foK s c < s.1 0 1) (tkS s c (foK s c)) s
noncomputable def dyF (s : GV) : GV := ((up seF s (s.1 0 3)).1, vS (up seF s (s.1 0 3)).2 0 0 ((up seF s (s.1 0 3)).2 0 0 + nI 1))
noncomputable def gwF (n : Nat) (s : GV) : GV := up (fun _ s => dyF s) s n
theorem tkG_0 {g : Nat → Nat → Nat} {c k w s : Nat} : tkG g c k w s 0 0 = g 0 0 ∧ tkG g c k w s 0 1 = g 0 1 ∧ g 0 3 ≤ tkG g c k w s 0 3 ∧ tkG g c k w s 1 = g 1 := by
  unfold tkG
  by_cases hb : brP g c k w
  · rw [iF_t hb]
    unfold ncG
    refine ⟨?_, ?_, ?_, ?_⟩
    · simp (disch := omega) only [gs_o, gs_r, gs_s]
    · simp (disch := omega) only [gs_o, gs_r, gs_s]
    · simp (disch := omega) only [gs_o, gs_r, gs_s]; omega
    · simp (disch := omega) only [gs_o, gs_r, gs_s]
  · rw [iF_f hb]
    refine ⟨?_, ?_, ?_, ?_⟩
    · simp (disch := omega) only [gs_o]
    · simp (disch := omega) only [gs_o]
    · simp (disch := omega) only [gs_o]; exact Nat.le_refl _
    · simp (disch := omega) only [gs_o]
/-- what stays while claims breed -/
def Kp (s s' : GV) : Prop := GW s'.1 ∧ s'.1 0 0 = s.1 0 0 ∧ s'.1 0 1 = s.1 0 1 ∧ s.1 0 3 ≤ s'.1 0 3 ∧ s'.1 1 = s.1 1
theorem most_s {s : GV} (hG : GW s.1) {c : Nat} (hc : c < s.1 0 3) (hk : foK s c < s.1 0 1) : ∃ m, 1 ≤ m ∧ m ≤ s.1 8 c ∧ mostF s.1 s.2 c (s.1 5 (foK s c)) = nI m ∧ (mostF s.1 s.2 c (s.1 5 (foK s c))).toNatClampNeg = m := by
  have hp : foP s c (foK s c) := (ff_r (p := foP s c) (s.1 0 1) 0).2.2 (by unfold foK at hk; omega)
  have h2 := hG.mn hk
  have h3 := hG.cl hc
  obtain ⟨m, m1, m2, m3⟩ := mostF_nat hG hc h2.2 hp
  exact ⟨m, m1, m2, m3, by rw [m3, nI_clp (by omega)]⟩
theorem seF_k {s : GV} (hG : GW s.1) {c : Nat} (hc : c < s.1 0 3) : Kp s (seF c s) := by
  unfold seF
  by_cases h : foK s c < s.1 0 1
  · rw [iF_t h]
    obtain ⟨m, m1, m2, m3, m4⟩ := most_s hG hc h
    have h3 := hG.cl hc
    unfold tkS
    rw [m4]
    obtain ⟨t0, t1, t2, t3⟩ := tkG_0 (g := s.1) (c := c) (k := foK s c) (w := s.1 5 (foK s c)) (s := m)
    exact ⟨GW_tk hG hc h (by omega), t0, t1, t2, t3⟩
  · rw [iF_f h]
    exact ⟨hG, rfl, rfl, Nat.le_refl _, rfl⟩
theorem upse_k {s : GV} (hG : GW s.1) : ∀ n, n ≤ s.1 0 3 → Kp s (up seF s n) := by
  intro n
  induction n with
  | zero => intro _; exact ⟨hG, rfl, rfl, Nat.le_refl _, rfl⟩
  | succ n ih =>
    intro hn
    obtain ⟨i1, i2, i3, i4, i5⟩ := ih (by omega)
    obtain ⟨j1, j2, j3, j4, j5⟩ := seF_k i1 (c := n) (by omega)
    exact ⟨j1, j2.trans i2, j3.trans i3, Nat.le_trans i4 j4, j5.trans i5⟩
theorem dyF_k {s : GV} (hG : GW s.1) : Kp s (dyF s) := upse_k hG (s.1 0 3) (Nat.le_refl _)
theorem gwF_k {s : GV} (hG : GW s.1) : ∀ n, Kp s (gwF n s) := by
  intro n
  induction n with
  | zero => exact ⟨hG, rfl, rfl, Nat.le_refl _, rfl⟩
  | succ n ih =>
    obtain ⟨i1, i2, i3, i4, i5⟩ := ih
    obtain ⟨j1, j2, j3, j4, j5⟩ := dyF_k i1
    exact ⟨j1, j2.trans i2, j3.trans i3, Nat.le_trans i4 j4, j5.trans i5⟩
section Grow
variable {d a l u t q L : Nat} {I : Nat → Nat → Int32} {Q : Option Value → LM → Prop} {g : Nat → Nat → Nat} {v : Nat → Nat → Int32} {x y z : Int32}
variable {s : GV}
theorem S3_seizeFor (hC : CW I aF s.1 s.2) (hG : GW s.1) {c : Nat} (hc : c < s.1 0 3) (hQ : ∀ I', CW I' aF (seF c s).1 (seF c s).2 → (∀ b, ¬ (9 ≤ b ∧ b < 42) → I' b = I b) → Q none (SH, I', RB l u t q L)) : Ends (d + 4) k_X3_seizeFor 0 [.ref 8, .int (nI c), .null, .null, .null] [] (SH, I, RB l u t q L) Q := by
  have h0 := hG.n
  have ha := IL_F
  have hcl := hG.cl hc
  have eF : aF = 9 := rfl
  have hnone : ¬ foK s c < s.1 0 1 → Q none (SH, I, RB l u t q L) := fun h => hQ I (by unfold seF; rw [iF_f h]; exact hC) (fun _ _ => rfl)
  by_cases hp : s.1 8 c = 0
  · have hz : ¬ foK s c < s.1 0 1 := fun h => by
      have hq : foP s c (foK s c) := (ff_r (p := foP s c) (s.1 0 1) 0).2.2 (by unfold foK at h; omega)
      exact (lack0 hq).1 hp
    simp (disch := omega) only [gI_k, gR_k, pI_k, pR_k, pC_k, true_and, and_true, and_self, not_false_eq_true, not_true_eq_false, eq_self, true_or, or_true, false_or, or_false, false_and, and_false, Option.toList_some, Option.toList_none, List.cons_append, List.nil_append, ↓reduceIte, nI_lit, nI_add, nI_mul, nI_clp, nlt0, nle, nlt, neq, leF, leT, ltF, ltT, eqF, eqT, em_t, cond_dec, bi_T, bi_F, Classical.not_not, uI_o, uI_s, uI_r, nI_sb, bi01,  B_X3_seizeFor_0, B_X3_seizeFor_14, ln_2, ln_3, ln_4, ln_43, ln_44, ln_46, ln_48, ln_49, ln_50, ln_52, ln_53, ln_6, ln_7, rbn_0_0, rbn_0_1, rbn_0_2, rbn_0_3, rbn_0_4, rbn_0_5, rbn_0_6, rbn_0_7, rbn_0_8, rbn_0_9, rbn_1_0, rbn_1_1, rbn_1_2, rbn_42_0, rbn_42_1, rbn_45_0, rbn_47_0, rbn_47_1, rbn_47_2, rbn_51_0, rbn_5_0, rbn_5_1, rbn_8_0, rbn_asked, rbn_into, rbs_0_0, rbs_0_1, rbs_0_2, rbs_0_3, rbs_0_4, rbs_0_5, rbs_0_6, rbs_0_7, rbs_0_8, rbs_0_9, rbs_1_0, rbs_1_1, rbs_1_2, rbs_42_0, rbs_42_1, rbs_45_0, rbs_47_0, rbs_47_1, rbs_47_2, rbs_51_0, rbs_5_0, rbs_5_1, rbs_8_0, rbs_asked, rbs_into, sh_0, sh_1, sh_42, sh_45, sh_47, sh_5, sh_51, sh_8, tg_2, tg_3, tg_4, tg_43, tg_44, tg_46, tg_48, tg_49, tg_50, tg_52, tg_53, tg_6, tg_7, xl_2, xl_3, xl_4, xl_43, xl_44, xl_46, xl_48, xl_49, xl_50, xl_52, xl_53, xl_6, xl_7, xt_2, xt_3, xt_4, xt_43, xt_44, xt_46, xt_48, xt_49, xt_50, xt_52, xt_53, xt_6, xt_7, sh_l ha, rbs_l0 ha, rbn_l0 ha, rbs_l1 ha, rbn_l1 ha, rbs_l2 ha, rbn_l2 ha, rbs_l3 ha, rbn_l3 ha, rbs_l4 ha, rbn_l4 ha, rbs_l5 ha, rbn_l5 ha, rbs_l6 ha, rbn_l6 ha, rbs_l7 ha, rbn_l7 ha, xt_l1 ha, xl_l1 ha, tg_l1 ha, ln_l1 ha, xt_l2 ha, xl_l2 ha, tg_l2 ha, ln_l2 ha, xt_l3 ha, xl_l3 ha, tg_l3 ha, ln_l3 ha, xt_l4 ha, xl_l4 ha, tg_l4 ha, ln_l4 ha, xt_l5 ha, xl_l5 ha, tg_l5 ha, ln_l5 ha, xt_l6 ha, xl_l6 ha, tg_l6 ha, ln_l6 ha, xt_l7 ha, xl_l7 ha, tg_l7 ha, ln_l7 ha, tg_l8 ha, ln_l8 ha, rbs_cc ha, rbn_cc ha, sh_c ha, hC.T, hC.M, hC.F, hC.C, hC.dy, hC.sz, hC.tr, hC.rd, hC.pc, hC.lw, hC.f0, hC.f1, hC.f2, hC.hm, hC.pl, hC.c0, hC.c1, hC.c2, hC.c3, hC.c4, hC.c5, hC.c6, hC.c7, hC.c8, hC.c9, S1_isPaid ha hC hG, hp]
    exact hnone hz
  simp (disch := omega) only [gI_k, gR_k, pI_k, pR_k, pC_k, true_and, and_true, and_self, not_false_eq_true, not_true_eq_false, eq_self, true_or, or_true, false_or, or_false, false_and, and_false, Option.toList_some, Option.toList_none, List.cons_append, List.nil_append, ↓reduceIte, nI_lit, nI_add, nI_mul, nI_clp, nlt0, nle, nlt, neq, leF, leT, ltF, ltT, eqF, eqT, em_t, cond_dec, bi_T, bi_F, Classical.not_not, uI_o, uI_s, uI_r, nI_sb, bi01,  B_X3_seizeFor_0, B_X3_seizeFor_14, ln_2, ln_3, ln_4, ln_43, ln_44, ln_46, ln_48, ln_49, ln_50, ln_52, ln_53, ln_6, ln_7, rbn_0_0, rbn_0_1, rbn_0_2, rbn_0_3, rbn_0_4, rbn_0_5, rbn_0_6, rbn_0_7, rbn_0_8, rbn_0_9, rbn_1_0, rbn_1_1, rbn_1_2, rbn_42_0, rbn_42_1, rbn_45_0, rbn_47_0, rbn_47_1, rbn_47_2, rbn_51_0, rbn_5_0, rbn_5_1, rbn_8_0, rbn_asked, rbn_into, rbs_0_0, rbs_0_1, rbs_0_2, rbs_0_3, rbs_0_4, rbs_0_5, rbs_0_6, rbs_0_7, rbs_0_8, rbs_0_9, rbs_1_0, rbs_1_1, rbs_1_2, rbs_42_0, rbs_42_1, rbs_45_0, rbs_47_0, rbs_47_1, rbs_47_2, rbs_51_0, rbs_5_0, rbs_5_1, rbs_8_0, rbs_asked, rbs_into, sh_0, sh_1, sh_42, sh_45, sh_47, sh_5, sh_51, sh_8, tg_2, tg_3, tg_4, tg_43, tg_44, tg_46, tg_48, tg_49, tg_50, tg_52, tg_53, tg_6, tg_7, xl_2, xl_3, xl_4, xl_43, xl_44, xl_46, xl_48, xl_49, xl_50, xl_52, xl_53, xl_6, xl_7, xt_2, xt_3, xt_4, xt_43, xt_44, xt_46, xt_48, xt_49, xt_50, xt_52, xt_53, xt_6, xt_7, sh_l ha, rbs_l0 ha, rbn_l0 ha, rbs_l1 ha, rbn_l1 ha, rbs_l2 ha, rbn_l2 ha, rbs_l3 ha, rbn_l3 ha, rbs_l4 ha, rbn_l4 ha, rbs_l5 ha, rbn_l5 ha, rbs_l6 ha, rbn_l6 ha, rbs_l7 ha, rbn_l7 ha, xt_l1 ha, xl_l1 ha, tg_l1 ha, ln_l1 ha, xt_l2 ha, xl_l2 ha, tg_l2 ha, ln_l2 ha, xt_l3 ha, xl_l3 ha, tg_l3 ha, ln_l3 ha, xt_l4 ha, xl_l4 ha, tg_l4 ha, ln_l4 ha, xt_l5 ha, xl_l5 ha, tg_l5 ha, ln_l5 ha, xt_l6 ha, xl_l6 ha, tg_l6 ha, ln_l6 ha, xt_l7 ha, xl_l7 ha, tg_l7 ha, ln_l7 ha, tg_l8 ha, ln_l8 ha, rbs_cc ha, rbn_cc ha, sh_c ha, hC.T, hC.M, hC.F, hC.C, hC.dy, hC.sz, hC.tr, hC.rd, hC.pc, hC.lw, hC.f0, hC.f1, hC.f2, hC.hm, hC.pl, hC.c0, hC.c1, hC.c2, hC.c3, hC.c4, hC.c5, hC.c6, hC.c7, hC.c8, hC.c9, S1_isPaid ha hC hG, hp]
  have key : ∀ j k, k + j = s.1 0 1 → foK s c = ff (foP s c) j k → Ends (d + 4) k_X3_seizeFor 20 [.ref 8, .int (nI c), .ref (aF + 9 + c), .int (nI k), .null] [] (SH, I, RB l u t q L) Q := by
    intro j
    induction j with
    | zero =>
      intro k hk e
      rw [B_X3_seizeFor_20]
      simp (disch := omega) only [gI_k, gR_k, pI_k, pR_k, pC_k, true_and, and_true, and_self, not_false_eq_true, not_true_eq_false, eq_self, true_or, or_true, false_or, or_false, false_and, and_false, Option.toList_some, Option.toList_none, List.cons_append, List.nil_append, ↓reduceIte, nI_lit, nI_add, nI_mul, nI_clp, nlt0, nle, nlt, neq, leF, leT, ltF, ltT, eqF, eqT, em_t, cond_dec, bi_T, bi_F, Classical.not_not, uI_o, uI_s, uI_r, nI_sb, bi01,  ln_2, ln_3, ln_4, ln_43, ln_44, ln_46, ln_48, ln_49, ln_50, ln_52, ln_53, ln_6, ln_7, rbn_0_0, rbn_0_1, rbn_0_2, rbn_0_3, rbn_0_4, rbn_0_5, rbn_0_6, rbn_0_7, rbn_0_8, rbn_0_9, rbn_1_0, rbn_1_1, rbn_1_2, rbn_42_0, rbn_42_1, rbn_45_0, rbn_47_0, rbn_47_1, rbn_47_2, rbn_51_0, rbn_5_0, rbn_5_1, rbn_8_0, rbn_asked, rbn_into, rbs_0_0, rbs_0_1, rbs_0_2, rbs_0_3, rbs_0_4, rbs_0_5, rbs_0_6, rbs_0_7, rbs_0_8, rbs_0_9, rbs_1_0, rbs_1_1, rbs_1_2, rbs_42_0, rbs_42_1, rbs_45_0, rbs_47_0, rbs_47_1, rbs_47_2, rbs_51_0, rbs_5_0, rbs_5_1, rbs_8_0, rbs_asked, rbs_into, sh_0, sh_1, sh_42, sh_45, sh_47, sh_5, sh_51, sh_8, tg_2, tg_3, tg_4, tg_43, tg_44, tg_46, tg_48, tg_49, tg_50, tg_52, tg_53, tg_6, tg_7, xl_2, xl_3, xl_4, xl_43, xl_44, xl_46, xl_48, xl_49, xl_50, xl_52, xl_53, xl_6, xl_7, xt_2, xt_3, xt_4, xt_43, xt_44, xt_46, xt_48, xt_49, xt_50, xt_52, xt_53, xt_6, xt_7, sh_l ha, rbs_l0 ha, rbn_l0 ha, rbs_l1 ha, rbn_l1 ha, rbs_l2 ha, rbn_l2 ha, rbs_l3 ha, rbn_l3 ha, rbs_l4 ha, rbn_l4 ha, rbs_l5 ha, rbn_l5 ha, rbs_l6 ha, rbn_l6 ha, rbs_l7 ha, rbn_l7 ha, xt_l1 ha, xl_l1 ha, tg_l1 ha, ln_l1 ha, xt_l2 ha, xl_l2 ha, tg_l2 ha, ln_l2 ha, xt_l3 ha, xl_l3 ha, tg_l3 ha, ln_l3 ha, xt_l4 ha, xl_l4 ha, tg_l4 ha, ln_l4 ha, xt_l5 ha, xl_l5 ha, tg_l5 ha, ln_l5 ha, xt_l6 ha, xl_l6 ha, tg_l6 ha, ln_l6 ha, xt_l7 ha, xl_l7 ha, tg_l7 ha, ln_l7 ha, tg_l8 ha, ln_l8 ha, rbs_cc ha, rbn_cc ha, sh_c ha, hC.T, hC.M, hC.F, hC.C, hC.dy, hC.sz, hC.tr, hC.rd, hC.pc, hC.lw, hC.f0, hC.f1, hC.f2, hC.hm, hC.pl, hC.c0, hC.c1, hC.c2, hC.c3, hC.c4, hC.c5, hC.c6, hC.c7, hC.c8, hC.c9]
      exact hnone (by rw [e]; show ¬ k < s.1 0 1; omega)
    | succ j ih =>
      intro k hk e
      have h2 := hG.mn (k := k) (by omega)
      rw [B_X3_seizeFor_20]
      by_cases c1 : foP s c k
      · rw [ff_t c1] at e
        have hlt : foK s c < s.1 0 1 := by omega
        obtain ⟨m, m1, m2, m3, m4⟩ := most_s hG hc hlt
        have hst : seF c s = tkS s c (foK s c) := by unfold seF; rw [iF_t hlt]
        unfold tkS at hst
        rw [m4, e] at hst
        rw [e] at m3
        have c2 : lackF s.1 s.2 c (nI k) (s.1 4 k) (s.1 5 k) = nI 0 := c1
        simp (disch := omega) only [gI_k, gR_k, pI_k, pR_k, pC_k, true_and, and_true, and_self, not_false_eq_true, not_true_eq_false, eq_self, true_or, or_true, false_or, or_false, false_and, and_false, Option.toList_some, Option.toList_none, List.cons_append, List.nil_append, ↓reduceIte, nI_lit, nI_add, nI_mul, nI_clp, nlt0, nle, nlt, neq, leF, leT, ltF, ltT, eqF, eqT, em_t, cond_dec, bi_T, bi_F, Classical.not_not, uI_o, uI_s, uI_r, nI_sb, bi01,  B_X3_seizeFor_53, B_X3_seizeFor_72, ln_2, ln_3, ln_4, ln_43, ln_44, ln_46, ln_48, ln_49, ln_50, ln_52, ln_53, ln_6, ln_7, rbn_0_0, rbn_0_1, rbn_0_2, rbn_0_3, rbn_0_4, rbn_0_5, rbn_0_6, rbn_0_7, rbn_0_8, rbn_0_9, rbn_1_0, rbn_1_1, rbn_1_2, rbn_42_0, rbn_42_1, rbn_45_0, rbn_47_0, rbn_47_1, rbn_47_2, rbn_51_0, rbn_5_0, rbn_5_1, rbn_8_0, rbn_asked, rbn_into, rbs_0_0, rbs_0_1, rbs_0_2, rbs_0_3, rbs_0_4, rbs_0_5, rbs_0_6, rbs_0_7, rbs_0_8, rbs_0_9, rbs_1_0, rbs_1_1, rbs_1_2, rbs_42_0, rbs_42_1, rbs_45_0, rbs_47_0, rbs_47_1, rbs_47_2, rbs_51_0, rbs_5_0, rbs_5_1, rbs_8_0, rbs_asked, rbs_into, sh_0, sh_1, sh_42, sh_45, sh_47, sh_5, sh_51, sh_8, tg_2, tg_3, tg_4, tg_43, tg_44, tg_46, tg_48, tg_49, tg_50, tg_52, tg_53, tg_6, tg_7, xl_2, xl_3, xl_4, xl_43, xl_44, xl_46, xl_48, xl_49, xl_50, xl_52, xl_53, xl_6, xl_7, xt_2, xt_3, xt_4, xt_43, xt_44, xt_46, xt_48, xt_49, xt_50, xt_52, xt_53, xt_6, xt_7, sh_l ha, rbs_l0 ha, rbn_l0 ha, rbs_l1 ha, rbn_l1 ha, rbs_l2 ha, rbn_l2 ha, rbs_l3 ha, rbn_l3 ha, rbs_l4 ha, rbn_l4 ha, rbs_l5 ha, rbn_l5 ha, rbs_l6 ha, rbn_l6 ha, rbs_l7 ha, rbn_l7 ha, xt_l1 ha, xl_l1 ha, tg_l1 ha, ln_l1 ha, xt_l2 ha, xl_l2 ha, tg_l2 ha, ln_l2 ha, xt_l3 ha, xl_l3 ha, tg_l3 ha, ln_l3 ha, xt_l4 ha, xl_l4 ha, tg_l4 ha, ln_l4 ha, xt_l5 ha, xl_l5 ha, tg_l5 ha, ln_l5 ha, xt_l6 ha, xl_l6 ha, tg_l6 ha, ln_l6 ha, xt_l7 ha, xl_l7 ha, tg_l7 ha, ln_l7 ha, tg_l8 ha, ln_l8 ha, rbs_cc ha, rbn_cc ha, sh_c ha, hC.T, hC.M, hC.F, hC.C, hC.dy, hC.sz, hC.tr, hC.rd, hC.pc, hC.lw, hC.f0, hC.f1, hC.f2, hC.hm, hC.pl, hC.c0, hC.c1, hC.c2, hC.c3, hC.c4, hC.c5, hC.c6, hC.c7, hC.c8, hC.c9, S4_wordLacked ha hC hG, S4_mostOf ha hC hG, c2, m3]
        refine S4_take (d := d + 1) ha hC hG hc (by omega) (by omega) (fun I' hC' hf => ?_)
        simp (disch := omega) only [gI_k, gR_k, pI_k, pR_k, pC_k, true_and, and_true, and_self, not_false_eq_true, not_true_eq_false, eq_self, true_or, or_true, false_or, or_false, false_and, and_false, Option.toList_some, Option.toList_none, List.cons_append, List.nil_append, ↓reduceIte, nI_lit, nI_add, nI_mul, nI_clp, nlt0, nle, nlt, neq, leF, leT, ltF, ltT, eqF, eqT, em_t, cond_dec, bi_T, bi_F, Classical.not_not, uI_o, uI_s, uI_r, nI_sb, bi01,  B_X3_seizeFor_75]
        refine hQ I' ?_ (fun b hb => hf b (by rw [eF]; omega))
        rw [hst]
        exact hC'
      · rw [ff_f c1] at e
        have c2 : ¬ lackF s.1 s.2 c (nI k) (s.1 4 k) (s.1 5 k) = nI 0 := c1
        have hE := ih (k + 1) (by omega) e
        have hE2 : ∀ x : Int32, Ends (d + 4) k_X3_seizeFor 20 [.ref 8, .int (nI c), .ref (aF + 9 + c), .int (nI (k + 1)), .int x] [] (SH, I, RB l u t q L) Q := fun x => Ends_w (LeL_e (LeL_e (LeL_e (LeL_e (LeL_i LeL_rf))))) hE
        simp (disch := omega) only [gI_k, gR_k, pI_k, pR_k, pC_k, true_and, and_true, and_self, not_false_eq_true, not_true_eq_false, eq_self, true_or, or_true, false_or, or_false, false_and, and_false, Option.toList_some, Option.toList_none, List.cons_append, List.nil_append, ↓reduceIte, nI_lit, nI_add, nI_mul, nI_clp, nlt0, nle, nlt, neq, leF, leT, ltF, ltT, eqF, eqT, em_t, cond_dec, bi_T, bi_F, Classical.not_not, uI_o, uI_s, uI_r, nI_sb, bi01,  B_X3_seizeFor_53, ln_2, ln_3, ln_4, ln_43, ln_44, ln_46, ln_48, ln_49, ln_50, ln_52, ln_53, ln_6, ln_7, rbn_0_0, rbn_0_1, rbn_0_2, rbn_0_3, rbn_0_4, rbn_0_5, rbn_0_6, rbn_0_7, rbn_0_8, rbn_0_9, rbn_1_0, rbn_1_1, rbn_1_2, rbn_42_0, rbn_42_1, rbn_45_0, rbn_47_0, rbn_47_1, rbn_47_2, rbn_51_0, rbn_5_0, rbn_5_1, rbn_8_0, rbn_asked, rbn_into, rbs_0_0, rbs_0_1, rbs_0_2, rbs_0_3, rbs_0_4, rbs_0_5, rbs_0_6, rbs_0_7, rbs_0_8, rbs_0_9, rbs_1_0, rbs_1_1, rbs_1_2, rbs_42_0, rbs_42_1, rbs_45_0, rbs_47_0, rbs_47_1, rbs_47_2, rbs_51_0, rbs_5_0, rbs_5_1, rbs_8_0, rbs_asked, rbs_into, sh_0, sh_1, sh_42, sh_45, sh_47, sh_5, sh_51, sh_8, tg_2, tg_3, tg_4, tg_43, tg_44, tg_46, tg_48, tg_49, tg_50, tg_52, tg_53, tg_6, tg_7, xl_2, xl_3, xl_4, xl_43, xl_44, xl_46, xl_48, xl_49, xl_50, xl_52, xl_53, xl_6, xl_7, xt_2, xt_3, xt_4, xt_43, xt_44, xt_46, xt_48, xt_49, xt_50, xt_52, xt_53, xt_6, xt_7, sh_l ha, rbs_l0 ha, rbn_l0 ha, rbs_l1 ha, rbn_l1 ha, rbs_l2 ha, rbn_l2 ha, rbs_l3 ha, rbn_l3 ha, rbs_l4 ha, rbn_l4 ha, rbs_l5 ha, rbn_l5 ha, rbs_l6 ha, rbn_l6 ha, rbs_l7 ha, rbn_l7 ha, xt_l1 ha, xl_l1 ha, tg_l1 ha, ln_l1 ha, xt_l2 ha, xl_l2 ha, tg_l2 ha, ln_l2 ha, xt_l3 ha, xl_l3 ha, tg_l3 ha, ln_l3 ha, xt_l4 ha, xl_l4 ha, tg_l4 ha, ln_l4 ha, xt_l5 ha, xl_l5 ha, tg_l5 ha, ln_l5 ha, xt_l6 ha, xl_l6 ha, tg_l6 ha, ln_l6 ha, xt_l7 ha, xl_l7 ha, tg_l7 ha, ln_l7 ha, tg_l8 ha, ln_l8 ha, rbs_cc ha, rbn_cc ha, sh_c ha, hC.T, hC.M, hC.F, hC.C, hC.dy, hC.sz, hC.tr, hC.rd, hC.pc, hC.lw, hC.f0, hC.f1, hC.f2, hC.hm, hC.pl, hC.c0, hC.c1, hC.c2, hC.c3, hC.c4, hC.c5, hC.c6, hC.c7, hC.c8, hC.c9, S4_wordLacked ha hC hG, c2]
        exact hE2 _
  exact key (s.1 0 1) 0 (by omega) rfl
theorem S3_growBy (hC : CW I aF s.1 s.2) (hG : GW s.1) {n : Nat} (hn : n < 100) (hQ : ∀ I', CW I' aF (gwF n s).1 (gwF n s).2 → (∀ b, ¬ (9 ≤ b ∧ b < 42) → I' b = I b) → Q none (SH, I', RB l u t q L)) : Ends (d + 5) k_X3_growBy 0 [.ref 8, .int (nI n), .null, .null, .null] [] (SH, I, RB l u t q L) Q := by
  have ha := IL_F
  have eF : aF = 9 := rfl
  simp (disch := omega) only [gI_k, gR_k, pI_k, pR_k, pC_k, true_and, and_true, and_self, not_false_eq_true, not_true_eq_false, eq_self, true_or, or_true, false_or, or_false, false_and, and_false, Option.toList_some, Option.toList_none, List.cons_append, List.nil_append, ↓reduceIte, nI_lit, nI_add, nI_mul, nI_clp, nlt0, nle, nlt, neq, leF, leT, ltF, ltT, eqF, eqT, em_t, cond_dec, bi_T, bi_F, Classical.not_not, uI_o, uI_s, uI_r, nI_sb, bi01,  B_X3_growBy_0]
  have key : ∀ I', CW I' aF (gwF 0 s).1 (gwF 0 s).2 → (∀ b, ¬ (9 ≤ b ∧ b < 42) → I' b = I b) → Ends (d + 5) k_X3_growBy 2 [.ref 8, .int (nI n), .int (nI 0), .null, .null] [] (SH, I', RB l u t q L) Q := by
    refine sri (E := fun m => ∀ I', CW I' aF (gwF m s).1 (gwF m s).2 → (∀ b, ¬ (9 ≤ b ∧ b < 42) → I' b = I b) → Ends (d + 5) k_X3_growBy 2 [.ref 8, .int (nI n), .int (nI m), .null, .null] [] (SH, I', RB l u t q L) Q) (n := n) (fun m hm hE => ?_) ?_
    · intro I1 hC1 hf1
      obtain ⟨hG1, -, -, -, -⟩ := gwF_k hG m
      have h1 := hG1.n
      have hE' : ∀ I', CW I' aF (dyF (gwF m s)).1 (dyF (gwF m s)).2 → (∀ b, ¬ (9 ≤ b ∧ b < 42) → I' b = I b) → Ends (d + 5) k_X3_growBy 2 [.ref 8, .int (nI n), .int (nI (m + 1)), .null, .null] [] (SH, I', RB l u t q L) Q := hE
      generalize gwF m s = r at *
      rw [B_X3_growBy_2]
      simp (disch := omega) only [gI_k, gR_k, pI_k, pR_k, pC_k, true_and, and_true, and_self, not_false_eq_true, not_true_eq_false, eq_self, true_or, or_true, false_or, or_false, false_and, and_false, Option.toList_some, Option.toList_none, List.cons_append, List.nil_append, ↓reduceIte, nI_lit, nI_add, nI_mul, nI_clp, nlt0, nle, nlt, neq, leF, leT, ltF, ltT, eqF, eqT, em_t, cond_dec, bi_T, bi_F, Classical.not_not, uI_o, uI_s, uI_r, nI_sb, bi01,  ln_2, ln_3, ln_4, ln_43, ln_44, ln_46, ln_48, ln_49, ln_50, ln_52, ln_53, ln_6, ln_7, rbn_0_0, rbn_0_1, rbn_0_2, rbn_0_3, rbn_0_4, rbn_0_5, rbn_0_6, rbn_0_7, rbn_0_8, rbn_0_9, rbn_1_0, rbn_1_1, rbn_1_2, rbn_42_0, rbn_42_1, rbn_45_0, rbn_47_0, rbn_47_1, rbn_47_2, rbn_51_0, rbn_5_0, rbn_5_1, rbn_8_0, rbn_asked, rbn_into, rbs_0_0, rbs_0_1, rbs_0_2, rbs_0_3, rbs_0_4, rbs_0_5, rbs_0_6, rbs_0_7, rbs_0_8, rbs_0_9, rbs_1_0, rbs_1_1, rbs_1_2, rbs_42_0, rbs_42_1, rbs_45_0, rbs_47_0, rbs_47_1, rbs_47_2, rbs_51_0, rbs_5_0, rbs_5_1, rbs_8_0, rbs_asked, rbs_into, sh_0, sh_1, sh_42, sh_45, sh_47, sh_5, sh_51, sh_8, tg_2, tg_3, tg_4, tg_43, tg_44, tg_46, tg_48, tg_49, tg_50, tg_52, tg_53, tg_6, tg_7, xl_2, xl_3, xl_4, xl_43, xl_44, xl_46, xl_48, xl_49, xl_50, xl_52, xl_53, xl_6, xl_7, xt_2, xt_3, xt_4, xt_43, xt_44, xt_46, xt_48, xt_49, xt_50, xt_52, xt_53, xt_6, xt_7, sh_l ha, rbs_l0 ha, rbn_l0 ha, rbs_l1 ha, rbn_l1 ha, rbs_l2 ha, rbn_l2 ha, rbs_l3 ha, rbn_l3 ha, rbs_l4 ha, rbn_l4 ha, rbs_l5 ha, rbn_l5 ha, rbs_l6 ha, rbn_l6 ha, rbs_l7 ha, rbn_l7 ha, xt_l1 ha, xl_l1 ha, tg_l1 ha, ln_l1 ha, xt_l2 ha, xl_l2 ha, tg_l2 ha, ln_l2 ha, xt_l3 ha, xl_l3 ha, tg_l3 ha, ln_l3 ha, xt_l4 ha, xl_l4 ha, tg_l4 ha, ln_l4 ha, xt_l5 ha, xl_l5 ha, tg_l5 ha, ln_l5 ha, xt_l6 ha, xl_l6 ha, tg_l6 ha, ln_l6 ha, xt_l7 ha, xl_l7 ha, tg_l7 ha, ln_l7 ha, tg_l8 ha, ln_l8 ha, rbs_cc ha, rbn_cc ha, sh_c ha, hC1.C]
      have inn : ∀ I', CW I' aF (up seF r 0).1 (up seF r 0).2 → (∀ b, ¬ (9 ≤ b ∧ b < 42) → I' b = I b) → Ends (d + 5) k_X3_growBy 18 [.ref 8, .int (nI n), .int (nI m), .int (nI (r.1 0 3)), .int (nI 0)] [] (SH, I', RB l u t q L) Q := by
        refine sri (E := fun c => ∀ I', CW I' aF (up seF r c).1 (up seF r c).2 → (∀ b, ¬ (9 ≤ b ∧ b < 42) → I' b = I b) → Ends (d + 5) k_X3_growBy 18 [.ref 8, .int (nI n), .int (nI m), .int (nI (r.1 0 3)), .int (nI c)] [] (SH, I', RB l u t q L) Q) (n := r.1 0 3) (fun c hc hE => ?_) ?_
        · intro I2 hC2 hf2
          obtain ⟨k1, -, -, k4, -⟩ := upse_k hG1 c (by omega)
          rw [B_X3_growBy_18]
          simp (disch := omega) only [gI_k, gR_k, pI_k, pR_k, pC_k, true_and, and_true, and_self, not_false_eq_true, not_true_eq_false, eq_self, true_or, or_true, false_or, or_false, false_and, and_false, Option.toList_some, Option.toList_none, List.cons_append, List.nil_append, ↓reduceIte, nI_lit, nI_add, nI_mul, nI_clp, nlt0, nle, nlt, neq, leF, leT, ltF, ltT, eqF, eqT, em_t, cond_dec, bi_T, bi_F, Classical.not_not, uI_o, uI_s, uI_r, nI_sb, bi01,  ln_2, ln_3, ln_4, ln_43, ln_44, ln_46, ln_48, ln_49, ln_50, ln_52, ln_53, ln_6, ln_7, rbn_0_0, rbn_0_1, rbn_0_2, rbn_0_3, rbn_0_4, rbn_0_5, rbn_0_6, rbn_0_7, rbn_0_8, rbn_0_9, rbn_1_0, rbn_1_1, rbn_1_2, rbn_42_0, rbn_42_1, rbn_45_0, rbn_47_0, rbn_47_1, rbn_47_2, rbn_51_0, rbn_5_0, rbn_5_1, rbn_8_0, rbn_asked, rbn_into, rbs_0_0, rbs_0_1, rbs_0_2, rbs_0_3, rbs_0_4, rbs_0_5, rbs_0_6, rbs_0_7, rbs_0_8, rbs_0_9, rbs_1_0, rbs_1_1, rbs_1_2, rbs_42_0, rbs_42_1, rbs_45_0, rbs_47_0, rbs_47_1, rbs_47_2, rbs_51_0, rbs_5_0, rbs_5_1, rbs_8_0, rbs_asked, rbs_into, sh_0, sh_1, sh_42, sh_45, sh_47, sh_5, sh_51, sh_8, tg_2, tg_3, tg_4, tg_43, tg_44, tg_46, tg_48, tg_49, tg_50, tg_52, tg_53, tg_6, tg_7, xl_2, xl_3, xl_4, xl_43, xl_44, xl_46, xl_48, xl_49, xl_50, xl_52, xl_53, xl_6, xl_7, xt_2, xt_3, xt_4, xt_43, xt_44, xt_46, xt_48, xt_49, xt_50, xt_52, xt_53, xt_6, xt_7]
          refine S3_seizeFor (d := d) hC2 k1 (by omega) (fun I3 hC3 hf3 => ?_)
          simp (disch := omega) only [gI_k, gR_k, pI_k, pR_k, pC_k, true_and, and_true, and_self, not_false_eq_true, not_true_eq_false, eq_self, true_or, or_true, false_or, or_false, false_and, and_false, Option.toList_some, Option.toList_none, List.cons_append, List.nil_append, ↓reduceIte, nI_lit, nI_add, nI_mul, nI_clp, nlt0, nle, nlt, neq, leF, leT, ltF, ltT, eqF, eqT, em_t, cond_dec, bi_T, bi_F, Classical.not_not, uI_o, uI_s, uI_r, nI_sb, bi01,  B_X3_growBy_30]
          exact hE I3 hC3 (fun b hb => by rw [hf3 b hb, hf2 b hb])
        · intro I2 hC2 hf2
          obtain ⟨k1, -, -, k4, -⟩ := upse_k hG1 (r.1 0 3) (Nat.le_refl _)
          rw [B_X3_growBy_18]
          simp (disch := omega) only [gI_k, gR_k, pI_k, pR_k, pC_k, true_and, and_true, and_self, not_false_eq_true, not_true_eq_false, eq_self, true_or, or_true, false_or, or_false, false_and, and_false, Option.toList_some, Option.toList_none, List.cons_append, List.nil_append, ↓reduceIte, nI_lit, nI_add, nI_mul, nI_clp, nlt0, nle, nlt, neq, leF, leT, ltF, ltT, eqF, eqT, em_t, cond_dec, bi_T, bi_F, Classical.not_not, uI_o, uI_s, uI_r, nI_sb, bi01,  ln_2, ln_3, ln_4, ln_43, ln_44, ln_46, ln_48, ln_49, ln_50, ln_52, ln_53, ln_6, ln_7, rbn_0_0, rbn_0_1, rbn_0_2, rbn_0_3, rbn_0_4, rbn_0_5, rbn_0_6, rbn_0_7, rbn_0_8, rbn_0_9, rbn_1_0, rbn_1_1, rbn_1_2, rbn_42_0, rbn_42_1, rbn_45_0, rbn_47_0, rbn_47_1, rbn_47_2, rbn_51_0, rbn_5_0, rbn_5_1, rbn_8_0, rbn_asked, rbn_into, rbs_0_0, rbs_0_1, rbs_0_2, rbs_0_3, rbs_0_4, rbs_0_5, rbs_0_6, rbs_0_7, rbs_0_8, rbs_0_9, rbs_1_0, rbs_1_1, rbs_1_2, rbs_42_0, rbs_42_1, rbs_45_0, rbs_47_0, rbs_47_1, rbs_47_2, rbs_51_0, rbs_5_0, rbs_5_1, rbs_8_0, rbs_asked, rbs_into, sh_0, sh_1, sh_42, sh_45, sh_47, sh_5, sh_51, sh_8, tg_2, tg_3, tg_4, tg_43, tg_44, tg_46, tg_48, tg_49, tg_50, tg_52, tg_53, tg_6, tg_7, xl_2, xl_3, xl_4, xl_43, xl_44, xl_46, xl_48, xl_49, xl_50, xl_52, xl_53, xl_6, xl_7, xt_2, xt_3, xt_4, xt_43, xt_44, xt_46, xt_48, xt_49, xt_50, xt_52, xt_53, xt_6, xt_7, sh_l ha, rbs_l0 ha, rbn_l0 ha, rbs_l1 ha, rbn_l1 ha, rbs_l2 ha, rbn_l2 ha, rbs_l3 ha, rbn_l3 ha, rbs_l4 ha, rbn_l4 ha, rbs_l5 ha, rbn_l5 ha, rbs_l6 ha, rbn_l6 ha, rbs_l7 ha, rbn_l7 ha, xt_l1 ha, xl_l1 ha, tg_l1 ha, ln_l1 ha, xt_l2 ha, xl_l2 ha, tg_l2 ha, ln_l2 ha, xt_l3 ha, xl_l3 ha, tg_l3 ha, ln_l3 ha, xt_l4 ha, xl_l4 ha, tg_l4 ha, ln_l4 ha, xt_l5 ha, xl_l5 ha, tg_l5 ha, ln_l5 ha, xt_l6 ha, xl_l6 ha, tg_l6 ha, ln_l6 ha, xt_l7 ha, xl_l7 ha, tg_l7 ha, ln_l7 ha, tg_l8 ha, ln_l8 ha, rbs_cc ha, rbn_cc ha, sh_c ha, hC2.dy]
          have := hE' (uI I2 aF 12 ((up seF r (r.1 0 3)).2 0 0 + nI 1)) (CW_day k1 hC2) (fun b hb => by rw [uI_off (by rw [eF]; omega)]; exact hf2 b hb)
          exact Ends_w (LeL_e (LeL_e (LeL_e (LeL_i (LeL_i LeL_rf))))) this
      exact inn I1 hC1 hf1
    · intro I1 hC1 hf1
      rw [B_X3_growBy_2]
      simp (disch := omega) only [gI_k, gR_k, pI_k, pR_k, pC_k, true_and, and_true, and_self, not_false_eq_true, not_true_eq_false, eq_self, true_or, or_true, false_or, or_false, false_and, and_false, Option.toList_some, Option.toList_none, List.cons_append, List.nil_append, ↓reduceIte, nI_lit, nI_add, nI_mul, nI_clp, nlt0, nle, nlt, neq, leF, leT, ltF, ltT, eqF, eqT, em_t, cond_dec, bi_T, bi_F, Classical.not_not, uI_o, uI_s, uI_r, nI_sb, bi01,  ln_2, ln_3, ln_4, ln_43, ln_44, ln_46, ln_48, ln_49, ln_50, ln_52, ln_53, ln_6, ln_7, rbn_0_0, rbn_0_1, rbn_0_2, rbn_0_3, rbn_0_4, rbn_0_5, rbn_0_6, rbn_0_7, rbn_0_8, rbn_0_9, rbn_1_0, rbn_1_1, rbn_1_2, rbn_42_0, rbn_42_1, rbn_45_0, rbn_47_0, rbn_47_1, rbn_47_2, rbn_51_0, rbn_5_0, rbn_5_1, rbn_8_0, rbn_asked, rbn_into, rbs_0_0, rbs_0_1, rbs_0_2, rbs_0_3, rbs_0_4, rbs_0_5, rbs_0_6, rbs_0_7, rbs_0_8, rbs_0_9, rbs_1_0, rbs_1_1, rbs_1_2, rbs_42_0, rbs_42_1, rbs_45_0, rbs_47_0, rbs_47_1, rbs_47_2, rbs_51_0, rbs_5_0, rbs_5_1, rbs_8_0, rbs_asked, rbs_into, sh_0, sh_1, sh_42, sh_45, sh_47, sh_5, sh_51, sh_8, tg_2, tg_3, tg_4, tg_43, tg_44, tg_46, tg_48, tg_49, tg_50, tg_52, tg_53, tg_6, tg_7, xl_2, xl_3, xl_4, xl_43, xl_44, xl_46, xl_48, xl_49, xl_50, xl_52, xl_53, xl_6, xl_7, xt_2, xt_3, xt_4, xt_43, xt_44, xt_46, xt_48, xt_49, xt_50, xt_52, xt_53, xt_6, xt_7]
      exact hQ I1 hC1 hf1
  exact key I hC (fun _ _ => rfl)
theorem sub_ng {x y : Int32} : x + -y = x - y := (Int32.sub_eq_add_neg x y).symm
theorem m1_lt : (nI 0 - nI 1 < nI 0) = True := by decide
theorem S10_grow (hR : RW (I 190) (I 192) s.1 s.2) (hG : GW s.1) {n : Nat} (hn : n < 100) (hQ : ∀ N', RW (I 190) N' (gwF n s).1 (gwF n s).2 → Q none (SH, va_up I 192 N', RB l u t q L)) : Ends (d + 4) k_X10_grow 0 [.ref 186, .int (nI n), .null, .null, .null, .null, .null] [] (SH, I, RB l u t q L) Q := by
  simp (disch := omega) only [gI_k, gR_k, pI_k, pR_k, pC_k, true_and, and_true, and_self, not_false_eq_true, not_true_eq_false, eq_self, true_or, or_true, false_or, or_false, false_and, and_false, Option.toList_some, Option.toList_none, List.cons_append, List.nil_append, ↓reduceIte, nI_lit, nI_add, nI_mul, nI_clp, nlt0, nle, nlt, neq, leF, leT, ltF, ltT, eqF, eqT, em_t, cond_dec, bi_T, bi_F, Classical.not_not, uI_o, uI_s, uI_r, nI_sb, bi01,  B_X10_grow_0]
  have key : ∀ N', RW (I 190) N' (gwF 0 s).1 (gwF 0 s).2 → Ends (d + 4) k_X10_grow 2 [.ref 186, .int (nI n), .int (nI 0), .null, .null, .null, .null] [] (SH, va_up I 192 N', RB l u t q L) Q := by
    refine sri (E := fun m => ∀ N', RW (I 190) N' (gwF m s).1 (gwF m s).2 → Ends (d + 4) k_X10_grow 2 [.ref 186, .int (nI n), .int (nI m), .null, .null, .null, .null] [] (SH, va_up I 192 N', RB l u t q L) Q) (n := n) (fun m hm hE => ?_) ?_
    · intro N1 hR1
      obtain ⟨hG1, -, -, -, -⟩ := gwF_k hG m
      have h1 := hG1.n
      have hE' : ∀ N', RW (I 190) N' (dyF (gwF m s)).1 (dyF (gwF m s)).2 → Ends (d + 4) k_X10_grow 2 [.ref 186, .int (nI n), .int (nI (m + 1)), .null, .null, .null, .null] [] (SH, va_up I 192 N', RB l u t q L) Q := hE
      generalize gwF m s = r at *
      rw [B_X10_grow_2]
      simp (disch := omega) only [gI_k, gR_k, pI_k, pR_k, pC_k, true_and, and_true, and_self, not_false_eq_true, not_true_eq_false, eq_self, true_or, or_true, false_or, or_false, false_and, and_false, Option.toList_some, Option.toList_none, List.cons_append, List.nil_append, ↓reduceIte, nI_lit, nI_add, nI_mul, nI_clp, nlt0, nle, nlt, neq, leF, leT, ltF, ltT, eqF, eqT, em_t, cond_dec, bi_T, bi_F, Classical.not_not, uI_o, uI_s, uI_r, nI_sb, bi01,  ln_187, ln_188, ln_189, ln_190, ln_191, ln_192, ln_193, ln_194, ln_195, ln_196, ln_197, ln_198, ln_199, ln_200, ln_201, ln_202, ln_203, ln_204, ln_205, ln_206, rbn_186_19, rbn_186_2, rbn_186_20, rbn_186_21, rbn_186_22, rbn_186_23, rbn_186_24, rbn_186_25, rbn_186_26, rbn_186_27, rbn_186_28, rbn_186_29, rbn_186_3, rbn_186_30, rbn_186_31, rbn_186_4, rbn_186_5, rbn_186_6, rbn_186_8, rbn_186_9, rbs_186_19, rbs_186_2, rbs_186_20, rbs_186_21, rbs_186_22, rbs_186_23, rbs_186_24, rbs_186_25, rbs_186_26, rbs_186_27, rbs_186_28, rbs_186_29, rbs_186_3, rbs_186_30, rbs_186_31, rbs_186_4, rbs_186_5, rbs_186_6, rbs_186_8, rbs_186_9, sh_186, tg_187, tg_188, tg_189, tg_190, tg_191, tg_192, tg_193, tg_194, tg_195, tg_196, tg_197, tg_198, tg_199, tg_200, tg_201, tg_202, tg_203, tg_204, tg_205, tg_206, xl_187, xl_188, xl_189, xl_190, xl_191, xl_192, xl_193, xl_194, xl_195, xl_196, xl_197, xl_198, xl_199, xl_200, xl_201, xl_202, xl_203, xl_204, xl_205, xl_206, xt_187, xt_188, xt_189, xt_190, xt_191, xt_192, xt_193, xt_194, xt_195, xt_196, xt_197, xt_198, xt_199, xt_200, xt_201, xt_202, xt_203, xt_204, xt_205, xt_206, wr_s, hR1.C]
      have inn : ∀ N', RW (I 190) N' (up seF r 0).1 (up seF r 0).2 → Ends (d + 4) k_X10_grow 17 [.ref 186, .int (nI n), .int (nI m), .int (nI (r.1 0 3)), .int (nI 0), .null, .null] [] (SH, va_up I 192 N', RB l u t q L) Q := by
        refine sri (E := fun c => ∀ N', RW (I 190) N' (up seF r c).1 (up seF r c).2 → Ends (d + 4) k_X10_grow 17 [.ref 186, .int (nI n), .int (nI m), .int (nI (r.1 0 3)), .int (nI c), .null, .null] [] (SH, va_up I 192 N', RB l u t q L) Q) (n := r.1 0 3) (fun c hc hE => ?_) ?_
        · intro N2 hR2
          obtain ⟨k1, -, -, k4, -⟩ := upse_k hG1 c (by omega)
          have hE2 : ∀ N', RW (I 190) N' (seF c (up seF r c)).1 (seF c (up seF r c)).2 → ∀ x y : Int32, Ends (d + 4) k_X10_grow 17 [.ref 186, .int (nI n), .int (nI m), .int (nI (r.1 0 3)), .int (nI (c + 1)), .int x, .int y] [] (SH, va_up I 192 N', RB l u t q L) Q := fun N' h x y => Ends_w (LeL_e (LeL_e (LeL_e (LeL_e (LeL_e (LeL_i (LeL_i LeL_rf))))))) (hE N' h)
          have hcz : c < (up seF r c).1 0 3 := by omega
          generalize up seF r c = z at *
          have z0 := k1.n
          have hR3 : RW (va_up I 192 N2 190) (va_up I 192 N2 192) z.1 z.2 := by rw [wr_o (by decide), wr_s rfl]; exact hR2
          rw [B_X10_grow_17]
          simp (disch := omega) only [gI_k, gR_k, pI_k, pR_k, pC_k, true_and, and_true, and_self, not_false_eq_true, not_true_eq_false, eq_self, true_or, or_true, false_or, or_false, false_and, and_false, Option.toList_some, Option.toList_none, List.cons_append, List.nil_append, ↓reduceIte, nI_lit, nI_add, nI_mul, nI_clp, nlt0, nle, nlt, neq, leF, leT, ltF, ltT, eqF, eqT, em_t, cond_dec, bi_T, bi_F, Classical.not_not, uI_o, uI_s, uI_r, nI_sb, bi01,  ln_187, ln_188, ln_189, ln_190, ln_191, ln_192, ln_193, ln_194, ln_195, ln_196, ln_197, ln_198, ln_199, ln_200, ln_201, ln_202, ln_203, ln_204, ln_205, ln_206, rbn_186_19, rbn_186_2, rbn_186_20, rbn_186_21, rbn_186_22, rbn_186_23, rbn_186_24, rbn_186_25, rbn_186_26, rbn_186_27, rbn_186_28, rbn_186_29, rbn_186_3, rbn_186_30, rbn_186_31, rbn_186_4, rbn_186_5, rbn_186_6, rbn_186_8, rbn_186_9, rbs_186_19, rbs_186_2, rbs_186_20, rbs_186_21, rbs_186_22, rbs_186_23, rbs_186_24, rbs_186_25, rbs_186_26, rbs_186_27, rbs_186_28, rbs_186_29, rbs_186_3, rbs_186_30, rbs_186_31, rbs_186_4, rbs_186_5, rbs_186_6, rbs_186_8, rbs_186_9, sh_186, tg_187, tg_188, tg_189, tg_190, tg_191, tg_192, tg_193, tg_194, tg_195, tg_196, tg_197, tg_198, tg_199, tg_200, tg_201, tg_202, tg_203, tg_204, tg_205, tg_206, xl_187, xl_188, xl_189, xl_190, xl_191, xl_192, xl_193, xl_194, xl_195, xl_196, xl_197, xl_198, xl_199, xl_200, xl_201, xl_202, xl_203, xl_204, xl_205, xl_206, xt_187, xt_188, xt_189, xt_190, xt_191, xt_192, xt_193, xt_194, xt_195, xt_196, xt_197, xt_198, xt_199, xt_200, xt_201, xt_202, xt_203, xt_204, xt_205, xt_206, wr_o, hR2.M]
          -- the search, from the last man on
          have sea : Ends (d + 4) k_X10_grow 37 [.ref 186, .int (nI n), .int (nI m), .int (nI (r.1 0 3)), .int (nI c), .int (iF (ff (foP z c) (z.1 0 1 - 0) 0 < z.1 0 1) (nI (ff (foP z c) (z.1 0 1 - 0) 0)) (-nI 1000000)), .int (nI 0 - nI 1)] [] (SH, va_up I 192 N2, RB l u t q L) Q := by
            rw [B_X10_grow_37]
            by_cases hlt : foK z c < z.1 0 1
            · have hlt' : ff (foP z c) (z.1 0 1 - 0) 0 < z.1 0 1 := hlt
              obtain ⟨mm, m1, m2, m3, m4⟩ := most_s k1 hcz hlt
              have hst : seF c z = tkS z c (foK z c) := by unfold seF; rw [iF_t hlt]
              unfold tkS at hst
              rw [m4] at hst
              rw [iF_t hlt']
              have h2 := k1.mn hlt
              have h3 := k1.cl hcz
              rw [show ff (foP z c) (z.1 0 1 - 0) 0 = foK z c from rfl]
              simp (disch := omega) only [gI_k, gR_k, pI_k, pR_k, pC_k, true_and, and_true, and_self, not_false_eq_true, not_true_eq_false, eq_self, true_or, or_true, false_or, or_false, false_and, and_false, Option.toList_some, Option.toList_none, List.cons_append, List.nil_append, ↓reduceIte, nI_lit, nI_add, nI_mul, nI_clp, nlt0, nle, nlt, neq, leF, leT, ltF, ltT, eqF, eqT, em_t, cond_dec, bi_T, bi_F, Classical.not_not, uI_o, uI_s, uI_r, nI_sb, bi01,  ln_187, ln_188, ln_189, ln_190, ln_191, ln_192, ln_193, ln_194, ln_195, ln_196, ln_197, ln_198, ln_199, ln_200, ln_201, ln_202, ln_203, ln_204, ln_205, ln_206, rbn_186_19, rbn_186_2, rbn_186_20, rbn_186_21, rbn_186_22, rbn_186_23, rbn_186_24, rbn_186_25, rbn_186_26, rbn_186_27, rbn_186_28, rbn_186_29, rbn_186_3, rbn_186_30, rbn_186_31, rbn_186_4, rbn_186_5, rbn_186_6, rbn_186_8, rbn_186_9, rbs_186_19, rbs_186_2, rbs_186_20, rbs_186_21, rbs_186_22, rbs_186_23, rbs_186_24, rbs_186_25, rbs_186_26, rbs_186_27, rbs_186_28, rbs_186_29, rbs_186_3, rbs_186_30, rbs_186_31, rbs_186_4, rbs_186_5, rbs_186_6, rbs_186_8, rbs_186_9, sh_186, tg_187, tg_188, tg_189, tg_190, tg_191, tg_192, tg_193, tg_194, tg_195, tg_196, tg_197, tg_198, tg_199, tg_200, tg_201, tg_202, tg_203, tg_204, tg_205, tg_206, xl_187, xl_188, xl_189, xl_190, xl_191, xl_192, xl_193, xl_194, xl_195, xl_196, xl_197, xl_198, xl_199, xl_200, xl_201, xl_202, xl_203, xl_204, xl_205, xl_206, xt_187, xt_188, xt_189, xt_190, xt_191, xt_192, xt_193, xt_194, xt_195, xt_196, xt_197, xt_198, xt_199, xt_200, xt_201, xt_202, xt_203, xt_204, xt_205, xt_206, m1_lt, neN, wr_s, hR2.pl, S10_mostOf hR3 k1, m3, B_X10_grow_95]
              refine S10_take (d := d + 1) hR3 k1 hcz hlt (by omega) (fun N3 hR4 => ?_)
              rw [wr_o (by decide)] at hR4
              rw [wr_wr]
              simp (disch := omega) only [gI_k, gR_k, pI_k, pR_k, pC_k, true_and, and_true, and_self, not_false_eq_true, not_true_eq_false, eq_self, true_or, or_true, false_or, or_false, false_and, and_false, Option.toList_some, Option.toList_none, List.cons_append, List.nil_append, ↓reduceIte, nI_lit, nI_add, nI_mul, nI_clp, nlt0, nle, nlt, neq, leF, leT, ltF, ltT, eqF, eqT, em_t, cond_dec, bi_T, bi_F, Classical.not_not, uI_o, uI_s, uI_r, nI_sb, bi01,  B_X10_grow_98, B_X10_grow_100]
              refine hE2 N3 ?_ _ _
              rw [hst]
              exact hR4
            · have hlt' : ¬ ff (foP z c) (z.1 0 1 - 0) 0 < z.1 0 1 := hlt
              have hst : seF c z = z := by unfold seF; rw [iF_f hlt]
              rw [iF_f hlt']
              simp (disch := omega) only [gI_k, gR_k, pI_k, pR_k, pC_k, true_and, and_true, and_self, not_false_eq_true, not_true_eq_false, eq_self, true_or, or_true, false_or, or_false, false_and, and_false, Option.toList_some, Option.toList_none, List.cons_append, List.nil_append, ↓reduceIte, nI_lit, nI_add, nI_mul, nI_clp, nlt0, nle, nlt, neq, leF, leT, ltF, ltT, eqF, eqT, em_t, cond_dec, bi_T, bi_F, Classical.not_not, uI_o, uI_s, uI_r, nI_sb, bi01,  ln_187, ln_188, ln_189, ln_190, ln_191, ln_192, ln_193, ln_194, ln_195, ln_196, ln_197, ln_198, ln_199, ln_200, ln_201, ln_202, ln_203, ln_204, ln_205, ln_206, rbn_186_19, rbn_186_2, rbn_186_20, rbn_186_21, rbn_186_22, rbn_186_23, rbn_186_24, rbn_186_25, rbn_186_26, rbn_186_27, rbn_186_28, rbn_186_29, rbn_186_3, rbn_186_30, rbn_186_31, rbn_186_4, rbn_186_5, rbn_186_6, rbn_186_8, rbn_186_9, rbs_186_19, rbs_186_2, rbs_186_20, rbs_186_21, rbs_186_22, rbs_186_23, rbs_186_24, rbs_186_25, rbs_186_26, rbs_186_27, rbs_186_28, rbs_186_29, rbs_186_3, rbs_186_30, rbs_186_31, rbs_186_4, rbs_186_5, rbs_186_6, rbs_186_8, rbs_186_9, sh_186, tg_187, tg_188, tg_189, tg_190, tg_191, tg_192, tg_193, tg_194, tg_195, tg_196, tg_197, tg_198, tg_199, tg_200, tg_201, tg_202, tg_203, tg_204, tg_205, tg_206, xl_187, xl_188, xl_189, xl_190, xl_191, xl_192, xl_193, xl_194, xl_195, xl_196, xl_197, xl_198, xl_199, xl_200, xl_201, xl_202, xl_203, xl_204, xl_205, xl_206, xt_187, xt_188, xt_189, xt_190, xt_191, xt_192, xt_193, xt_194, xt_195, xt_196, xt_197, xt_198, xt_199, xt_200, xt_201, xt_202, xt_203, xt_204, xt_205, xt_206, m1_lt, B_X10_grow_100]
              refine hE2 N2 ?_ _ _
              rw [hst]
              exact hR2
          have stp : ∀ k, k ≤ z.1 0 1 → Ends (d + 4) k_X10_grow 37 [.ref 186, .int (nI n), .int (nI m), .int (nI (r.1 0 3)), .int (nI c), .int (iF (ff (foP z c) (z.1 0 1 - k) k < z.1 0 1) (nI (ff (foP z c) (z.1 0 1 - k) k)) (-nI 1000000)), .int (nI k - nI 1)] [] (SH, va_up I 192 N2, RB l u t q L) Q := by
            intro k
            induction k with
            | zero => intro _; exact sea
            | succ k ih =>
              intro hk
              have hI := ih (by omega)
              rw [B_X10_grow_37]
              have ee : z.1 0 1 - k = (z.1 0 1 - (k + 1)) + 1 := by omega
              rw [ee] at hI
              by_cases c1 : foP z c k
              · rw [ff_t c1, iF_t (show k < z.1 0 1 by omega)] at hI
                have c2 : lackF z.1 z.2 c (nI k) (z.1 4 k) (z.1 5 k) = nI 0 := c1
                simp (disch := omega) only [gI_k, gR_k, pI_k, pR_k, pC_k, true_and, and_true, and_self, not_false_eq_true, not_true_eq_false, eq_self, true_or, or_true, false_or, or_false, false_and, and_false, Option.toList_some, Option.toList_none, List.cons_append, List.nil_append, ↓reduceIte, nI_lit, nI_add, nI_mul, nI_clp, nlt0, nle, nlt, neq, leF, leT, ltF, ltT, eqF, eqT, em_t, cond_dec, bi_T, bi_F, Classical.not_not, uI_o, uI_s, uI_r, nI_sb, bi01,  ln_187, ln_188, ln_189, ln_190, ln_191, ln_192, ln_193, ln_194, ln_195, ln_196, ln_197, ln_198, ln_199, ln_200, ln_201, ln_202, ln_203, ln_204, ln_205, ln_206, rbn_186_19, rbn_186_2, rbn_186_20, rbn_186_21, rbn_186_22, rbn_186_23, rbn_186_24, rbn_186_25, rbn_186_26, rbn_186_27, rbn_186_28, rbn_186_29, rbn_186_3, rbn_186_30, rbn_186_31, rbn_186_4, rbn_186_5, rbn_186_6, rbn_186_8, rbn_186_9, rbs_186_19, rbs_186_2, rbs_186_20, rbs_186_21, rbs_186_22, rbs_186_23, rbs_186_24, rbs_186_25, rbs_186_26, rbs_186_27, rbs_186_28, rbs_186_29, rbs_186_3, rbs_186_30, rbs_186_31, rbs_186_4, rbs_186_5, rbs_186_6, rbs_186_8, rbs_186_9, sh_186, tg_187, tg_188, tg_189, tg_190, tg_191, tg_192, tg_193, tg_194, tg_195, tg_196, tg_197, tg_198, tg_199, tg_200, tg_201, tg_202, tg_203, tg_204, tg_205, tg_206, xl_187, xl_188, xl_189, xl_190, xl_191, xl_192, xl_193, xl_194, xl_195, xl_196, xl_197, xl_198, xl_199, xl_200, xl_201, xl_202, xl_203, xl_204, xl_205, xl_206, xt_187, xt_188, xt_189, xt_190, xt_191, xt_192, xt_193, xt_194, xt_195, xt_196, xt_197, xt_198, xt_199, xt_200, xt_201, xt_202, xt_203, xt_204, xt_205, xt_206, S10_lacksOf hR3 k1, B_X10_grow_50, B_X10_grow_60, c2, sub_ng, Nat.add_sub_cancel]
                exact hI
              · rw [ff_f c1] at hI
                have c2 : ¬ lackF z.1 z.2 c (nI k) (z.1 4 k) (z.1 5 k) = nI 0 := c1
                simp (disch := omega) only [gI_k, gR_k, pI_k, pR_k, pC_k, true_and, and_true, and_self, not_false_eq_true, not_true_eq_false, eq_self, true_or, or_true, false_or, or_false, false_and, and_false, Option.toList_some, Option.toList_none, List.cons_append, List.nil_append, ↓reduceIte, nI_lit, nI_add, nI_mul, nI_clp, nlt0, nle, nlt, neq, leF, leT, ltF, ltT, eqF, eqT, em_t, cond_dec, bi_T, bi_F, Classical.not_not, uI_o, uI_s, uI_r, nI_sb, bi01,  ln_187, ln_188, ln_189, ln_190, ln_191, ln_192, ln_193, ln_194, ln_195, ln_196, ln_197, ln_198, ln_199, ln_200, ln_201, ln_202, ln_203, ln_204, ln_205, ln_206, rbn_186_19, rbn_186_2, rbn_186_20, rbn_186_21, rbn_186_22, rbn_186_23, rbn_186_24, rbn_186_25, rbn_186_26, rbn_186_27, rbn_186_28, rbn_186_29, rbn_186_3, rbn_186_30, rbn_186_31, rbn_186_4, rbn_186_5, rbn_186_6, rbn_186_8, rbn_186_9, rbs_186_19, rbs_186_2, rbs_186_20, rbs_186_21, rbs_186_22, rbs_186_23, rbs_186_24, rbs_186_25, rbs_186_26, rbs_186_27, rbs_186_28, rbs_186_29, rbs_186_3, rbs_186_30, rbs_186_31, rbs_186_4, rbs_186_5, rbs_186_6, rbs_186_8, rbs_186_9, sh_186, tg_187, tg_188, tg_189, tg_190, tg_191, tg_192, tg_193, tg_194, tg_195, tg_196, tg_197, tg_198, tg_199, tg_200, tg_201, tg_202, tg_203, tg_204, tg_205, tg_206, xl_187, xl_188, xl_189, xl_190, xl_191, xl_192, xl_193, xl_194, xl_195, xl_196, xl_197, xl_198, xl_199, xl_200, xl_201, xl_202, xl_203, xl_204, xl_205, xl_206, xt_187, xt_188, xt_189, xt_190, xt_191, xt_192, xt_193, xt_194, xt_195, xt_196, xt_197, xt_198, xt_199, xt_200, xt_201, xt_202, xt_203, xt_204, xt_205, xt_206, S10_lacksOf hR3 k1, B_X10_grow_50, B_X10_grow_60, c2, sub_ng, Nat.add_sub_cancel]
                exact hI
          have fin := stp (z.1 0 1) (Nat.le_refl _)
          rw [Nat.sub_self, show ff (foP z c) 0 (z.1 0 1) = z.1 0 1 from rfl, iF_f (Nat.lt_irrefl _)] at fin
          exact fin
        · intro N2 hR2
          obtain ⟨k1, -, -, k4, -⟩ := upse_k hG1 (r.1 0 3) (Nat.le_refl _)
          rw [B_X10_grow_17]
          simp (disch := omega) only [gI_k, gR_k, pI_k, pR_k, pC_k, true_and, and_true, and_self, not_false_eq_true, not_true_eq_false, eq_self, true_or, or_true, false_or, or_false, false_and, and_false, Option.toList_some, Option.toList_none, List.cons_append, List.nil_append, ↓reduceIte, nI_lit, nI_add, nI_mul, nI_clp, nlt0, nle, nlt, neq, leF, leT, ltF, ltT, eqF, eqT, em_t, cond_dec, bi_T, bi_F, Classical.not_not, uI_o, uI_s, uI_r, nI_sb, bi01,  ln_187, ln_188, ln_189, ln_190, ln_191, ln_192, ln_193, ln_194, ln_195, ln_196, ln_197, ln_198, ln_199, ln_200, ln_201, ln_202, ln_203, ln_204, ln_205, ln_206, rbn_186_19, rbn_186_2, rbn_186_20, rbn_186_21, rbn_186_22, rbn_186_23, rbn_186_24, rbn_186_25, rbn_186_26, rbn_186_27, rbn_186_28, rbn_186_29, rbn_186_3, rbn_186_30, rbn_186_31, rbn_186_4, rbn_186_5, rbn_186_6, rbn_186_8, rbn_186_9, rbs_186_19, rbs_186_2, rbs_186_20, rbs_186_21, rbs_186_22, rbs_186_23, rbs_186_24, rbs_186_25, rbs_186_26, rbs_186_27, rbs_186_28, rbs_186_29, rbs_186_3, rbs_186_30, rbs_186_31, rbs_186_4, rbs_186_5, rbs_186_6, rbs_186_8, rbs_186_9, sh_186, tg_187, tg_188, tg_189, tg_190, tg_191, tg_192, tg_193, tg_194, tg_195, tg_196, tg_197, tg_198, tg_199, tg_200, tg_201, tg_202, tg_203, tg_204, tg_205, tg_206, xl_187, xl_188, xl_189, xl_190, xl_191, xl_192, xl_193, xl_194, xl_195, xl_196, xl_197, xl_198, xl_199, xl_200, xl_201, xl_202, xl_203, xl_204, xl_205, xl_206, xt_187, xt_188, xt_189, xt_190, xt_191, xt_192, xt_193, xt_194, xt_195, xt_196, xt_197, xt_198, xt_199, xt_200, xt_201, xt_202, xt_203, xt_204, xt_205, xt_206, wr_s, hR2.dy, uI_wr]
          have := hE' (upd N2 0 ((up seF r (r.1 0 3)).2 0 0 + nI 1)) (RW_day k1 hR2)
          exact Ends_w (LeL_e (LeL_e (LeL_e (LeL_i (LeL_i (LeL_e (LeL_e LeL_rf))))))) this
      exact inn N1 hR1
    · intro N1 hR1
      rw [B_X10_grow_2]
      simp (disch := omega) only [gI_k, gR_k, pI_k, pR_k, pC_k, true_and, and_true, and_self, not_false_eq_true, not_true_eq_false, eq_self, true_or, or_true, false_or, or_false, false_and, and_false, Option.toList_some, Option.toList_none, List.cons_append, List.nil_append, ↓reduceIte, nI_lit, nI_add, nI_mul, nI_clp, nlt0, nle, nlt, neq, leF, leT, ltF, ltT, eqF, eqT, em_t, cond_dec, bi_T, bi_F, Classical.not_not, uI_o, uI_s, uI_r, nI_sb, bi01,  ln_187, ln_188, ln_189, ln_190, ln_191, ln_192, ln_193, ln_194, ln_195, ln_196, ln_197, ln_198, ln_199, ln_200, ln_201, ln_202, ln_203, ln_204, ln_205, ln_206, rbn_186_19, rbn_186_2, rbn_186_20, rbn_186_21, rbn_186_22, rbn_186_23, rbn_186_24, rbn_186_25, rbn_186_26, rbn_186_27, rbn_186_28, rbn_186_29, rbn_186_3, rbn_186_30, rbn_186_31, rbn_186_4, rbn_186_5, rbn_186_6, rbn_186_8, rbn_186_9, rbs_186_19, rbs_186_2, rbs_186_20, rbs_186_21, rbs_186_22, rbs_186_23, rbs_186_24, rbs_186_25, rbs_186_26, rbs_186_27, rbs_186_28, rbs_186_29, rbs_186_3, rbs_186_30, rbs_186_31, rbs_186_4, rbs_186_5, rbs_186_6, rbs_186_8, rbs_186_9, sh_186, tg_187, tg_188, tg_189, tg_190, tg_191, tg_192, tg_193, tg_194, tg_195, tg_196, tg_197, tg_198, tg_199, tg_200, tg_201, tg_202, tg_203, tg_204, tg_205, tg_206, xl_187, xl_188, xl_189, xl_190, xl_191, xl_192, xl_193, xl_194, xl_195, xl_196, xl_197, xl_198, xl_199, xl_200, xl_201, xl_202, xl_203, xl_204, xl_205, xl_206, xt_187, xt_188, xt_189, xt_190, xt_191, xt_192, xt_193, xt_194, xt_195, xt_196, xt_197, xt_198, xt_199, xt_200, xt_201, xt_202, xt_203, xt_204, xt_205, xt_206]
      exact hQ N1 hR1
  have := key (I 192) hR
  rw [wr_id] at this
  exact this
end Grow
