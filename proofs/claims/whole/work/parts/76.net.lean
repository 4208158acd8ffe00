/-! ===== call: net: coin, men out ===== -/
theorem bi_y {p : Prop} (h : p) : bi p = nI 1 := by rw [eq_true h, bi_T]
theorem bi_x {p : Prop} (h : ¬ p) : bi p = nI 0 := by rw [eq_false h, bi_F]
def mxF (b : Int32) : Int32 := if b ≤ nI 0 then nI 0 else b
theorem mx_c {b : Int32} : (if nI 0 < b then b else nI 0) = mxF b := by
  unfold mxF
  by_cases h : b ≤ nI 0
  · rw [if_pos h, if_neg (Int32.not_lt.mpr h)]
  · rw [if_neg h, if_pos (Int32.not_le.mp h)]
noncomputable def coinF (g : Nat → Nat → Nat) : Nat → Int32 := up (fun k s => s + mxF (balF g (nI k))) (nI 0)
def opP (g : Nat → Nat → Nat) (k : Nat) : Prop := ∃ c, c < g 0 3 ∧ ¬ g 8 c = 0 ∧ (g 6 c = k ∨ g 7 c = k)
def bt (x : Int32) (i : Nat) : Bool := x.toBitVec.getLsbD i
theorem bt_or {x y : Int32} {i : Nat} : bt (x ||| y) i = (bt x i || bt y i) := by
  unfold bt
  rw [Int32.toBitVec_or, BitVec.getLsbD_or]
theorem bt_and {x y : Int32} {i : Nat} : bt (x &&& y) i = (bt x i && bt y i) := by
  unfold bt
  rw [Int32.toBitVec_and, BitVec.getLsbD_and]
theorem bt_1 {k i : Nat} (hk : k < 12) (hi : i < 32) : bt (nI 1 <<< (nI k &&& nI 31)) i = decide (i = k) := by
  have key : ∀ k, k < 12 → ∀ i, i < 32 → bt (nI 1 <<< (nI k &&& nI 31)) i = decide (i = k) := by decide +kernel
  exact key k hk i hi
theorem bt_n {k i : Nat} (hk : k < 12) (hi : i < 32) : bt ((nI 1 <<< (nI k &&& nI 31)) ^^^ -nI 1) i = !decide (i = k) := by
  have key : ∀ k, k < 12 → ∀ i, i < 32 → bt ((nI 1 <<< (nI k &&& nI 31)) ^^^ -nI 1) i = !decide (i = k) := by decide +kernel
  exact key k hk i hi
theorem bt_0 {i : Nat} (hi : i < 32) : bt (nI 0) i = false := by
  have key : ∀ i, i < 32 → bt (nI 0) i = false := by decide +kernel
  exact key i hi
theorem bt_ext {x y : Int32} (h : ∀ i, i < 32 → (bt x i = true ↔ bt y i = true)) : x = y := by
  apply Int32.toBitVec_inj.mp
  apply BitVec.eq_of_getLsbD_eq
  intro i hi
  exact Bool.eq_iff_iff.mpr (h i hi)
noncomputable def outR (g : Nat → Nat → Nat) : Nat → Int32 := up (fun k m => @ite Int32 (balF g (nI k) = nI 0 ∧ opP g k) (Classical.propDecidable _) (m ||| (nI 1 <<< (nI k &&& nI 31))) m) (nI 0)
def outC (g : Nat → Nat → Nat) : Nat → Int32 := up (fun c m => if g 8 c = 0 then m else m ||| ((nI 1 <<< (nI (g 6 c) &&& nI 31)) ||| (nI 1 <<< (nI (g 7 c) &&& nI 31)))) (nI 0)
noncomputable def outD (g : Nat → Nat → Nat) (s : Int32) : Nat → Int32 := up (fun k m => if balF g (nI k) = nI 0 then m else m &&& ((nI 1 <<< (nI k &&& nI 31)) ^^^ -nI 1)) s
theorem outR_s {g : Nat → Nat → Nat} {k : Nat} (h : balF g (nI k) = nI 0 ∧ opP g k) : outR g (k + 1) = outR g k ||| (nI 1 <<< (nI k &&& nI 31)) := if_pos h
theorem outR_n {g : Nat → Nat → Nat} {k : Nat} (h : ¬ (balF g (nI k) = nI 0 ∧ opP g k)) : outR g (k + 1) = outR g k := if_neg h
theorem outC_s {g : Nat → Nat → Nat} {c : Nat} (h : g 8 c = 0) : outC g (c + 1) = outC g c := if_pos h
theorem outC_n {g : Nat → Nat → Nat} {c : Nat} (h : ¬ g 8 c = 0) : outC g (c + 1) = outC g c ||| ((nI 1 <<< (nI (g 6 c) &&& nI 31)) ||| (nI 1 <<< (nI (g 7 c) &&& nI 31))) := if_neg h
theorem outD_s {g : Nat → Nat → Nat} {k : Nat} {s : Int32} (h : balF g (nI k) = nI 0) : outD g s (k + 1) = outD g s k := if_pos h
theorem outD_n {g : Nat → Nat → Nat} {k : Nat} {s : Int32} (h : ¬ balF g (nI k) = nI 0) : outD g s (k + 1) = outD g s k &&& ((nI 1 <<< (nI k &&& nI 31)) ^^^ -nI 1) := if_neg h
theorem outR_b {g : Nat → Nat → Nat} {i : Nat} (hi : i < 32) : ∀ n, n ≤ 12 → (bt (outR g n) i = true ↔ i < n ∧ balF g (nI i) = nI 0 ∧ opP g i) := by
  intro n
  induction n with
  | zero =>
    intro _
    show bt (nI 0) i = true ↔ _
    rw [bt_0 hi]
    exact ⟨fun z => Bool.noConfusion z, fun z => by omega⟩
  | succ n ih =>
    intro hn
    have ih := ih (by omega)
    by_cases h : balF g (nI n) = nI 0 ∧ opP g n
    · rw [outR_s h, bt_or, bt_1 (by omega) hi, Bool.or_eq_true, ih, decide_eq_true_eq]
      constructor
      · rintro (z | z)
        · exact ⟨by omega, z.2⟩
        · subst z; exact ⟨by omega, h⟩
      · rintro ⟨z1, z2⟩
        by_cases e : i = n
        · exact Or.inr e
        · exact Or.inl ⟨by omega, z2⟩
    · rw [outR_n h, ih]
      constructor
      · rintro ⟨z1, z2⟩; exact ⟨by omega, z2⟩
      · rintro ⟨z1, z2⟩
        by_cases e : i = n
        · subst e; exact absurd z2 h
        · exact ⟨by omega, z2⟩
theorem outC_b {g : Nat → Nat → Nat} (hG : GW g) {i : Nat} (hi : i < 32) : ∀ n, n ≤ g 0 3 → (bt (outC g n) i = true ↔ ∃ c, c < n ∧ ¬ g 8 c = 0 ∧ (g 6 c = i ∨ g 7 c = i)) := by
  have h0 := hG.n
  intro n
  induction n with
  | zero =>
    intro _
    show bt (nI 0) i = true ↔ _
    rw [bt_0 hi]
    exact ⟨fun z => Bool.noConfusion z, fun ⟨c, hc, _⟩ => by omega⟩
  | succ n ih =>
    intro hn
    have ih := ih (by omega)
    have hc := hG.cl (c := n) (by omega)
    by_cases h : g 8 n = 0
    · rw [outC_s h, ih]
      constructor
      · rintro ⟨c, z1, z2⟩; exact ⟨c, by omega, z2⟩
      · rintro ⟨c, z1, z2⟩
        by_cases e : c = n
        · subst e; exact absurd h z2.1
        · exact ⟨c, by omega, z2⟩
    · rw [outC_n h, bt_or, bt_or, bt_1 (by omega) hi, bt_1 (by omega) hi, Bool.or_eq_true, Bool.or_eq_true, ih, decide_eq_true_eq, decide_eq_true_eq]
      constructor
      · rintro (⟨c, z1, z2⟩ | z | z)
        · exact ⟨c, by omega, z2⟩
        · exact ⟨n, by omega, h, Or.inl z.symm⟩
        · exact ⟨n, by omega, h, Or.inr z.symm⟩
      · rintro ⟨c, z1, z2, z3⟩
        by_cases e : c = n
        · subst e
          rcases z3 with z3 | z3
          · exact Or.inr (Or.inl z3.symm)
          · exact Or.inr (Or.inr z3.symm)
        · exact Or.inl ⟨c, by omega, z2, z3⟩
theorem outD_b {g : Nat → Nat → Nat} {s : Int32} {i : Nat} (hi : i < 32) : ∀ n, n ≤ 12 → (bt (outD g s n) i = true ↔ bt s i = true ∧ ¬ (i < n ∧ ¬ balF g (nI i) = nI 0)) := by
  intro n
  induction n with
  | zero =>
    intro _
    show bt s i = true ↔ _
    exact ⟨fun z => ⟨z, fun y => by omega⟩, fun z => z.1⟩
  | succ n ih =>
    intro hn
    have ih := ih (by omega)
    by_cases h : balF g (nI n) = nI 0
    · rw [outD_s h, ih]
      constructor
      · rintro ⟨z1, z2⟩
        refine ⟨z1, fun y => ?_⟩
        by_cases e : i = n
        · subst e; exact y.2 h
        · exact z2 ⟨by omega, y.2⟩
      · rintro ⟨z1, z2⟩
        exact ⟨z1, fun y => z2 ⟨by omega, y.2⟩⟩
    · rw [outD_n h, bt_and, bt_n (by omega) hi, Bool.and_eq_true, ih, Bool.not_eq_true', decide_eq_false_iff_not]
      constructor
      · rintro ⟨⟨z1, z2⟩, z3⟩
        exact ⟨z1, fun y => z2 ⟨by omega, y.2⟩⟩
      · rintro ⟨z1, z2⟩
        refine ⟨⟨z1, fun y => z2 ⟨by omega, y.2⟩⟩, fun e => ?_⟩
        subst e
        exact z2 ⟨by omega, h⟩
theorem out_eq {g : Nat → Nat → Nat} (hG : GW g) : outD g (outC g (g 0 3)) (g 0 1) = outR g (g 0 1) := by
  have h0 := hG.n
  refine bt_ext (fun i hi => ?_)
  rw [outD_b hi _ (by omega), outC_b hG hi _ (Nat.le_refl _), outR_b hi _ (by omega)]
  constructor
  · rintro ⟨⟨c, z1, z2, z3⟩, z4⟩
    have hc := hG.cl z1
    have hi2 : i < g 0 1 := by omega
    exact ⟨hi2, Classical.byContradiction fun y => z4 ⟨hi2, y⟩, c, z1, z2, z3⟩
  · rintro ⟨z1, z2, z3⟩
    exact ⟨z3, fun y => y.2 z2⟩
section Net
variable {d a l u t q L : Nat} {I : Nat → Nat → Int32} {Q : Option Value → LM → Prop} {g : Nat → Nat → Nat} {v : Nat → Nat → Int32} {x y z : Int32}
theorem S5_coinOf (ha : IL a) (hC : CW I a g v) (hG : GW g) : Ends (d + 1) k_X5_coinOf 0 [.ref a, .null, .null] [] (SH, I, RB l u t q L) Q = Q (some (.int (coinF g (g 0 1)))) (SH, I, RB l u t q L) := by
  have h0 := hG.n
  have e : Ends (d + 1) k_X5_coinOf 4 [.ref a, .int (nI 0), .int (nI 0)] [] (SH, I, RB l u t q L) Q = Ends (d + 1) k_X5_coinOf 4 [.ref a, .int (coinF g (g 0 1)), .int (nI (g 0 1))] [] (SH, I, RB l u t q L) Q := by
    refine lp (E := fun k s => Ends (d + 1) k_X5_coinOf 4 [.ref a, .int s, .int (nI k)] [] (SH, I, RB l u t q L) Q) (n := g 0 1) (fun k s hk => ?_)
    show Ends (d + 1) k_X5_coinOf 4 [.ref a, .int s, .int (nI k)] [] (SH, I, RB l u t q L) Q = _
    have c8 : ∀ x : Int32, (cat8 [.int x] = true) = True := fun x => eq_true rfl
    rw [B_X5_coinOf_4]
    simp (disch := omega) only [gI_k, gR_k, pI_k, pR_k, pC_k, true_and, and_true, and_self, not_false_eq_true, not_true_eq_false, eq_self, true_or, or_true, false_or, or_false, false_and, and_false, Option.toList_some, Option.toList_none, List.cons_append, List.nil_append, ↓reduceIte, nI_lit, nI_add, nI_mul, nI_clp, nlt0, nle, nlt, neq, leF, leT, ltF, ltT, eqF, eqT, em_t, cond_dec, bi_T, bi_F, Classical.not_not, uI_o, uI_s, uI_r, nI_sb, bi01,  B_X5_coinOf_19, sh_l ha, rbs_l0 ha, rbn_l0 ha, rbs_l1 ha, rbn_l1 ha, rbs_l2 ha, rbn_l2 ha, rbs_l3 ha, rbn_l3 ha, rbs_l4 ha, rbn_l4 ha, rbs_l5 ha, rbn_l5 ha, rbs_l6 ha, rbn_l6 ha, rbs_l7 ha, rbn_l7 ha, xt_l1 ha, xl_l1 ha, tg_l1 ha, ln_l1 ha, xt_l2 ha, xl_l2 ha, tg_l2 ha, ln_l2 ha, xt_l3 ha, xl_l3 ha, tg_l3 ha, ln_l3 ha, xt_l4 ha, xl_l4 ha, tg_l4 ha, ln_l4 ha, xt_l5 ha, xl_l5 ha, tg_l5 ha, ln_l5 ha, xt_l6 ha, xl_l6 ha, tg_l6 ha, ln_l6 ha, xt_l7 ha, xl_l7 ha, tg_l7 ha, ln_l7 ha, tg_l8 ha, ln_l8 ha, rbs_cc ha, rbn_cc ha, sh_c ha, hC.T, hC.M, hC.F, hC.C, hC.dy, hC.sz, hC.tr, hC.rd, hC.pc, hC.lw, hC.f0, hC.f1, hC.f2, hC.hm, hC.pl, hC.c0, hC.c1, hC.c2, hC.c3, hC.c4, hC.c5, hC.c6, hC.c7, hC.c8, hC.c9, S4_balanceOf ha hC hG, mx_c, c8]
  rw [B_X5_coinOf_0]
  simp (disch := omega) only [gI_k, gR_k, pI_k, pR_k, pC_k, true_and, and_true, and_self, not_false_eq_true, not_true_eq_false, eq_self, true_or, or_true, false_or, or_false, false_and, and_false, Option.toList_some, Option.toList_none, List.cons_append, List.nil_append, ↓reduceIte, nI_lit, nI_add, nI_mul, nI_clp, nlt0, nle, nlt, neq, leF, leT, ltF, ltT, eqF, eqT, em_t, cond_dec, bi_T, bi_F, Classical.not_not, uI_o, uI_s, uI_r, nI_sb, bi01,  e]
  rw [B_X5_coinOf_4]
  simp (disch := omega) only [gI_k, gR_k, pI_k, pR_k, pC_k, true_and, and_true, and_self, not_false_eq_true, not_true_eq_false, eq_self, true_or, or_true, false_or, or_false, false_and, and_false, Option.toList_some, Option.toList_none, List.cons_append, List.nil_append, ↓reduceIte, nI_lit, nI_add, nI_mul, nI_clp, nlt0, nle, nlt, neq, leF, leT, ltF, ltT, eqF, eqT, em_t, cond_dec, bi_T, bi_F, Classical.not_not, uI_o, uI_s, uI_r, nI_sb, bi01,  sh_l ha, rbs_l0 ha, rbn_l0 ha, rbs_l1 ha, rbn_l1 ha, rbs_l2 ha, rbn_l2 ha, rbs_l3 ha, rbn_l3 ha, rbs_l4 ha, rbn_l4 ha, rbs_l5 ha, rbn_l5 ha, rbs_l6 ha, rbn_l6 ha, rbs_l7 ha, rbn_l7 ha, xt_l1 ha, xl_l1 ha, tg_l1 ha, ln_l1 ha, xt_l2 ha, xl_l2 ha, tg_l2 ha, ln_l2 ha, xt_l3 ha, xl_l3 ha, tg_l3 ha, ln_l3 ha, xt_l4 ha, xl_l4 ha, tg_l4 ha, ln_l4 ha, xt_l5 ha, xl_l5 ha, tg_l5 ha, ln_l5 ha, xt_l6 ha, xl_l6 ha, tg_l6 ha, ln_l6 ha, xt_l7 ha, xl_l7 ha, tg_l7 ha, ln_l7 ha, tg_l8 ha, ln_l8 ha, rbs_cc ha, rbn_cc ha, sh_c ha, hC.T, hC.M, hC.F, hC.C, hC.dy, hC.sz, hC.tr, hC.rd, hC.pc, hC.lw, hC.f0, hC.f1, hC.f2, hC.hm, hC.pl, hC.c0, hC.c1, hC.c2, hC.c3, hC.c4, hC.c5, hC.c6, hC.c7, hC.c8, hC.c9]
theorem S5_menOut (ha : IL a) (hC : CW I a g v) (hG : GW g) (hQ : Q (some (.int (outR g (g 0 1)))) (SH, I, RB l u t q L)) : Ends (d + 1) k_X5_menOut 0 [.ref a, .null, .null, .null] [] (SH, I, RB l u t q L) Q := by
  have h0 := hG.n
  have e : Ends (d + 1) k_X5_menOut 50 [.ref a, .int (outC g (g 0 3)), .int (nI 0), .null] [] (SH, I, RB l u t q L) Q = Ends (d + 1) k_X5_menOut 50 [.ref a, .int (outD g (outC g (g 0 3)) (g 0 1)), .int (nI (g 0 1)), .null] [] (SH, I, RB l u t q L) Q := by
    refine lp (E := fun k s => Ends (d + 1) k_X5_menOut 50 [.ref a, .int s, .int (nI k), .null] [] (SH, I, RB l u t q L) Q) (n := g 0 1) (fun k s hk => ?_)
    show Ends (d + 1) k_X5_menOut 50 [.ref a, .int s, .int (nI k), .null] [] (SH, I, RB l u t q L) Q = _
    rw [B_X5_menOut_50]
    by_cases hb : balF g (nI k) = nI 0
    · simp (disch := omega) only [gI_k, gR_k, pI_k, pR_k, pC_k, true_and, and_true, and_self, not_false_eq_true, not_true_eq_false, eq_self, true_or, or_true, false_or, or_false, false_and, and_false, Option.toList_some, Option.toList_none, List.cons_append, List.nil_append, ↓reduceIte, nI_lit, nI_add, nI_mul, nI_clp, nlt0, nle, nlt, neq, leF, leT, ltF, ltT, eqF, eqT, em_t, cond_dec, bi_T, bi_F, Classical.not_not, uI_o, uI_s, uI_r, nI_sb, bi01,  B_X5_menOut_63, B_X5_menOut_74, sh_l ha, rbs_l0 ha, rbn_l0 ha, rbs_l1 ha, rbn_l1 ha, rbs_l2 ha, rbn_l2 ha, rbs_l3 ha, rbn_l3 ha, rbs_l4 ha, rbn_l4 ha, rbs_l5 ha, rbn_l5 ha, rbs_l6 ha, rbn_l6 ha, rbs_l7 ha, rbn_l7 ha, xt_l1 ha, xl_l1 ha, tg_l1 ha, ln_l1 ha, xt_l2 ha, xl_l2 ha, tg_l2 ha, ln_l2 ha, xt_l3 ha, xl_l3 ha, tg_l3 ha, ln_l3 ha, xt_l4 ha, xl_l4 ha, tg_l4 ha, ln_l4 ha, xt_l5 ha, xl_l5 ha, tg_l5 ha, ln_l5 ha, xt_l6 ha, xl_l6 ha, tg_l6 ha, ln_l6 ha, xt_l7 ha, xl_l7 ha, tg_l7 ha, ln_l7 ha, tg_l8 ha, ln_l8 ha, rbs_cc ha, rbn_cc ha, sh_c ha, hC.T, hC.M, hC.F, hC.C, hC.dy, hC.sz, hC.tr, hC.rd, hC.pc, hC.lw, hC.f0, hC.f1, hC.f2, hC.hm, hC.pl, hC.c0, hC.c1, hC.c2, hC.c3, hC.c4, hC.c5, hC.c6, hC.c7, hC.c8, hC.c9, S4_balanceOf ha hC hG, hb]
    · simp (disch := omega) only [gI_k, gR_k, pI_k, pR_k, pC_k, true_and, and_true, and_self, not_false_eq_true, not_true_eq_false, eq_self, true_or, or_true, false_or, or_false, false_and, and_false, Option.toList_some, Option.toList_none, List.cons_append, List.nil_append, ↓reduceIte, nI_lit, nI_add, nI_mul, nI_clp, nlt0, nle, nlt, neq, leF, leT, ltF, ltT, eqF, eqT, em_t, cond_dec, bi_T, bi_F, Classical.not_not, uI_o, uI_s, uI_r, nI_sb, bi01,  B_X5_menOut_63, B_X5_menOut_74, sh_l ha, rbs_l0 ha, rbn_l0 ha, rbs_l1 ha, rbn_l1 ha, rbs_l2 ha, rbn_l2 ha, rbs_l3 ha, rbn_l3 ha, rbs_l4 ha, rbn_l4 ha, rbs_l5 ha, rbn_l5 ha, rbs_l6 ha, rbn_l6 ha, rbs_l7 ha, rbn_l7 ha, xt_l1 ha, xl_l1 ha, tg_l1 ha, ln_l1 ha, xt_l2 ha, xl_l2 ha, tg_l2 ha, ln_l2 ha, xt_l3 ha, xl_l3 ha, tg_l3 ha, ln_l3 ha, xt_l4 ha, xl_l4 ha, tg_l4 ha, ln_l4 ha, xt_l5 ha, xl_l5 ha, tg_l5 ha, ln_l5 ha, xt_l6 ha, xl_l6 ha, tg_l6 ha, ln_l6 ha, xt_l7 ha, xl_l7 ha, tg_l7 ha, ln_l7 ha, tg_l8 ha, ln_l8 ha, rbs_cc ha, rbn_cc ha, sh_c ha, hC.T, hC.M, hC.F, hC.C, hC.dy, hC.sz, hC.tr, hC.rd, hC.pc, hC.lw, hC.f0, hC.f1, hC.f2, hC.hm, hC.pl, hC.c0, hC.c1, hC.c2, hC.c3, hC.c4, hC.c5, hC.c6, hC.c7, hC.c8, hC.c9, S4_balanceOf ha hC hG, hb]
  rw [B_X5_menOut_0]
  refine sri (E := fun c => Ends (d + 1) k_X5_menOut 4 [.ref a, .int (outC g c), .int (nI c), .null] [] (SH, I, RB l u t q L) Q) (n := g 0 3) (fun c hc hE => ?_) ?_
  · show Ends (d + 1) k_X5_menOut 4 [.ref a, .int (outC g c), .int (nI c), .null] [] (SH, I, RB l u t q L) Q
    have hE2 : Ends (d + 1) k_X5_menOut 4 [.ref a, .int (outC g (c + 1)), .int (nI (c + 1)), .ref (a + 9 + c)] [] (SH, I, RB l u t q L) Q := Ends_w (LeL_e (LeL_e (LeL_e (LeL_r LeL_rf)))) hE
    rw [B_X5_menOut_4]
    by_cases h8 : g 8 c = 0
    · rw [outC_s h8] at hE2
      simp (disch := omega) only [gI_k, gR_k, pI_k, pR_k, pC_k, true_and, and_true, and_self, not_false_eq_true, not_true_eq_false, eq_self, true_or, or_true, false_or, or_false, false_and, and_false, Option.toList_some, Option.toList_none, List.cons_append, List.nil_append, ↓reduceIte, nI_lit, nI_add, nI_mul, nI_clp, nlt0, nle, nlt, neq, leF, leT, ltF, ltT, eqF, eqT, em_t, cond_dec, bi_T, bi_F, Classical.not_not, uI_o, uI_s, uI_r, nI_sb, bi01,  B_X5_menOut_23, B_X5_menOut_42, sh_l ha, rbs_l0 ha, rbn_l0 ha, rbs_l1 ha, rbn_l1 ha, rbs_l2 ha, rbn_l2 ha, rbs_l3 ha, rbn_l3 ha, rbs_l4 ha, rbn_l4 ha, rbs_l5 ha, rbn_l5 ha, rbs_l6 ha, rbn_l6 ha, rbs_l7 ha, rbn_l7 ha, xt_l1 ha, xl_l1 ha, tg_l1 ha, ln_l1 ha, xt_l2 ha, xl_l2 ha, tg_l2 ha, ln_l2 ha, xt_l3 ha, xl_l3 ha, tg_l3 ha, ln_l3 ha, xt_l4 ha, xl_l4 ha, tg_l4 ha, ln_l4 ha, xt_l5 ha, xl_l5 ha, tg_l5 ha, ln_l5 ha, xt_l6 ha, xl_l6 ha, tg_l6 ha, ln_l6 ha, xt_l7 ha, xl_l7 ha, tg_l7 ha, ln_l7 ha, tg_l8 ha, ln_l8 ha, rbs_cc ha, rbn_cc ha, sh_c ha, hC.T, hC.M, hC.F, hC.C, hC.dy, hC.sz, hC.tr, hC.rd, hC.pc, hC.lw, hC.f0, hC.f1, hC.f2, hC.hm, hC.pl, hC.c0, hC.c1, hC.c2, hC.c3, hC.c4, hC.c5, hC.c6, hC.c7, hC.c8, hC.c9, S1_isPaid ha hC hG, h8]
      exact hE2
    · rw [outC_n h8] at hE2
      simp (disch := omega) only [gI_k, gR_k, pI_k, pR_k, pC_k, true_and, and_true, and_self, not_false_eq_true, not_true_eq_false, eq_self, true_or, or_true, false_or, or_false, false_and, and_false, Option.toList_some, Option.toList_none, List.cons_append, List.nil_append, ↓reduceIte, nI_lit, nI_add, nI_mul, nI_clp, nlt0, nle, nlt, neq, leF, leT, ltF, ltT, eqF, eqT, em_t, cond_dec, bi_T, bi_F, Classical.not_not, uI_o, uI_s, uI_r, nI_sb, bi01,  B_X5_menOut_23, B_X5_menOut_42, sh_l ha, rbs_l0 ha, rbn_l0 ha, rbs_l1 ha, rbn_l1 ha, rbs_l2 ha, rbn_l2 ha, rbs_l3 ha, rbn_l3 ha, rbs_l4 ha, rbn_l4 ha, rbs_l5 ha, rbn_l5 ha, rbs_l6 ha, rbn_l6 ha, rbs_l7 ha, rbn_l7 ha, xt_l1 ha, xl_l1 ha, tg_l1 ha, ln_l1 ha, xt_l2 ha, xl_l2 ha, tg_l2 ha, ln_l2 ha, xt_l3 ha, xl_l3 ha, tg_l3 ha, ln_l3 ha, xt_l4 ha, xl_l4 ha, tg_l4 ha, ln_l4 ha, xt_l5 ha, xl_l5 ha, tg_l5 ha, ln_l5 ha, xt_l6 ha, xl_l6 ha, tg_l6 ha, ln_l6 ha, xt_l7 ha, xl_l7 ha, tg_l7 ha, ln_l7 ha, tg_l8 ha, ln_l8 ha, rbs_cc ha, rbn_cc ha, sh_c ha, hC.T, hC.M, hC.F, hC.C, hC.dy, hC.sz, hC.tr, hC.rd, hC.pc, hC.lw, hC.f0, hC.f1, hC.f2, hC.hm, hC.pl, hC.c0, hC.c1, hC.c2, hC.c3, hC.c4, hC.c5, hC.c6, hC.c7, hC.c8, hC.c9, S1_isPaid ha hC hG, h8]
      exact hE2
  · show Ends (d + 1) k_X5_menOut 4 [.ref a, .int (outC g (g 0 3)), .int (nI (g 0 3)), .null] [] (SH, I, RB l u t q L) Q
    rw [B_X5_menOut_4]
    simp (disch := omega) only [gI_k, gR_k, pI_k, pR_k, pC_k, true_and, and_true, and_self, not_false_eq_true, not_true_eq_false, eq_self, true_or, or_true, false_or, or_false, false_and, and_false, Option.toList_some, Option.toList_none, List.cons_append, List.nil_append, ↓reduceIte, nI_lit, nI_add, nI_mul, nI_clp, nlt0, nle, nlt, neq, leF, leT, ltF, ltT, eqF, eqT, em_t, cond_dec, bi_T, bi_F, Classical.not_not, uI_o, uI_s, uI_r, nI_sb, bi01,  sh_l ha, rbs_l0 ha, rbn_l0 ha, rbs_l1 ha, rbn_l1 ha, rbs_l2 ha, rbn_l2 ha, rbs_l3 ha, rbn_l3 ha, rbs_l4 ha, rbn_l4 ha, rbs_l5 ha, rbn_l5 ha, rbs_l6 ha, rbn_l6 ha, rbs_l7 ha, rbn_l7 ha, xt_l1 ha, xl_l1 ha, tg_l1 ha, ln_l1 ha, xt_l2 ha, xl_l2 ha, tg_l2 ha, ln_l2 ha, xt_l3 ha, xl_l3 ha, tg_l3 ha, ln_l3 ha, xt_l4 ha, xl_l4 ha, tg_l4 ha, ln_l4 ha, xt_l5 ha, xl_l5 ha, tg_l5 ha, ln_l5 ha, xt_l6 ha, xl_l6 ha, tg_l6 ha, ln_l6 ha, xt_l7 ha, xl_l7 ha, tg_l7 ha, ln_l7 ha, tg_l8 ha, ln_l8 ha, rbs_cc ha, rbn_cc ha, sh_c ha, hC.T, hC.M, hC.F, hC.C, hC.dy, hC.sz, hC.tr, hC.rd, hC.pc, hC.lw, hC.f0, hC.f1, hC.f2, hC.hm, hC.pl, hC.c0, hC.c1, hC.c2, hC.c3, hC.c4, hC.c5, hC.c6, hC.c7, hC.c8, hC.c9]
    rw [e, out_eq hG, B_X5_menOut_50]
    simp (disch := omega) only [gI_k, gR_k, pI_k, pR_k, pC_k, true_and, and_true, and_self, not_false_eq_true, not_true_eq_false, eq_self, true_or, or_true, false_or, or_false, false_and, and_false, Option.toList_some, Option.toList_none, List.cons_append, List.nil_append, ↓reduceIte, nI_lit, nI_add, nI_mul, nI_clp, nlt0, nle, nlt, neq, leF, leT, ltF, ltT, eqF, eqT, em_t, cond_dec, bi_T, bi_F, Classical.not_not, uI_o, uI_s, uI_r, nI_sb, bi01,  sh_l ha, rbs_l0 ha, rbn_l0 ha, rbs_l1 ha, rbn_l1 ha, rbs_l2 ha, rbn_l2 ha, rbs_l3 ha, rbn_l3 ha, rbs_l4 ha, rbn_l4 ha, rbs_l5 ha, rbn_l5 ha, rbs_l6 ha, rbn_l6 ha, rbs_l7 ha, rbn_l7 ha, xt_l1 ha, xl_l1 ha, tg_l1 ha, ln_l1 ha, xt_l2 ha, xl_l2 ha, tg_l2 ha, ln_l2 ha, xt_l3 ha, xl_l3 ha, tg_l3 ha, ln_l3 ha, xt_l4 ha, xl_l4 ha, tg_l4 ha, ln_l4 ha, xt_l5 ha, xl_l5 ha, tg_l5 ha, ln_l5 ha, xt_l6 ha, xl_l6 ha, tg_l6 ha, ln_l6 ha, xt_l7 ha, xl_l7 ha, tg_l7 ha, ln_l7 ha, tg_l8 ha, ln_l8 ha, rbs_cc ha, rbn_cc ha, sh_c ha, hC.T, hC.M, hC.F, hC.C, hC.dy, hC.sz, hC.tr, hC.rd, hC.pc, hC.lw, hC.f0, hC.f1, hC.f2, hC.hm, hC.pl, hC.c0, hC.c1, hC.c2, hC.c3, hC.c4, hC.c5, hC.c6, hC.c7, hC.c8, hC.c9]
    exact hQ
theorem opn_s {k c : Nat} : (∃ e, e < c + 1 ∧ ¬ g 8 e = 0 ∧ (g 6 e = k ∨ g 7 e = k)) ↔ (∃ e, e < c ∧ ¬ g 8 e = 0 ∧ (g 6 e = k ∨ g 7 e = k)) ∨ (¬ g 8 c = 0 ∧ (g 6 c = k ∨ g 7 c = k)) := by
  constructor
  · rintro ⟨e, z1, z2⟩
    by_cases h : e = c
    · subst h; exact Or.inr z2
    · exact Or.inl ⟨e, by omega, z2⟩
  · rintro (⟨e, z1, z2⟩ | z)
    · exact ⟨e, by omega, z2⟩
    · exact ⟨c, by omega, z⟩
theorem S10_hasOpen (hR : RW (I 190) (I 192) g v) (hG : GW g) {k : Nat} (hk : k < g 0 1) : Ends (d + 1) k_X10_hasOpen 0 [.ref 186, .int (nI k), .null, .null] [] (SH, I, RB l u t q L) Q = Q (some (.int (bi (opP g k)))) (SH, I, RB l u t q L) := by
  have h0 := hG.n
  have e : Ends (d + 1) k_X10_hasOpen 4 [.ref 186, .int (nI k), .int (bi (∃ e, e < 0 ∧ ¬ g 8 e = 0 ∧ (g 6 e = k ∨ g 7 e = k))), .int (nI 0)] [] (SH, I, RB l u t q L) Q = Ends (d + 1) k_X10_hasOpen 4 [.ref 186, .int (nI k), .int (bi (opP g k)), .int (nI (g 0 3))] [] (SH, I, RB l u t q L) Q := by
    refine lp (E := fun c (_ : Unit) => Ends (d + 1) k_X10_hasOpen 4 [.ref 186, .int (nI k), .int (bi (∃ e, e < c ∧ ¬ g 8 e = 0 ∧ (g 6 e = k ∨ g 7 e = k))), .int (nI c)] [] (SH, I, RB l u t q L) Q) (f := fun _ u => u) (n := g 0 3) (s := ()) (fun c _ hc => ?_)
    show Ends (d + 1) k_X10_hasOpen 4 [.ref 186, .int (nI k), .int (bi (∃ e, e < c ∧ ¬ g 8 e = 0 ∧ (g 6 e = k ∨ g 7 e = k))), .int (nI c)] [] (SH, I, RB l u t q L) Q = Ends (d + 1) k_X10_hasOpen 4 [.ref 186, .int (nI k), .int (bi (∃ e, e < c + 1 ∧ ¬ g 8 e = 0 ∧ (g 6 e = k ∨ g 7 e = k))), .int (nI (c + 1))] [] (SH, I, RB l u t q L) Q
    have hcl := hG.cl hc
    rw [opn_s]
    by_cases hp : ∃ e, e < c ∧ ¬ g 8 e = 0 ∧ (g 6 e = k ∨ g 7 e = k)
    · rw [bi_y hp, bi_y (Or.inl hp), B_X10_hasOpen_4]
      simp (disch := omega) only [gI_k, gR_k, pI_k, pR_k, pC_k, true_and, and_true, and_self, not_false_eq_true, not_true_eq_false, eq_self, true_or, or_true, false_or, or_false, false_and, and_false, Option.toList_some, Option.toList_none, List.cons_append, List.nil_append, ↓reduceIte, nI_lit, nI_add, nI_mul, nI_clp, nlt0, nle, nlt, neq, leF, leT, ltF, ltT, eqF, eqT, em_t, cond_dec, bi_T, bi_F, Classical.not_not, uI_o, uI_s, uI_r, nI_sb, bi01,  B_X10_hasOpen_47, B_X10_hasOpen_52, ln_187, ln_188, ln_189, ln_190, ln_191, ln_192, ln_193, ln_194, ln_195, ln_196, ln_197, ln_198, ln_199, ln_200, ln_201, ln_202, ln_203, ln_204, ln_205, ln_206, rbn_186_19, rbn_186_2, rbn_186_20, rbn_186_21, rbn_186_22, rbn_186_23, rbn_186_24, rbn_186_25, rbn_186_26, rbn_186_27, rbn_186_28, rbn_186_29, rbn_186_3, rbn_186_30, rbn_186_31, rbn_186_4, rbn_186_5, rbn_186_6, rbn_186_8, rbn_186_9, rbs_186_19, rbs_186_2, rbs_186_20, rbs_186_21, rbs_186_22, rbs_186_23, rbs_186_24, rbs_186_25, rbs_186_26, rbs_186_27, rbs_186_28, rbs_186_29, rbs_186_3, rbs_186_30, rbs_186_31, rbs_186_4, rbs_186_5, rbs_186_6, rbs_186_8, rbs_186_9, sh_186, tg_187, tg_188, tg_189, tg_190, tg_191, tg_192, tg_193, tg_194, tg_195, tg_196, tg_197, tg_198, tg_199, tg_200, tg_201, tg_202, tg_203, tg_204, tg_205, tg_206, xl_187, xl_188, xl_189, xl_190, xl_191, xl_192, xl_193, xl_194, xl_195, xl_196, xl_197, xl_198, xl_199, xl_200, xl_201, xl_202, xl_203, xl_204, xl_205, xl_206, xt_187, xt_188, xt_189, xt_190, xt_191, xt_192, xt_193, xt_194, xt_195, xt_196, xt_197, xt_198, xt_199, xt_200, xt_201, xt_202, xt_203, xt_204, xt_205, xt_206, hR.T, hR.M, hR.F, hR.C, hR.dy, hR.sz, hR.tr, hR.rd, hR.pc, hR.lw, hR.f0, hR.f1, hR.f2, hR.hm, hR.pl, hR.c0, hR.c1, hR.c2, hR.c3, hR.c4, hR.c5, hR.c6, hR.c7, hR.c8, hR.oa]
    · rw [bi_x hp, B_X10_hasOpen_4]
      by_cases h8 : g 8 c = 0
      · rw [bi_x (fun z => z.elim hp (fun y => y.1 h8))]
        simp (disch := omega) only [gI_k, gR_k, pI_k, pR_k, pC_k, true_and, and_true, and_self, not_false_eq_true, not_true_eq_false, eq_self, true_or, or_true, false_or, or_false, false_and, and_false, Option.toList_some, Option.toList_none, List.cons_append, List.nil_append, ↓reduceIte, nI_lit, nI_add, nI_mul, nI_clp, nlt0, nle, nlt, neq, leF, leT, ltF, ltT, eqF, eqT, em_t, cond_dec, bi_T, bi_F, Classical.not_not, uI_o, uI_s, uI_r, nI_sb, bi01,  B_X10_hasOpen_24, B_X10_hasOpen_33, B_X10_hasOpen_43, B_X10_hasOpen_47, B_X10_hasOpen_51, B_X10_hasOpen_52, ln_187, ln_188, ln_189, ln_190, ln_191, ln_192, ln_193, ln_194, ln_195, ln_196, ln_197, ln_198, ln_199, ln_200, ln_201, ln_202, ln_203, ln_204, ln_205, ln_206, rbn_186_19, rbn_186_2, rbn_186_20, rbn_186_21, rbn_186_22, rbn_186_23, rbn_186_24, rbn_186_25, rbn_186_26, rbn_186_27, rbn_186_28, rbn_186_29, rbn_186_3, rbn_186_30, rbn_186_31, rbn_186_4, rbn_186_5, rbn_186_6, rbn_186_8, rbn_186_9, rbs_186_19, rbs_186_2, rbs_186_20, rbs_186_21, rbs_186_22, rbs_186_23, rbs_186_24, rbs_186_25, rbs_186_26, rbs_186_27, rbs_186_28, rbs_186_29, rbs_186_3, rbs_186_30, rbs_186_31, rbs_186_4, rbs_186_5, rbs_186_6, rbs_186_8, rbs_186_9, sh_186, tg_187, tg_188, tg_189, tg_190, tg_191, tg_192, tg_193, tg_194, tg_195, tg_196, tg_197, tg_198, tg_199, tg_200, tg_201, tg_202, tg_203, tg_204, tg_205, tg_206, xl_187, xl_188, xl_189, xl_190, xl_191, xl_192, xl_193, xl_194, xl_195, xl_196, xl_197, xl_198, xl_199, xl_200, xl_201, xl_202, xl_203, xl_204, xl_205, xl_206, xt_187, xt_188, xt_189, xt_190, xt_191, xt_192, xt_193, xt_194, xt_195, xt_196, xt_197, xt_198, xt_199, xt_200, xt_201, xt_202, xt_203, xt_204, xt_205, xt_206, hR.T, hR.M, hR.F, hR.C, hR.dy, hR.sz, hR.tr, hR.rd, hR.pc, hR.lw, hR.f0, hR.f1, hR.f2, hR.hm, hR.pl, hR.c0, hR.c1, hR.c2, hR.c3, hR.c4, hR.c5, hR.c6, hR.c7, hR.c8, hR.oa, S10_told]
      · by_cases h6 : g 6 c = k
        · rw [bi_y (Or.inr ⟨h8, Or.inl h6⟩)]
          simp (disch := omega) only [gI_k, gR_k, pI_k, pR_k, pC_k, true_and, and_true, and_self, not_false_eq_true, not_true_eq_false, eq_self, true_or, or_true, false_or, or_false, false_and, and_false, Option.toList_some, Option.toList_none, List.cons_append, List.nil_append, ↓reduceIte, nI_lit, nI_add, nI_mul, nI_clp, nlt0, nle, nlt, neq, leF, leT, ltF, ltT, eqF, eqT, em_t, cond_dec, bi_T, bi_F, Classical.not_not, uI_o, uI_s, uI_r, nI_sb, bi01,  B_X10_hasOpen_24, B_X10_hasOpen_33, B_X10_hasOpen_43, B_X10_hasOpen_47, B_X10_hasOpen_51, B_X10_hasOpen_52, ln_187, ln_188, ln_189, ln_190, ln_191, ln_192, ln_193, ln_194, ln_195, ln_196, ln_197, ln_198, ln_199, ln_200, ln_201, ln_202, ln_203, ln_204, ln_205, ln_206, rbn_186_19, rbn_186_2, rbn_186_20, rbn_186_21, rbn_186_22, rbn_186_23, rbn_186_24, rbn_186_25, rbn_186_26, rbn_186_27, rbn_186_28, rbn_186_29, rbn_186_3, rbn_186_30, rbn_186_31, rbn_186_4, rbn_186_5, rbn_186_6, rbn_186_8, rbn_186_9, rbs_186_19, rbs_186_2, rbs_186_20, rbs_186_21, rbs_186_22, rbs_186_23, rbs_186_24, rbs_186_25, rbs_186_26, rbs_186_27, rbs_186_28, rbs_186_29, rbs_186_3, rbs_186_30, rbs_186_31, rbs_186_4, rbs_186_5, rbs_186_6, rbs_186_8, rbs_186_9, sh_186, tg_187, tg_188, tg_189, tg_190, tg_191, tg_192, tg_193, tg_194, tg_195, tg_196, tg_197, tg_198, tg_199, tg_200, tg_201, tg_202, tg_203, tg_204, tg_205, tg_206, xl_187, xl_188, xl_189, xl_190, xl_191, xl_192, xl_193, xl_194, xl_195, xl_196, xl_197, xl_198, xl_199, xl_200, xl_201, xl_202, xl_203, xl_204, xl_205, xl_206, xt_187, xt_188, xt_189, xt_190, xt_191, xt_192, xt_193, xt_194, xt_195, xt_196, xt_197, xt_198, xt_199, xt_200, xt_201, xt_202, xt_203, xt_204, xt_205, xt_206, hR.T, hR.M, hR.F, hR.C, hR.dy, hR.sz, hR.tr, hR.rd, hR.pc, hR.lw, hR.f0, hR.f1, hR.f2, hR.hm, hR.pl, hR.c0, hR.c1, hR.c2, hR.c3, hR.c4, hR.c5, hR.c6, hR.c7, hR.c8, hR.oa, S10_told]
        · by_cases h7 : g 7 c = k
          · rw [bi_y (Or.inr ⟨h8, Or.inr h7⟩)]
            simp (disch := omega) only [gI_k, gR_k, pI_k, pR_k, pC_k, true_and, and_true, and_self, not_false_eq_true, not_true_eq_false, eq_self, true_or, or_true, false_or, or_false, false_and, and_false, Option.toList_some, Option.toList_none, List.cons_append, List.nil_append, ↓reduceIte, nI_lit, nI_add, nI_mul, nI_clp, nlt0, nle, nlt, neq, leF, leT, ltF, ltT, eqF, eqT, em_t, cond_dec, bi_T, bi_F, Classical.not_not, uI_o, uI_s, uI_r, nI_sb, bi01,  B_X10_hasOpen_24, B_X10_hasOpen_33, B_X10_hasOpen_43, B_X10_hasOpen_47, B_X10_hasOpen_51, B_X10_hasOpen_52, ln_187, ln_188, ln_189, ln_190, ln_191, ln_192, ln_193, ln_194, ln_195, ln_196, ln_197, ln_198, ln_199, ln_200, ln_201, ln_202, ln_203, ln_204, ln_205, ln_206, rbn_186_19, rbn_186_2, rbn_186_20, rbn_186_21, rbn_186_22, rbn_186_23, rbn_186_24, rbn_186_25, rbn_186_26, rbn_186_27, rbn_186_28, rbn_186_29, rbn_186_3, rbn_186_30, rbn_186_31, rbn_186_4, rbn_186_5, rbn_186_6, rbn_186_8, rbn_186_9, rbs_186_19, rbs_186_2, rbs_186_20, rbs_186_21, rbs_186_22, rbs_186_23, rbs_186_24, rbs_186_25, rbs_186_26, rbs_186_27, rbs_186_28, rbs_186_29, rbs_186_3, rbs_186_30, rbs_186_31, rbs_186_4, rbs_186_5, rbs_186_6, rbs_186_8, rbs_186_9, sh_186, tg_187, tg_188, tg_189, tg_190, tg_191, tg_192, tg_193, tg_194, tg_195, tg_196, tg_197, tg_198, tg_199, tg_200, tg_201, tg_202, tg_203, tg_204, tg_205, tg_206, xl_187, xl_188, xl_189, xl_190, xl_191, xl_192, xl_193, xl_194, xl_195, xl_196, xl_197, xl_198, xl_199, xl_200, xl_201, xl_202, xl_203, xl_204, xl_205, xl_206, xt_187, xt_188, xt_189, xt_190, xt_191, xt_192, xt_193, xt_194, xt_195, xt_196, xt_197, xt_198, xt_199, xt_200, xt_201, xt_202, xt_203, xt_204, xt_205, xt_206, hR.T, hR.M, hR.F, hR.C, hR.dy, hR.sz, hR.tr, hR.rd, hR.pc, hR.lw, hR.f0, hR.f1, hR.f2, hR.hm, hR.pl, hR.c0, hR.c1, hR.c2, hR.c3, hR.c4, hR.c5, hR.c6, hR.c7, hR.c8, hR.oa, S10_told]
          · rw [bi_x (fun z => z.elim hp (fun y => y.2.elim h6 h7))]
            simp (disch := omega) only [gI_k, gR_k, pI_k, pR_k, pC_k, true_and, and_true, and_self, not_false_eq_true, not_true_eq_false, eq_self, true_or, or_true, false_or, or_false, false_and, and_false, Option.toList_some, Option.toList_none, List.cons_append, List.nil_append, ↓reduceIte, nI_lit, nI_add, nI_mul, nI_clp, nlt0, nle, nlt, neq, leF, leT, ltF, ltT, eqF, eqT, em_t, cond_dec, bi_T, bi_F, Classical.not_not, uI_o, uI_s, uI_r, nI_sb, bi01,  B_X10_hasOpen_24, B_X10_hasOpen_33, B_X10_hasOpen_43, B_X10_hasOpen_47, B_X10_hasOpen_51, B_X10_hasOpen_52, ln_187, ln_188, ln_189, ln_190, ln_191, ln_192, ln_193, ln_194, ln_195, ln_196, ln_197, ln_198, ln_199, ln_200, ln_201, ln_202, ln_203, ln_204, ln_205, ln_206, rbn_186_19, rbn_186_2, rbn_186_20, rbn_186_21, rbn_186_22, rbn_186_23, rbn_186_24, rbn_186_25, rbn_186_26, rbn_186_27, rbn_186_28, rbn_186_29, rbn_186_3, rbn_186_30, rbn_186_31, rbn_186_4, rbn_186_5, rbn_186_6, rbn_186_8, rbn_186_9, rbs_186_19, rbs_186_2, rbs_186_20, rbs_186_21, rbs_186_22, rbs_186_23, rbs_186_24, rbs_186_25, rbs_186_26, rbs_186_27, rbs_186_28, rbs_186_29, rbs_186_3, rbs_186_30, rbs_186_31, rbs_186_4, rbs_186_5, rbs_186_6, rbs_186_8, rbs_186_9, sh_186, tg_187, tg_188, tg_189, tg_190, tg_191, tg_192, tg_193, tg_194, tg_195, tg_196, tg_197, tg_198, tg_199, tg_200, tg_201, tg_202, tg_203, tg_204, tg_205, tg_206, xl_187, xl_188, xl_189, xl_190, xl_191, xl_192, xl_193, xl_194, xl_195, xl_196, xl_197, xl_198, xl_199, xl_200, xl_201, xl_202, xl_203, xl_204, xl_205, xl_206, xt_187, xt_188, xt_189, xt_190, xt_191, xt_192, xt_193, xt_194, xt_195, xt_196, xt_197, xt_198, xt_199, xt_200, xt_201, xt_202, xt_203, xt_204, xt_205, xt_206, hR.T, hR.M, hR.F, hR.C, hR.dy, hR.sz, hR.tr, hR.rd, hR.pc, hR.lw, hR.f0, hR.f1, hR.f2, hR.hm, hR.pl, hR.c0, hR.c1, hR.c2, hR.c3, hR.c4, hR.c5, hR.c6, hR.c7, hR.c8, hR.oa, S10_told]
  rw [bi_x (fun z => by obtain ⟨e, h, -⟩ := z; omega)] at e
  rw [B_X10_hasOpen_0]
  refine Eq.trans e ?_
  rw [B_X10_hasOpen_4]
  by_cases hp : opP g k
  · rw [bi_y hp]
    simp (disch := omega) only [gI_k, gR_k, pI_k, pR_k, pC_k, true_and, and_true, and_self, not_false_eq_true, not_true_eq_false, eq_self, true_or, or_true, false_or, or_false, false_and, and_false, Option.toList_some, Option.toList_none, List.cons_append, List.nil_append, ↓reduceIte, nI_lit, nI_add, nI_mul, nI_clp, nlt0, nle, nlt, neq, leF, leT, ltF, ltT, eqF, eqT, em_t, cond_dec, bi_T, bi_F, Classical.not_not, uI_o, uI_s, uI_r, nI_sb, bi01,  ln_187, ln_188, ln_189, ln_190, ln_191, ln_192, ln_193, ln_194, ln_195, ln_196, ln_197, ln_198, ln_199, ln_200, ln_201, ln_202, ln_203, ln_204, ln_205, ln_206, rbn_186_19, rbn_186_2, rbn_186_20, rbn_186_21, rbn_186_22, rbn_186_23, rbn_186_24, rbn_186_25, rbn_186_26, rbn_186_27, rbn_186_28, rbn_186_29, rbn_186_3, rbn_186_30, rbn_186_31, rbn_186_4, rbn_186_5, rbn_186_6, rbn_186_8, rbn_186_9, rbs_186_19, rbs_186_2, rbs_186_20, rbs_186_21, rbs_186_22, rbs_186_23, rbs_186_24, rbs_186_25, rbs_186_26, rbs_186_27, rbs_186_28, rbs_186_29, rbs_186_3, rbs_186_30, rbs_186_31, rbs_186_4, rbs_186_5, rbs_186_6, rbs_186_8, rbs_186_9, sh_186, tg_187, tg_188, tg_189, tg_190, tg_191, tg_192, tg_193, tg_194, tg_195, tg_196, tg_197, tg_198, tg_199, tg_200, tg_201, tg_202, tg_203, tg_204, tg_205, tg_206, xl_187, xl_188, xl_189, xl_190, xl_191, xl_192, xl_193, xl_194, xl_195, xl_196, xl_197, xl_198, xl_199, xl_200, xl_201, xl_202, xl_203, xl_204, xl_205, xl_206, xt_187, xt_188, xt_189, xt_190, xt_191, xt_192, xt_193, xt_194, xt_195, xt_196, xt_197, xt_198, xt_199, xt_200, xt_201, xt_202, xt_203, xt_204, xt_205, xt_206, hR.T, hR.M, hR.F, hR.C, hR.dy, hR.sz, hR.tr, hR.rd, hR.pc, hR.lw, hR.f0, hR.f1, hR.f2, hR.hm, hR.pl, hR.c0, hR.c1, hR.c2, hR.c3, hR.c4, hR.c5, hR.c6, hR.c7, hR.c8, hR.oa]
  · rw [bi_x hp]
    simp (disch := omega) only [gI_k, gR_k, pI_k, pR_k, pC_k, true_and, and_true, and_self, not_false_eq_true, not_true_eq_false, eq_self, true_or, or_true, false_or, or_false, false_and, and_false, Option.toList_some, Option.toList_none, List.cons_append, List.nil_append, ↓reduceIte, nI_lit, nI_add, nI_mul, nI_clp, nlt0, nle, nlt, neq, leF, leT, ltF, ltT, eqF, eqT, em_t, cond_dec, bi_T, bi_F, Classical.not_not, uI_o, uI_s, uI_r, nI_sb, bi01,  ln_187, ln_188, ln_189, ln_190, ln_191, ln_192, ln_193, ln_194, ln_195, ln_196, ln_197, ln_198, ln_199, ln_200, ln_201, ln_202, ln_203, ln_204, ln_205, ln_206, rbn_186_19, rbn_186_2, rbn_186_20, rbn_186_21, rbn_186_22, rbn_186_23, rbn_186_24, rbn_186_25, rbn_186_26, rbn_186_27, rbn_186_28, rbn_186_29, rbn_186_3, rbn_186_30, rbn_186_31, rbn_186_4, rbn_186_5, rbn_186_6, rbn_186_8, rbn_186_9, rbs_186_19, rbs_186_2, rbs_186_20, rbs_186_21, rbs_186_22, rbs_186_23, rbs_186_24, rbs_186_25, rbs_186_26, rbs_186_27, rbs_186_28, rbs_186_29, rbs_186_3, rbs_186_30, rbs_186_31, rbs_186_4, rbs_186_5, rbs_186_6, rbs_186_8, rbs_186_9, sh_186, tg_187, tg_188, tg_189, tg_190, tg_191, tg_192, tg_193, tg_194, tg_195, tg_196, tg_197, tg_198, tg_199, tg_200, tg_201, tg_202, tg_203, tg_204, tg_205, tg_206, xl_187, xl_188, xl_189, xl_190, xl_191, xl_192, xl_193, xl_194, xl_195, xl_196, xl_197, xl_198, xl_199, xl_200, xl_201, xl_202, xl_203, xl_204, xl_205, xl_206, xt_187, xt_188, xt_189, xt_190, xt_191, xt_192, xt_193, xt_194, xt_195, xt_196, xt_197, xt_198, xt_199, xt_200, xt_201, xt_202, xt_203, xt_204, xt_205, xt_206, hR.T, hR.M, hR.F, hR.C, hR.dy, hR.sz, hR.tr, hR.rd, hR.pc, hR.lw, hR.f0, hR.f1, hR.f2, hR.hm, hR.pl, hR.c0, hR.c1, hR.c2, hR.c3, hR.c4, hR.c5, hR.c6, hR.c7, hR.c8, hR.oa]
end Net
