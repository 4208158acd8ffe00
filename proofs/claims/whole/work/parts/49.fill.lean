/-! ===== rows that are filled ===== -/
def fil (f : Nat → Int32) (lo hi : Nat) (x : Int32) : Nat → Int32 := fun j => if lo ≤ j ∧ j < hi then x else f j
theorem wr_o {I : Nat → Nat → Int32} {a b : Nat} {r : Nat → Int32} (h : b ≠ a) : va_up I a r b = I b := va_up_ne I r h
theorem wr_s {I : Nat → Nat → Int32} {a b : Nat} {r : Nat → Int32} (h : b = a) : va_up I a r b = r := by subst h; exact va_up_self I b r
theorem wr_id {I : Nat → Nat → Int32} {a : Nat} : va_up I a (I a) = I := by
  funext b
  unfold va_up
  split
  · rename_i h; rw [h]
  · rfl
theorem wr_wr {I : Nat → Nat → Int32} {a : Nat} {r s : Nat → Int32} : va_up (va_up I a r) a s = va_up I a s := by
  funext b
  unfold va_up
  split <;> rfl
theorem uI_wr {I : Nat → Nat → Int32} {a k : Nat} {r : Nat → Int32} {x : Int32} : uI (va_up I a r) a k x = va_up I a (upd r k x) := by
  unfold uI
  rw [wr_wr, va_up_self]
theorem fil_0 {f : Nat → Int32} {lo : Nat} {x : Int32} : fil f lo lo x = f := by
  funext j
  unfold fil
  rw [if_neg (by omega)]
theorem fil_1 {f : Nat → Int32} {lo k : Nat} {x : Int32} (h : lo ≤ k) : upd (fil f lo k x) k x = fil f lo (k + 1) x := by
  funext j
  unfold fil upd
  by_cases e : j = k
  · subst e
    rw [if_pos rfl, if_pos (by omega)]
  · rw [if_neg e]
    dsimp only
    by_cases e2 : lo ≤ j ∧ j < k
    · rw [if_pos e2, if_pos (by omega)]
    · rw [if_neg e2, if_neg (by omega)]
theorem fil_in {f : Nat → Int32} {lo hi j : Nat} {x : Int32} (h : lo ≤ j ∧ j < hi) : fil f lo hi x j = x := if_pos h
theorem fil_out {f : Nat → Int32} {lo hi j : Nat} {x : Int32} (h : ¬ (lo ≤ j ∧ j < hi)) : fil f lo hi x j = f j := if_neg h
theorem ech {E : Nat → Prop} {n : Nat} (h : ∀ k, k < n → E k = E (k + 1)) : E 0 = E n :=
  lp (α := Unit) (E := fun k _ => E k) (f := fun _ s => s) (s := ()) (fun k _ hk => h k hk)
theorem SH_lt {b : Nat} {q : Nat × Nat} (h : SH[b]? = some q) : b < 207 := by
  have h1 : b < SH.length := by
    rcases Nat.lt_or_ge b SH.length with z | z
    · exact z
    · rw [List.getElem?_eq_none z] at h; cases h
  have h2 : SH.length = 207 := by decide +kernel
  omega
section Fill
variable {d a l u t q L : Nat} {I : Nat → Nat → Int32} {Q : Option Value → LM → Prop} {g : Nat → Nat → Nat} {v : Nat → Nat → Int32} {x y z : Int32}
variable {b n lo hi : Nat}
theorem tg_of (hb : SH[b]? = some (1, n)) : tg (SH, I, RB l u t q L) b = 1 := by unfold tg; rw [show (SH, I, RB l u t q L).1[b]? = some (1, n) from hb]
theorem ln_of (hb : SH[b]? = some (1, n)) : ln (SH, I, RB l u t q L) b = n := by unfold ln; rw [show (SH, I, RB l u t q L).1[b]? = some (1, n) from hb]
theorem xt_of (hb : SH[b]? = some (1, n)) : xtg (SH, I, RB l u t q L) b = 1 := by
  have := SH_lt hb
  unfold xtg
  rw [if_pos (by show b < 1048576; omega), tg_of hb]
theorem xl_of (hb : SH[b]? = some (1, n)) : xln (SH, I, RB l u t q L) b = n := by
  have := SH_lt hb
  unfold xln
  rw [if_pos (by show b < 1048576; omega), ln_of hb]
theorem SJ_fill3 (hb : SH[b]? = some (1, n)) (hn : n < 100000) (h1 : lo ≤ hi) (h2 : hi ≤ n) : Ends (d + 1) k_J7_fill_fda19 0 [.ref b, .int (nI lo), .int (nI hi), .int x, .null] [] (SH, I, RB l u t q L) Q = Q none (SH, va_up I b (fil (I b) lo hi x), RB l u t q L) := by
  have hof : Int32.ofNat n = nI n := rfl
  simp (disch := omega) only [gI_k, gR_k, pI_k, pR_k, pC_k, true_and, and_true, and_self, not_false_eq_true, not_true_eq_false, eq_self, true_or, or_true, false_or, or_false, false_and, and_false, Option.toList_some, Option.toList_none, List.cons_append, List.nil_append, ↓reduceIte, nI_lit, nI_add, nI_mul, nI_clp, nlt0, nle, nlt, neq, leF, leT, ltF, ltT, eqF, eqT, em_t, cond_dec, bi_T, bi_F, Classical.not_not, uI_o, uI_s, uI_r, nI_sb, bi01,  B_J7_fill_fda19_0, B_J7_fill_fda19_7, B_J7_rangeCheck_23922_0, xt_of hb, xl_of hb, hof]
  refine Eq.trans ?_ ((ech (E := fun k => Ends (d + 1) k_J7_fill_fda19 10 [.ref b, .int (nI lo), .int (nI hi), .int x, .int (nI (lo + k))] [] (SH, va_up I b (fil (I b) lo (lo + k) x), RB l u t q L) Q) (n := hi - lo) (fun k hk => ?_)).trans ?_)
  · simp only [Nat.add_zero, fil_0, wr_id]
  · show Ends (d + 1) k_J7_fill_fda19 10 [.ref b, .int (nI lo), .int (nI hi), .int x, .int (nI (lo + k))] [] (SH, va_up I b (fil (I b) lo (lo + k) x), RB l u t q L) Q = Ends (d + 1) k_J7_fill_fda19 10 [.ref b, .int (nI lo), .int (nI hi), .int x, .int (nI (lo + k + 1))] [] (SH, va_up I b (fil (I b) lo (lo + k + 1) x), RB l u t q L) Q
    conv => lhs; rw [B_J7_fill_fda19_10]
    simp (disch := omega) only [gI_k, gR_k, pI_k, pR_k, pC_k, true_and, and_true, and_self, not_false_eq_true, not_true_eq_false, eq_self, true_or, or_true, false_or, or_false, false_and, and_false, Option.toList_some, Option.toList_none, List.cons_append, List.nil_append, ↓reduceIte, nI_lit, nI_add, nI_mul, nI_clp, nlt0, nle, nlt, neq, leF, leT, ltF, ltT, eqF, eqT, em_t, cond_dec, bi_T, bi_F, Classical.not_not, uI_o, uI_s, uI_r, nI_sb, bi01,  tg_of hb, ln_of hb, uI_wr, fil_1]
  · show Ends (d + 1) k_J7_fill_fda19 10 [.ref b, .int (nI lo), .int (nI hi), .int x, .int (nI (lo + (hi - lo)))] [] (SH, va_up I b (fil (I b) lo (lo + (hi - lo)) x), RB l u t q L) Q = _
    rw [B_J7_fill_fda19_10, show lo + (hi - lo) = hi by omega]
    simp (disch := omega) only [gI_k, gR_k, pI_k, pR_k, pC_k, true_and, and_true, and_self, not_false_eq_true, not_true_eq_false, eq_self, true_or, or_true, false_or, or_false, false_and, and_false, Option.toList_some, Option.toList_none, List.cons_append, List.nil_append, ↓reduceIte, nI_lit, nI_add, nI_mul, nI_clp, nlt0, nle, nlt, neq, leF, leT, ltF, ltT, eqF, eqT, em_t, cond_dec, bi_T, bi_F, Classical.not_not, uI_o, uI_s, uI_r, nI_sb, bi01,  tg_of hb]
theorem SJ_fill (hb : SH[b]? = some (1, n)) (hn : n < 100000) : Ends d k_J7_fill_53178 0 [.ref b, .int x, .null, .null] [] (SH, I, RB l u t q L) Q = Q none (SH, va_up I b (fil (I b) 0 n x), RB l u t q L) := by
  have hof : Int32.ofNat n = nI n := rfl
  simp (disch := omega) only [gI_k, gR_k, pI_k, pR_k, pC_k, true_and, and_true, and_self, not_false_eq_true, not_true_eq_false, eq_self, true_or, or_true, false_or, or_false, false_and, and_false, Option.toList_some, Option.toList_none, List.cons_append, List.nil_append, ↓reduceIte, nI_lit, nI_add, nI_mul, nI_clp, nlt0, nle, nlt, neq, leF, leT, ltF, ltT, eqF, eqT, em_t, cond_dec, bi_T, bi_F, Classical.not_not, uI_o, uI_s, uI_r, nI_sb, bi01,  B_J7_fill_53178_0, xt_of hb, xl_of hb, hof]
  refine Eq.trans ?_ ((ech (E := fun k => Ends d k_J7_fill_53178 5 [.ref b, .int x, .int (nI k), .int (nI n)] [] (SH, va_up I b (fil (I b) 0 k x), RB l u t q L) Q) (n := n) (fun k hk => ?_)).trans ?_)
  · simp only [fil_0, wr_id]
  · show Ends d k_J7_fill_53178 5 [.ref b, .int x, .int (nI k), .int (nI n)] [] (SH, va_up I b (fil (I b) 0 k x), RB l u t q L) Q = Ends d k_J7_fill_53178 5 [.ref b, .int x, .int (nI (k + 1)), .int (nI n)] [] (SH, va_up I b (fil (I b) 0 (k + 1) x), RB l u t q L) Q
    conv => lhs; rw [B_J7_fill_53178_5]
    simp (disch := omega) only [gI_k, gR_k, pI_k, pR_k, pC_k, true_and, and_true, and_self, not_false_eq_true, not_true_eq_false, eq_self, true_or, or_true, false_or, or_false, false_and, and_false, Option.toList_some, Option.toList_none, List.cons_append, List.nil_append, ↓reduceIte, nI_lit, nI_add, nI_mul, nI_clp, nlt0, nle, nlt, neq, leF, leT, ltF, ltT, eqF, eqT, em_t, cond_dec, bi_T, bi_F, Classical.not_not, uI_o, uI_s, uI_r, nI_sb, bi01,  tg_of hb, ln_of hb, uI_wr, fil_1]
  · show Ends d k_J7_fill_53178 5 [.ref b, .int x, .int (nI n), .int (nI n)] [] (SH, va_up I b (fil (I b) 0 n x), RB l u t q L) Q = _
    rw [B_J7_fill_53178_5]
    simp (disch := omega) only [gI_k, gR_k, pI_k, pR_k, pC_k, true_and, and_true, and_self, not_false_eq_true, not_true_eq_false, eq_self, true_or, or_true, false_or, or_false, false_and, and_false, Option.toList_some, Option.toList_none, List.cons_append, List.nil_append, ↓reduceIte, nI_lit, nI_add, nI_mul, nI_clp, nlt0, nle, nlt, neq, leF, leT, ltF, ltT, eqF, eqT, em_t, cond_dec, bi_T, bi_F, Classical.not_not, uI_o, uI_s, uI_r, nI_sb, bi01,  tg_of hb]
end Fill
