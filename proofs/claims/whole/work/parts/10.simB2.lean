/-! ===== facts of the classes, by computation ===== -/
def isRefTy : FieldType → Bool
  | .object _ => true
  | .array _ => true
  | _ => false
theorem refTy_ok {ty : FieldType} (h : isRefTy ty = true) (b : Nat) : narrow ty (.ref b) = .ref b ∧ fits ty (.ref b) = true ∧ defaultValue ty = .null := by
  cases ty <;> first | exact ⟨rfl, rfl, rfl⟩ | cases h
def clsOK (ci : Nat) (r : vw_C) : Prop := ci < 11 ∧ nfs ci = r.2.2 ∧ r.1 = cln ci ∧ (∀ w ∈ u_ws r.1 r.2.1 r.2.2, w ∈ gtb) ∧ ∃ ty : Nat → FieldType, (∀ k, k < r.2.2 → parseFieldDescriptor (r.2.1 k).2.2.1 = some (ty k)) ∧ (∀ a, a < r.2.2 → ∀ b, b < r.2.2 → a ≠ b → (r.2.1 a).2.1 ≠ (r.2.1 b).2.1) ∧
  (∀ k, k < r.2.2 → (fkOf FT ci k = 0 ∧ ty k = .int) ∨ (fkOf FT ci k = 1 ∧ ty k = .boolean) ∨ (fkOf FT ci k = 2 ∧ isRefTy (ty k) = true)) ∧ ∀ k, k < r.2.2 → (r.2.1 k).1 = r.1
theorem uws_good {C : String} {T : u_T} {N : Nat} (h : ∀ w ∈ u_ws C T N, w ∈ lw_tbl) : ∀ w ∈ u_ws C T N, w ∈ gtb := by
  intro w hw
  refine List.mem_filter.mpr ⟨h w hw, ?_⟩
  obtain ⟨k, -, rfl⟩ := List.mem_map.mp hw
  unfold u_lay
  split <;> rfl
theorem cls_ok {ci : Nat} {r : vw_C} (h : vwCl[ci]? = some r) : clsOK ci r := by
  match ci, h with
  | 0, h => cases h; exact ⟨by decide, by decide +kernel, rfl, uws_good inX0, tyX0, tyX0_ok, nmX0, by decide +kernel, by decide +kernel⟩
  | 1, h => cases h; exact ⟨by decide, by decide +kernel, rfl, uws_good inX1, tyX1, tyX1_ok, nmX1, by decide +kernel, by decide +kernel⟩
  | 2, h => cases h; exact ⟨by decide, by decide +kernel, rfl, uws_good inX2, tyX2, tyX2_ok, nmX2, by decide +kernel, by decide +kernel⟩
  | 3, h => cases h; exact ⟨by decide, by decide +kernel, rfl, uws_good inX3, tyX3, tyX3_ok, nmX3, by decide +kernel, by decide +kernel⟩
  | 4, h => cases h; exact ⟨by decide, by decide +kernel, rfl, uws_good inX4, tyX4, tyX4_ok, nmX4, by decide +kernel, by decide +kernel⟩
  | 5, h => cases h; exact ⟨by decide, by decide +kernel, rfl, uws_good inX5, tyX5, tyX5_ok, nmX5, by decide +kernel, by decide +kernel⟩
  | 6, h => cases h; exact ⟨by decide, by decide +kernel, rfl, uws_good inX6, tyX6, tyX6_ok, nmX6, by decide +kernel, by decide +kernel⟩
  | 7, h => cases h; exact ⟨by decide, by decide +kernel, rfl, uws_good inX7, tyX7, tyX7_ok, nmX7, by decide +kernel, by decide +kernel⟩
  | 8, h => cases h; exact ⟨by decide, by decide +kernel, rfl, uws_good inX8, tyX8, tyX8_ok, nmX8, by decide +kernel, by decide +kernel⟩
  | 9, h => cases h; exact ⟨by decide, by decide +kernel, rfl, uws_good inX9, tyX9, tyX9_ok, nmX9, by decide +kernel, by decide +kernel⟩
  | 10, h => cases h; exact ⟨by decide, by decide +kernel, rfl, uws_good inX10, tyX10, tyX10_ok, nmX10, by decide +kernel, by decide +kernel⟩
  | k + 11, h => simp [vwCl] at h
theorem cls_get {ci : Nat} (h : ci < 11) : ∃ r, vwCl[ci]? = some r := ⟨_, List.getElem?_eq_getElem (l := vwCl) (i := ci) h⟩
theorem pf_word {own i q : Nat} (h : pl PF own i = some q) : ∃ r, vwCl[q / 64]? = some r ∧ q % 64 < r.2.2 ∧ Cond.fieldLink (ownS own) i (r.2.1 (q % 64)).1 (r.2.1 (q % 64)).2.1 (r.2.1 (q % 64)).2.2.1 ∈ gtb ∧ fin? q = (r.2.1 (q % 64)).2.2.2 := by
  obtain ⟨h1, h2, hm⟩ := pl_spec h
  obtain ⟨p, hp⟩ := zip_all PF_chk (by decide +kernel) _ hm
  rw [Bool.and_eq_true, decide_eq_true_eq] at hp
  obtain ⟨ha, hb⟩ := hp
  have ha := gtb_at ha
  simp only [mkF, fld, h1, h2] at ha
  cases hr : vwCl[q / 64]? with
  | none => rw [hr] at hb; exact absurd hb (Nat.not_lt_zero _)
  | some r =>
    rw [hr] at hb
    simp only [hr] at ha
    exact ⟨r, rfl, hb, ha, by simp only [fin?, hr]⟩
theorem pv_word {own i q : Nat} (h : pl PV own i = some q) : Cond.fieldLink (ownS own) i "java/lang/String" (vfl q).1 (vfl q).2 ∈ gtb ∧ (q = 704 ∨ q = 705) := by
  obtain ⟨h1, h2, hm⟩ := pl_spec h
  obtain ⟨p, hp⟩ := zip_all PV_chk (by decide +kernel) _ hm
  rw [Bool.and_eq_true, Bool.or_eq_true, decide_eq_true_eq, decide_eq_true_eq] at hp
  obtain ⟨ha, hb⟩ := hp
  have ha := gtb_at ha
  simp only [h1, h2] at ha
  exact ⟨ha, hb⟩
theorem pn_word {own i q : Nat} (h : pl PN own i = some q) : Cond.classLink (ownS own) i (cln q) ∈ gtb ∧ q < 11 := by
  obtain ⟨h1, h2, hm⟩ := pl_spec h
  obtain ⟨p, hp⟩ := zip_all PN_chk (by decide +kernel) _ hm
  rw [Bool.and_eq_true, decide_eq_true_eq] at hp
  obtain ⟨ha, hb⟩ := hp
  have ha := gtb_at ha
  simp only [h1, h2] at ha
  exact ⟨ha, hb⟩
theorem pt_word {own i j : Nat} (h : pl PT own i = some j) : j < 6 ∧ own = 6 ∧ i = (PTs.getD j (0, "")).1 := by
  obtain ⟨h1, h2, hm⟩ := pl_spec h
  have hp := List.all_eq_true.mp PT_chk _ hm
  rw [Bool.and_eq_true, decide_eq_true_eq, decide_eq_true_eq] at hp
  obtain ⟨ha, hb⟩ := hp
  have hk : ∀ j, j < 6 → (PTs.getD j (0, "")).1 < 1000 := by decide +kernel
  have hk := hk j ha
  simp only at ha hb
  refine ⟨ha, by omega, by omega⟩
theorem zip_all2 {α β : Type} {f : α × β → Bool} : ∀ {l : List α} {ps : List β}, (l.zip ps).all f = true → l.length = ps.length → ∀ q ∈ l, ∃ p, p ∈ ps ∧ f (q, p) = true := by
  intro l
  induction l with
  | nil => intro ps _ _ q hq; cases hq
  | cons a l ih =>
    intro ps h hl q hq
    cases ps with
    | nil => cases hl
    | cons b ps =>
      rw [List.zip_cons_cons, List.all_cons, Bool.and_eq_true] at h
      rcases List.mem_cons.mp hq with rfl | hq
      · exact ⟨b, List.mem_cons_self, h.1⟩
      · obtain ⟨p, h1, h2⟩ := ih h.2 (by simpa using hl) q hq
        exact ⟨p, List.mem_cons_of_mem _ h1, h2⟩
theorem ps_word {own i j : Nat} (h : pl PS own i = some j) : j < 5 ∧ (Cond.fieldLink (ownS own) i (stn j).1 (stn j).2.1 (stn j).2.2 ∈ gtb ∨ ∃ k : Nat, (k, true) ∈ PSp ∧ (own * 1000 + i, j) ∈ PS ∧ lw_tbl[k]? = some (mkS (own * 1000 + i, j) true) ∧ mkS (own * 1000 + i, j) true = .fieldLinkNest (ownS own) i (stn j).1 (stn j).2.1 (stn j).2.2 "SeizedGoods") := by
  obtain ⟨h1, h2, hm⟩ := pl_spec h
  obtain ⟨⟨k, b⟩, hk, hp⟩ := zip_all2 PS_chk (by decide +kernel) _ hm
  rw [Bool.and_eq_true, decide_eq_true_eq] at hp
  obtain ⟨ha, hb⟩ := hp
  refine ⟨hb, ?_⟩
  unfold okNt at ha
  rw [Bool.and_eq_true, decide_eq_true_eq] at ha
  cases b with
  | true =>
    refine Or.inr ⟨k, hk, hm, ha.1, ?_⟩
    simp only [mkS, h1, h2]
  | false =>
    refine Or.inl ?_
    have h3 : mkS (own * 1000 + i, j) false ∈ gtb := List.mem_filter.mpr ⟨List.mem_of_getElem? ha.1, by simpa using ha.2⟩
    simp only [mkS, h1, h2] at h3
    exact h3
theorem pm_word {own i z : Nat} (h : pl PM own i = some z) : Cond.methodLink (ownS own) i (yOf z) ∈ gtb ∨ ∃ k : Nat, (k, true) ∈ PMp ∧ (own * 1000 + i, z) ∈ PM ∧ lw_tbl[k]? = some (mkM (own * 1000 + i, z) true) ∧ mkM (own * 1000 + i, z) true = .methodLinkNest (ownS own) i (yOf z) "SeizedGoods" := by
  obtain ⟨h1, h2, hm⟩ := pl_spec h
  obtain ⟨⟨k, b⟩, hk, ha⟩ := zip_all2 PM_chk (by decide +kernel) _ hm
  unfold okNt at ha
  rw [Bool.and_eq_true, decide_eq_true_eq] at ha
  cases b with
  | true =>
    refine Or.inr ⟨k, hk, hm, ha.1, ?_⟩
    simp only [mkM, h1, h2]
  | false =>
    refine Or.inl ?_
    have h3 : mkM (own * 1000 + i, z) false ∈ gtb := List.mem_filter.mpr ⟨List.mem_of_getElem? ha.1, by simpa using ha.2⟩
    simp only [mkM, h1, h2] at h3
    exact h3
/-- methods of the JDK that the machine has of itself are linked plainly -/
theorem pm_plain {own i z : Nat} (h : pl PM own i = some z) (hz : 900 ≤ z) : Cond.methodLink (ownS own) i (yOf z) ∈ gtb := by
  obtain ⟨h1, h2, hm⟩ := pl_spec h
  have hall : (PM.zip PMp).all (fun q => decide (q.1.2 < 900) || !q.2.2) = true := by decide +kernel
  rcases pm_word h with h3 | ⟨k, hk, hm, hw, he⟩
  · exact h3
  · exfalso
    have key : (PM.zip PMp).all (fun q => okNt q.2.1 (mkM q.1 q.2.2) q.2.2) = true := PM_chk
    obtain ⟨⟨k', b⟩, hk', ha⟩ := zip_all2 (f := fun q => okNt q.2.1 (mkM q.1 q.2.2) q.2.2 && (decide (q.1.2 < 900) || !q.2.2)) (l := PM) (ps := PMp) (by
      rw [List.all_eq_true] at *
      intro q hq
      rw [key q hq, hall q hq]
      rfl) (by decide +kernel) _ hm
    rw [Bool.and_eq_true, Bool.or_eq_true, decide_eq_true_eq] at ha
    obtain ⟨ha, hb⟩ := ha
    have hb : b = false := by
      rcases hb with hb | hb
      · simp only at hb; omega
      · simpa using hb
    subst hb
    unfold okNt at ha
    rw [Bool.and_eq_true, decide_eq_true_eq] at ha
    have hnest : PM.all (fun q => !(decide (900 ≤ q.2)) || (lw_tbl.all (fun w => decide (w ≠ mkM q true)))) = true := by decide +kernel
    have h4 := List.all_eq_true.mp hnest _ hm
    rw [Bool.or_eq_true] at h4
    rcases h4 with h4 | h4
    · simp at h4; omega
    · have := List.all_eq_true.mp h4 _ (List.mem_of_getElem? hw)
      simp at this
