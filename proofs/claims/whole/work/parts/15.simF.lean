/-! ===== the whole: by the fuel ===== -/
theorem isCall_eq {ins : Instr} {z : Nat} (h : isCall ins = some z) : ins = .invokestatic z := by
  cases ins <;> first | (cases h; rfl) | cases h
theorem tr_ret {own : Nat} {ini : Bool} {pc : Nat} {ins0 ins : Instr} {rt : Nat} {st : List Value} {q : Dp × Option Value} (h : tr own ini pc ins0 = some ins) (hr : retv rt ins st = some q) : ins0 = ins ∧ lenOf ins0 = 1 := by
  have hi : ins = .return_ ∨ ins = .ireturn ∨ ins = .lreturn := by
    unfold retv at hr
    split at hr
    · exact Or.inl rfl
    · exact Or.inr (Or.inl rfl)
    · exact Or.inr (Or.inl rfl)
    · exact Or.inr (Or.inl rfl)
    · exact Or.inr (Or.inl rfl)
    · exact Or.inr (Or.inr rfl)
    · cases hr
  cases ins0 with
  | return_ => cases h; exact ⟨rfl, rfl⟩
  | ireturn => cases h; exact ⟨rfl, rfl⟩
  | lreturn => cases h; exact ⟨rfl, rfl⟩
  | _ =>
    exfalso
    simp only [tr] at h
    (repeat' split at h) <;> first | (cases h; simp at hi; done) | (cases h; done) | (rw [(jmp_spec h).2] at hi; simp at hi; done) | (rw [(kst_spec h).2] at hi; simp at hi; done) | (rw [Option.map_eq_some_iff] at h; obtain ⟨j, hj, hh⟩ := h; rw [← hh] at hi; simp at hi; done)
set_option maxHeartbeats 4000000 in
theorem stpA_len {ins : Instr} {nx : Nat} {ls st : List Value} {M : LM} {r : SR} (h : stpA ins nx ls st M = some r) : ContI (fun t => t.2.1.length = ls.length) r := by
  unfold stpA at h
  repeat' split at h
  all_goals first | (cases h; rfl) | (cases h; exact ⟨rfl, rfl⟩) | (cases h; exact fun _ => rfl) | (cases h; exact List.length_set) | (cases h; exact List.length_set.trans List.length_set) | cases h
set_option maxHeartbeats 4000000 in
theorem stpB_len {ins : Instr} {nx : Nat} {ls st : List Value} {M : LM} {r : SR} (h : stpB FT ins nx ls st M = some r) : ContI (fun t => t.2.1.length = ls.length) r := by
  unfold stpB at h
  repeat' split at h
  all_goals first | (cases h; rfl) | (cases h; exact fun _ => rfl) | cases h
set_option maxHeartbeats 4000000 in
theorem stpB_nb {ins : Instr} {nx : Nat} {ls st : List Value} {M : LM} (cnd : Dp) (t t2 : SS) : stpB FT ins nx ls st M ≠ some (.inr (.inl (cnd, t, t2))) := by
  intro h
  unfold stpB at h
  repeat' split at h
  all_goals cases h
section SimF
variable {l : Launch} {ad : Nat → Nat} {D : va_G} {cs : Nat → ClassId} {base : Nat}
set_option maxHeartbeats 1000000 in
theorem sim_all (hGd : Gd) (had : ∀ k, k < EXT → ad k = base + k) : ∀ n : Nat, SimAt l D cs base ad n := by
  intro n
  induction n with
  | zero => intro d y pc ls st M r M' h; cases h
  | succ n ih =>
    intro d y pc ls st M r M' h mt b hmt hT p e R s m args below meth c H locs cells slots Q lsr C0 S0 hx hb hml hown hts hini h0 hRf hRl hl hn hJ hC hS hbC hbS hret
    have hE := hJ.2.2.2.2.2.2
    have hpu := run_pure h hE
    rw [run] at h
    simp only [hmt] at h
    split at h
    · cases h
    · rename_i ins nx hlook
      obtain ⟨ins0, len, hd, rfl, hlen, ht⟩ := chk_at hT hlook
      split at h
      · rename_i z hz
        have hins := isCall_eq hz
        subst hins
        split at h
        · cases h
        · rename_i d'
          split at h
          · cases h
          · rename_i mz hmz
            split at h
            · rename_i cnd h1 h2
              by_cases hc : cnd.1
              · rw [@if_pos _ cnd.2 hc] at h
                split at h
                · rename_i r1 M1 hr
                  obtain ⟨i, bz, hpl, hbz, hk⟩ := tr_call ht
                  have hG := hGd z mz bz (pm_lt hpl hbz) hmz hbz
                  have hl3 : len = 3 := by
                    rcases hk with ⟨rfl, -⟩ | ⟨rfl, -⟩ | ⟨rfl, -⟩ <;> exact hlen.resolve_left (by simp [lenOf])
                  subst hl3
                  have hpu1 := run_pure hr hE
                  have hpu2 := run_pure h hpu1.2.1
                  have e1 := hpu1.len
                  have e2 := hpu1.sz
                  have e3 := hpu2.len
                  have e4 := hpu2.sz
                  refine sim_call (ini := false) ih hmz hbz hG hpl hk h1 h2 hc hr had hx hb hml hown hts (by omega) (by omega) hJ (by omega) (by omega) hd (fun H1 locs1 hJ1 => ?_)
                  exact ih (d' + 1) y (pc + 3) ls _ M1 r M' h mt b hmt hT p e R s m args below meth c H1 locs1 _ _ Q lsr C0 S0 hx hb hml hown hts hini h0 hRf hRl hl hn hJ1 (by omega) (by omega) hbC hbS hret
                · cases h
              · rw [@if_neg _ cnd.2 hc] at h
                cases h
            · cases h
      · rename_i hz
        split at h
        · rename_i cnd r1 hr
          by_cases hc : cnd.1
          · rw [@if_pos _ cnd.2 hc] at h
            cases h
            obtain ⟨rfl, hl1⟩ := tr_ret ht hr
            obtain rfl : len = 1 := by
              rcases hlen with h9 | h9
              · rw [hl1] at h9; cases h9
              · rw [hl1] at h9; exact h9
            exact hret H locs cells slots pc lsr _ st cnd hJ hC hS hd hr hc
          · rw [@if_neg _ cnd.2 hc] at h
            cases h
        · rename_i hr
          have go : ∀ (t : SS), run n d y t.1 t.2.1 t.2.2.1 t.2.2.2 = some (r, M') → ∀ (H1 : Heap) (locs1 : List Loc) (cells1 slots1 : Nat) (ls1 : Array Slot), Jv D cs base ad s H1 locs1 t.2.2.2 → LH ad ls1 t.2.1 → nodb t.2.1 → C0 + cells1 = t.2.2.2.1.length → S0 + slots1 = nS t.2.2.2 → t.2.1.length = ls.length → W p l e R s m args below meth c H1 locs1 cells1 slots1 Q (F0 m t.1 ls1 (t.2.2.1.map (mpv ad))) := by
            intro t hrt H1 locs1 cells1 slots1 ls1 hJ1 hl1 hn1 hC1 hS1 hlen1
            exact ih d y t.1 t.2.1 t.2.2.1 t.2.2.2 r M' hrt mt b hmt hT p e R s m args below meth c H1 locs1 cells1 slots1 Q ls1 C0 S0 hx hb (by rw [hml, hl1.1, hl.1, hlen1]) hown hts hini h0 hRf hRl hl1 hn1 hJ1 hC1 hS1 hbC hbS hret
          cases hA : stpA ins (pc + len) ls st M with
          | some r0 =>
            have hstp : stp FT ins (pc + len) ls st M = some r0 := by unfold stp; rw [hA]
            rw [hstp] at h
            have hkeep := stpA_keep hA
            have hlens := stpA_len hA
            refine simA hx hb hown hts hd hlen ht hA hl hn ?_
            match r0, h, hkeep, hlens with
            | .inl t, h, hkeep, hlens =>
              intro ls1 hl1 hn1
              have hM : t.2.2.2 = M := hkeep
              exact go t h H locs cells slots ls1 (by rw [hM]; exact hJ) hl1 hn1 (by rw [hM]; exact hC) (by rw [hM]; exact hS) hlens
            | .inr (.inl (cnd, t, t2)), h, hkeep, hlens =>
              have h : @ite _ cnd.1 cnd.2 (run n d y t.1 t.2.1 t.2.2.1 t.2.2.2) (run n d y t2.1 t2.2.1 t2.2.2.1 t2.2.2.2) = some (r, M') := h
              constructor
              · intro hc ls1 hl1 hn1
                rw [@if_pos _ cnd.2 hc] at h
                have hM : t.2.2.2 = M := hkeep.1
                exact go t h H locs cells slots ls1 (by rw [hM]; exact hJ) hl1 hn1 (by rw [hM]; exact hC) (by rw [hM]; exact hS) hlens.1
              · intro hc ls1 hl1 hn1
                rw [@if_neg _ cnd.2 hc] at h
                have hM : t2.2.2.2 = M := hkeep.2
                exact go t2 h H locs cells slots ls1 (by rw [hM]; exact hJ) hl1 hn1 (by rw [hM]; exact hC) (by rw [hM]; exact hS) hlens.2
            | .inr (.inr (cnd, t)), h, hkeep, hlens =>
              have h : @ite _ cnd.1 cnd.2 (run n d y t.1 t.2.1 t.2.2.1 t.2.2.2) none = some (r, M') := h
              by_cases hc : cnd.1
              · refine ⟨hc, fun ls1 hl1 hn1 => ?_⟩
                rw [@if_pos _ cnd.2 hc] at h
                have hM : t.2.2.2 = M := hkeep hc
                exact go t h H locs cells slots ls1 (by rw [hM]; exact hJ) hl1 hn1 (by rw [hM]; exact hC) (by rw [hM]; exact hS) (hlens hc)
              · rw [@if_neg _ cnd.2 hc] at h
                cases h
          | none =>
            have hstp : stp FT ins (pc + len) ls st M = stpB FT ins (pc + len) ls st M := by unfold stp; rw [hA]
            rw [hstp] at h
            cases hB : stpB FT ins (pc + len) ls st M with
            | none => rw [hB] at h; cases h
            | some r0 =>
              rw [hB] at h
              have hpB := stpB_pure hE hB
              have hlens := stpB_len hB
              match r0, h, hpB, hlens, hB with
              | .inl t, h, hpB, hlens, hB =>
                have h : run n d y t.1 t.2.1 t.2.2.1 t.2.2.2 = some (r, M') := h
                have hp2 := run_pure h hpB.2.1
                refine simB hx hb hown hts hini had h0 (by omega) (by omega) hml hd hlen ht hB hl hn hJ hC hS ?_ ?_
                · intro t1 ht1
                  obtain rfl := List.mem_singleton.mp ht1
                  have e3 := hp2.len
                  have e4 := hp2.sz
                  exact ⟨by omega, by omega⟩
                · intro H1 locs1 cells1 slots1 ls1 hJ1 hl1 hn1 hC1 hS1
                  exact go t h H1 locs1 cells1 slots1 ls1 hJ1 hl1 hn1 hC1 hS1 hlens
              | .inr (.inl (cnd, t, t2)), h, hpB, hlens, hB => exact absurd hB (stpB_nb _ _ _)
              | .inr (.inr (cnd, t)), h, hpB, hlens, hB =>
                have h : @ite _ cnd.1 cnd.2 (run n d y t.1 t.2.1 t.2.2.1 t.2.2.2) none = some (r, M') := h
                by_cases hc : cnd.1
                · rw [@if_pos _ cnd.2 hc] at h
                  have hp1 : Pure M t.2.2.2 := hpB hc
                  have hp2 := run_pure h hp1.2.1
                  refine simB hx hb hown hts hini had h0 (by omega) (by omega) hml hd hlen ht hB hl hn hJ hC hS ?_ ⟨hc, ?_⟩
                  · intro t1 ht1
                    obtain rfl := List.mem_singleton.mp ht1
                    have e3 := hp2.len
                    have e4 := hp2.sz
                    exact ⟨by omega, by omega⟩
                  · intro H1 locs1 cells1 slots1 ls1 hJ1 hl1 hn1 hC1 hS1
                    exact go t h H1 locs1 cells1 slots1 ls1 hJ1 hl1 hn1 hC1 hS1 (hlens hc)
                · rw [@if_neg _ cnd.2 hc] at h
                  cases h
end SimF
