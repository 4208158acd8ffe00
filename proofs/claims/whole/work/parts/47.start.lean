/-! ===== the start ===== -/
theorem Ic_1 : ∀ k, k < 320 → Ic 2 k = 0 ∧ Ic 189 k = 0 := by decide +kernel
theorem Ic_2 : ∀ k, k < 60 → Ic 190 k = 0 := by decide +kernel
theorem Ic_3 : ∀ k, k < 51 → Ic 192 k = 0 := by decide +kernel
theorem Ic_4 : ∀ k, k < 14 → 7 < k → Ic 120 k = 0 := by decide +kernel
theorem Ic_5 : Ic 54 8 = 0 ∧ Ic 87 8 = 0 ∧ Ic 203 0 = 0 ∧ Ic 203 1 = 0 ∧ Ic 0 10 = 0 ∧ Ic 0 11 = 0 ∧ Ic 5 6 = 0 ∧ Ic 51 1 = 0 ∧ Ic 186 1 = 0 ∧ Ic 186 7 = 0 ∧ Ic 186 10 = 0 ∧ Ic 186 11 = 0 ∧ Ic 186 32 = 0 := by decide +kernel
theorem Ic_6 : ∀ s, s < 8 → Ic 4 s = -1 ∧ Ic 187 s = -1 := by decide +kernel
theorem bN_z {u : Nat} : bN 0 u = 0 := by unfold bN; simp
theorem rel0 {xs : Nat → Int32} : Rel xs (I0 xs) 120 153 := by
  have hE : EXT = 1048576 := rfl
  have e : ∀ a k, a < 207 → Ic a k = 0 → I0 xs a k = nI 0 := by
    intro a k ha h
    unfold I0
    rw [if_pos (by omega), h]
    rfl
  have z4 : ∀ s, s < 8 → I0 xs 4 s = -nI 1 ∧ I0 xs 187 s = -nI 1 := by
    intro s hs
    unfold I0
    rw [if_pos (by omega), if_pos (by omega), (Ic_6 s hs).1, (Ic_6 s hs).2]
    exact ⟨rfl, rfl⟩
  obtain ⟨c1, c2, c3, c4, c5, c6, c7, c8, c9, c10, c11, c12, c13⟩ := Ic_5
  have zL : ∀ k, k < 60 → I0 xs 190 k = nI 0 := fun k hk => e _ _ (by omega) (Ic_2 k hk)
  have zN : ∀ k, k < 51 → I0 xs 192 k = nI 0 := fun k hk => e _ _ (by omega) (Ic_3 k hk)
  have zA : ∀ k, k < 14 → 7 < k → I0 xs 120 k = nI 0 := fun k hk h7 => e _ _ (by omega) (Ic_4 k hk h7)
  have zI : ∀ k, k < 2 → I0 xs 203 k = nI 0 ∧ I0 xs (54 + 33 * k) 8 = nI 0 := by
    intro k hk
    rcases (show k = 0 ∨ k = 1 by omega) with rfl | rfl
    · exact ⟨e _ _ (by omega) c3, e _ _ (by omega) c1⟩
    · exact ⟨e _ _ (by omega) c4, e _ _ (by omega) c2⟩
  refine ⟨⟨Or.inl ⟨rfl, rfl⟩, ⟨fun j hj => ?_, fun s hs => Or.inl (z4 s hs)⟩, ⟨0, by omega, e _ _ (by omega) c7, e _ _ (by omega) c11, fun j hj => absurd hj (Nat.not_lt_zero j)⟩, ⟨0, by omega, e _ _ (by omega) c8, e _ _ (by omega) c13, fun j hj => absurd hj (Nat.not_lt_zero j)⟩, ?_, ?_, fun k hk => Or.inl (zI k hk), fun a ha => ?_⟩, ⟨fun _ _ => 0, fun _ _ => nI 0, ?_, ?_, ?_, ?_⟩⟩
  · rw [e 2 j (by omega) (Ic_1 j hj).1, e 189 j (by omega) (Ic_1 j hj).2]
  · rw [e 0 11 (by omega) c6, e 186 1 (by omega) c9]
  · rw [e 0 10 (by omega) c5, e 186 11 (by omega) c12]
  · unfold I0
    rw [if_neg (by omega)]
  · refine ⟨by simp, fun t ht => absurd ht (Nat.not_lt_zero t), fun t ht => ⟨by simp, by simp, fun _ => ⟨rfl, rfl⟩⟩, fun t _ w _ => ⟨by rw [bN_z, bN_z], by rw [bN_z, bN_z]⟩, fun t _ => ⟨bN_z, bN_z⟩, fun k hk => absurd hk (Nat.not_lt_zero k), fun k hk => absurd hk (Nat.not_lt_zero k)⟩
  · refine ⟨⟨?_, ?_, ?_, ?_, ?_, ?_⟩, fun t ht => absurd ht (Nat.not_lt_zero t), fun t ht => absurd ht (Nat.not_lt_zero t), fun t ht => absurd ht (Nat.not_lt_zero t), fun t ht => absurd ht (Nat.not_lt_zero t), fun t ht => absurd ht (Nat.not_lt_zero t), fun t ht => absurd ht (Nat.not_lt_zero t), fun t ht => absurd ht (Nat.not_lt_zero t), fun t ht => absurd ht (Nat.not_lt_zero t)⟩ <;> exact zA _ (by omega) (by omega)
  · refine ⟨⟨zL _ (by omega), zL _ (by omega), zL _ (by omega), zN _ (by omega), zN _ (by omega), zN _ (by omega)⟩, fun t ht => absurd ht (Nat.not_lt_zero t), fun t ht w hw => ?_, fun t ht w hw => ?_, fun t ht => absurd ht (Nat.not_lt_zero t), fun t ht => absurd ht (Nat.not_lt_zero t), fun t ht => absurd ht (Nat.not_lt_zero t), fun t ht => absurd ht (Nat.not_lt_zero t), fun t ht => absurd ht (Nat.not_lt_zero t), fun t ht => absurd ht (Nat.not_lt_zero t)⟩
    · rw [bN_z]; exact zL _ (by omega)
    · rw [bN_z]; exact zN _ (by omega)
  · rw [bi_f (by simp)]
    exact e _ _ (by omega) c10
theorem nS_SH {I : Nat → Nat → Int32} {R : Nat → Nat → Nat} : nS (SH, I, R) ≤ 7302250 := by
  show (SH.map fun q => if q.1 = 0 then nfs q.2 else q.2).sum ≤ 7302250
  decide +kernel
theorem lawEnds_of (hA : AllC) : LawEnds := by
  intro L xs hL
  refine law_init ?_
  refine law_loop hA hL (Q := fun r M' => r = some (.int 1) ∧ M'.1.length ≤ 600000 ∧ nS M' ≤ 7302250) (fun M hM => ?_) (L + 6) 0 _ (by omega) (by omega) ⟨_, _, _, _, _, rfl, rel0⟩
  obtain ⟨I, l, u, t, q, rfl, -⟩ := hM
  exact ⟨rfl, by show SH.length ≤ 600000; decide +kernel, nS_SH⟩
