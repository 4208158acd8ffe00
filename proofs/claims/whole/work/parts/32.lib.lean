/-! ===== the memory as both objects have been made: shapes, references ===== -/
def SH : List (Nat × Nat) := [(0, 9), (0, 7), (1, 320), (1, 8), (1, 8), (0, 6), (1, 500), (1, 6), (0, 3), (0, 4), (1, 6), (1, 24), (1, 6), (1, 6), (1, 12), (1, 12), (1, 12), (5, 24), (0, 1), (0, 1), (0, 1), (0, 1), (0, 1), (0, 1), (0, 1), (0, 1), (0, 1), 
  (0, 1), (0, 1), (0, 1), (0, 1), (0, 1), (0, 1), (0, 1), (0, 1), (0, 1), (0, 1), (0, 1), (0, 1), (0, 1), (0, 1), (0, 1), (0, 5), (1, 12), (2, 4096), (0, 8), (1, 6), (0, 2), (1, 36), (1, 6), (1, 6), (0, 0), (1, 16), (8, 2), (0, 4), 
  (1, 6), (1, 24), (1, 6), (1, 6), (1, 12), (1, 12), (1, 12), (5, 24), (0, 1), (0, 1), (0, 1), (0, 1), (0, 1), (0, 1), (0, 1), (0, 1), (0, 1), (0, 1), (0, 1), (0, 1), (0, 1), (0, 1), (0, 1), (0, 1), (0, 1), (0, 1), (0, 1), (0, 1), 
  (0, 1), (0, 1), (0, 1), (0, 1), (0, 4), (1, 6), (1, 24), (1, 6), (1, 6), (1, 12), (1, 12), (1, 12), (5, 24), (0, 1), (0, 1), (0, 1), (0, 1), (0, 1), (0, 1), (0, 1), (0, 1), (0, 1), (0, 1), (0, 1), (0, 1), (0, 1), (0, 1), (0, 1), 
  (0, 1), (0, 1), (0, 1), (0, 1), (0, 1), (0, 1), (0, 1), (0, 1), (0, 1), (0, 4), (1, 6), (1, 24), (1, 6), (1, 6), (1, 12), (1, 12), (1, 12), (5, 24), (0, 1), (0, 1), (0, 1), (0, 1), (0, 1), (0, 1), (0, 1), (0, 1), (0, 1), (0, 1), 
  (0, 1), (0, 1), (0, 1), (0, 1), (0, 1), (0, 1), (0, 1), (0, 1), (0, 1), (0, 1), (0, 1), (0, 1), (0, 1), (0, 1), (0, 4), (1, 6), (1, 24), (1, 6), (1, 6), (1, 12), (1, 12), (1, 12), (5, 24), (0, 1), (0, 1), (0, 1), (0, 1), (0, 1), 
  (0, 1), (0, 1), (0, 1), (0, 1), (0, 1), (0, 1), (0, 1), (0, 1), (0, 1), (0, 1), (0, 1), (0, 1), (0, 1), (0, 1), (0, 1), (0, 1), (0, 1), (0, 1), (0, 1), (0, 10), (1, 8), (1, 8), (1, 320), (1, 132), (1, 132), (1, 411), (1, 500), 
  (1, 411), (1, 24), (1, 4096), (1, 4096), (1, 7), (1, 7), (1, 6), (1, 36), (1, 6), (3, 2), (1, 264), (1, 822), (1, 16)]
def RBL : List (List Nat) := [[2, 6, 9, 43, 46, 48, 52, 54, 121, 154], [3, 4, 5], [], [], [], [7, 8], [], [], [10], [11, 12, 13, 14, 15, 16, 17, 18], [], [], [], [], [], [], [], 
  [19, 20, 21, 22, 23, 24, 25, 26, 27, 28, 29, 30, 31, 32, 33, 34, 35, 36, 37, 38, 39, 40, 41, 42], [], [], [], [], [], [], [], [], [], [], [], [], [], [], [], [], [], [], [], [], [], [], [], [], [44, 45], [], [], [47], [], 
  [49, 50, 51], [], [], [], [53], [], [55, 88], [56, 57, 58, 59, 60, 61, 62, 63], [], [], [], [], [], [], [], [64, 65, 66, 67, 68, 69, 70, 71, 72, 73, 74, 75, 76, 77, 78, 79, 80, 81, 82, 83, 84, 85, 86, 87], [], [], [], [], [], [], 
  [], [], [], [], [], [], [], [], [], [], [], [], [], [], [], [], [], [], [89, 90, 91, 92, 93, 94, 95, 96], [], [], [], [], [], [], [], 
  [97, 98, 99, 100, 101, 102, 103, 104, 105, 106, 107, 108, 109, 110, 111, 112, 113, 114, 115, 116, 117, 118, 119, 120], [], [], [], [], [], [], [], [], [], [], [], [], [], [], [], [], [], [], [], [], [], [], [], [], 
  [122, 123, 124, 125, 126, 127, 128, 129], [], [], [], [], [], [], [], [130, 131, 132, 133, 134, 135, 136, 137, 138, 139, 140, 141, 142, 143, 144, 145, 146, 147, 148, 149, 150, 151, 152, 153], [], [], [], [], [], [], [], [], [], [], 
  [], [], [], [], [], [], [], [], [], [], [], [], [], [], [155, 156, 157, 158, 159, 160, 161, 162], [], [], [], [], [], [], [], 
  [163, 164, 165, 166, 167, 168, 169, 170, 171, 172, 173, 174, 175, 176, 177, 178, 179, 180, 181, 182, 183, 184, 185, 186], [], [], [], [], [], [], [], [], [], [], [], [], [], [], [], [], [], [], [], [], [], [], [], [], 
  [0, 0, 188, 189, 190, 191, 192, 0, 193, 194, 0, 0, 0, 0, 0, 0, 0, 0, 0, 195, 196, 197, 198, 199, 200, 201, 202, 203, 204, 205, 206, 207], [], [], [], [], [], [], [], [], [], [], [], [], [], [], [], [], [], [], [], []]
/-- both objects, made in an empty memory -/
def E0 : LM := ([], fun _ _ => 0, fun _ _ => 0)
def memOf (o : Option (Option Value × LM)) : LM := match o with
  | some q => q.2
  | none => E0
def iniX : Option (Option Value × LM) := runH 3000 29 k_X9_init 0 [.ref 0, .null] [] (pN E0 (0, 9))
def iniM : Option (Option Value × LM) := runH 3000 29 k_X10_init 0 [.ref 186] [] (pN (memOf iniX) (0, 10))
def Rc : Nat → Nat → Nat := (memOf iniM).2.2
def Ic : Nat → Nat → Int32 := (memOf iniM).2.1
theorem iniX_ok : (iniX.map (fun q => (q.1, q.2.1))) = some (none, SH.take 186) := by decide +kernel
theorem iniM_ok : (iniM.map (fun q => (q.1, q.2.1))) = some (none, SH) := by decide +kernel
theorem Rc_tab : ∀ a, a < 207 → ∀ k, k < (RBL.getD a []).length → Rc a k = (RBL.getD a []).getD k 0 := by decide +kernel
theorem Rc_0 : Rc 0 8 = 121 ∧ Rc 0 9 = 154 ∧ Rc 5 2 = 0 ∧ Rc 51 2 = 0 := by decide +kernel
def RB (l u t q L : Nat) (a k : Nat) : Nat := if a = 0 ∧ k = 8 then l + 1 else if a = 0 ∧ k = 9 then u + 1 else if a = 5 ∧ k = 2 then t else if a = 51 ∧ k = 2 then q else if a < EXT then Rc a k else extR L a k
theorem RB_tab {l u t q L a k : Nat} (ha : a < 207) (hk : k < (RBL.getD a []).length) (h1 : ¬ (a = 0 ∧ k = 8)) (h2 : ¬ (a = 0 ∧ k = 9)) (h3 : ¬ (a = 5 ∧ k = 2)) (h4 : ¬ (a = 51 ∧ k = 2)) : RB l u t q L a k = (RBL.getD a []).getD k 0 := by
  unfold RB
  rw [if_neg h1, if_neg h2, if_neg h3, if_neg h4, if_pos (show a < EXT from Nat.lt_of_lt_of_le ha (by decide))]
  exact Rc_tab a ha k hk
def uI (I : Nat → Nat → Int32) (a k : Nat) (v : Int32) : Nat → Nat → Int32 := va_up I a (upd (I a) k v)
def uR (R : Nat → Nat → Nat) (a k v : Nat) : Nat → Nat → Nat := va_up R a (va_up (R a) k v)
theorem gI_mk {S : List (Nat × Nat)} {I : Nat → Nat → Int32} {R : Nat → Nat → Nat} {a k : Nat} : gI (S, I, R) a k = I a k := rfl
theorem gR_mk {S : List (Nat × Nat)} {I : Nat → Nat → Int32} {R : Nat → Nat → Nat} {a k : Nat} : gR (S, I, R) a k = R a k := rfl
theorem pI_mk {S : List (Nat × Nat)} {I : Nat → Nat → Int32} {R : Nat → Nat → Nat} {a k : Nat} {v : Int32} : pI (S, I, R) a k v = (S, uI I a k v, R) := rfl
theorem pR_mk {S : List (Nat × Nat)} {I : Nat → Nat → Int32} {R : Nat → Nat → Nat} {a k v : Nat} : pR (S, I, R) a k v = (S, I, uR R a k v) := rfl
theorem pC_mk {S : List (Nat × Nat)} {I : Nat → Nat → Int32} {R : Nat → Nat → Nat} {a : Nat} {f : Nat → Int32} : pC (S, I, R) a f = (S, va_up I a f, R) := rfl
theorem uI_same {I : Nat → Nat → Int32} {a k : Nat} {v : Int32} : uI I a k v a k = v := by simp [uI, va_up, upd]
theorem uI_off {I : Nat → Nat → Int32} {a k b : Nat} {v : Int32} (h : b ≠ a) : uI I a k v b = I b := by simp [uI, va_up, h]
theorem uI_row {I : Nat → Nat → Int32} {a k j : Nat} {v : Int32} (h : j ≠ k) : uI I a k v a j = I a j := by simp [uI, va_up, upd, h]
theorem uI_at {I : Nat → Nat → Int32} {a k b j : Nat} {v : Int32} : uI I a k v b j = if b = a ∧ j = k then v else I b j := by
  by_cases h : b = a
  · subst h
    by_cases h2 : j = k
    · subst h2; simp [uI_same]
    · rw [uI_row h2]; simp [h2]
  · rw [uI_off h]; simp [h]
theorem uR_land {l u t q L w : Nat} : uR (RB l u t q L) 0 8 (w + 1) = RB w u t q L := by
  funext a k
  unfold uR va_up RB
  by_cases h : a = 0
  · subst h
    by_cases h2 : k = 8
    · simp [h2]
    · simp [h2]
  · simp [h]
theorem uR_unread {l u t q L w : Nat} : uR (RB l u t q L) 0 9 (w + 1) = RB l w t q L := by
  funext a k
  unfold uR va_up RB
  by_cases h : a = 0
  · subst h
    by_cases h2 : k = 9
    · simp [h2]
    · simp [h2]
  · simp [h]
theorem uR_into {l u t q L w : Nat} : uR (RB l u t q L) 5 2 w = RB l u w q L := by
  funext a k
  unfold uR va_up RB
  by_cases h : a = 5
  · subst h
    by_cases h2 : k = 2
    · simp [h2]
    · simp [h2]
  · simp [h]
theorem uR_asked {l u t q L w : Nat} : uR (RB l u t q L) 51 2 w = RB l u t w L := by
  funext a k
  unfold uR va_up RB
  by_cases h : a = 51
  · subst h
    by_cases h2 : k = 2
    · simp [h2]
    · simp [h2]
  · simp [h]
theorem rb_into {l u t q L : Nat} : RB l u t q L 5 2 = t := rfl
theorem rb_asked {l u t q L : Nat} : RB l u t q L 51 2 = q := rfl
/-- the land that is grown -/
def aF : Nat := 9
/-- where lands are -/
def IL (a : Nat) : Prop := a = 9 ∨ a = 54 ∨ a = 87 ∨ a = 120 ∨ a = 153
theorem IL.lt {a : Nat} (h : IL a) : a < 154 ∧ 9 ≤ a := by
  unfold IL at h
  omega
theorem sh_l {a : Nat} (h : IL a) : SH[a]? = some (0, 4) := by rcases h with rfl | rfl | rfl | rfl | rfl <;> rfl
theorem sh_c {a c : Nat} (h : IL a) (hc : c < 24) : SH[a + 9 + c]? = some (0, 1) := by
  have key : ∀ c, c < 24 → SH[9 + 9 + c]? = some (0, 1) ∧ SH[54 + 9 + c]? = some (0, 1) ∧ SH[87 + 9 + c]? = some (0, 1) ∧ SH[120 + 9 + c]? = some (0, 1) ∧ SH[153 + 9 + c]? = some (0, 1) := by decide +kernel
  obtain ⟨k1, k2, k3, k4, k5⟩ := key c hc
  rcases h with rfl | rfl | rfl | rfl | rfl <;> assumption
theorem rb_l {l u t q L a k : Nat} (h : IL a) (hk : k < 8) : RB l u t q L a k = a + 1 + k + 1 := by
  have key : ∀ k, k < 8 → ((RBL.getD 9 []).getD k 0 = 9 + 1 + k + 1 ∧ (RBL.getD 54 []).getD k 0 = 54 + 1 + k + 1 ∧ (RBL.getD 87 []).getD k 0 = 87 + 1 + k + 1 ∧ (RBL.getD 120 []).getD k 0 = 120 + 1 + k + 1 ∧ (RBL.getD 153 []).getD k 0 = 153 + 1 + k + 1) ∧ k < (RBL.getD 9 []).length ∧ k < (RBL.getD 54 []).length ∧ k < (RBL.getD 87 []).length ∧ k < (RBL.getD 120 []).length ∧ k < (RBL.getD 153 []).length := by decide +kernel
  obtain ⟨⟨k1, k2, k3, k4, k5⟩, l1, l2, l3, l4, l5⟩ := key k hk
  rcases h with rfl | rfl | rfl | rfl | rfl
  · rw [RB_tab (by decide) l1 (by omega) (by omega) (by omega) (by omega), k1]
  · rw [RB_tab (by decide) l2 (by omega) (by omega) (by omega) (by omega), k2]
  · rw [RB_tab (by decide) l3 (by omega) (by omega) (by omega) (by omega), k3]
  · rw [RB_tab (by decide) l4 (by omega) (by omega) (by omega) (by omega), k4]
  · rw [RB_tab (by decide) l5 (by omega) (by omega) (by omega) (by omega), k5]
theorem rb_l0 {l u t q L a : Nat} (h : IL a) : RB l u t q L a 0 = a + 1 + 1 := rb_l h (by decide)
theorem rb_l1 {l u t q L a : Nat} (h : IL a) : RB l u t q L a 1 = a + 2 + 1 := rb_l h (by decide)
theorem rb_l2 {l u t q L a : Nat} (h : IL a) : RB l u t q L a 2 = a + 3 + 1 := rb_l h (by decide)
theorem rb_l3 {l u t q L a : Nat} (h : IL a) : RB l u t q L a 3 = a + 4 + 1 := rb_l h (by decide)
theorem rb_l4 {l u t q L a : Nat} (h : IL a) : RB l u t q L a 4 = a + 5 + 1 := rb_l h (by decide)
theorem rb_l5 {l u t q L a : Nat} (h : IL a) : RB l u t q L a 5 = a + 6 + 1 := rb_l h (by decide)
theorem rb_l6 {l u t q L a : Nat} (h : IL a) : RB l u t q L a 6 = a + 7 + 1 := rb_l h (by decide)
theorem rb_l7 {l u t q L a : Nat} (h : IL a) : RB l u t q L a 7 = a + 8 + 1 := rb_l h (by decide)
theorem rb_c {l u t q L a c : Nat} (h : IL a) (hc : c < 24) : RB l u t q L (a + 8) c = a + 9 + c + 1 := by
  have key : ∀ c, c < 24 → ((RBL.getD (9 + 8) []).getD c 0 = 9 + 9 + c + 1 ∧ (RBL.getD (54 + 8) []).getD c 0 = 54 + 9 + c + 1 ∧ (RBL.getD (87 + 8) []).getD c 0 = 87 + 9 + c + 1 ∧ (RBL.getD (120 + 8) []).getD c 0 = 120 + 9 + c + 1 ∧ (RBL.getD (153 + 8) []).getD c 0 = 153 + 9 + c + 1) ∧ c < (RBL.getD (9 + 8) []).length ∧ c < (RBL.getD (54 + 8) []).length ∧ c < (RBL.getD (87 + 8) []).length ∧ c < (RBL.getD (120 + 8) []).length ∧ c < (RBL.getD (153 + 8) []).length := by decide +kernel
  obtain ⟨⟨k1, k2, k3, k4, k5⟩, l1, l2, l3, l4, l5⟩ := key c hc
  rcases h with rfl | rfl | rfl | rfl | rfl
  · rw [RB_tab (by decide) l1 (by omega) (by omega) (by omega) (by omega), k1]
  · rw [RB_tab (by decide) l2 (by omega) (by omega) (by omega) (by omega), k2]
  · rw [RB_tab (by decide) l3 (by omega) (by omega) (by omega) (by omega), k3]
  · rw [RB_tab (by decide) l4 (by omega) (by omega) (by omega) (by omega), k4]
  · rw [RB_tab (by decide) l5 (by omega) (by omega) (by omega) (by omega), k5]
section LandRows
variable {I : Nat → Nat → Int32} {R : Nat → Nat → Nat} {a : Nat}
theorem xt_l1 (h : IL a) : xtg (SH, I, R) (a + 1) = 1 := by rcases h with rfl | rfl | rfl | rfl | rfl <;> rfl
theorem xt_l2 (h : IL a) : xtg (SH, I, R) (a + 2) = 1 := by rcases h with rfl | rfl | rfl | rfl | rfl <;> rfl
theorem xt_l3 (h : IL a) : xtg (SH, I, R) (a + 3) = 1 := by rcases h with rfl | rfl | rfl | rfl | rfl <;> rfl
theorem xt_l4 (h : IL a) : xtg (SH, I, R) (a + 4) = 1 := by rcases h with rfl | rfl | rfl | rfl | rfl <;> rfl
theorem xt_l5 (h : IL a) : xtg (SH, I, R) (a + 5) = 1 := by rcases h with rfl | rfl | rfl | rfl | rfl <;> rfl
theorem xt_l6 (h : IL a) : xtg (SH, I, R) (a + 6) = 1 := by rcases h with rfl | rfl | rfl | rfl | rfl <;> rfl
theorem xt_l7 (h : IL a) : xtg (SH, I, R) (a + 7) = 1 := by rcases h with rfl | rfl | rfl | rfl | rfl <;> rfl
theorem xl_l1 (h : IL a) : xln (SH, I, R) (a + 1) = 6 := by rcases h with rfl | rfl | rfl | rfl | rfl <;> rfl
theorem xl_l2 (h : IL a) : xln (SH, I, R) (a + 2) = 24 := by rcases h with rfl | rfl | rfl | rfl | rfl <;> rfl
theorem xl_l3 (h : IL a) : xln (SH, I, R) (a + 3) = 6 := by rcases h with rfl | rfl | rfl | rfl | rfl <;> rfl
theorem xl_l4 (h : IL a) : xln (SH, I, R) (a + 4) = 6 := by rcases h with rfl | rfl | rfl | rfl | rfl <;> rfl
theorem xl_l5 (h : IL a) : xln (SH, I, R) (a + 5) = 12 := by rcases h with rfl | rfl | rfl | rfl | rfl <;> rfl
theorem xl_l6 (h : IL a) : xln (SH, I, R) (a + 6) = 12 := by rcases h with rfl | rfl | rfl | rfl | rfl <;> rfl
theorem xl_l7 (h : IL a) : xln (SH, I, R) (a + 7) = 12 := by rcases h with rfl | rfl | rfl | rfl | rfl <;> rfl
theorem tg_l1 (h : IL a) : tg (SH, I, R) (a + 1) = 1 := by rcases h with rfl | rfl | rfl | rfl | rfl <;> rfl
theorem tg_l2 (h : IL a) : tg (SH, I, R) (a + 2) = 1 := by rcases h with rfl | rfl | rfl | rfl | rfl <;> rfl
theorem tg_l3 (h : IL a) : tg (SH, I, R) (a + 3) = 1 := by rcases h with rfl | rfl | rfl | rfl | rfl <;> rfl
theorem tg_l4 (h : IL a) : tg (SH, I, R) (a + 4) = 1 := by rcases h with rfl | rfl | rfl | rfl | rfl <;> rfl
theorem tg_l5 (h : IL a) : tg (SH, I, R) (a + 5) = 1 := by rcases h with rfl | rfl | rfl | rfl | rfl <;> rfl
theorem tg_l6 (h : IL a) : tg (SH, I, R) (a + 6) = 1 := by rcases h with rfl | rfl | rfl | rfl | rfl <;> rfl
theorem tg_l7 (h : IL a) : tg (SH, I, R) (a + 7) = 1 := by rcases h with rfl | rfl | rfl | rfl | rfl <;> rfl
theorem ln_l1 (h : IL a) : ln (SH, I, R) (a + 1) = 6 := by rcases h with rfl | rfl | rfl | rfl | rfl <;> rfl
theorem ln_l2 (h : IL a) : ln (SH, I, R) (a + 2) = 24 := by rcases h with rfl | rfl | rfl | rfl | rfl <;> rfl
theorem ln_l3 (h : IL a) : ln (SH, I, R) (a + 3) = 6 := by rcases h with rfl | rfl | rfl | rfl | rfl <;> rfl
theorem ln_l4 (h : IL a) : ln (SH, I, R) (a + 4) = 6 := by rcases h with rfl | rfl | rfl | rfl | rfl <;> rfl
theorem ln_l5 (h : IL a) : ln (SH, I, R) (a + 5) = 12 := by rcases h with rfl | rfl | rfl | rfl | rfl <;> rfl
theorem ln_l6 (h : IL a) : ln (SH, I, R) (a + 6) = 12 := by rcases h with rfl | rfl | rfl | rfl | rfl <;> rfl
theorem ln_l7 (h : IL a) : ln (SH, I, R) (a + 7) = 12 := by rcases h with rfl | rfl | rfl | rfl | rfl <;> rfl
theorem tg_l8 (h : IL a) : tg (SH, I, R) (a + 8) = 5 := by rcases h with rfl | rfl | rfl | rfl | rfl <;> rfl
theorem ln_l8 (h : IL a) : ln (SH, I, R) (a + 8) = 24 := by rcases h with rfl | rfl | rfl | rfl | rfl <;> rfl
end LandRows

theorem sh_0 : SH[0]? = some (0, 9) := rfl
theorem sh_1 : SH[1]? = some (0, 7) := rfl
theorem tg_2 {I : Nat → Nat → Int32} {R : Nat → Nat → Nat} : tg (SH, I, R) 2 = 1 := rfl
theorem ln_2 {I : Nat → Nat → Int32} {R : Nat → Nat → Nat} : ln (SH, I, R) 2 = 320 := rfl
theorem xt_2 {I : Nat → Nat → Int32} {R : Nat → Nat → Nat} : xtg (SH, I, R) 2 = 1 := rfl
theorem xl_2 {I : Nat → Nat → Int32} {R : Nat → Nat → Nat} : xln (SH, I, R) 2 = 320 := rfl
theorem tg_3 {I : Nat → Nat → Int32} {R : Nat → Nat → Nat} : tg (SH, I, R) 3 = 1 := rfl
theorem ln_3 {I : Nat → Nat → Int32} {R : Nat → Nat → Nat} : ln (SH, I, R) 3 = 8 := rfl
theorem xt_3 {I : Nat → Nat → Int32} {R : Nat → Nat → Nat} : xtg (SH, I, R) 3 = 1 := rfl
theorem xl_3 {I : Nat → Nat → Int32} {R : Nat → Nat → Nat} : xln (SH, I, R) 3 = 8 := rfl
theorem tg_4 {I : Nat → Nat → Int32} {R : Nat → Nat → Nat} : tg (SH, I, R) 4 = 1 := rfl
theorem ln_4 {I : Nat → Nat → Int32} {R : Nat → Nat → Nat} : ln (SH, I, R) 4 = 8 := rfl
theorem xt_4 {I : Nat → Nat → Int32} {R : Nat → Nat → Nat} : xtg (SH, I, R) 4 = 1 := rfl
theorem xl_4 {I : Nat → Nat → Int32} {R : Nat → Nat → Nat} : xln (SH, I, R) 4 = 8 := rfl
theorem sh_5 : SH[5]? = some (0, 6) := rfl
theorem tg_6 {I : Nat → Nat → Int32} {R : Nat → Nat → Nat} : tg (SH, I, R) 6 = 1 := rfl
theorem ln_6 {I : Nat → Nat → Int32} {R : Nat → Nat → Nat} : ln (SH, I, R) 6 = 500 := rfl
theorem xt_6 {I : Nat → Nat → Int32} {R : Nat → Nat → Nat} : xtg (SH, I, R) 6 = 1 := rfl
theorem xl_6 {I : Nat → Nat → Int32} {R : Nat → Nat → Nat} : xln (SH, I, R) 6 = 500 := rfl
theorem tg_7 {I : Nat → Nat → Int32} {R : Nat → Nat → Nat} : tg (SH, I, R) 7 = 1 := rfl
theorem ln_7 {I : Nat → Nat → Int32} {R : Nat → Nat → Nat} : ln (SH, I, R) 7 = 6 := rfl
theorem xt_7 {I : Nat → Nat → Int32} {R : Nat → Nat → Nat} : xtg (SH, I, R) 7 = 1 := rfl
theorem xl_7 {I : Nat → Nat → Int32} {R : Nat → Nat → Nat} : xln (SH, I, R) 7 = 6 := rfl
theorem sh_8 : SH[8]? = some (0, 3) := rfl
theorem sh_42 : SH[42]? = some (0, 5) := rfl
theorem tg_43 {I : Nat → Nat → Int32} {R : Nat → Nat → Nat} : tg (SH, I, R) 43 = 1 := rfl
theorem ln_43 {I : Nat → Nat → Int32} {R : Nat → Nat → Nat} : ln (SH, I, R) 43 = 12 := rfl
theorem xt_43 {I : Nat → Nat → Int32} {R : Nat → Nat → Nat} : xtg (SH, I, R) 43 = 1 := rfl
theorem xl_43 {I : Nat → Nat → Int32} {R : Nat → Nat → Nat} : xln (SH, I, R) 43 = 12 := rfl
theorem tg_44 {I : Nat → Nat → Int32} {R : Nat → Nat → Nat} : tg (SH, I, R) 44 = 2 := rfl
theorem ln_44 {I : Nat → Nat → Int32} {R : Nat → Nat → Nat} : ln (SH, I, R) 44 = 4096 := rfl
theorem xt_44 {I : Nat → Nat → Int32} {R : Nat → Nat → Nat} : xtg (SH, I, R) 44 = 2 := rfl
theorem xl_44 {I : Nat → Nat → Int32} {R : Nat → Nat → Nat} : xln (SH, I, R) 44 = 4096 := rfl
theorem sh_45 : SH[45]? = some (0, 8) := rfl
theorem tg_46 {I : Nat → Nat → Int32} {R : Nat → Nat → Nat} : tg (SH, I, R) 46 = 1 := rfl
theorem ln_46 {I : Nat → Nat → Int32} {R : Nat → Nat → Nat} : ln (SH, I, R) 46 = 6 := rfl
theorem xt_46 {I : Nat → Nat → Int32} {R : Nat → Nat → Nat} : xtg (SH, I, R) 46 = 1 := rfl
theorem xl_46 {I : Nat → Nat → Int32} {R : Nat → Nat → Nat} : xln (SH, I, R) 46 = 6 := rfl
theorem sh_47 : SH[47]? = some (0, 2) := rfl
theorem tg_48 {I : Nat → Nat → Int32} {R : Nat → Nat → Nat} : tg (SH, I, R) 48 = 1 := rfl
theorem ln_48 {I : Nat → Nat → Int32} {R : Nat → Nat → Nat} : ln (SH, I, R) 48 = 36 := rfl
theorem xt_48 {I : Nat → Nat → Int32} {R : Nat → Nat → Nat} : xtg (SH, I, R) 48 = 1 := rfl
theorem xl_48 {I : Nat → Nat → Int32} {R : Nat → Nat → Nat} : xln (SH, I, R) 48 = 36 := rfl
theorem tg_49 {I : Nat → Nat → Int32} {R : Nat → Nat → Nat} : tg (SH, I, R) 49 = 1 := rfl
theorem ln_49 {I : Nat → Nat → Int32} {R : Nat → Nat → Nat} : ln (SH, I, R) 49 = 6 := rfl
theorem xt_49 {I : Nat → Nat → Int32} {R : Nat → Nat → Nat} : xtg (SH, I, R) 49 = 1 := rfl
theorem xl_49 {I : Nat → Nat → Int32} {R : Nat → Nat → Nat} : xln (SH, I, R) 49 = 6 := rfl
theorem tg_50 {I : Nat → Nat → Int32} {R : Nat → Nat → Nat} : tg (SH, I, R) 50 = 1 := rfl
theorem ln_50 {I : Nat → Nat → Int32} {R : Nat → Nat → Nat} : ln (SH, I, R) 50 = 6 := rfl
theorem xt_50 {I : Nat → Nat → Int32} {R : Nat → Nat → Nat} : xtg (SH, I, R) 50 = 1 := rfl
theorem xl_50 {I : Nat → Nat → Int32} {R : Nat → Nat → Nat} : xln (SH, I, R) 50 = 6 := rfl
theorem sh_51 : SH[51]? = some (0, 0) := rfl
theorem tg_52 {I : Nat → Nat → Int32} {R : Nat → Nat → Nat} : tg (SH, I, R) 52 = 1 := rfl
theorem ln_52 {I : Nat → Nat → Int32} {R : Nat → Nat → Nat} : ln (SH, I, R) 52 = 16 := rfl
theorem xt_52 {I : Nat → Nat → Int32} {R : Nat → Nat → Nat} : xtg (SH, I, R) 52 = 1 := rfl
theorem xl_52 {I : Nat → Nat → Int32} {R : Nat → Nat → Nat} : xln (SH, I, R) 52 = 16 := rfl
theorem tg_53 {I : Nat → Nat → Int32} {R : Nat → Nat → Nat} : tg (SH, I, R) 53 = 8 := rfl
theorem ln_53 {I : Nat → Nat → Int32} {R : Nat → Nat → Nat} : ln (SH, I, R) 53 = 2 := rfl
theorem xt_53 {I : Nat → Nat → Int32} {R : Nat → Nat → Nat} : xtg (SH, I, R) 53 = 8 := rfl
theorem xl_53 {I : Nat → Nat → Int32} {R : Nat → Nat → Nat} : xln (SH, I, R) 53 = 2 := rfl
theorem sh_186 : SH[186]? = some (0, 10) := rfl
theorem tg_187 {I : Nat → Nat → Int32} {R : Nat → Nat → Nat} : tg (SH, I, R) 187 = 1 := rfl
theorem ln_187 {I : Nat → Nat → Int32} {R : Nat → Nat → Nat} : ln (SH, I, R) 187 = 8 := rfl
theorem xt_187 {I : Nat → Nat → Int32} {R : Nat → Nat → Nat} : xtg (SH, I, R) 187 = 1 := rfl
theorem xl_187 {I : Nat → Nat → Int32} {R : Nat → Nat → Nat} : xln (SH, I, R) 187 = 8 := rfl
theorem tg_188 {I : Nat → Nat → Int32} {R : Nat → Nat → Nat} : tg (SH, I, R) 188 = 1 := rfl
theorem ln_188 {I : Nat → Nat → Int32} {R : Nat → Nat → Nat} : ln (SH, I, R) 188 = 8 := rfl
theorem xt_188 {I : Nat → Nat → Int32} {R : Nat → Nat → Nat} : xtg (SH, I, R) 188 = 1 := rfl
theorem xl_188 {I : Nat → Nat → Int32} {R : Nat → Nat → Nat} : xln (SH, I, R) 188 = 8 := rfl
theorem tg_189 {I : Nat → Nat → Int32} {R : Nat → Nat → Nat} : tg (SH, I, R) 189 = 1 := rfl
theorem ln_189 {I : Nat → Nat → Int32} {R : Nat → Nat → Nat} : ln (SH, I, R) 189 = 320 := rfl
theorem xt_189 {I : Nat → Nat → Int32} {R : Nat → Nat → Nat} : xtg (SH, I, R) 189 = 1 := rfl
theorem xl_189 {I : Nat → Nat → Int32} {R : Nat → Nat → Nat} : xln (SH, I, R) 189 = 320 := rfl
theorem tg_190 {I : Nat → Nat → Int32} {R : Nat → Nat → Nat} : tg (SH, I, R) 190 = 1 := rfl
theorem ln_190 {I : Nat → Nat → Int32} {R : Nat → Nat → Nat} : ln (SH, I, R) 190 = 132 := rfl
theorem xt_190 {I : Nat → Nat → Int32} {R : Nat → Nat → Nat} : xtg (SH, I, R) 190 = 1 := rfl
theorem xl_190 {I : Nat → Nat → Int32} {R : Nat → Nat → Nat} : xln (SH, I, R) 190 = 132 := rfl
theorem tg_191 {I : Nat → Nat → Int32} {R : Nat → Nat → Nat} : tg (SH, I, R) 191 = 1 := rfl
theorem ln_191 {I : Nat → Nat → Int32} {R : Nat → Nat → Nat} : ln (SH, I, R) 191 = 132 := rfl
theorem xt_191 {I : Nat → Nat → Int32} {R : Nat → Nat → Nat} : xtg (SH, I, R) 191 = 1 := rfl
theorem xl_191 {I : Nat → Nat → Int32} {R : Nat → Nat → Nat} : xln (SH, I, R) 191 = 132 := rfl
theorem tg_192 {I : Nat → Nat → Int32} {R : Nat → Nat → Nat} : tg (SH, I, R) 192 = 1 := rfl
theorem ln_192 {I : Nat → Nat → Int32} {R : Nat → Nat → Nat} : ln (SH, I, R) 192 = 411 := rfl
theorem xt_192 {I : Nat → Nat → Int32} {R : Nat → Nat → Nat} : xtg (SH, I, R) 192 = 1 := rfl
theorem xl_192 {I : Nat → Nat → Int32} {R : Nat → Nat → Nat} : xln (SH, I, R) 192 = 411 := rfl
theorem tg_193 {I : Nat → Nat → Int32} {R : Nat → Nat → Nat} : tg (SH, I, R) 193 = 1 := rfl
theorem ln_193 {I : Nat → Nat → Int32} {R : Nat → Nat → Nat} : ln (SH, I, R) 193 = 500 := rfl
theorem xt_193 {I : Nat → Nat → Int32} {R : Nat → Nat → Nat} : xtg (SH, I, R) 193 = 1 := rfl
theorem xl_193 {I : Nat → Nat → Int32} {R : Nat → Nat → Nat} : xln (SH, I, R) 193 = 500 := rfl
theorem tg_194 {I : Nat → Nat → Int32} {R : Nat → Nat → Nat} : tg (SH, I, R) 194 = 1 := rfl
theorem ln_194 {I : Nat → Nat → Int32} {R : Nat → Nat → Nat} : ln (SH, I, R) 194 = 411 := rfl
theorem xt_194 {I : Nat → Nat → Int32} {R : Nat → Nat → Nat} : xtg (SH, I, R) 194 = 1 := rfl
theorem xl_194 {I : Nat → Nat → Int32} {R : Nat → Nat → Nat} : xln (SH, I, R) 194 = 411 := rfl
theorem tg_195 {I : Nat → Nat → Int32} {R : Nat → Nat → Nat} : tg (SH, I, R) 195 = 1 := rfl
theorem ln_195 {I : Nat → Nat → Int32} {R : Nat → Nat → Nat} : ln (SH, I, R) 195 = 24 := rfl
theorem xt_195 {I : Nat → Nat → Int32} {R : Nat → Nat → Nat} : xtg (SH, I, R) 195 = 1 := rfl
theorem xl_195 {I : Nat → Nat → Int32} {R : Nat → Nat → Nat} : xln (SH, I, R) 195 = 24 := rfl
theorem tg_196 {I : Nat → Nat → Int32} {R : Nat → Nat → Nat} : tg (SH, I, R) 196 = 1 := rfl
theorem ln_196 {I : Nat → Nat → Int32} {R : Nat → Nat → Nat} : ln (SH, I, R) 196 = 4096 := rfl
theorem xt_196 {I : Nat → Nat → Int32} {R : Nat → Nat → Nat} : xtg (SH, I, R) 196 = 1 := rfl
theorem xl_196 {I : Nat → Nat → Int32} {R : Nat → Nat → Nat} : xln (SH, I, R) 196 = 4096 := rfl
theorem tg_197 {I : Nat → Nat → Int32} {R : Nat → Nat → Nat} : tg (SH, I, R) 197 = 1 := rfl
theorem ln_197 {I : Nat → Nat → Int32} {R : Nat → Nat → Nat} : ln (SH, I, R) 197 = 4096 := rfl
theorem xt_197 {I : Nat → Nat → Int32} {R : Nat → Nat → Nat} : xtg (SH, I, R) 197 = 1 := rfl
theorem xl_197 {I : Nat → Nat → Int32} {R : Nat → Nat → Nat} : xln (SH, I, R) 197 = 4096 := rfl
theorem tg_198 {I : Nat → Nat → Int32} {R : Nat → Nat → Nat} : tg (SH, I, R) 198 = 1 := rfl
theorem ln_198 {I : Nat → Nat → Int32} {R : Nat → Nat → Nat} : ln (SH, I, R) 198 = 7 := rfl
theorem xt_198 {I : Nat → Nat → Int32} {R : Nat → Nat → Nat} : xtg (SH, I, R) 198 = 1 := rfl
theorem xl_198 {I : Nat → Nat → Int32} {R : Nat → Nat → Nat} : xln (SH, I, R) 198 = 7 := rfl
theorem tg_199 {I : Nat → Nat → Int32} {R : Nat → Nat → Nat} : tg (SH, I, R) 199 = 1 := rfl
theorem ln_199 {I : Nat → Nat → Int32} {R : Nat → Nat → Nat} : ln (SH, I, R) 199 = 7 := rfl
theorem xt_199 {I : Nat → Nat → Int32} {R : Nat → Nat → Nat} : xtg (SH, I, R) 199 = 1 := rfl
theorem xl_199 {I : Nat → Nat → Int32} {R : Nat → Nat → Nat} : xln (SH, I, R) 199 = 7 := rfl
theorem tg_200 {I : Nat → Nat → Int32} {R : Nat → Nat → Nat} : tg (SH, I, R) 200 = 1 := rfl
theorem ln_200 {I : Nat → Nat → Int32} {R : Nat → Nat → Nat} : ln (SH, I, R) 200 = 6 := rfl
theorem xt_200 {I : Nat → Nat → Int32} {R : Nat → Nat → Nat} : xtg (SH, I, R) 200 = 1 := rfl
theorem xl_200 {I : Nat → Nat → Int32} {R : Nat → Nat → Nat} : xln (SH, I, R) 200 = 6 := rfl
theorem tg_201 {I : Nat → Nat → Int32} {R : Nat → Nat → Nat} : tg (SH, I, R) 201 = 1 := rfl
theorem ln_201 {I : Nat → Nat → Int32} {R : Nat → Nat → Nat} : ln (SH, I, R) 201 = 36 := rfl
theorem xt_201 {I : Nat → Nat → Int32} {R : Nat → Nat → Nat} : xtg (SH, I, R) 201 = 1 := rfl
theorem xl_201 {I : Nat → Nat → Int32} {R : Nat → Nat → Nat} : xln (SH, I, R) 201 = 36 := rfl
theorem tg_202 {I : Nat → Nat → Int32} {R : Nat → Nat → Nat} : tg (SH, I, R) 202 = 1 := rfl
theorem ln_202 {I : Nat → Nat → Int32} {R : Nat → Nat → Nat} : ln (SH, I, R) 202 = 6 := rfl
theorem xt_202 {I : Nat → Nat → Int32} {R : Nat → Nat → Nat} : xtg (SH, I, R) 202 = 1 := rfl
theorem xl_202 {I : Nat → Nat → Int32} {R : Nat → Nat → Nat} : xln (SH, I, R) 202 = 6 := rfl
theorem tg_203 {I : Nat → Nat → Int32} {R : Nat → Nat → Nat} : tg (SH, I, R) 203 = 3 := rfl
theorem ln_203 {I : Nat → Nat → Int32} {R : Nat → Nat → Nat} : ln (SH, I, R) 203 = 2 := rfl
theorem xt_203 {I : Nat → Nat → Int32} {R : Nat → Nat → Nat} : xtg (SH, I, R) 203 = 3 := rfl
theorem xl_203 {I : Nat → Nat → Int32} {R : Nat → Nat → Nat} : xln (SH, I, R) 203 = 2 := rfl
theorem tg_204 {I : Nat → Nat → Int32} {R : Nat → Nat → Nat} : tg (SH, I, R) 204 = 1 := rfl
theorem ln_204 {I : Nat → Nat → Int32} {R : Nat → Nat → Nat} : ln (SH, I, R) 204 = 264 := rfl
theorem xt_204 {I : Nat → Nat → Int32} {R : Nat → Nat → Nat} : xtg (SH, I, R) 204 = 1 := rfl
theorem xl_204 {I : Nat → Nat → Int32} {R : Nat → Nat → Nat} : xln (SH, I, R) 204 = 264 := rfl
theorem tg_205 {I : Nat → Nat → Int32} {R : Nat → Nat → Nat} : tg (SH, I, R) 205 = 1 := rfl
theorem ln_205 {I : Nat → Nat → Int32} {R : Nat → Nat → Nat} : ln (SH, I, R) 205 = 822 := rfl
theorem xt_205 {I : Nat → Nat → Int32} {R : Nat → Nat → Nat} : xtg (SH, I, R) 205 = 1 := rfl
theorem xl_205 {I : Nat → Nat → Int32} {R : Nat → Nat → Nat} : xln (SH, I, R) 205 = 822 := rfl
theorem tg_206 {I : Nat → Nat → Int32} {R : Nat → Nat → Nat} : tg (SH, I, R) 206 = 1 := rfl
theorem ln_206 {I : Nat → Nat → Int32} {R : Nat → Nat → Nat} : ln (SH, I, R) 206 = 16 := rfl
theorem xt_206 {I : Nat → Nat → Int32} {R : Nat → Nat → Nat} : xtg (SH, I, R) 206 = 1 := rfl
theorem xl_206 {I : Nat → Nat → Int32} {R : Nat → Nat → Nat} : xln (SH, I, R) 206 = 16 := rfl
theorem rb_0_0 {l u t q L : Nat} : RB l u t q L 0 0 = 1 + 1 := RB_tab (a := 0) (k := 0) (by decide) (by decide) (by decide) (by decide) (by decide) (by decide)
theorem rb_0_1 {l u t q L : Nat} : RB l u t q L 0 1 = 5 + 1 := RB_tab (a := 0) (k := 1) (by decide) (by decide) (by decide) (by decide) (by decide) (by decide)
theorem rb_0_2 {l u t q L : Nat} : RB l u t q L 0 2 = 8 + 1 := RB_tab (a := 0) (k := 2) (by decide) (by decide) (by decide) (by decide) (by decide) (by decide)
theorem rb_0_3 {l u t q L : Nat} : RB l u t q L 0 3 = 42 + 1 := RB_tab (a := 0) (k := 3) (by decide) (by decide) (by decide) (by decide) (by decide) (by decide)
theorem rb_0_4 {l u t q L : Nat} : RB l u t q L 0 4 = 45 + 1 := RB_tab (a := 0) (k := 4) (by decide) (by decide) (by decide) (by decide) (by decide) (by decide)
theorem rb_0_5 {l u t q L : Nat} : RB l u t q L 0 5 = 47 + 1 := RB_tab (a := 0) (k := 5) (by decide) (by decide) (by decide) (by decide) (by decide) (by decide)
theorem rb_0_6 {l u t q L : Nat} : RB l u t q L 0 6 = 51 + 1 := RB_tab (a := 0) (k := 6) (by decide) (by decide) (by decide) (by decide) (by decide) (by decide)
theorem rb_0_7 {l u t q L : Nat} : RB l u t q L 0 7 = 53 + 1 := RB_tab (a := 0) (k := 7) (by decide) (by decide) (by decide) (by decide) (by decide) (by decide)
theorem rb_0_8 {l u t q L : Nat} : RB l u t q L 0 8 = l + 1 := rfl
theorem rb_0_9 {l u t q L : Nat} : RB l u t q L 0 9 = u + 1 := rfl
theorem rb_1_0 {l u t q L : Nat} : RB l u t q L 1 0 = 2 + 1 := RB_tab (a := 1) (k := 0) (by decide) (by decide) (by decide) (by decide) (by decide) (by decide)
theorem rb_1_1 {l u t q L : Nat} : RB l u t q L 1 1 = 3 + 1 := RB_tab (a := 1) (k := 1) (by decide) (by decide) (by decide) (by decide) (by decide) (by decide)
theorem rb_1_2 {l u t q L : Nat} : RB l u t q L 1 2 = 4 + 1 := RB_tab (a := 1) (k := 2) (by decide) (by decide) (by decide) (by decide) (by decide) (by decide)
theorem rb_5_0 {l u t q L : Nat} : RB l u t q L 5 0 = 6 + 1 := RB_tab (a := 5) (k := 0) (by decide) (by decide) (by decide) (by decide) (by decide) (by decide)
theorem rb_5_1 {l u t q L : Nat} : RB l u t q L 5 1 = 7 + 1 := RB_tab (a := 5) (k := 1) (by decide) (by decide) (by decide) (by decide) (by decide) (by decide)
theorem rb_8_0 {l u t q L : Nat} : RB l u t q L 8 0 = 9 + 1 := RB_tab (a := 8) (k := 0) (by decide) (by decide) (by decide) (by decide) (by decide) (by decide)
theorem rb_42_0 {l u t q L : Nat} : RB l u t q L 42 0 = 43 + 1 := RB_tab (a := 42) (k := 0) (by decide) (by decide) (by decide) (by decide) (by decide) (by decide)
theorem rb_42_1 {l u t q L : Nat} : RB l u t q L 42 1 = 44 + 1 := RB_tab (a := 42) (k := 1) (by decide) (by decide) (by decide) (by decide) (by decide) (by decide)
theorem rb_45_0 {l u t q L : Nat} : RB l u t q L 45 0 = 46 + 1 := RB_tab (a := 45) (k := 0) (by decide) (by decide) (by decide) (by decide) (by decide) (by decide)
theorem rb_47_0 {l u t q L : Nat} : RB l u t q L 47 0 = 48 + 1 := RB_tab (a := 47) (k := 0) (by decide) (by decide) (by decide) (by decide) (by decide) (by decide)
theorem rb_47_1 {l u t q L : Nat} : RB l u t q L 47 1 = 49 + 1 := RB_tab (a := 47) (k := 1) (by decide) (by decide) (by decide) (by decide) (by decide) (by decide)
theorem rb_47_2 {l u t q L : Nat} : RB l u t q L 47 2 = 50 + 1 := RB_tab (a := 47) (k := 2) (by decide) (by decide) (by decide) (by decide) (by decide) (by decide)
theorem rb_51_0 {l u t q L : Nat} : RB l u t q L 51 0 = 52 + 1 := RB_tab (a := 51) (k := 0) (by decide) (by decide) (by decide) (by decide) (by decide) (by decide)
theorem rb_186_2 {l u t q L : Nat} : RB l u t q L 186 2 = 187 + 1 := RB_tab (a := 186) (k := 2) (by decide) (by decide) (by decide) (by decide) (by decide) (by decide)
theorem rb_186_3 {l u t q L : Nat} : RB l u t q L 186 3 = 188 + 1 := RB_tab (a := 186) (k := 3) (by decide) (by decide) (by decide) (by decide) (by decide) (by decide)
theorem rb_186_4 {l u t q L : Nat} : RB l u t q L 186 4 = 189 + 1 := RB_tab (a := 186) (k := 4) (by decide) (by decide) (by decide) (by decide) (by decide) (by decide)
theorem rb_186_5 {l u t q L : Nat} : RB l u t q L 186 5 = 190 + 1 := RB_tab (a := 186) (k := 5) (by decide) (by decide) (by decide) (by decide) (by decide) (by decide)
theorem rb_186_6 {l u t q L : Nat} : RB l u t q L 186 6 = 191 + 1 := RB_tab (a := 186) (k := 6) (by decide) (by decide) (by decide) (by decide) (by decide) (by decide)
theorem rb_186_8 {l u t q L : Nat} : RB l u t q L 186 8 = 192 + 1 := RB_tab (a := 186) (k := 8) (by decide) (by decide) (by decide) (by decide) (by decide) (by decide)
theorem rb_186_9 {l u t q L : Nat} : RB l u t q L 186 9 = 193 + 1 := RB_tab (a := 186) (k := 9) (by decide) (by decide) (by decide) (by decide) (by decide) (by decide)
theorem rb_186_19 {l u t q L : Nat} : RB l u t q L 186 19 = 194 + 1 := RB_tab (a := 186) (k := 19) (by decide) (by decide) (by decide) (by decide) (by decide) (by decide)
theorem rb_186_20 {l u t q L : Nat} : RB l u t q L 186 20 = 195 + 1 := RB_tab (a := 186) (k := 20) (by decide) (by decide) (by decide) (by decide) (by decide) (by decide)
theorem rb_186_21 {l u t q L : Nat} : RB l u t q L 186 21 = 196 + 1 := RB_tab (a := 186) (k := 21) (by decide) (by decide) (by decide) (by decide) (by decide) (by decide)
theorem rb_186_22 {l u t q L : Nat} : RB l u t q L 186 22 = 197 + 1 := RB_tab (a := 186) (k := 22) (by decide) (by decide) (by decide) (by decide) (by decide) (by decide)
theorem rb_186_23 {l u t q L : Nat} : RB l u t q L 186 23 = 198 + 1 := RB_tab (a := 186) (k := 23) (by decide) (by decide) (by decide) (by decide) (by decide) (by decide)
theorem rb_186_24 {l u t q L : Nat} : RB l u t q L 186 24 = 199 + 1 := RB_tab (a := 186) (k := 24) (by decide) (by decide) (by decide) (by decide) (by decide) (by decide)
theorem rb_186_25 {l u t q L : Nat} : RB l u t q L 186 25 = 200 + 1 := RB_tab (a := 186) (k := 25) (by decide) (by decide) (by decide) (by decide) (by decide) (by decide)
theorem rb_186_26 {l u t q L : Nat} : RB l u t q L 186 26 = 201 + 1 := RB_tab (a := 186) (k := 26) (by decide) (by decide) (by decide) (by decide) (by decide) (by decide)
theorem rb_186_27 {l u t q L : Nat} : RB l u t q L 186 27 = 202 + 1 := RB_tab (a := 186) (k := 27) (by decide) (by decide) (by decide) (by decide) (by decide) (by decide)
theorem rb_186_28 {l u t q L : Nat} : RB l u t q L 186 28 = 203 + 1 := RB_tab (a := 186) (k := 28) (by decide) (by decide) (by decide) (by decide) (by decide) (by decide)
theorem rb_186_29 {l u t q L : Nat} : RB l u t q L 186 29 = 204 + 1 := RB_tab (a := 186) (k := 29) (by decide) (by decide) (by decide) (by decide) (by decide) (by decide)
theorem rb_186_30 {l u t q L : Nat} : RB l u t q L 186 30 = 205 + 1 := RB_tab (a := 186) (k := 30) (by decide) (by decide) (by decide) (by decide) (by decide) (by decide)
theorem rb_186_31 {l u t q L : Nat} : RB l u t q L 186 31 = 206 + 1 := RB_tab (a := 186) (k := 31) (by decide) (by decide) (by decide) (by decide) (by decide) (by decide)
theorem rbs_0_0 {l u t q L : Nat} : RB l u t q L 0 0 - 1 = 1 := by (rw [rb_0_0]; try rfl)
theorem rbn_0_0 {l u t q L : Nat} : (RB l u t q L 0 0 = 0) = False := by rw [rb_0_0]; simp
theorem rbs_0_1 {l u t q L : Nat} : RB l u t q L 0 1 - 1 = 5 := by (rw [rb_0_1]; try rfl)
theorem rbn_0_1 {l u t q L : Nat} : (RB l u t q L 0 1 = 0) = False := by rw [rb_0_1]; simp
theorem rbs_0_2 {l u t q L : Nat} : RB l u t q L 0 2 - 1 = 8 := by (rw [rb_0_2]; try rfl)
theorem rbn_0_2 {l u t q L : Nat} : (RB l u t q L 0 2 = 0) = False := by rw [rb_0_2]; simp
theorem rbs_0_3 {l u t q L : Nat} : RB l u t q L 0 3 - 1 = 42 := by (rw [rb_0_3]; try rfl)
theorem rbn_0_3 {l u t q L : Nat} : (RB l u t q L 0 3 = 0) = False := by rw [rb_0_3]; simp
theorem rbs_0_4 {l u t q L : Nat} : RB l u t q L 0 4 - 1 = 45 := by (rw [rb_0_4]; try rfl)
theorem rbn_0_4 {l u t q L : Nat} : (RB l u t q L 0 4 = 0) = False := by rw [rb_0_4]; simp
theorem rbs_0_5 {l u t q L : Nat} : RB l u t q L 0 5 - 1 = 47 := by (rw [rb_0_5]; try rfl)
theorem rbn_0_5 {l u t q L : Nat} : (RB l u t q L 0 5 = 0) = False := by rw [rb_0_5]; simp
theorem rbs_0_6 {l u t q L : Nat} : RB l u t q L 0 6 - 1 = 51 := by (rw [rb_0_6]; try rfl)
theorem rbn_0_6 {l u t q L : Nat} : (RB l u t q L 0 6 = 0) = False := by rw [rb_0_6]; simp
theorem rbs_0_7 {l u t q L : Nat} : RB l u t q L 0 7 - 1 = 53 := by (rw [rb_0_7]; try rfl)
theorem rbn_0_7 {l u t q L : Nat} : (RB l u t q L 0 7 = 0) = False := by rw [rb_0_7]; simp
theorem rbs_0_8 {l u t q L : Nat} : RB l u t q L 0 8 - 1 = l := by (rw [rb_0_8]; try rfl)
theorem rbn_0_8 {l u t q L : Nat} : (RB l u t q L 0 8 = 0) = False := by rw [rb_0_8]; simp
theorem rbs_0_9 {l u t q L : Nat} : RB l u t q L 0 9 - 1 = u := by (rw [rb_0_9]; try rfl)
theorem rbn_0_9 {l u t q L : Nat} : (RB l u t q L 0 9 = 0) = False := by rw [rb_0_9]; simp
theorem rbs_1_0 {l u t q L : Nat} : RB l u t q L 1 0 - 1 = 2 := by (rw [rb_1_0]; try rfl)
theorem rbn_1_0 {l u t q L : Nat} : (RB l u t q L 1 0 = 0) = False := by rw [rb_1_0]; simp
theorem rbs_1_1 {l u t q L : Nat} : RB l u t q L 1 1 - 1 = 3 := by (rw [rb_1_1]; try rfl)
theorem rbn_1_1 {l u t q L : Nat} : (RB l u t q L 1 1 = 0) = False := by rw [rb_1_1]; simp
theorem rbs_1_2 {l u t q L : Nat} : RB l u t q L 1 2 - 1 = 4 := by (rw [rb_1_2]; try rfl)
theorem rbn_1_2 {l u t q L : Nat} : (RB l u t q L 1 2 = 0) = False := by rw [rb_1_2]; simp
theorem rbs_5_0 {l u t q L : Nat} : RB l u t q L 5 0 - 1 = 6 := by (rw [rb_5_0]; try rfl)
theorem rbn_5_0 {l u t q L : Nat} : (RB l u t q L 5 0 = 0) = False := by rw [rb_5_0]; simp
theorem rbs_5_1 {l u t q L : Nat} : RB l u t q L 5 1 - 1 = 7 := by (rw [rb_5_1]; try rfl)
theorem rbn_5_1 {l u t q L : Nat} : (RB l u t q L 5 1 = 0) = False := by rw [rb_5_1]; simp
theorem rbs_8_0 {l u t q L : Nat} : RB l u t q L 8 0 - 1 = aF := by (rw [rb_8_0]; try rfl)
theorem rbn_8_0 {l u t q L : Nat} : (RB l u t q L 8 0 = 0) = False := by rw [rb_8_0]; simp
theorem rbs_42_0 {l u t q L : Nat} : RB l u t q L 42 0 - 1 = 43 := by (rw [rb_42_0]; try rfl)
theorem rbn_42_0 {l u t q L : Nat} : (RB l u t q L 42 0 = 0) = False := by rw [rb_42_0]; simp
theorem rbs_42_1 {l u t q L : Nat} : RB l u t q L 42 1 - 1 = 44 := by (rw [rb_42_1]; try rfl)
theorem rbn_42_1 {l u t q L : Nat} : (RB l u t q L 42 1 = 0) = False := by rw [rb_42_1]; simp
theorem rbs_45_0 {l u t q L : Nat} : RB l u t q L 45 0 - 1 = 46 := by (rw [rb_45_0]; try rfl)
theorem rbn_45_0 {l u t q L : Nat} : (RB l u t q L 45 0 = 0) = False := by rw [rb_45_0]; simp
theorem rbs_47_0 {l u t q L : Nat} : RB l u t q L 47 0 - 1 = 48 := by (rw [rb_47_0]; try rfl)
theorem rbn_47_0 {l u t q L : Nat} : (RB l u t q L 47 0 = 0) = False := by rw [rb_47_0]; simp
theorem rbs_47_1 {l u t q L : Nat} : RB l u t q L 47 1 - 1 = 49 := by (rw [rb_47_1]; try rfl)
theorem rbn_47_1 {l u t q L : Nat} : (RB l u t q L 47 1 = 0) = False := by rw [rb_47_1]; simp
theorem rbs_47_2 {l u t q L : Nat} : RB l u t q L 47 2 - 1 = 50 := by (rw [rb_47_2]; try rfl)
theorem rbn_47_2 {l u t q L : Nat} : (RB l u t q L 47 2 = 0) = False := by rw [rb_47_2]; simp
theorem rbs_51_0 {l u t q L : Nat} : RB l u t q L 51 0 - 1 = 52 := by (rw [rb_51_0]; try rfl)
theorem rbn_51_0 {l u t q L : Nat} : (RB l u t q L 51 0 = 0) = False := by rw [rb_51_0]; simp
theorem rbs_186_2 {l u t q L : Nat} : RB l u t q L 186 2 - 1 = 187 := by (rw [rb_186_2]; try rfl)
theorem rbn_186_2 {l u t q L : Nat} : (RB l u t q L 186 2 = 0) = False := by rw [rb_186_2]; simp
theorem rbs_186_3 {l u t q L : Nat} : RB l u t q L 186 3 - 1 = 188 := by (rw [rb_186_3]; try rfl)
theorem rbn_186_3 {l u t q L : Nat} : (RB l u t q L 186 3 = 0) = False := by rw [rb_186_3]; simp
theorem rbs_186_4 {l u t q L : Nat} : RB l u t q L 186 4 - 1 = 189 := by (rw [rb_186_4]; try rfl)
theorem rbn_186_4 {l u t q L : Nat} : (RB l u t q L 186 4 = 0) = False := by rw [rb_186_4]; simp
theorem rbs_186_5 {l u t q L : Nat} : RB l u t q L 186 5 - 1 = 190 := by (rw [rb_186_5]; try rfl)
theorem rbn_186_5 {l u t q L : Nat} : (RB l u t q L 186 5 = 0) = False := by rw [rb_186_5]; simp
theorem rbs_186_6 {l u t q L : Nat} : RB l u t q L 186 6 - 1 = 191 := by (rw [rb_186_6]; try rfl)
theorem rbn_186_6 {l u t q L : Nat} : (RB l u t q L 186 6 = 0) = False := by rw [rb_186_6]; simp
theorem rbs_186_8 {l u t q L : Nat} : RB l u t q L 186 8 - 1 = 192 := by (rw [rb_186_8]; try rfl)
theorem rbn_186_8 {l u t q L : Nat} : (RB l u t q L 186 8 = 0) = False := by rw [rb_186_8]; simp
theorem rbs_186_9 {l u t q L : Nat} : RB l u t q L 186 9 - 1 = 193 := by (rw [rb_186_9]; try rfl)
theorem rbn_186_9 {l u t q L : Nat} : (RB l u t q L 186 9 = 0) = False := by rw [rb_186_9]; simp
theorem rbs_186_19 {l u t q L : Nat} : RB l u t q L 186 19 - 1 = 194 := by (rw [rb_186_19]; try rfl)
theorem rbn_186_19 {l u t q L : Nat} : (RB l u t q L 186 19 = 0) = False := by rw [rb_186_19]; simp
theorem rbs_186_20 {l u t q L : Nat} : RB l u t q L 186 20 - 1 = 195 := by (rw [rb_186_20]; try rfl)
theorem rbn_186_20 {l u t q L : Nat} : (RB l u t q L 186 20 = 0) = False := by rw [rb_186_20]; simp
theorem rbs_186_21 {l u t q L : Nat} : RB l u t q L 186 21 - 1 = 196 := by (rw [rb_186_21]; try rfl)
theorem rbn_186_21 {l u t q L : Nat} : (RB l u t q L 186 21 = 0) = False := by rw [rb_186_21]; simp
theorem rbs_186_22 {l u t q L : Nat} : RB l u t q L 186 22 - 1 = 197 := by (rw [rb_186_22]; try rfl)
theorem rbn_186_22 {l u t q L : Nat} : (RB l u t q L 186 22 = 0) = False := by rw [rb_186_22]; simp
theorem rbs_186_23 {l u t q L : Nat} : RB l u t q L 186 23 - 1 = 198 := by (rw [rb_186_23]; try rfl)
theorem rbn_186_23 {l u t q L : Nat} : (RB l u t q L 186 23 = 0) = False := by rw [rb_186_23]; simp
theorem rbs_186_24 {l u t q L : Nat} : RB l u t q L 186 24 - 1 = 199 := by (rw [rb_186_24]; try rfl)
theorem rbn_186_24 {l u t q L : Nat} : (RB l u t q L 186 24 = 0) = False := by rw [rb_186_24]; simp
theorem rbs_186_25 {l u t q L : Nat} : RB l u t q L 186 25 - 1 = 200 := by (rw [rb_186_25]; try rfl)
theorem rbn_186_25 {l u t q L : Nat} : (RB l u t q L 186 25 = 0) = False := by rw [rb_186_25]; simp
theorem rbs_186_26 {l u t q L : Nat} : RB l u t q L 186 26 - 1 = 201 := by (rw [rb_186_26]; try rfl)
theorem rbn_186_26 {l u t q L : Nat} : (RB l u t q L 186 26 = 0) = False := by rw [rb_186_26]; simp
theorem rbs_186_27 {l u t q L : Nat} : RB l u t q L 186 27 - 1 = 202 := by (rw [rb_186_27]; try rfl)
theorem rbn_186_27 {l u t q L : Nat} : (RB l u t q L 186 27 = 0) = False := by rw [rb_186_27]; simp
theorem rbs_186_28 {l u t q L : Nat} : RB l u t q L 186 28 - 1 = 203 := by (rw [rb_186_28]; try rfl)
theorem rbn_186_28 {l u t q L : Nat} : (RB l u t q L 186 28 = 0) = False := by rw [rb_186_28]; simp
theorem rbs_186_29 {l u t q L : Nat} : RB l u t q L 186 29 - 1 = 204 := by (rw [rb_186_29]; try rfl)
theorem rbn_186_29 {l u t q L : Nat} : (RB l u t q L 186 29 = 0) = False := by rw [rb_186_29]; simp
theorem rbs_186_30 {l u t q L : Nat} : RB l u t q L 186 30 - 1 = 205 := by (rw [rb_186_30]; try rfl)
theorem rbn_186_30 {l u t q L : Nat} : (RB l u t q L 186 30 = 0) = False := by rw [rb_186_30]; simp
theorem rbs_186_31 {l u t q L : Nat} : RB l u t q L 186 31 - 1 = 206 := by (rw [rb_186_31]; try rfl)
theorem rbn_186_31 {l u t q L : Nat} : (RB l u t q L 186 31 = 0) = False := by rw [rb_186_31]; simp
theorem rbs_l0 {l u t q L a : Nat} (h : IL a) : RB l u t q L a 0 - 1 = a + 1 := by (rw [rb_l0 h]; try rfl)
theorem rbn_l0 {l u t q L a : Nat} (h : IL a) : (RB l u t q L a 0 = 0) = False := by rw [rb_l0 h]; simp
theorem rbs_l1 {l u t q L a : Nat} (h : IL a) : RB l u t q L a 1 - 1 = a + 2 := by (rw [rb_l1 h]; try rfl)
theorem rbn_l1 {l u t q L a : Nat} (h : IL a) : (RB l u t q L a 1 = 0) = False := by rw [rb_l1 h]; simp
theorem rbs_l2 {l u t q L a : Nat} (h : IL a) : RB l u t q L a 2 - 1 = a + 3 := by (rw [rb_l2 h]; try rfl)
theorem rbn_l2 {l u t q L a : Nat} (h : IL a) : (RB l u t q L a 2 = 0) = False := by rw [rb_l2 h]; simp
theorem rbs_l3 {l u t q L a : Nat} (h : IL a) : RB l u t q L a 3 - 1 = a + 4 := by (rw [rb_l3 h]; try rfl)
theorem rbn_l3 {l u t q L a : Nat} (h : IL a) : (RB l u t q L a 3 = 0) = False := by rw [rb_l3 h]; simp
theorem rbs_l4 {l u t q L a : Nat} (h : IL a) : RB l u t q L a 4 - 1 = a + 5 := by (rw [rb_l4 h]; try rfl)
theorem rbn_l4 {l u t q L a : Nat} (h : IL a) : (RB l u t q L a 4 = 0) = False := by rw [rb_l4 h]; simp
theorem rbs_l5 {l u t q L a : Nat} (h : IL a) : RB l u t q L a 5 - 1 = a + 6 := by (rw [rb_l5 h]; try rfl)
theorem rbn_l5 {l u t q L a : Nat} (h : IL a) : (RB l u t q L a 5 = 0) = False := by rw [rb_l5 h]; simp
theorem rbs_l6 {l u t q L a : Nat} (h : IL a) : RB l u t q L a 6 - 1 = a + 7 := by (rw [rb_l6 h]; try rfl)
theorem rbn_l6 {l u t q L a : Nat} (h : IL a) : (RB l u t q L a 6 = 0) = False := by rw [rb_l6 h]; simp
theorem rbs_l7 {l u t q L a : Nat} (h : IL a) : RB l u t q L a 7 - 1 = a + 8 := by (rw [rb_l7 h]; try rfl)
theorem rbn_l7 {l u t q L a : Nat} (h : IL a) : (RB l u t q L a 7 = 0) = False := by rw [rb_l7 h]; simp
theorem rbs_into {l u w q L : Nat} : RB l u (w + 1) q L 5 2 - 1 = w := by rw [rb_into]; rfl
theorem rbn_into {l u w q L : Nat} : (RB l u (w + 1) q L 5 2 = 0) = False := by rw [rb_into]; simp
theorem rbs_asked {l u t v L : Nat} : RB l u t (v + 1) L 51 2 - 1 = v := by rw [rb_asked]; rfl
theorem rbn_asked {l u t v L : Nat} : (RB l u t (v + 1) L 51 2 = 0) = False := by rw [rb_asked]; simp
theorem IL_F : IL aF := Or.inl rfl
theorem nin {c n : Nat} (hc : c < n) (hn : n < 2 ^ 31) : (nI c < 0 ∨ n ≤ (nI c).toNatClampNeg) = False := by
  rw [nI_clamp (by omega)]
  simp only [eq_iff_iff, iff_false, not_or]
  exact ⟨nI_pos (by omega), by omega⟩
theorem nin24 {c : Nat} (hc : c < 24) : (nI c < 0 ∨ 24 ≤ (nI c).toNatClampNeg) = False := nin hc (by decide)
theorem rbs_c {l u t q L a c : Nat} (h : IL a) (hc : c < 24) : RB l u t q L (a + 8) (nI c).toNatClampNeg - 1 = a + 9 + c := by
  rw [nI_clamp (by omega), rb_c h hc]; rfl
theorem rbn_c {l u t q L a c : Nat} (h : IL a) (hc : c < 24) : (RB l u t q L (a + 8) (nI c).toNatClampNeg = 0) = False := by
  rw [nI_clamp (by omega), rb_c h hc]; simp
theorem z01_0 : ((0 : Int32) = 0 ∨ (0 : Int32) = 1) = True := by simp
theorem z01_1 : ((1 : Int32) = 0 ∨ (1 : Int32) = 1) = True := by simp
theorem dz_2 : ((2 : Int32) = 0) = False := by simp
theorem dz_3 : ((3 : Int32) = 0) = False := by simp
theorem dz_4 : ((4 : Int32) = 0) = False := by simp
theorem dz_16 : ((16 : Int32) = 0) = False := by simp
theorem dz_32 : ((32 : Int32) = 0) = False := by simp
theorem dz_100 : ((100 : Int32) = 0) = False := by simp
theorem c8_ : cat8 [] = true := rfl
theorem c8_i {x : Int32} : cat8 [.int x] = true := rfl
theorem c8_ir {x : Int32} {a : Nat} : cat8 [.int x, .ref a] = true := rfl
