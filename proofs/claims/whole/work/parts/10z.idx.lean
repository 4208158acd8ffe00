/-! ===== String.checkIndex, which StringLatin1.charAt calls, and what it calls: contracts over the machine ===== -/
def y_pidx : MethodName := ⟨"jdk/internal/util/Preconditions", "checkIndex", "(IILjava/util/function/BiFunction;)I"⟩
def w_pidx : List Cond := .code y_pidx prog_20_method_11_code 3 (some .int) :: []
def w_sidx : List Cond := .code y_sidx prog_15_method_155_code 2 none :: ([.fieldLink "java/lang/String" 1053 "jdk/internal/util/Preconditions" "SIOOBE_FORMATTER" "Ljava/util/function/BiFunction;", .methodLink "java/lang/String" 1059 y_pidx, .static y_pidx, .initialized "jdk/internal/util/Preconditions", .code y_pidx prog_20_method_11_code 3 (some .int)])
theorem d_pidx_0 : decode prog_20_method_11_code 0 = .ok (.iload_n 0, 1) := by decide +kernel
theorem d_pidx_1 : decode prog_20_method_11_code 1 = .ok (.ifCond .lt 8, 3) := by decide +kernel
theorem d_pidx_4 : decode prog_20_method_11_code 4 = .ok (.iload_n 0, 1) := by decide +kernel
theorem d_pidx_5 : decode prog_20_method_11_code 5 = .ok (.iload_n 1, 1) := by decide +kernel
theorem d_pidx_6 : decode prog_20_method_11_code 6 = .ok (.if_icmp .lt 10, 3) := by decide +kernel
theorem d_pidx_16 : decode prog_20_method_11_code 16 = .ok (.iload_n 0, 1) := by decide +kernel
theorem d_pidx_17 : decode prog_20_method_11_code 17 = .ok (.ireturn, 1) := by decide +kernel
theorem d_sidx_0 : decode prog_15_method_155_code 0 = .ok (.iload_n 0, 1) := by decide +kernel
theorem d_sidx_1 : decode prog_15_method_155_code 1 = .ok (.iload_n 1, 1) := by decide +kernel
theorem d_sidx_2 : decode prog_15_method_155_code 2 = .ok (.getstatic 1053, 3) := by decide +kernel
theorem d_sidx_5 : decode prog_15_method_155_code 5 = .ok (.invokestatic 1059, 3) := by decide +kernel
theorem d_sidx_8 : decode prog_15_method_155_code 8 = .ok (.pop, 1) := by decide +kernel
theorem d_sidx_9 : decode prog_15_method_155_code 9 = .ok (.return_, 1) := by decide +kernel
def isRf (v : Value) : Prop := v = .null ∨ ∃ t, v = .ref t
/-- the place is in: it is given back -/
theorem c_pidx (l : Launch) {i n : Int32} {v : Value} (hv : isRf v) (h1 : ¬ i < 0) (h2 : i < n) : Met l y_pidx w_pidx ({ frames := 0, cells := 0, slots := 0, locals := 0 }) (va_Pc [.int i, .int n, v] (fun _ => True)) (va_Qi (fun (r : Int32) (_ : Unit) => r = i) (fun _ _ => True) (fun _ => False)) 0 0 (fun _ => False) := by
  refine Met.ofW (cc := prog_20_method_11_code) (maxL := 3) (ret := (some .int)) (by decide) rfl ?_
  intro p e s m args below meth c s₁ B hml hpc
  obtain ⟨rfl, -⟩ := hpc
  have hx := B.exec
  have hb := B.bytes
  have hr := B.returns
  have hlocks := B.notSynchronized
  have hS : va_S (fun _ => False) s.heap s.heap [] := va_S.rf
  rw [lg_entry_eq]
  have fin : ∀ ls : Array Slot, lv_has ls 3 [(0, .int i), (1, .int n), (2, v)] → W p l e { frames := 0, cells := 0, slots := 0, locals := 0 } s m ([.int i, .int n, v] : List Value).toArray below meth c s.heap [] 0 0 (MQ below (va_Qi (fun (r : Int32) (_ : Unit) => r = i) (fun _ _ => True) (fun _ => False)) ([.int i, .int n, v] : List Value).toArray s 0 0 (fun _ => False)) (F0 m 0 ls []) := by
    intro ls hl
    refine lv_iload_n hx hb d_pidx_0 rfl (lv_at hl 0 rfl) ?_
    refine lv_if_lt (tgt := 9) hx hb d_pidx_1 (by decide) (fun z => absurd z h1) (fun _ => ?_)
    refine lv_iload_n hx hb d_pidx_4 rfl (lv_at hl 0 rfl) ?_
    refine lv_iload_n hx hb d_pidx_5 rfl (lv_at hl 1 rfl) ?_
    refine lv_icmp_lt (tgt := 16) hx hb d_pidx_6 (by decide) (fun _ => ?_) (fun z => absurd h2 z)
    refine lv_iload_n hx hb d_pidx_16 rfl (lv_at hl 0 rfl) ?_
    exact W.iret (v := i) hx hb hr (fun t ht hW => ⟨⟨i, (), rfl, rfl, trivial⟩, hS.F ht⟩) hS.2.2 d_pidx_17 hlocks
  rcases hv with rfl | ⟨t, rfl⟩
  · exact fin _ (lv_entry ([.int i, .int n, .null]) (n := 3) (Nat.le_of_ble_eq_true rfl))
  · exact fin _ (lv_entry ([.int i, .int n, .ref t]) (n := 3) (Nat.le_of_ble_eq_true rfl))
theorem g_sidx : GoodIn w_sidx (va_wsS "java/lang/String" 1059 y_pidx w_pidx) := goodIn_of _ (by decide +kernel)
/-- the place is in: nothing happens -/
theorem c_sidx (l : Launch) {i n : Int32} {v : Value} (hv : isRf v) (h1 : ¬ i < 0) (h2 : i < n) : Met l y_sidx w_sidx ({ frames := 1, cells := 0, slots := 0, locals := 22 }) (va_Pc [.int i, .int n] (fun U => va_Z "jdk/internal/util/Preconditions" "SIOOBE_FORMATTER" "Ljava/util/function/BiFunction;" v (fun _ => False) U U.heap)) (va_Qv (fun (_ : Unit) => True) (fun _ _ => True) (fun _ => False)) 0 0 (fun _ => False) := by
  refine Met.ofW (cc := prog_15_method_155_code) (maxL := 2) (ret := none) (by decide) rfl ?_
  intro p e s m args below meth c s₁ B hml hpc
  obtain ⟨rfl, hZ⟩ := hpc
  have hx := B.exec
  have hb := B.bytes
  have hr := B.returns
  have hlocks := B.notSynchronized
  have hts := atoms_spec (ws := w_sidx) B.pre
  have hown : s.vm.findClass "java/lang/String" = some m.cls := findClass_of_methodNamed B.named
  have hS : va_S (fun _ => False) s.heap s.heap [] := va_S.rf
  have hl := lv_entry ([.int i, .int n]) (n := 2) (Nat.le_of_ble_eq_true rfl)
  rw [lg_entry_eq]
  generalize (lg_sl ([.int i, .int n]) ++ List.replicate (2 - (lg_sl ([.int i, .int n])).length) Slot.unset).toArray = ls at hl ⊢
  have hl : lv_has ls 2 [(0, .int i), (1, .int n)] := hl
  refine lv_iload_n hx hb d_sidx_0 rfl (lv_at hl 0 rfl) ?_
  refine lv_iload_n hx hb d_sidx_1 rfl (lv_at hl 1 rfl) ?_
  refine va_gets hx hb hZ hS hown (hts (.fieldLink "java/lang/String" 1053 "jdk/internal/util/Preconditions" "SIOOBE_FORMATTER" "Ljava/util/function/BiFunction;") (List.mem_cons_of_mem _ (List.mem_of_getElem? (i := 0) rfl))) (fun _ h => h) d_sidx_2 ?_
  refine va_calli (va_runS (As := [.int i, .int n, v]) (rest := []) ⟨hx, hb, hml, hown, hts⟩ (c_pidx l hv h1 h2) (va_cwS 3 hts g_sidx rfl rfl rfl (by decide +kernel) ⟨Nat.le_of_ble_eq_true rfl, Nat.le_of_ble_eq_true rfl⟩) ⟨fun a U g mk q => q, fun U hU hW => ⟨rfl, trivial⟩⟩ rfl rfl hl.1 rfl (lv_room (Nat.le_of_ble_eq_true rfl)) d_sidx_5 ⟨Nat.le_refl _, Nat.le_refl _⟩) hS (fun q _ h => h) (fun q h => h) (fun r u t H1 locs1 ht hal hp hB hle hk hS1 => ?_)
  refine lv_pop hx hb d_sidx_8 rfl ?_
  exact W.vret hx hb hr (fun t ht hW => ⟨⟨(), rfl, trivial, trivial⟩, hS1.F ht⟩) hS1.2.2 d_sidx_9 hlocks
theorem w_sidxs : ∀ w ∈ (Cond.static y_sidx :: Cond.initialized "java/lang/String" :: w_sidx), w ∈ gtb := by
  have hall : ((Cond.static y_sidx :: Cond.initialized "java/lang/String" :: w_sidx).zip [577, 99, 578, 579, 581, 582, 101, 583]).all (fun q => okAt q.2 q.1) = true := by decide +kernel
  intro w hw
  obtain ⟨k, hk⟩ := zip_all hall rfl w hw
  exact gtb_at hk
