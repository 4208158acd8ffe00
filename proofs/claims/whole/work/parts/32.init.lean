/-! ===== both objects made, by computation ===== -/
def E0 : LM := ([], fun _ _ => 0, fun _ _ => 0)
def iniX : Option (Option Value × LM) := runH 3000 29 k_X9_init 0 [.ref 0, .null] [] (pN E0 (0, 9))
theorem iniX_ok : (iniX.map (fun q => (q.1, q.2.1))) = some (none, SH.take 186) := by decide +kernel
