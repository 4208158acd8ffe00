/-! ===== a switch ===== -/
def swE (d y : Nat) (ls st : List Value) (M : LM) (Q : Option Value → LM → Prop) : List (Int × Int) → Int → Int → Prop
  | [], dflt, _ => Ends d y dflt.toNat ls st M Q
  | q :: r, dflt, x => if x = q.1 then Ends d y q.2.toNat ls st M Q else swE d y ls st M Q r dflt x
theorem swE_eq {d y : Nat} {ls st : List Value} {M : LM} {Q : Option Value → LM → Prop} : ∀ {l : List (Int × Int)} {dflt x : Int}, swE d y ls st M Q l dflt x = Ends d y (swt l dflt x).toNat ls st M Q := by
  intro l
  induction l with
  | nil => intro dflt x; rfl
  | cons q r ih =>
    intro dflt x
    rw [swE, swt]
    split
    · rfl
    · exact ih
theorem E_swt {mt : MT} {d y pc nx : Nat} {dflt : Int} {ps : Array (Int × Int)} {ls st : List Value} {x : Int32} {M : LM} {Q : Option Value → LM → Prop} (hmt : MS[y]? = some mt) (hl : look mt.2.2.2.2 pc = some (.lookupswitch dflt ps, nx)) : Ends d y pc ls (.int x :: st) M Q = swE d y ls st M Q ps.toList dflt x.toInt := by
  rw [swE_eq]
  refine propext ((Ends_one hmt).trans ?_)
  unfold one
  rw [hl]
  exact Iff.rfl
