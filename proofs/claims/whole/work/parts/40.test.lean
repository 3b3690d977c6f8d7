def Rel9 (_j : Nat) (_z : XT) (_y : MT) : Prop := True
theorem rel_0 : Rel9 0 xNew mNew := trivial
theorem rel_ok : stepOK Rel9 := sorry
