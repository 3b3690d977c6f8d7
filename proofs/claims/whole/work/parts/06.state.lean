/-! What a state of the system is: a debt, the rates; where they lie in a list of cells. -/
abbrev DT : Type := Int64 × Int32 × (Nat → Int32) × (Nat → Int64) × Int32 × Int32 × Int32 × Int32 × Int64 × Int64 × Int64 × Int64 × Int32 × Int32 × Int64
abbrev d_cents (d : DT) : Int64 := d.1
abbrev d_birth (d : DT) : Int32 := d.2.1
abbrev d_people (d : DT) : (Nat → Int32) := d.2.2.1
abbrev d_paid (d : DT) : (Nat → Int64) := d.2.2.2.1
abbrev d_debtors (d : DT) : Int32 := d.2.2.2.2.1
abbrev d_state (d : DT) : Int32 := d.2.2.2.2.2.1
abbrev d_due (d : DT) : Int32 := d.2.2.2.2.2.2.1
abbrev d_ib (d : DT) : Int32 := d.2.2.2.2.2.2.2.1
abbrev d_open (d : DT) : Int64 := d.2.2.2.2.2.2.2.2.1
abbrev d_lost (d : DT) : Int64 := d.2.2.2.2.2.2.2.2.2.1
abbrev d_fixed (d : DT) : Int64 := d.2.2.2.2.2.2.2.2.2.2.1
abbrev d_paidI (d : DT) : Int64 := d.2.2.2.2.2.2.2.2.2.2.2.1
abbrev d_dDay (d : DT) : Int32 := d.2.2.2.2.2.2.2.2.2.2.2.2.1
abbrev d_dParts (d : DT) : Int32 := d.2.2.2.2.2.2.2.2.2.2.2.2.2.1
abbrev d_dOpen (d : DT) : Int64 := d.2.2.2.2.2.2.2.2.2.2.2.2.2.2
abbrev s_cents (d : DT) (x : Int64) : DT := (x, d.2.1, d.2.2.1, d.2.2.2.1, d.2.2.2.2.1, d.2.2.2.2.2.1, d.2.2.2.2.2.2.1, d.2.2.2.2.2.2.2.1, d.2.2.2.2.2.2.2.2.1, d.2.2.2.2.2.2.2.2.2.1, d.2.2.2.2.2.2.2.2.2.2.1, d.2.2.2.2.2.2.2.2.2.2.2.1, d.2.2.2.2.2.2.2.2.2.2.2.2.1, d.2.2.2.2.2.2.2.2.2.2.2.2.2.1, d.2.2.2.2.2.2.2.2.2.2.2.2.2.2)
abbrev s_birth (d : DT) (x : Int32) : DT := (d.1, x, d.2.2.1, d.2.2.2.1, d.2.2.2.2.1, d.2.2.2.2.2.1, d.2.2.2.2.2.2.1, d.2.2.2.2.2.2.2.1, d.2.2.2.2.2.2.2.2.1, d.2.2.2.2.2.2.2.2.2.1, d.2.2.2.2.2.2.2.2.2.2.1, d.2.2.2.2.2.2.2.2.2.2.2.1, d.2.2.2.2.2.2.2.2.2.2.2.2.1, d.2.2.2.2.2.2.2.2.2.2.2.2.2.1, d.2.2.2.2.2.2.2.2.2.2.2.2.2.2)
abbrev s_people (d : DT) (x : (Nat → Int32)) : DT := (d.1, d.2.1, x, d.2.2.2.1, d.2.2.2.2.1, d.2.2.2.2.2.1, d.2.2.2.2.2.2.1, d.2.2.2.2.2.2.2.1, d.2.2.2.2.2.2.2.2.1, d.2.2.2.2.2.2.2.2.2.1, d.2.2.2.2.2.2.2.2.2.2.1, d.2.2.2.2.2.2.2.2.2.2.2.1, d.2.2.2.2.2.2.2.2.2.2.2.2.1, d.2.2.2.2.2.2.2.2.2.2.2.2.2.1, d.2.2.2.2.2.2.2.2.2.2.2.2.2.2)
abbrev s_paid (d : DT) (x : (Nat → Int64)) : DT := (d.1, d.2.1, d.2.2.1, x, d.2.2.2.2.1, d.2.2.2.2.2.1, d.2.2.2.2.2.2.1, d.2.2.2.2.2.2.2.1, d.2.2.2.2.2.2.2.2.1, d.2.2.2.2.2.2.2.2.2.1, d.2.2.2.2.2.2.2.2.2.2.1, d.2.2.2.2.2.2.2.2.2.2.2.1, d.2.2.2.2.2.2.2.2.2.2.2.2.1, d.2.2.2.2.2.2.2.2.2.2.2.2.2.1, d.2.2.2.2.2.2.2.2.2.2.2.2.2.2)
abbrev s_debtors (d : DT) (x : Int32) : DT := (d.1, d.2.1, d.2.2.1, d.2.2.2.1, x, d.2.2.2.2.2.1, d.2.2.2.2.2.2.1, d.2.2.2.2.2.2.2.1, d.2.2.2.2.2.2.2.2.1, d.2.2.2.2.2.2.2.2.2.1, d.2.2.2.2.2.2.2.2.2.2.1, d.2.2.2.2.2.2.2.2.2.2.2.1, d.2.2.2.2.2.2.2.2.2.2.2.2.1, d.2.2.2.2.2.2.2.2.2.2.2.2.2.1, d.2.2.2.2.2.2.2.2.2.2.2.2.2.2)
abbrev s_state (d : DT) (x : Int32) : DT := (d.1, d.2.1, d.2.2.1, d.2.2.2.1, d.2.2.2.2.1, x, d.2.2.2.2.2.2.1, d.2.2.2.2.2.2.2.1, d.2.2.2.2.2.2.2.2.1, d.2.2.2.2.2.2.2.2.2.1, d.2.2.2.2.2.2.2.2.2.2.1, d.2.2.2.2.2.2.2.2.2.2.2.1, d.2.2.2.2.2.2.2.2.2.2.2.2.1, d.2.2.2.2.2.2.2.2.2.2.2.2.2.1, d.2.2.2.2.2.2.2.2.2.2.2.2.2.2)
abbrev s_due (d : DT) (x : Int32) : DT := (d.1, d.2.1, d.2.2.1, d.2.2.2.1, d.2.2.2.2.1, d.2.2.2.2.2.1, x, d.2.2.2.2.2.2.2.1, d.2.2.2.2.2.2.2.2.1, d.2.2.2.2.2.2.2.2.2.1, d.2.2.2.2.2.2.2.2.2.2.1, d.2.2.2.2.2.2.2.2.2.2.2.1, d.2.2.2.2.2.2.2.2.2.2.2.2.1, d.2.2.2.2.2.2.2.2.2.2.2.2.2.1, d.2.2.2.2.2.2.2.2.2.2.2.2.2.2)
abbrev s_ib (d : DT) (x : Int32) : DT := (d.1, d.2.1, d.2.2.1, d.2.2.2.1, d.2.2.2.2.1, d.2.2.2.2.2.1, d.2.2.2.2.2.2.1, x, d.2.2.2.2.2.2.2.2.1, d.2.2.2.2.2.2.2.2.2.1, d.2.2.2.2.2.2.2.2.2.2.1, d.2.2.2.2.2.2.2.2.2.2.2.1, d.2.2.2.2.2.2.2.2.2.2.2.2.1, d.2.2.2.2.2.2.2.2.2.2.2.2.2.1, d.2.2.2.2.2.2.2.2.2.2.2.2.2.2)
abbrev s_open (d : DT) (x : Int64) : DT := (d.1, d.2.1, d.2.2.1, d.2.2.2.1, d.2.2.2.2.1, d.2.2.2.2.2.1, d.2.2.2.2.2.2.1, d.2.2.2.2.2.2.2.1, x, d.2.2.2.2.2.2.2.2.2.1, d.2.2.2.2.2.2.2.2.2.2.1, d.2.2.2.2.2.2.2.2.2.2.2.1, d.2.2.2.2.2.2.2.2.2.2.2.2.1, d.2.2.2.2.2.2.2.2.2.2.2.2.2.1, d.2.2.2.2.2.2.2.2.2.2.2.2.2.2)
abbrev s_lost (d : DT) (x : Int64) : DT := (d.1, d.2.1, d.2.2.1, d.2.2.2.1, d.2.2.2.2.1, d.2.2.2.2.2.1, d.2.2.2.2.2.2.1, d.2.2.2.2.2.2.2.1, d.2.2.2.2.2.2.2.2.1, x, d.2.2.2.2.2.2.2.2.2.2.1, d.2.2.2.2.2.2.2.2.2.2.2.1, d.2.2.2.2.2.2.2.2.2.2.2.2.1, d.2.2.2.2.2.2.2.2.2.2.2.2.2.1, d.2.2.2.2.2.2.2.2.2.2.2.2.2.2)
abbrev s_fixed (d : DT) (x : Int64) : DT := (d.1, d.2.1, d.2.2.1, d.2.2.2.1, d.2.2.2.2.1, d.2.2.2.2.2.1, d.2.2.2.2.2.2.1, d.2.2.2.2.2.2.2.1, d.2.2.2.2.2.2.2.2.1, d.2.2.2.2.2.2.2.2.2.1, x, d.2.2.2.2.2.2.2.2.2.2.2.1, d.2.2.2.2.2.2.2.2.2.2.2.2.1, d.2.2.2.2.2.2.2.2.2.2.2.2.2.1, d.2.2.2.2.2.2.2.2.2.2.2.2.2.2)
abbrev s_paidI (d : DT) (x : Int64) : DT := (d.1, d.2.1, d.2.2.1, d.2.2.2.1, d.2.2.2.2.1, d.2.2.2.2.2.1, d.2.2.2.2.2.2.1, d.2.2.2.2.2.2.2.1, d.2.2.2.2.2.2.2.2.1, d.2.2.2.2.2.2.2.2.2.1, d.2.2.2.2.2.2.2.2.2.2.1, x, d.2.2.2.2.2.2.2.2.2.2.2.2.1, d.2.2.2.2.2.2.2.2.2.2.2.2.2.1, d.2.2.2.2.2.2.2.2.2.2.2.2.2.2)
abbrev s_dDay (d : DT) (x : Int32) : DT := (d.1, d.2.1, d.2.2.1, d.2.2.2.1, d.2.2.2.2.1, d.2.2.2.2.2.1, d.2.2.2.2.2.2.1, d.2.2.2.2.2.2.2.1, d.2.2.2.2.2.2.2.2.1, d.2.2.2.2.2.2.2.2.2.1, d.2.2.2.2.2.2.2.2.2.2.1, d.2.2.2.2.2.2.2.2.2.2.2.1, x, d.2.2.2.2.2.2.2.2.2.2.2.2.2.1, d.2.2.2.2.2.2.2.2.2.2.2.2.2.2)
abbrev s_dParts (d : DT) (x : Int32) : DT := (d.1, d.2.1, d.2.2.1, d.2.2.2.1, d.2.2.2.2.1, d.2.2.2.2.2.1, d.2.2.2.2.2.2.1, d.2.2.2.2.2.2.2.1, d.2.2.2.2.2.2.2.2.1, d.2.2.2.2.2.2.2.2.2.1, d.2.2.2.2.2.2.2.2.2.2.1, d.2.2.2.2.2.2.2.2.2.2.2.1, d.2.2.2.2.2.2.2.2.2.2.2.2.1, x, d.2.2.2.2.2.2.2.2.2.2.2.2.2.2)
abbrev s_dOpen (d : DT) (x : Int64) : DT := (d.1, d.2.1, d.2.2.1, d.2.2.2.1, d.2.2.2.2.1, d.2.2.2.2.2.1, d.2.2.2.2.2.2.1, d.2.2.2.2.2.2.2.1, d.2.2.2.2.2.2.2.2.1, d.2.2.2.2.2.2.2.2.2.1, d.2.2.2.2.2.2.2.2.2.2.1, d.2.2.2.2.2.2.2.2.2.2.2.1, d.2.2.2.2.2.2.2.2.2.2.2.2.1, d.2.2.2.2.2.2.2.2.2.2.2.2.2.1, x)
abbrev RT : Type := Int32 × (Nat → Int32) × (Nat → Int32) × (Nat → Int32)
abbrev r_count (d : RT) : Int32 := d.1
abbrev r_from (d : RT) : (Nat → Int32) := d.2.1
abbrev r_up (d : RT) : (Nat → Int32) := d.2.2.1
abbrev r_down (d : RT) : (Nat → Int32) := d.2.2.2
abbrev q_count (d : RT) (x : Int32) : RT := (x, d.2.1, d.2.2.1, d.2.2.2)
abbrev q_from (d : RT) (x : (Nat → Int32)) : RT := (d.1, x, d.2.2.1, d.2.2.2)
abbrev q_up (d : RT) (x : (Nat → Int32)) : RT := (d.1, d.2.1, x, d.2.2.2)
abbrev q_down (d : RT) (x : (Nat → Int32)) : RT := (d.1, d.2.1, d.2.2.1, x)
abbrev aI (cI : ClassId) (n : Nat) (f : Nat → Int32) : va_E := .inl (cI, n, .inl f)
abbrev aL (cL : ClassId) (n : Nat) (f : Nat → Int64) : va_E := .inl (cL, n, .inr (.inl f))
abbrev aQ (cD : ClassId) (n : Nat) (f : Nat → Option Nat) : va_E := .inl (cD, n, .inr (.inr (.inr (.inr f))))
abbrev dE (hp hq : Nat) (d : DT) : va_E := .inr (0, [.long (d_cents d), .int (d_birth d), .ref hp, .ref hq, .int (d_debtors d), .int (d_state d), .int (d_due d), .int (d_ib d), .long (d_open d), .long (d_lost d), .long (d_fixed d), .long (d_paidI d), .int (d_dDay d), .int (d_dParts d), .long (d_dOpen d)])
abbrev rE (fr up dn : Nat) (r : RT) : va_E := .inr (1, [.ref fr, .ref up, .ref dn, .int (r_count r)])
def dAt (w : va_W) (k : Nat) (cI cL : ClassId) (h hp hq : Nat) (d : DT) : Prop := w[k]? = some (h, dE hp hq d) ∧ w[k + 1]? = some (hp, aI cI 4 (d_people d)) ∧ w[k + 2]? = some (hq, aL cL 4 (d_paid d))
def rAt (w : va_W) (k : Nat) (cI : ClassId) (h fr up dn : Nat) (r : RT) : Prop := w[k]? = some (h, rE fr up dn r) ∧ w[k + 1]? = some (fr, aI cI 20 (r_from r)) ∧ w[k + 2]? = some (up, aI cI 20 (r_up r)) ∧ w[k + 3]? = some (dn, aI cI 20 (r_down r))
/-- the list w1 is w but for the three cells of the debt at k, which is d there -/
def dUpd (w w1 : va_W) (k : Nat) (cI cL : ClassId) (h hp hq : Nat) (d : DT) : Prop := dAt w1 k cI cL h hp hq d ∧ w1.length = w.length ∧ ∀ j, j < k ∨ k + 2 < j → w1[j]? = w[j]?
def rUpd (w w1 : va_W) (k : Nat) (cI : ClassId) (h fr up dn : Nat) (r : RT) : Prop := rAt w1 k cI h fr up dn r ∧ w1.length = w.length ∧ ∀ j, j < k ∨ k + 3 < j → w1[j]? = w[j]?
theorem ws_s {w : va_W} {k : Nat} {x y : Nat × va_E} (h : w[k]? = some x) : (w.set k y)[k]? = some y := by
  obtain ⟨h1, -⟩ := List.getElem?_eq_some_iff.mp h
  rw [List.getElem?_set_self h1]
theorem ws_n {w : va_W} {k j : Nat} {y : Nat × va_E} (h : k ≠ j) : (w.set k y)[j]? = w[j]? := List.getElem?_set_ne h
theorem dUpd.rf {w : va_W} {k : Nat} {cI cL : ClassId} {h hp hq : Nat} {d : DT} (H : dAt w k cI cL h hp hq d) : dUpd w w k cI cL h hp hq d := ⟨H, rfl, fun _ _ => rfl⟩
theorem dUpd.o {w w1 : va_W} {k : Nat} {cI cL : ClassId} {h hp hq : Nat} {d : DT} (H : dUpd w w1 k cI cL h hp hq d) : w1[k]? = some (h, dE hp hq d) := H.1.1
theorem dUpd.p {w w1 : va_W} {k : Nat} {cI cL : ClassId} {h hp hq : Nat} {d : DT} (H : dUpd w w1 k cI cL h hp hq d) : w1[k + 1]? = some (hp, aI cI 4 (d_people d)) := H.1.2.1
theorem dUpd.q {w w1 : va_W} {k : Nat} {cI cL : ClassId} {h hp hq : Nat} {d : DT} (H : dUpd w w1 k cI cL h hp hq d) : w1[k + 2]? = some (hq, aL cL 4 (d_paid d)) := H.1.2.2
theorem dUpd.so {w w1 : va_W} {k : Nat} {cI cL : ClassId} {h hp hq : Nat} {d : DT} (d2 : DT) (H : dUpd w w1 k cI cL h hp hq d) (h1 : d_people d2 = d_people d) (h2 : d_paid d2 = d_paid d) : dUpd w (w1.set k (h, dE hp hq d2)) k cI cL h hp hq d2 := by
  obtain ⟨⟨a, b, c⟩, l, o⟩ := H
  refine ⟨⟨ws_s a, ?_, ?_⟩, by rw [List.length_set, l], fun j hj => ?_⟩
  · rw [ws_n (by omega), h1]; exact b
  · rw [ws_n (by omega), h2]; exact c
  · rw [ws_n (by omega)]; exact o j hj
theorem dUpd.sp {w w1 : va_W} {k : Nat} {cI cL : ClassId} {h hp hq : Nat} {d : DT} (f : Nat → Int32) (H : dUpd w w1 k cI cL h hp hq d) : dUpd w (w1.set (k + 1) (hp, aI cI 4 f)) k cI cL h hp hq (s_people d f) := by
  obtain ⟨⟨a, b, c⟩, l, o⟩ := H
  refine ⟨⟨?_, ws_s b, ?_⟩, by rw [List.length_set, l], fun j hj => ?_⟩
  · rw [ws_n (by omega)]; exact a
  · rw [ws_n (by omega)]; exact c
  · rw [ws_n (by omega)]; exact o j hj
theorem dUpd.sq {w w1 : va_W} {k : Nat} {cI cL : ClassId} {h hp hq : Nat} {d : DT} (f : Nat → Int64) (H : dUpd w w1 k cI cL h hp hq d) : dUpd w (w1.set (k + 2) (hq, aL cL 4 f)) k cI cL h hp hq (s_paid d f) := by
  obtain ⟨⟨a, b, c⟩, l, o⟩ := H
  refine ⟨⟨?_, ?_, ws_s c⟩, by rw [List.length_set, l], fun j hj => ?_⟩
  · rw [ws_n (by omega)]; exact a
  · rw [ws_n (by omega)]; exact b
  · rw [ws_n (by omega)]; exact o j hj
theorem dUpd.tr {w w1 w2 : va_W} {k : Nat} {cI cL : ClassId} {h hp hq : Nat} {d d2 : DT} (H : dUpd w w1 k cI cL h hp hq d) (H2 : dUpd w1 w2 k cI cL h hp hq d2) : dUpd w w2 k cI cL h hp hq d2 := ⟨H2.1, H2.2.1.trans H.2.1, fun j hj => (H2.2.2 j hj).trans (H.2.2 j hj)⟩
theorem rAt.kp {w w1 : va_W} {k kr : Nat} {cI cL : ClassId} {h hp hq h9 fr up dn : Nat} {d : DT} {r : RT} (R : rAt w kr cI h9 fr up dn r) (H : dUpd w w1 k cI cL h hp hq d) (hk : kr + 3 < k) : rAt w1 kr cI h9 fr up dn r := by
  obtain ⟨a, b, c, e⟩ := R
  exact ⟨by rw [H.2.2 _ (by omega)]; exact a, by rw [H.2.2 _ (by omega)]; exact b, by rw [H.2.2 _ (by omega)]; exact c, by rw [H.2.2 _ (by omega)]; exact e⟩
theorem rUpd.rf {w : va_W} {k : Nat} {cI : ClassId} {h fr up dn : Nat} {r : RT} (H : rAt w k cI h fr up dn r) : rUpd w w k cI h fr up dn r := ⟨H, rfl, fun _ _ => rfl⟩
theorem rUpd.so {w w1 : va_W} {k : Nat} {cI : ClassId} {h fr up dn : Nat} {r : RT} (x : Int32) (H : rUpd w w1 k cI h fr up dn r) : rUpd w (w1.set k (h, rE fr up dn (q_count r x))) k cI h fr up dn (q_count r x) := by
  obtain ⟨⟨a, b, c, e⟩, l, o⟩ := H
  refine ⟨⟨ws_s a, ?_, ?_, ?_⟩, by rw [List.length_set, l], fun j hj => ?_⟩
  · rw [ws_n (by omega)]; exact b
  · rw [ws_n (by omega)]; exact c
  · rw [ws_n (by omega)]; exact e
  · rw [ws_n (by omega)]; exact o j hj
theorem rUpd.s1 {w w1 : va_W} {k : Nat} {cI : ClassId} {h fr up dn : Nat} {r : RT} (f : Nat → Int32) (H : rUpd w w1 k cI h fr up dn r) : rUpd w (w1.set (k + 1) (fr, aI cI 20 f)) k cI h fr up dn (q_from r f) := by
  obtain ⟨⟨a, b, c, e⟩, l, o⟩ := H
  refine ⟨⟨?_, ws_s b, ?_, ?_⟩, by rw [List.length_set, l], fun j hj => ?_⟩
  · rw [ws_n (by omega)]; exact a
  · rw [ws_n (by omega)]; exact c
  · rw [ws_n (by omega)]; exact e
  · rw [ws_n (by omega)]; exact o j hj
theorem rUpd.s2 {w w1 : va_W} {k : Nat} {cI : ClassId} {h fr up dn : Nat} {r : RT} (f : Nat → Int32) (H : rUpd w w1 k cI h fr up dn r) : rUpd w (w1.set (k + 2) (up, aI cI 20 f)) k cI h fr up dn (q_up r f) := by
  obtain ⟨⟨a, b, c, e⟩, l, o⟩ := H
  refine ⟨⟨?_, ?_, ws_s c, ?_⟩, by rw [List.length_set, l], fun j hj => ?_⟩
  · rw [ws_n (by omega)]; exact a
  · rw [ws_n (by omega)]; exact b
  · rw [ws_n (by omega)]; exact e
  · rw [ws_n (by omega)]; exact o j hj
theorem rUpd.s3 {w w1 : va_W} {k : Nat} {cI : ClassId} {h fr up dn : Nat} {r : RT} (f : Nat → Int32) (H : rUpd w w1 k cI h fr up dn r) : rUpd w (w1.set (k + 3) (dn, aI cI 20 f)) k cI h fr up dn (q_down r f) := by
  obtain ⟨⟨a, b, c, e⟩, l, o⟩ := H
  refine ⟨⟨?_, ?_, ?_, ws_s e⟩, by rw [List.length_set, l], fun j hj => ?_⟩
  · rw [ws_n (by omega)]; exact a
  · rw [ws_n (by omega)]; exact b
  · rw [ws_n (by omega)]; exact c
  · rw [ws_n (by omega)]; exact o j hj
/-- the array classes that the worlds hold -/
abbrev tyL (cI cL cD : ClassId) : List (ClassId × FieldType) := [(cI, .int), (cL, .long), (cD, .object "DebtRows$Debt")]
/-- a method's start: the world w, in A -/
def mPc (D : va_G) (w : va_W) (tys : List (ClassId × FieldType)) (A : Nat → Prop) (av : List Value) : Array Value → State → Prop := va_Pc av (fun U => va_P D vwCl w U.heap ∧ va_K D vwCl tys U ∧ va_D A w)
theorem mPc_bl {D : va_G} {w : va_W} {tys : List (ClassId × FieldType)} {A : Nat → Prop} {av : List Value} : FrameBlind (mPc D w tys A av) := fun a U g mk q => by
  obtain ⟨q0, qP, qK, qD⟩ := q
  exact ⟨q0, qP, va_K.moved (u := U) (U := U.calling g mk a) (Vm.Alike.refl U.vm) qK, qD⟩
theorem mPc_pr {D : va_G} {w : va_W} {tys : List (ClassId × FieldType)} {A : Nat → Prop} {av : List Value} {s : State} {H : Heap} (hP : va_P D vwCl w H) (hK : va_K D vwCl tys s) (hD : va_D A w) : ∀ U : State, U.heap = H → s.WarmedH U.vm → mPc D w tys A av av.toArray U := fun U hU hW => ⟨rfl, by rw [hU]; exact hP, va_K.moved hW.alike hK, hD⟩
/-- a debt's numbers are in their bounds -/
def wfD (d : DT) : Prop := (∃ m : Nat, m ≤ 4 ∧ d_debtors d = nI m) ∧ ∃ P : Nat, P ≤ 12 ∧ d_dParts d = nI P
def wfR (r : RT) : Prop := ∃ m : Nat, m ≤ 20 ∧ r_count r = nI m
def iMax (x y : Int32) : Int32 := if x < y then y else x
def iMin (x y : Int32) : Int32 := if y < x then y else x
def jMax (x y : Int64) : Int64 := if y < x then x else y
def jMin (x y : Int64) : Int64 := if y < x then y else x
theorem nI_inc (i : Nat) : nI i + Int32.ofInt 1 = nI (i + 1) := nI_1 i
theorem n64_0 {x : Int32} (h : 1 ≤ x) : ¬ x.toInt64 = 0 := by
  intro q
  have h1 := congrArg Int64.toInt q
  rw [Int32.toInt_toInt64] at h1
  rw [Int32.le_iff_toInt_le] at h
  have h2 : (1 : Int32).toInt = 1 := by decide
  have h3 : (0 : Int64).toInt = 0 := by decide
  omega
theorem vp_lt {x : Int32} {m n : Nat} {y : Int32} (h0 : ¬ x < 0) (h1 : ¬ y ≤ x) (hy : y = nI m) (hm : m ≤ n) (hn : n < 2 ^ 31) : vp_in x n := by
  rw [vp_in_iff]
  rw [Int32.lt_iff_toInt_lt] at h0
  rw [Int32.le_iff_toInt_le, hy, nI_toInt (by omega)] at h1
  have h2 : (0 : Int32).toInt = 0 := by decide
  omega
theorem tsw3 {x : Int32} (h0 : ¬ x = 0) (h1 : ¬ x = 1) (h2 : ¬ x = 2) : x.toInt < 0 ∨ 2 < x.toInt := by
  have g0 : x.toInt ≠ 0 := fun q => h0 (Int32.toInt_inj.mp (q.trans (by decide)))
  have g1 : x.toInt ≠ 1 := fun q => h1 (Int32.toInt_inj.mp (q.trans (by decide)))
  have g2 : x.toInt ≠ 2 := fun q => h2 (Int32.toInt_inj.mp (q.trans (by decide)))
  omega
theorem tsw4 {x : Int32} (h0 : ¬ x = 0) (h1 : ¬ x = 1) (h2 : ¬ x = 2) (h3 : ¬ x = 3) : x.toInt < 0 ∨ 3 < x.toInt := by
  have g0 : x.toInt ≠ 0 := fun q => h0 (Int32.toInt_inj.mp (q.trans (by decide)))
  have g1 : x.toInt ≠ 1 := fun q => h1 (Int32.toInt_inj.mp (q.trans (by decide)))
  have g2 : x.toInt ≠ 2 := fun q => h2 (Int32.toInt_inj.mp (q.trans (by decide)))
  have g3 : x.toInt ≠ 3 := fun q => h3 (Int32.toInt_inj.mp (q.trans (by decide)))
  omega
theorem tsw5 {x : Int32} (h0 : ¬ x = 0) (h1 : ¬ x = 1) (h2 : ¬ x = 2) (h3 : ¬ x = 3) (h4 : ¬ x = 4) : x.toInt < 0 ∨ 4 < x.toInt := by
  have g0 : x.toInt ≠ 0 := fun q => h0 (Int32.toInt_inj.mp (q.trans (by decide)))
  have g1 : x.toInt ≠ 1 := fun q => h1 (Int32.toInt_inj.mp (q.trans (by decide)))
  have g2 : x.toInt ≠ 2 := fun q => h2 (Int32.toInt_inj.mp (q.trans (by decide)))
  have g3 : x.toInt ≠ 3 := fun q => h3 (Int32.toInt_inj.mp (q.trans (by decide)))
  have g4 : x.toInt ≠ 4 := fun q => h4 (Int32.toInt_inj.mp (q.trans (by decide)))
  omega
theorem tsw6 {x : Int32} (h0 : ¬ x = 0) (h1 : ¬ x = 1) (h2 : ¬ x = 2) (h3 : ¬ x = 3) (h4 : ¬ x = 4) (h5 : ¬ x = 5) : x.toInt < 0 ∨ 5 < x.toInt := by
  have g0 : x.toInt ≠ 0 := fun q => h0 (Int32.toInt_inj.mp (q.trans (by decide)))
  have g1 : x.toInt ≠ 1 := fun q => h1 (Int32.toInt_inj.mp (q.trans (by decide)))
  have g2 : x.toInt ≠ 2 := fun q => h2 (Int32.toInt_inj.mp (q.trans (by decide)))
  have g3 : x.toInt ≠ 3 := fun q => h3 (Int32.toInt_inj.mp (q.trans (by decide)))
  have g4 : x.toInt ≠ 4 := fun q => h4 (Int32.toInt_inj.mp (q.trans (by decide)))
  have g5 : x.toInt ≠ 5 := fun q => h5 (Int32.toInt_inj.mp (q.trans (by decide)))
  omega
theorem tsw7 {x : Int32} (h0 : ¬ x = 0) (h1 : ¬ x = 1) (h2 : ¬ x = 2) (h3 : ¬ x = 3) (h4 : ¬ x = 4) (h5 : ¬ x = 5) (h6 : ¬ x = 6) : x.toInt < 0 ∨ 6 < x.toInt := by
  have g0 : x.toInt ≠ 0 := fun q => h0 (Int32.toInt_inj.mp (q.trans (by decide)))
  have g1 : x.toInt ≠ 1 := fun q => h1 (Int32.toInt_inj.mp (q.trans (by decide)))
  have g2 : x.toInt ≠ 2 := fun q => h2 (Int32.toInt_inj.mp (q.trans (by decide)))
  have g3 : x.toInt ≠ 3 := fun q => h3 (Int32.toInt_inj.mp (q.trans (by decide)))
  have g4 : x.toInt ≠ 4 := fun q => h4 (Int32.toInt_inj.mp (q.trans (by decide)))
  have g5 : x.toInt ≠ 5 := fun q => h5 (Int32.toInt_inj.mp (q.trans (by decide)))
  have g6 : x.toInt ≠ 6 := fun q => h6 (Int32.toInt_inj.mp (q.trans (by decide)))
  omega
theorem tsw8 {x : Int32} (h0 : ¬ x = 0) (h1 : ¬ x = 1) (h2 : ¬ x = 2) (h3 : ¬ x = 3) (h4 : ¬ x = 4) (h5 : ¬ x = 5) (h6 : ¬ x = 6) (h7 : ¬ x = 7) : x.toInt < 0 ∨ 7 < x.toInt := by
  have g0 : x.toInt ≠ 0 := fun q => h0 (Int32.toInt_inj.mp (q.trans (by decide)))
  have g1 : x.toInt ≠ 1 := fun q => h1 (Int32.toInt_inj.mp (q.trans (by decide)))
  have g2 : x.toInt ≠ 2 := fun q => h2 (Int32.toInt_inj.mp (q.trans (by decide)))
  have g3 : x.toInt ≠ 3 := fun q => h3 (Int32.toInt_inj.mp (q.trans (by decide)))
  have g4 : x.toInt ≠ 4 := fun q => h4 (Int32.toInt_inj.mp (q.trans (by decide)))
  have g5 : x.toInt ≠ 5 := fun q => h5 (Int32.toInt_inj.mp (q.trans (by decide)))
  have g6 : x.toInt ≠ 6 := fun q => h6 (Int32.toInt_inj.mp (q.trans (by decide)))
  have g7 : x.toInt ≠ 7 := fun q => h7 (Int32.toInt_inj.mp (q.trans (by decide)))
  omega
theorem tsw9 {x : Int32} (h0 : ¬ x = 0) (h1 : ¬ x = 1) (h2 : ¬ x = 2) (h3 : ¬ x = 3) (h4 : ¬ x = 4) (h5 : ¬ x = 5) (h6 : ¬ x = 6) (h7 : ¬ x = 7) (h8 : ¬ x = 8) : x.toInt < 0 ∨ 8 < x.toInt := by
  have g0 : x.toInt ≠ 0 := fun q => h0 (Int32.toInt_inj.mp (q.trans (by decide)))
  have g1 : x.toInt ≠ 1 := fun q => h1 (Int32.toInt_inj.mp (q.trans (by decide)))
  have g2 : x.toInt ≠ 2 := fun q => h2 (Int32.toInt_inj.mp (q.trans (by decide)))
  have g3 : x.toInt ≠ 3 := fun q => h3 (Int32.toInt_inj.mp (q.trans (by decide)))
  have g4 : x.toInt ≠ 4 := fun q => h4 (Int32.toInt_inj.mp (q.trans (by decide)))
  have g5 : x.toInt ≠ 5 := fun q => h5 (Int32.toInt_inj.mp (q.trans (by decide)))
  have g6 : x.toInt ≠ 6 := fun q => h6 (Int32.toInt_inj.mp (q.trans (by decide)))
  have g7 : x.toInt ≠ 7 := fun q => h7 (Int32.toInt_inj.mp (q.trans (by decide)))
  have g8 : x.toInt ≠ 8 := fun q => h8 (Int32.toInt_inj.mp (q.trans (by decide)))
  omega
theorem tsw10 {x : Int32} (h0 : ¬ x = 0) (h1 : ¬ x = 1) (h2 : ¬ x = 2) (h3 : ¬ x = 3) (h4 : ¬ x = 4) (h5 : ¬ x = 5) (h6 : ¬ x = 6) (h7 : ¬ x = 7) (h8 : ¬ x = 8) (h9 : ¬ x = 9) : x.toInt < 0 ∨ 9 < x.toInt := by
  have g0 : x.toInt ≠ 0 := fun q => h0 (Int32.toInt_inj.mp (q.trans (by decide)))
  have g1 : x.toInt ≠ 1 := fun q => h1 (Int32.toInt_inj.mp (q.trans (by decide)))
  have g2 : x.toInt ≠ 2 := fun q => h2 (Int32.toInt_inj.mp (q.trans (by decide)))
  have g3 : x.toInt ≠ 3 := fun q => h3 (Int32.toInt_inj.mp (q.trans (by decide)))
  have g4 : x.toInt ≠ 4 := fun q => h4 (Int32.toInt_inj.mp (q.trans (by decide)))
  have g5 : x.toInt ≠ 5 := fun q => h5 (Int32.toInt_inj.mp (q.trans (by decide)))
  have g6 : x.toInt ≠ 6 := fun q => h6 (Int32.toInt_inj.mp (q.trans (by decide)))
  have g7 : x.toInt ≠ 7 := fun q => h7 (Int32.toInt_inj.mp (q.trans (by decide)))
  have g8 : x.toInt ≠ 8 := fun q => h8 (Int32.toInt_inj.mp (q.trans (by decide)))
  have g9 : x.toInt ≠ 9 := fun q => h9 (Int32.toInt_inj.mp (q.trans (by decide)))
  omega
theorem tsw11 {x : Int32} (h0 : ¬ x = 0) (h1 : ¬ x = 1) (h2 : ¬ x = 2) (h3 : ¬ x = 3) (h4 : ¬ x = 4) (h5 : ¬ x = 5) (h6 : ¬ x = 6) (h7 : ¬ x = 7) (h8 : ¬ x = 8) (h9 : ¬ x = 9) (h10 : ¬ x = 10) : x.toInt < 0 ∨ 10 < x.toInt := by
  have g0 : x.toInt ≠ 0 := fun q => h0 (Int32.toInt_inj.mp (q.trans (by decide)))
  have g1 : x.toInt ≠ 1 := fun q => h1 (Int32.toInt_inj.mp (q.trans (by decide)))
  have g2 : x.toInt ≠ 2 := fun q => h2 (Int32.toInt_inj.mp (q.trans (by decide)))
  have g3 : x.toInt ≠ 3 := fun q => h3 (Int32.toInt_inj.mp (q.trans (by decide)))
  have g4 : x.toInt ≠ 4 := fun q => h4 (Int32.toInt_inj.mp (q.trans (by decide)))
  have g5 : x.toInt ≠ 5 := fun q => h5 (Int32.toInt_inj.mp (q.trans (by decide)))
  have g6 : x.toInt ≠ 6 := fun q => h6 (Int32.toInt_inj.mp (q.trans (by decide)))
  have g7 : x.toInt ≠ 7 := fun q => h7 (Int32.toInt_inj.mp (q.trans (by decide)))
  have g8 : x.toInt ≠ 8 := fun q => h8 (Int32.toInt_inj.mp (q.trans (by decide)))
  have g9 : x.toInt ≠ 9 := fun q => h9 (Int32.toInt_inj.mp (q.trans (by decide)))
  have g10 : x.toInt ≠ 10 := fun q => h10 (Int32.toInt_inj.mp (q.trans (by decide)))
  omega
theorem tsw12 {x : Int32} (h0 : ¬ x = 0) (h1 : ¬ x = 1) (h2 : ¬ x = 2) (h3 : ¬ x = 3) (h4 : ¬ x = 4) (h5 : ¬ x = 5) (h6 : ¬ x = 6) (h7 : ¬ x = 7) (h8 : ¬ x = 8) (h9 : ¬ x = 9) (h10 : ¬ x = 10) (h11 : ¬ x = 11) : x.toInt < 0 ∨ 11 < x.toInt := by
  have g0 : x.toInt ≠ 0 := fun q => h0 (Int32.toInt_inj.mp (q.trans (by decide)))
  have g1 : x.toInt ≠ 1 := fun q => h1 (Int32.toInt_inj.mp (q.trans (by decide)))
  have g2 : x.toInt ≠ 2 := fun q => h2 (Int32.toInt_inj.mp (q.trans (by decide)))
  have g3 : x.toInt ≠ 3 := fun q => h3 (Int32.toInt_inj.mp (q.trans (by decide)))
  have g4 : x.toInt ≠ 4 := fun q => h4 (Int32.toInt_inj.mp (q.trans (by decide)))
  have g5 : x.toInt ≠ 5 := fun q => h5 (Int32.toInt_inj.mp (q.trans (by decide)))
  have g6 : x.toInt ≠ 6 := fun q => h6 (Int32.toInt_inj.mp (q.trans (by decide)))
  have g7 : x.toInt ≠ 7 := fun q => h7 (Int32.toInt_inj.mp (q.trans (by decide)))
  have g8 : x.toInt ≠ 8 := fun q => h8 (Int32.toInt_inj.mp (q.trans (by decide)))
  have g9 : x.toInt ≠ 9 := fun q => h9 (Int32.toInt_inj.mp (q.trans (by decide)))
  have g10 : x.toInt ≠ 10 := fun q => h10 (Int32.toInt_inj.mp (q.trans (by decide)))
  have g11 : x.toInt ≠ 11 := fun q => h11 (Int32.toInt_inj.mp (q.trans (by decide)))
  omega
theorem tsw13 {x : Int32} (h0 : ¬ x = 0) (h1 : ¬ x = 1) (h2 : ¬ x = 2) (h3 : ¬ x = 3) (h4 : ¬ x = 4) (h5 : ¬ x = 5) (h6 : ¬ x = 6) (h7 : ¬ x = 7) (h8 : ¬ x = 8) (h9 : ¬ x = 9) (h10 : ¬ x = 10) (h11 : ¬ x = 11) (h12 : ¬ x = 12) : x.toInt < 0 ∨ 12 < x.toInt := by
  have g0 : x.toInt ≠ 0 := fun q => h0 (Int32.toInt_inj.mp (q.trans (by decide)))
  have g1 : x.toInt ≠ 1 := fun q => h1 (Int32.toInt_inj.mp (q.trans (by decide)))
  have g2 : x.toInt ≠ 2 := fun q => h2 (Int32.toInt_inj.mp (q.trans (by decide)))
  have g3 : x.toInt ≠ 3 := fun q => h3 (Int32.toInt_inj.mp (q.trans (by decide)))
  have g4 : x.toInt ≠ 4 := fun q => h4 (Int32.toInt_inj.mp (q.trans (by decide)))
  have g5 : x.toInt ≠ 5 := fun q => h5 (Int32.toInt_inj.mp (q.trans (by decide)))
  have g6 : x.toInt ≠ 6 := fun q => h6 (Int32.toInt_inj.mp (q.trans (by decide)))
  have g7 : x.toInt ≠ 7 := fun q => h7 (Int32.toInt_inj.mp (q.trans (by decide)))
  have g8 : x.toInt ≠ 8 := fun q => h8 (Int32.toInt_inj.mp (q.trans (by decide)))
  have g9 : x.toInt ≠ 9 := fun q => h9 (Int32.toInt_inj.mp (q.trans (by decide)))
  have g10 : x.toInt ≠ 10 := fun q => h10 (Int32.toInt_inj.mp (q.trans (by decide)))
  have g11 : x.toInt ≠ 11 := fun q => h11 (Int32.toInt_inj.mp (q.trans (by decide)))
  have g12 : x.toInt ≠ 12 := fun q => h12 (Int32.toInt_inj.mp (q.trans (by decide)))
  omega
theorem tsw14 {x : Int32} (h0 : ¬ x = 0) (h1 : ¬ x = 1) (h2 : ¬ x = 2) (h3 : ¬ x = 3) (h4 : ¬ x = 4) (h5 : ¬ x = 5) (h6 : ¬ x = 6) (h7 : ¬ x = 7) (h8 : ¬ x = 8) (h9 : ¬ x = 9) (h10 : ¬ x = 10) (h11 : ¬ x = 11) (h12 : ¬ x = 12) (h13 : ¬ x = 13) : x.toInt < 0 ∨ 13 < x.toInt := by
  have g0 : x.toInt ≠ 0 := fun q => h0 (Int32.toInt_inj.mp (q.trans (by decide)))
  have g1 : x.toInt ≠ 1 := fun q => h1 (Int32.toInt_inj.mp (q.trans (by decide)))
  have g2 : x.toInt ≠ 2 := fun q => h2 (Int32.toInt_inj.mp (q.trans (by decide)))
  have g3 : x.toInt ≠ 3 := fun q => h3 (Int32.toInt_inj.mp (q.trans (by decide)))
  have g4 : x.toInt ≠ 4 := fun q => h4 (Int32.toInt_inj.mp (q.trans (by decide)))
  have g5 : x.toInt ≠ 5 := fun q => h5 (Int32.toInt_inj.mp (q.trans (by decide)))
  have g6 : x.toInt ≠ 6 := fun q => h6 (Int32.toInt_inj.mp (q.trans (by decide)))
  have g7 : x.toInt ≠ 7 := fun q => h7 (Int32.toInt_inj.mp (q.trans (by decide)))
  have g8 : x.toInt ≠ 8 := fun q => h8 (Int32.toInt_inj.mp (q.trans (by decide)))
  have g9 : x.toInt ≠ 9 := fun q => h9 (Int32.toInt_inj.mp (q.trans (by decide)))
  have g10 : x.toInt ≠ 10 := fun q => h10 (Int32.toInt_inj.mp (q.trans (by decide)))
  have g11 : x.toInt ≠ 11 := fun q => h11 (Int32.toInt_inj.mp (q.trans (by decide)))
  have g12 : x.toInt ≠ 12 := fun q => h12 (Int32.toInt_inj.mp (q.trans (by decide)))
  have g13 : x.toInt ≠ 13 := fun q => h13 (Int32.toInt_inj.mp (q.trans (by decide)))
  omega
