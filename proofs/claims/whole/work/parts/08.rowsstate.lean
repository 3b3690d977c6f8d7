/-! The class: its object, the rates, the debts in their order; the addresses of its cells. -/
abbrev XT : Type := Int32 × Int32 × RT × (Nat → Int64) × (Nat → DT)
abbrev x_cnt (d : XT) : Int32 := d.1
abbrev x_today (d : XT) : Int32 := d.2.1
abbrev x_rates (d : XT) : RT := d.2.2.1
abbrev x_credit (d : XT) : (Nat → Int64) := d.2.2.2.1
abbrev x_debts (d : XT) : (Nat → DT) := d.2.2.2.2
abbrev y_cnt (d : XT) (x : Int32) : XT := (x, d.2.1, d.2.2.1, d.2.2.2.1, d.2.2.2.2)
abbrev y_today (d : XT) (x : Int32) : XT := (d.1, x, d.2.2.1, d.2.2.2.1, d.2.2.2.2)
abbrev y_rates (d : XT) (x : RT) : XT := (d.1, d.2.1, x, d.2.2.2.1, d.2.2.2.2)
abbrev y_credit (d : XT) (x : (Nat → Int64)) : XT := (d.1, d.2.1, d.2.2.1, x, d.2.2.2.2)
abbrev y_debts (d : XT) (x : (Nat → DT)) : XT := (d.1, d.2.1, d.2.2.1, d.2.2.2.1, x)
abbrev AD : Type := Nat × Nat × Nat × Nat × Nat × Nat × Nat × Nat × (Nat → Nat) × (Nat → Nat) × (Nat → Nat) × (Nat → Option Nat)
abbrev a_x (d : AD) : Nat := d.1
abbrev a_r0 (d : AD) : Nat := d.2.1
abbrev a_fr (d : AD) : Nat := d.2.2.1
abbrev a_up (d : AD) : Nat := d.2.2.2.1
abbrev a_dn (d : AD) : Nat := d.2.2.2.2.1
abbrev a_ds (d : AD) : Nat := d.2.2.2.2.2.1
abbrev a_cr (d : AD) : Nat := d.2.2.2.2.2.2.1
abbrev a_n (d : AD) : Nat := d.2.2.2.2.2.2.2.1
abbrev a_da (d : AD) : (Nat → Nat) := d.2.2.2.2.2.2.2.2.1
abbrev a_pa (d : AD) : (Nat → Nat) := d.2.2.2.2.2.2.2.2.2.1
abbrev a_qa (d : AD) : (Nat → Nat) := d.2.2.2.2.2.2.2.2.2.2.1
abbrev a_g (d : AD) : (Nat → Option Nat) := d.2.2.2.2.2.2.2.2.2.2.2
abbrev b_x (d : AD) (x : Nat) : AD := (x, d.2.1, d.2.2.1, d.2.2.2.1, d.2.2.2.2.1, d.2.2.2.2.2.1, d.2.2.2.2.2.2.1, d.2.2.2.2.2.2.2.1, d.2.2.2.2.2.2.2.2.1, d.2.2.2.2.2.2.2.2.2.1, d.2.2.2.2.2.2.2.2.2.2.1, d.2.2.2.2.2.2.2.2.2.2.2)
abbrev b_r0 (d : AD) (x : Nat) : AD := (d.1, x, d.2.2.1, d.2.2.2.1, d.2.2.2.2.1, d.2.2.2.2.2.1, d.2.2.2.2.2.2.1, d.2.2.2.2.2.2.2.1, d.2.2.2.2.2.2.2.2.1, d.2.2.2.2.2.2.2.2.2.1, d.2.2.2.2.2.2.2.2.2.2.1, d.2.2.2.2.2.2.2.2.2.2.2)
abbrev b_fr (d : AD) (x : Nat) : AD := (d.1, d.2.1, x, d.2.2.2.1, d.2.2.2.2.1, d.2.2.2.2.2.1, d.2.2.2.2.2.2.1, d.2.2.2.2.2.2.2.1, d.2.2.2.2.2.2.2.2.1, d.2.2.2.2.2.2.2.2.2.1, d.2.2.2.2.2.2.2.2.2.2.1, d.2.2.2.2.2.2.2.2.2.2.2)
abbrev b_up (d : AD) (x : Nat) : AD := (d.1, d.2.1, d.2.2.1, x, d.2.2.2.2.1, d.2.2.2.2.2.1, d.2.2.2.2.2.2.1, d.2.2.2.2.2.2.2.1, d.2.2.2.2.2.2.2.2.1, d.2.2.2.2.2.2.2.2.2.1, d.2.2.2.2.2.2.2.2.2.2.1, d.2.2.2.2.2.2.2.2.2.2.2)
abbrev b_dn (d : AD) (x : Nat) : AD := (d.1, d.2.1, d.2.2.1, d.2.2.2.1, x, d.2.2.2.2.2.1, d.2.2.2.2.2.2.1, d.2.2.2.2.2.2.2.1, d.2.2.2.2.2.2.2.2.1, d.2.2.2.2.2.2.2.2.2.1, d.2.2.2.2.2.2.2.2.2.2.1, d.2.2.2.2.2.2.2.2.2.2.2)
abbrev b_ds (d : AD) (x : Nat) : AD := (d.1, d.2.1, d.2.2.1, d.2.2.2.1, d.2.2.2.2.1, x, d.2.2.2.2.2.2.1, d.2.2.2.2.2.2.2.1, d.2.2.2.2.2.2.2.2.1, d.2.2.2.2.2.2.2.2.2.1, d.2.2.2.2.2.2.2.2.2.2.1, d.2.2.2.2.2.2.2.2.2.2.2)
abbrev b_cr (d : AD) (x : Nat) : AD := (d.1, d.2.1, d.2.2.1, d.2.2.2.1, d.2.2.2.2.1, d.2.2.2.2.2.1, x, d.2.2.2.2.2.2.2.1, d.2.2.2.2.2.2.2.2.1, d.2.2.2.2.2.2.2.2.2.1, d.2.2.2.2.2.2.2.2.2.2.1, d.2.2.2.2.2.2.2.2.2.2.2)
abbrev b_n (d : AD) (x : Nat) : AD := (d.1, d.2.1, d.2.2.1, d.2.2.2.1, d.2.2.2.2.1, d.2.2.2.2.2.1, d.2.2.2.2.2.2.1, x, d.2.2.2.2.2.2.2.2.1, d.2.2.2.2.2.2.2.2.2.1, d.2.2.2.2.2.2.2.2.2.2.1, d.2.2.2.2.2.2.2.2.2.2.2)
abbrev b_da (d : AD) (x : (Nat → Nat)) : AD := (d.1, d.2.1, d.2.2.1, d.2.2.2.1, d.2.2.2.2.1, d.2.2.2.2.2.1, d.2.2.2.2.2.2.1, d.2.2.2.2.2.2.2.1, x, d.2.2.2.2.2.2.2.2.2.1, d.2.2.2.2.2.2.2.2.2.2.1, d.2.2.2.2.2.2.2.2.2.2.2)
abbrev b_pa (d : AD) (x : (Nat → Nat)) : AD := (d.1, d.2.1, d.2.2.1, d.2.2.2.1, d.2.2.2.2.1, d.2.2.2.2.2.1, d.2.2.2.2.2.2.1, d.2.2.2.2.2.2.2.1, d.2.2.2.2.2.2.2.2.1, x, d.2.2.2.2.2.2.2.2.2.2.1, d.2.2.2.2.2.2.2.2.2.2.2)
abbrev b_qa (d : AD) (x : (Nat → Nat)) : AD := (d.1, d.2.1, d.2.2.1, d.2.2.2.1, d.2.2.2.2.1, d.2.2.2.2.2.1, d.2.2.2.2.2.2.1, d.2.2.2.2.2.2.2.1, d.2.2.2.2.2.2.2.2.1, d.2.2.2.2.2.2.2.2.2.1, x, d.2.2.2.2.2.2.2.2.2.2.2)
abbrev b_g (d : AD) (x : (Nat → Option Nat)) : AD := (d.1, d.2.1, d.2.2.1, d.2.2.2.1, d.2.2.2.2.1, d.2.2.2.2.2.1, d.2.2.2.2.2.2.1, d.2.2.2.2.2.2.2.1, d.2.2.2.2.2.2.2.2.1, d.2.2.2.2.2.2.2.2.2.1, d.2.2.2.2.2.2.2.2.2.2.1, x)
abbrev xE (r0 ds cr : Nat) (s : XT) : va_E := .inr (2, [.ref r0, .ref ds, .ref cr, .int (x_cnt s), .int (x_today s)])
abbrev y_debt (s : XT) (i : Nat) (d : DT) : XT := y_debts s (va_up (x_debts s) i d)

def cA (w : va_W) (b : Nat) (cI cL cD : ClassId) (a : AD) (s : XT) : Prop :=
  (w[b]? = some (a_x a, xE (a_r0 a) (a_ds a) (a_cr a) s) ∧ rAt w (b + 1) cI (a_r0 a) (a_fr a) (a_up a) (a_dn a) (x_rates s) ∧ w[b + 5]? = some (a_ds a, aQ cD 40 (a_g a)) ∧ w[b + 6]? = some (a_cr a, aL cL 16 (x_credit s))) ∧
  (a_n a ≤ 40 ∧ x_cnt s = nI (a_n a) ∧ w.length = b + 7 + 3 * a_n a ∧ wfR (x_rates s)) ∧
  ∀ i, i < a_n a → a_g a i = some (a_da a i) ∧ dAt w (b + 7 + 3 * i) cI cL (a_da a i) (a_pa a i) (a_qa a i) (x_debts s i) ∧ wfD (x_debts s i)
def cUpd (w w1 : va_W) (b : Nat) (cI cL cD : ClassId) (a : AD) (s : XT) : Prop := cA w1 b cI cL cD a s ∧ ∀ j, j < b → w1[j]? = w[j]?
/-- the class's object at address x stands in w from place b on, in the state s -/
def cAt (w : va_W) (b : Nat) (cI cL cD : ClassId) (x : Nat) (s : XT) : Prop := ∃ a : AD, a_x a = x ∧ cA w b cI cL cD a s
theorem dUpd.out {w w1 : va_W} {k : Nat} {cI cL : ClassId} {h hp hq : Nat} {d : DT} (H : dUpd w w1 k cI cL h hp hq d) {j : Nat} {q : Nat × va_E} (hq : w[j]? = some q) (hj : j < k ∨ k + 2 < j) : w1[j]? = some q := by
  rw [H.2.2 j hj]; exact hq
theorem cA.x {w : va_W} {b : Nat} {cI cL cD : ClassId} {a : AD} {s : XT} (h : cA w b cI cL cD a s) : w[b]? = some (a_x a, xE (a_r0 a) (a_ds a) (a_cr a) s) := h.1.1
theorem cA.r {w : va_W} {b : Nat} {cI cL cD : ClassId} {a : AD} {s : XT} (h : cA w b cI cL cD a s) : rAt w (b + 1) cI (a_r0 a) (a_fr a) (a_up a) (a_dn a) (x_rates s) := h.1.2.1
theorem cA.ds {w : va_W} {b : Nat} {cI cL cD : ClassId} {a : AD} {s : XT} (h : cA w b cI cL cD a s) : w[b + 5]? = some (a_ds a, aQ cD 40 (a_g a)) := h.1.2.2.1
theorem cA.cr {w : va_W} {b : Nat} {cI cL cD : ClassId} {a : AD} {s : XT} (h : cA w b cI cL cD a s) : w[b + 6]? = some (a_cr a, aL cL 16 (x_credit s)) := h.1.2.2.2
theorem cA.wr {w : va_W} {b : Nat} {cI cL cD : ClassId} {a : AD} {s : XT} (h : cA w b cI cL cD a s) : wfR (x_rates s) := h.2.1.2.2.2
theorem cA.d {w : va_W} {b : Nat} {cI cL cD : ClassId} {a : AD} {s : XT} (h : cA w b cI cL cD a s) {i : Nat} (hi : i < a_n a) : dAt w (b + 7 + 3 * i) cI cL (a_da a i) (a_pa a i) (a_qa a i) (x_debts s i) := (h.2.2 i hi).2.1
theorem cA.wd {w : va_W} {b : Nat} {cI cL cD : ClassId} {a : AD} {s : XT} (h : cA w b cI cL cD a s) {i : Nat} (hi : i < a_n a) : wfD (x_debts s i) := (h.2.2 i hi).2.2
theorem cA.g {w : va_W} {b : Nat} {cI cL cD : ClassId} {a : AD} {s : XT} (h : cA w b cI cL cD a s) {i : Nat} (hi : i < a_n a) : a_g a i = some (a_da a i) := (h.2.2 i hi).1
theorem cA.n {w : va_W} {b : Nat} {cI cL cD : ClassId} {a : AD} {s : XT} (h : cA w b cI cL cD a s) : a_n a ≤ 40 := h.2.1.1
theorem cA.en {w : va_W} {b : Nat} {cI cL cD : ClassId} {a : AD} {s : XT} (h : cA w b cI cL cD a s) : x_cnt s = nI (a_n a) := h.2.1.2.1
theorem dAt.kx {w w1 : va_W} {k : Nat} {cI cL : ClassId} {h hp hq : Nat} {d : DT} (H : dAt w k cI cL h hp hq d) (e : ∀ j, k ≤ j → j ≤ k + 2 → w1[j]? = w[j]?) : dAt w1 k cI cL h hp hq d := by
  obtain ⟨a, b, c⟩ := H
  exact ⟨by rw [e _ (by omega) (by omega)]; exact a, by rw [e _ (by omega) (by omega)]; exact b, by rw [e _ (by omega) (by omega)]; exact c⟩
theorem rAt.kx {w w1 : va_W} {k : Nat} {cI : ClassId} {h fr up dn : Nat} {r : RT} (H : rAt w k cI h fr up dn r) (e : ∀ j, k ≤ j → j ≤ k + 3 → w1[j]? = w[j]?) : rAt w1 k cI h fr up dn r := by
  obtain ⟨a, b, c, d⟩ := H
  exact ⟨by rw [e _ (by omega) (by omega)]; exact a, by rw [e _ (by omega) (by omega)]; exact b, by rw [e _ (by omega) (by omega)]; exact c, by rw [e _ (by omega) (by omega)]; exact d⟩
theorem cUpd.rf {w : va_W} {b : Nat} {cI cL cD : ClassId} {a : AD} {s : XT} (h : cA w b cI cL cD a s) : cUpd w w b cI cL cD a s := ⟨h, fun _ _ => rfl⟩
theorem cUpd.at {w w1 : va_W} {b : Nat} {cI cL cD : ClassId} {a : AD} {s : XT} (h : cUpd w w1 b cI cL cD a s) : cAt w1 b cI cL cD (a_x a) s := ⟨a, rfl, h.1⟩
/-- a debt has changed -/
theorem cUpd.d {w w1 w2 : va_W} {b : Nat} {cI cL cD : ClassId} {a : AD} {s : XT} {i : Nat} {d : DT} (h : cUpd w w1 b cI cL cD a s) (hi : i < a_n a) (hU : dUpd w1 w2 (b + 7 + 3 * i) cI cL (a_da a i) (a_pa a i) (a_qa a i) d) (hw : wfD d) : cUpd w w2 b cI cL cD a (y_debt s i d) := by
  obtain ⟨⟨⟨h1, h2, h3, h4⟩, ⟨h5, h6, h7, h8⟩, h9⟩, h0⟩ := h
  refine ⟨⟨⟨hU.out h1 (by omega), h2.kx (fun j _ _ => hU.2.2 j (by omega)), hU.out h3 (by omega), hU.out h4 (by omega)⟩, ⟨h5, h6, hU.2.1.trans h7, h8⟩, fun j hj => ?_⟩, fun j hj => (hU.2.2 j (by omega)).trans (h0 j hj)⟩
  by_cases e : j = i
  · subst e
    have e1 : x_debts (y_debt s j d) j = d := va_up_self _ _ _
    rw [e1]
    exact ⟨(h9 j hj).1, hU.1, hw⟩
  · have e1 : x_debts (y_debt s i d) j = x_debts s j := va_up_ne _ _ e
    rw [e1]
    exact ⟨(h9 j hj).1, (h9 j hj).2.1.kx (fun q _ _ => hU.2.2 q (by omega)), (h9 j hj).2.2⟩
/-- the day goes on -/
theorem cUpd.t {w w1 : va_W} {b : Nat} {cI cL cD : ClassId} {a : AD} {s : XT} (t : Int32) (h : cUpd w w1 b cI cL cD a s) : cUpd w (w1.set b (a_x a, xE (a_r0 a) (a_ds a) (a_cr a) (y_today s t))) b cI cL cD a (y_today s t) := by
  obtain ⟨⟨⟨h1, h2, h3, h4⟩, ⟨h5, h6, h7, h8⟩, h9⟩, h0⟩ := h
  refine ⟨⟨⟨ws_s h1, h2.kx (fun j _ _ => ws_n (by omega)), by rw [ws_n (by omega)]; exact h3, by rw [ws_n (by omega)]; exact h4⟩, ⟨h5, h6, by rw [List.length_set]; exact h7, h8⟩, fun j hj => ⟨(h9 j hj).1, (h9 j hj).2.1.kx (fun q _ _ => ws_n (by omega)), (h9 j hj).2.2⟩⟩, fun j hj => by rw [ws_n (by omega)]; exact h0 j hj⟩
/-- somebody's credit -/
theorem cUpd.c {w w1 : va_W} {b : Nat} {cI cL cD : ClassId} {a : AD} {s : XT} (f : Nat → Int64) (h : cUpd w w1 b cI cL cD a s) : cUpd w (w1.set (b + 6) (a_cr a, aL cL 16 f)) b cI cL cD a (y_credit s f) := by
  obtain ⟨⟨⟨h1, h2, h3, h4⟩, ⟨h5, h6, h7, h8⟩, h9⟩, h0⟩ := h
  refine ⟨⟨⟨by rw [ws_n (by omega)]; exact h1, h2.kx (fun j _ _ => ws_n (by omega)), by rw [ws_n (by omega)]; exact h3, ws_s h4⟩, ⟨h5, h6, by rw [List.length_set]; exact h7, h8⟩, fun j hj => ⟨(h9 j hj).1, (h9 j hj).2.1.kx (fun q _ _ => ws_n (by omega)), (h9 j hj).2.2⟩⟩, fun j hj => by rw [ws_n (by omega)]; exact h0 j hj⟩
/-- the rates -/
theorem cUpd.r {w w1 w2 : va_W} {b : Nat} {cI cL cD : ClassId} {a : AD} {s : XT} {r : RT} (h : cUpd w w1 b cI cL cD a s) (hU : rUpd w1 w2 (b + 1) cI (a_r0 a) (a_fr a) (a_up a) (a_dn a) r) (hw : wfR r) : cUpd w w2 b cI cL cD a (y_rates s r) := by
  obtain ⟨⟨⟨h1, h2, h3, h4⟩, ⟨h5, h6, h7, h8⟩, h9⟩, h0⟩ := h
  refine ⟨⟨⟨by rw [hU.2.2 _ (by omega)]; exact h1, hU.1, by rw [hU.2.2 _ (by omega)]; exact h3, by rw [hU.2.2 _ (by omega)]; exact h4⟩, ⟨h5, h6, hU.2.1.trans h7, hw⟩, fun j hj => ⟨(h9 j hj).1, (h9 j hj).2.1.kx (fun q _ _ => hU.2.2 q (by omega)), (h9 j hj).2.2⟩⟩, fun j hj => (hU.2.2 j (by omega)).trans (h0 j hj)⟩
/-- a number that names a debt -/
abbrev okN (s : XT) (q : Int32) : Prop := 1 ≤ q ∧ q ≤ x_cnt s
def ixN (q : Int32) : Nat := (q - 1).toNatClampNeg
theorem okN_ix {s : XT} {q : Int32} {n : Nat} (h : okN s q) (e : x_cnt s = nI n) (hn : n ≤ 40) : ixN q < n ∧ q = nI (ixN q + 1) ∧ q - 1 = nI (ixN q) := by
  obtain ⟨h1, h2⟩ := h
  rw [e] at h2
  rw [Int32.le_iff_toInt_le, show (1 : Int32).toInt = 1 from by decide] at h1
  rw [Int32.le_iff_toInt_le, nI_toInt (by omega)] at h2
  obtain ⟨j, hj, ej⟩ := nI_of (x := q) (fun h => by rw [Int32.lt_iff_toInt_lt, show (0 : Int32).toInt = 0 from by decide] at h; omega)
  rw [ej, nI_toInt hj] at h1 h2
  obtain ⟨i, rfl⟩ : ∃ i, j = i + 1 := ⟨j - 1, by omega⟩
  have e1 : q - 1 = nI i := by rw [ej, nI_pred]
  have e2 : ixN q = i := by unfold ixN; rw [e1, nI_clamp (by omega)]
  rw [e2]
  exact ⟨by omega, ej, e1⟩
