/-! class against view: the day behind which interest runs may differ where none runs -/
def eqv (d v : DT) : Prop := d = v ∨ (d_state v ≠ 1 ∧ ∃ r, d = s_ib v r)
theorem eqv.one {d v : DT} (h : eqv d v) (h1 : d_state v = 1) : d = v := h.elim id (fun q => absurd h1 q.1)
theorem eqv.ib {d v : DT} (h : eqv d v) : ∃ r, d = s_ib v r := h.elim (fun e => ⟨d_ib v, e⟩) (fun q => q.2)
theorem eqv.rf (v : DT) : eqv v v := Or.inl rfl
theorem settle_ib (v : DT) (r : Int32) : f_settle (s_ib v r) = s_ib (f_settle v) r := by
  unfold f_settle
  dsimp only [d_cents, d_birth, d_people, d_paid, d_debtors, d_state, d_due, d_ib, d_open, d_lost, d_fixed, d_paidI, d_dDay, d_dParts, d_dOpen, s_cents, s_birth, s_people, s_paid, s_debtors, s_state, s_due, s_ib, s_open, s_lost, s_fixed, s_paidI, s_dDay, s_dParts, s_dOpen]
  by_cases h1 : 0 < v.2.2.2.2.2.2.2.2.2.2.1
  · rw [if_pos h1, if_pos h1]
  · rw [if_neg h1, if_neg h1]
    by_cases h2 : v.2.2.2.2.2.2.2.2.1 ≤ 10
    · rw [if_pos h2, if_pos h2]
      by_cases h3 : v.2.2.2.2.2.2.2.2.1 = 0
      · rw [if_pos h3, if_pos h3]
      · rw [if_neg h3, if_neg h3]; rfl
    · rw [if_neg h2, if_neg h2]
theorem settle_st (v : DT) : d_state (f_settle v) = d_state v ∨ d_state (f_settle v) = 4 ∨ d_state (f_settle v) = 7 := by
  unfold f_settle
  by_cases h1 : 0 < d_fixed v
  · rw [if_pos h1]; exact Or.inl rfl
  · rw [if_neg h1]
    by_cases h2 : d_open v ≤ 10
    · rw [if_pos h2]
      by_cases h3 : d_open v = 0
      · rw [if_pos h3]; exact Or.inr (Or.inl rfl)
      · rw [if_neg h3]; exact Or.inr (Or.inr rfl)
    · rw [if_neg h2]; exact Or.inl rfl
theorem fix_ib {v : DT} {r : Int32} {R : RT} {t : Int32} (h : d_state v ≠ 1) : f_fixInterest (s_ib v r) R t = s_ib (f_fixInterest v R t) (iMax r t) := by
  unfold f_fixInterest f_runningInterest
  rw [if_neg h, if_neg (show ¬ d_state (s_ib v r) = 1 from h)]
theorem eqv.fix {d v : DT} {R : RT} {t : Int32} (h : eqv d v) : eqv (f_fixInterest d R t) (f_fixInterest v R t) := by
  rcases h with rfl | ⟨h1, r, rfl⟩
  · exact eqv.rf _
  · exact Or.inr ⟨h1, _, fix_ib h1⟩
theorem take_ib (v : DT) (r pl : Int32) (n : Int64) : f_take (s_ib v r) pl n = ((f_take v pl n).1, s_ib (f_take v pl n).2 r) := by
  unfold f_take
  have e : f_hasPlace (s_ib v r) pl = f_hasPlace v pl := rfl
  rw [e]
  by_cases h : f_hasPlace v pl = 0
  · rw [if_pos h, if_pos h]
  · rw [if_neg h, if_neg h]
    dsimp only
    rw [← settle_ib]
theorem take_st {v : DT} {pl : Int32} {n : Int64} : d_state (f_take v pl n).2 = d_state v ∨ d_state (f_take v pl n).2 = 4 ∨ d_state (f_take v pl n).2 = 7 := by
  unfold f_take
  by_cases h : f_hasPlace v pl = 0
  · rw [if_pos h]; exact Or.inl rfl
  · rw [if_neg h]; exact settle_st _
theorem eqv.take {d v : DT} {pl : Int32} {n : Int64} (h : eqv d v) : (f_take d pl n).1 = (f_take v pl n).1 ∧ eqv (f_take d pl n).2 (f_take v pl n).2 := by
  rcases h with rfl | ⟨h1, r, rfl⟩
  · exact ⟨rfl, eqv.rf _⟩
  · rw [take_ib]
    refine ⟨rfl, Or.inr ⟨?_, r, rfl⟩⟩
    rcases take_st (v := v) (pl := pl) (n := n) with e | e | e
    · rw [e]; exact h1
    · rw [e]; decide
    · rw [e]; decide
theorem eqv.lose {d v : DT} {w : Int32} (h : eqv d v) (hw : w ≠ 1) : eqv (f_lose d w) (f_lose v w) := by
  obtain ⟨r, rfl⟩ := h.ib
  exact Or.inr ⟨hw, r, rfl⟩
theorem eqv.again {d v : DT} {w : Int32} (h : eqv d v) : f_runAgain d w = f_runAgain v w := by
  obtain ⟨r, rfl⟩ := h.ib
  rfl
theorem eqv.join {d v : DT} {w : Int32} (h : eqv d v) : (f_join d w).1 = (f_join v w).1 ∧ eqv (f_join d w).2 (f_join v w).2 := by
  rcases h with rfl | ⟨h1, r, rfl⟩
  · exact ⟨rfl, eqv.rf _⟩
  · unfold f_join
    have e : f_placeOf (s_ib v r) w = f_placeOf v w := rfl
    rw [e]
    dsimp only [d_cents, d_birth, d_people, d_paid, d_debtors, d_state, d_due, d_ib, d_open, d_lost, d_fixed, d_paidI, d_dDay, d_dParts, d_dOpen, s_cents, s_birth, s_people, s_paid, s_debtors, s_state, s_due, s_ib, s_open, s_lost, s_fixed, s_paidI, s_dDay, s_dParts, s_dOpen]
    by_cases h4 : 4 ≤ v.2.2.2.2.1
    · rw [if_pos h4, if_pos h4]; exact ⟨rfl, Or.inr ⟨h1, r, rfl⟩⟩
    · rw [if_neg h4, if_neg h4]
      by_cases h5 : f_placeOf v w = -1
      · rw [if_pos h5, if_pos h5]; exact ⟨rfl, Or.inr ⟨h1, r, rfl⟩⟩
      · rw [if_neg h5, if_neg h5]; exact ⟨rfl, Or.inr ⟨h1, r, rfl⟩⟩
theorem mbo_ib (v : DT) (r : Int32) (n i : Nat) : fmL (s_ib v r) i n = fmL v i n := by
  induction n generalizing i with
  | zero => rfl
  | succ n ih => unfold fmL; rw [ih]; rfl
theorem fmd_ib (v : DT) (r : Int32) : f_firstMissedDay (s_ib v r) = f_firstMissedDay v := by
  unfold f_firstMissedDay
  rw [mbo_ib]
/-! what holds of every debt -/
def Inv (F : Int) (t : Int32) (v : DT) : Prop :=
  (0 ≤ (d_birth v).toInt) ∧
  ((d_birth v).toInt ≤ t.toInt) ∧
  (-1 ≤ (d_due v).toInt) ∧
  ((d_due v).toInt ≤ 100010) ∧
  (∃ m : Nat, 1 ≤ m ∧ m ≤ 4 ∧ d_debtors v = nI m ∧ (∀ k k', k < m → k' < m → d_people v k = d_people v k' → k = k') ∧ (∀ k, m ≤ k → d_paid v k = 0)) ∧
  (∃ P : Nat, P ≤ 12 ∧ d_dParts v = nI P ∧ (d_state v = 2 → 1 ≤ P)) ∧
  (0 ≤ (d_dDay v).toInt) ∧
  ((d_dDay v).toInt ≤ 100000) ∧
  (1 ≤ (d_cents v).toInt) ∧
  ((d_cents v).toInt ≤ 1000000000) ∧
  (0 ≤ (d_open v).toInt) ∧
  (0 ≤ (d_lost v).toInt) ∧
  ((d_state v = 0 ∨ d_state v = 1 ∨ d_state v = 2 ∨ d_state v = 3) → 1 ≤ (d_open v).toInt ∧ d_lost v = 0) ∧
  (0 ≤ (d_fixed v).toInt) ∧
  ((d_fixed v).toInt ≤ F) ∧
  (∀ k, 0 ≤ (d_paid v k).toInt) ∧
  ((d_cents v).toInt = (d_open v).toInt + (d_lost v).toInt + (d_paid v 0).toInt + (d_paid v 1).toInt + (d_paid v 2).toInt + (d_paid v 3).toInt) ∧
  (d_state v = 1 → 0 ≤ (d_ib v).toInt ∧ (d_ib v).toInt ≤ 100010)
theorem Inv.bi0 {F : Int} {t : Int32} {v : DT} (h : Inv F t v) : 0 ≤ (d_birth v).toInt := h.1
theorem Inv.bi1 {F : Int} {t : Int32} {v : DT} (h : Inv F t v) : (d_birth v).toInt ≤ t.toInt := h.2.1
theorem Inv.du0 {F : Int} {t : Int32} {v : DT} (h : Inv F t v) : -1 ≤ (d_due v).toInt := h.2.2.1
theorem Inv.du1 {F : Int} {t : Int32} {v : DT} (h : Inv F t v) : (d_due v).toInt ≤ 100010 := h.2.2.2.1
theorem Inv.nm {F : Int} {t : Int32} {v : DT} (h : Inv F t v) : ∃ m : Nat, 1 ≤ m ∧ m ≤ 4 ∧ d_debtors v = nI m ∧ (∀ k k', k < m → k' < m → d_people v k = d_people v k' → k = k') ∧ (∀ k, m ≤ k → d_paid v k = 0) := h.2.2.2.2.1
theorem Inv.pt {F : Int} {t : Int32} {v : DT} (h : Inv F t v) : ∃ P : Nat, P ≤ 12 ∧ d_dParts v = nI P ∧ (d_state v = 2 → 1 ≤ P) := h.2.2.2.2.2.1
theorem Inv.dd0 {F : Int} {t : Int32} {v : DT} (h : Inv F t v) : 0 ≤ (d_dDay v).toInt := h.2.2.2.2.2.2.1
theorem Inv.dd1 {F : Int} {t : Int32} {v : DT} (h : Inv F t v) : (d_dDay v).toInt ≤ 100000 := h.2.2.2.2.2.2.2.1
theorem Inv.ce0 {F : Int} {t : Int32} {v : DT} (h : Inv F t v) : 1 ≤ (d_cents v).toInt := h.2.2.2.2.2.2.2.2.1
theorem Inv.ce1 {F : Int} {t : Int32} {v : DT} (h : Inv F t v) : (d_cents v).toInt ≤ 1000000000 := h.2.2.2.2.2.2.2.2.2.1
theorem Inv.op0 {F : Int} {t : Int32} {v : DT} (h : Inv F t v) : 0 ≤ (d_open v).toInt := h.2.2.2.2.2.2.2.2.2.2.1
theorem Inv.lo0 {F : Int} {t : Int32} {v : DT} (h : Inv F t v) : 0 ≤ (d_lost v).toInt := h.2.2.2.2.2.2.2.2.2.2.2.1
theorem Inv.live {F : Int} {t : Int32} {v : DT} (h : Inv F t v) : (d_state v = 0 ∨ d_state v = 1 ∨ d_state v = 2 ∨ d_state v = 3) → 1 ≤ (d_open v).toInt ∧ d_lost v = 0 := h.2.2.2.2.2.2.2.2.2.2.2.2.1
theorem Inv.fx0 {F : Int} {t : Int32} {v : DT} (h : Inv F t v) : 0 ≤ (d_fixed v).toInt := h.2.2.2.2.2.2.2.2.2.2.2.2.2.1
theorem Inv.fx1 {F : Int} {t : Int32} {v : DT} (h : Inv F t v) : (d_fixed v).toInt ≤ F := h.2.2.2.2.2.2.2.2.2.2.2.2.2.2.1
theorem Inv.pa {F : Int} {t : Int32} {v : DT} (h : Inv F t v) : ∀ k, 0 ≤ (d_paid v k).toInt := h.2.2.2.2.2.2.2.2.2.2.2.2.2.2.2.1
theorem Inv.su {F : Int} {t : Int32} {v : DT} (h : Inv F t v) : (d_cents v).toInt = (d_open v).toInt + (d_lost v).toInt + (d_paid v 0).toInt + (d_paid v 1).toInt + (d_paid v 2).toInt + (d_paid v 3).toInt := h.2.2.2.2.2.2.2.2.2.2.2.2.2.2.2.2.1
theorem Inv.ib {F : Int} {t : Int32} {v : DT} (h : Inv F t v) : d_state v = 1 → 0 ≤ (d_ib v).toInt ∧ (d_ib v).toInt ≤ 100010 := h.2.2.2.2.2.2.2.2.2.2.2.2.2.2.2.2.2
theorem Inv.mono {F F' : Int} {t t' : Int32} {v : DT} (h : Inv F t v) (hF : F ≤ F') (ht : t.toInt ≤ t'.toInt) : Inv F' t' v :=
  ⟨h.bi0, Int.le_trans h.bi1 ht, h.du0, h.du1, h.nm, h.pt, h.dd0, h.dd1, h.ce0, h.ce1, h.op0, h.lo0, h.live, h.fx0, Int.le_trans h.fx1 hF, h.pa, h.su, h.ib⟩
theorem Inv.lose {F : Int} {t : Int32} {v : DT} {w : Int32} (h : Inv F t v) (hl : d_state v = 0 ∨ d_state v = 1 ∨ d_state v = 2 ∨ d_state v = 3) (hw : w = 5 ∨ w = 6 ∨ w = 7) : Inv F t (f_lose v w) := by
  obtain ⟨ho, hz⟩ := h.live hl
  have hsu := h.su
  rw [hz, show (0 : Int64).toInt = 0 from rfl] at hsu
  obtain ⟨P, hP, e1, -⟩ := h.pt
  refine ⟨h.bi0, h.bi1, h.du0, h.du1, h.nm, ⟨P, hP, e1, fun e => ?_⟩, h.dd0, h.dd1, h.ce0, h.ce1, ?_, h.op0, fun e => ?_, h.fx0, h.fx1, h.pa, ?_, fun e => ?_⟩
  · have e : w = 2 := e
    rcases hw with rfl | rfl | rfl <;> exact absurd e (by decide)
  · exact Int.le_refl _
  · have e : w = 0 ∨ w = 1 ∨ w = 2 ∨ w = 3 := e
    rcases hw with rfl | rfl | rfl <;> exact absurd e (by decide)
  · show (d_cents v).toInt = (0 : Int64).toInt + (d_open v).toInt + _ + _ + _ + _
    rw [show (0 : Int64).toInt = 0 from rfl]
    show (d_cents v).toInt = 0 + (d_open v).toInt + (d_paid v 0).toInt + (d_paid v 1).toInt + (d_paid v 2).toInt + (d_paid v 3).toInt
    omega
  · have e : w = 1 := e
    rcases hw with rfl | rfl | rfl <;> exact absurd e (by decide)
theorem Inv.again {F : Int} {t : Int32} {v : DT} {w : Int32} (h : Inv F t v) (hl : d_state v = 0 ∨ d_state v = 1 ∨ d_state v = 2 ∨ d_state v = 3) (hw : 0 ≤ w.toInt) (hw1 : w.toInt ≤ 100010) : Inv F t (f_runAgain v w) := by
  obtain ⟨P, hP, e1, -⟩ := h.pt
  refine ⟨h.bi0, h.bi1, h.du0, h.du1, h.nm, ⟨P, hP, e1, fun e => ?_⟩, h.dd0, h.dd1, h.ce0, h.ce1, h.op0, h.lo0, fun _ => h.live hl, h.fx0, h.fx1, h.pa, h.su, fun _ => ?_⟩
  · have e : (1 : Int32) = 2 := e
    exact absurd e (by decide)
  · show 0 ≤ (iMax (d_due v) w).toInt ∧ (iMax (d_due v) w).toInt ≤ 100010
    rw [iMax_toInt]
    have := h.du1
    omega
