theorem DR.one {F : Nat → Int} {t : Int32} {n i : Nat} {ds : Nat → DT} {y y' : MT} {d' v' : DT} (h : DR F t n ds y) (hi : i < n) (he : vD y' (i + 1) = v') (hne : ∀ b, b ≠ i + 1 → vD y' b = vD y b) (hd : eqv d' v') (hI : Inv (F i) t v') : DR F t n (va_up ds i d') y' :=
  (h.step hi (F i) he hne hd hI).mono (fun q _ => by
    by_cases e : q = i
    · rw [if_pos e, e]; exact Int.le_refl _
    · rw [if_neg e]; exact Int.le_refl _) (Int.le_refl _)
/-- one debt on the day -/
theorem tk_one {F : Int} {t : Int32} {y : MT} {d : DT} {b : Nat} (hb : b ≤ 40) (he : eqv d (vD y b)) (hI : Inv F t (vD y b)) (t0 : 0 ≤ t.toInt) (t1 : t.toInt ≤ 100000) :
    ((f_endsBy d t).1 = 0 ∧ eqv (f_endsBy d t).2 (vD y b) ∧ ((m_state y b = 0 ∧ t ≤ m_born y b + 1095) ∨ (¬ m_state y b = 0 ∧ m_state y b = 2 ∧ t < g_missedOn y (nI b)) ∨ (¬ m_state y b = 0 ∧ ¬ m_state y b = 2))) ∨
    (¬ (f_endsBy d t).1 = 0 ∧ (f_endsBy d t).1 = 1 ∧ m_state y b = 0 ∧ ¬ t ≤ m_born y b + 1095 ∧ eqv (f_endsBy d t).2 (f_lose (vD y b) 6) ∧ Inv F t (f_lose (vD y b) 6)) ∨
    (¬ (f_endsBy d t).1 = 0 ∧ (f_endsBy d t).1 = 1 ∧ ¬ m_state y b = 0 ∧ m_state y b = 2 ∧ ¬ t < g_missedOn y (nI b) ∧ eqv (f_endsBy d t).2 (f_runAgain (vD y b) (g_missedOn y (nI b))) ∧ Inv F t (f_runAgain (vD y b) (g_missedOn y (nI b)))) := by
  have est : d_state d = m_state y b := he.st
  have ebi : d_birth d = m_born y b := he.f d_birth (fun _ _ => rfl)
  have b0 : 0 ≤ (m_born y b).toInt := hI.bi0
  have b1 : (m_born y b).toInt ≤ t.toInt := hI.bi1
  unfold f_endsBy
  rw [est]
  by_cases c0 : m_state y b = 0
  · rw [if_pos c0]
    have c02 : ¬ m_state y b = 2 := by rw [c0]; decide
    have hl : f_isTooLate d t = 0 ↔ t ≤ m_born y b + 1095 := by
      rw [← ebi]
      exact late_iff (by rw [ebi]; exact b0) (by rw [ebi]; omega) t0 t1
    by_cases c1 : t ≤ m_born y b + 1095
    · rw [if_pos (hl.mpr c1), if_neg c02]
      exact Or.inl ⟨rfl, he, Or.inl ⟨c0, c1⟩⟩
    · rw [if_neg (fun e => c1 (hl.mp e))]
      refine Or.inr (Or.inl ⟨show ¬ (1 : Int32) = 0 by decide, rfl, c0, c1, he.lose (by decide), hI.lose (Or.inl c0) (Or.inr (Or.inl rfl))⟩)
  · rw [if_neg c0]
    by_cases c2 : m_state y b = 2
    · rw [if_pos c2]
      obtain ⟨P, hP, hp, hP1⟩ := hI.pt
      have hP1 := hP1 c2
      have ho := (hI.live (Or.inr (Or.inr (Or.inl c2)))).1
      have em : g_missedOn y (nI b) = f_firstMissedDay (vD y b) + 1 := missed_eq hb hP1 hP hp ho
      have ef : f_firstMissedDay d = f_firstMissedDay (vD y b) := he.f f_firstMissedDay (fun v r => fmd_ib v r)
      have bm := missed_toInt hP1 hP hp hI.dd0 hI.dd1
      have e1 : (f_firstMissedDay (vD y b) + 1).toInt = (f_firstMissedDay (vD y b)).toInt + 1 := by
        rw [i_add (by rw [show (1 : Int32).toInt = 1 from rfl]; omega) (by rw [show (1 : Int32).toInt = 1 from rfl]; omega)]; rfl
      rw [ef, em]
      by_cases c3 : f_firstMissedDay (vD y b) < t
      · rw [if_pos c3]
        rw [Int32.lt_iff_toInt_lt] at c3
        have hn : ¬ t < f_firstMissedDay (vD y b) + 1 := by rw [Int32.lt_iff_toInt_lt, e1]; omega
        exact Or.inr (Or.inr ⟨show ¬ (1 : Int32) = 0 by decide, rfl, c0, c2, hn, Or.inl he.again, hI.again (Or.inr (Or.inr (Or.inl c2))) (by omega) (by omega)⟩)
      · rw [if_neg c3]
        rw [Int32.lt_iff_toInt_lt] at c3
        have hn : t < f_firstMissedDay (vD y b) + 1 := by rw [Int32.lt_iff_toInt_lt, e1]; omega
        exact Or.inl ⟨rfl, he, Or.inr (Or.inl ⟨c0, c2, hn⟩)⟩
    · rw [if_neg c2]
      exact Or.inl ⟨rfl, he, Or.inr (Or.inr ⟨c0, c2⟩)⟩
theorem tkL_eq {F : Nat → Int} {day : Int32} {N : Nat} {a b : Int32} {R : RT} {cr : Nat → Int64} (hN : N ≤ 40) (t0 : 0 ≤ day.toInt) (t1 : day.toInt ≤ 100000) : ∀ (n i : Nat) (t : Int32) (ds : Nat → DT) (y : MT), i + n = N → DR F day N ds y →
    (tkL day i n t (a, b, R, cr, ds)).1 = (tmL day i n t y).1 ∧ ∃ ds', (tkL day i n t (a, b, R, cr, ds)).2 = (a, b, R, cr, ds') ∧ DR F day N ds' (tmL day i n t y).2 ∧ sameH y (tmL day i n t y).2 := by
  intro n
  induction n with
  | zero => intro i t ds y hi h; exact ⟨rfl, ds, rfl, h, sameH.rf y⟩
  | succ n ih =>
    intro i t ds y hi h
    obtain ⟨he, hI⟩ := h.1 i (by omega)
    have eb : (nI (i + 1)).toNatClampNeg = i + 1 := nI_clamp (by omega)
    unfold tkL tmL
    rw [show x_debts (a, b, R, cr, ds) i = ds i from rfl, eb]
    rcases tk_one (b := i + 1) (by omega) he hI t0 t1 with ⟨k1, k2, k3⟩ | ⟨k1, k2, k3, k4, k5, k6⟩ | ⟨k1, k2, k3, k4, k5, k6, k7⟩
    · have h' := h.one (i := i) (by omega) (y' := y) rfl (fun _ _ => rfl) k2 hI
      have q := ih (i + 1) t (va_up ds i (f_endsBy (ds i) day).2) y (by omega) h'
      rw [if_pos k1]
      rcases k3 with ⟨a1, a2⟩ | ⟨a1, a2, a3⟩ | ⟨a1, a2⟩
      · rw [if_pos a1, if_pos a2, if_neg (show ¬ m_state y (i + 1) = 2 from by rw [a1]; decide)]
        exact q
      · rw [if_neg a1, if_pos a2, if_pos a3]
        exact q
      · rw [if_neg a1, if_neg a2]
        exact q
    · have v1 := vD_lose (y := y) (b := nI (i + 1)) (w := 6)
      have v2 := fun c => vD_lose_ne (y := y) (b := nI (i + 1)) (w := 6) (c := c)
      have v3 := lose_H y (nI (i + 1)) 6
      rw [eb] at v1 v2
      rw [if_neg k1, if_pos k3, if_neg k4]
      generalize (g_lose y (nI (i + 1)) 6).2 = y1 at v1 v2 v3 ⊢
      obtain ⟨q1, ds', q2, q3, q4⟩ := ih (i + 1) (t + 1) (va_up ds i (f_endsBy (ds i) day).2) y1 (by omega) (h.one (i := i) (by omega) v1 v2 k5 k6)
      exact ⟨q1, ds', q2, q3, v3.tr q4⟩
    · have v1 := vD_again (y := y) (b := nI (i + 1)) (w := g_missedOn y (nI (i + 1)))
      have v2 := fun c => vD_again_ne (y := y) (b := nI (i + 1)) (w := g_missedOn y (nI (i + 1))) (c := c)
      have v3 := again_H y (nI (i + 1)) (g_missedOn y (nI (i + 1)))
      rw [eb] at v1 v2
      rw [if_neg k1, if_neg k3, if_pos k4, if_neg k5]
      generalize g_again y (nI (i + 1)) (g_missedOn y (nI (i + 1))) = y1 at v1 v2 v3 ⊢
      obtain ⟨q1, ds', q2, q3, q4⟩ := ih (i + 1) (t + 1) (va_up ds i (f_endsBy (ds i) day).2) y1 (by omega) (h.one (i := i) (by omega) v1 v2 k6 k7)
      exact ⟨q1, ds', q2, q3, v3.tr q4⟩
theorem today_H (y : MT) (t : Int32) : m_thrown (n_today y t) = m_thrown y ∧ m_today (n_today y t) = t ∧ vR (n_today y t) = vR y ∧ m_debts (n_today y t) = m_debts y ∧ m_credit (n_today y t) = m_credit y ∧ ∀ b, vD (n_today y t) b = vD y b := by
  obtain ⟨a0, a1, a2, a3, a4, a5, a6, a7, a8, a9, a10, a11, a12, a13, a14, a15, a16, a17, a18, a19, a20, a21, a22⟩ := y
  dsimp only [vR, vD, m_thrown, m_today, m_rates, m_from, m_up, m_down, m_debts, m_state, m_born, m_dueDay, m_cents, m_open, m_lost, m_fixed, m_runsFrom, m_interestPaid, m_parts, m_deferredOn, m_deferred, m_debtors, m_debtor, m_paidBy, m_credit, n_thrown, n_today, n_rates, n_from, n_up, n_down, n_debts, n_state, n_born, n_dueDay, n_cents, n_open, n_lost, n_fixed, n_runsFrom, n_interestPaid, n_parts, n_deferredOn, n_deferred, n_debtors, n_debtor, n_paidBy, n_credit]
  exact ⟨rfl, rfl, rfl, rfl, rfl, fun _ => rfl⟩
theorem st_tick {j : Nat} {z : XT} {y : MT} (day : Int32) (h : Rel9 j z y) : (f_tick z day).1 = m_thrown (g_tick y day).2 ∧ ((f_tick z day).1 = 0 → (f_tick z day).2.1 = (g_tick y day).1) ∧ Rel9 (j + 1) (f_tick z day).2.2 (g_tick y day).2 := by
  obtain ⟨n, ds, rfl, hb⟩ := h
  unfold f_tick g_tick g_in
  have el : ∀ a : Int32, a.toInt64.toInt = a.toInt := fun a => Int32.toInt_toInt64 a
  by_cases c1 : day < m_today y
  · rw [if_pos (show day < x_today (zOf n ds y) from c1), if_pos (show day.toInt64 < (m_today y).toInt64 from by
      rw [Int32.lt_iff_toInt_lt] at c1; rw [Int64.lt_iff_toInt_lt, el, el]; exact c1), if_pos rfl]
    exact ⟨rfl, fun e => absurd e (show ¬ (1 : Int32) = 0 by decide), hb.ref 1⟩
  rw [if_neg (show ¬ day < x_today (zOf n ds y) from c1), if_neg (show ¬ day.toInt64 < (m_today y).toInt64 from by
    rw [Int32.lt_iff_toInt_lt] at c1; rw [Int64.lt_iff_toInt_lt, el, el]; exact c1)]
  rw [Int32.lt_iff_toInt_lt] at c1
  by_cases c2 : day ≤ 100000
  case neg =>
    rw [if_neg c2, if_pos (show 100000 < day.toInt64 from by
      rw [Int32.le_iff_toInt_le] at c2; rw [Int64.lt_iff_toInt_lt, el]; exact Int.not_le.mp c2), if_pos rfl]
    exact ⟨rfl, fun e => absurd e (show ¬ (1 : Int32) = 0 by decide), hb.ref 1⟩
  rw [if_pos c2, if_neg (show ¬ 100000 < day.toInt64 from by
    rw [Int32.le_iff_toInt_le] at c2; rw [Int64.lt_iff_toInt_lt, el]; exact Int.not_lt.mpr c2), if_neg (show ¬ (1 : Int32) = 0 by decide)]
  rw [Int32.le_iff_toInt_le, show (100000 : Int32).toInt = 100000 from rfl] at c2
  obtain ⟨h1, h2, h3, h4, h5, h6⟩ := hb
  have h6' : DR (fun _ => 5480000000000000 * ((j + 1 : Nat) : Int)) day n ds (n_thrown y 0) := h6.mono (fun _ _ => by omega) (by omega)
  obtain ⟨q1, ds', q2, q3, q4⟩ := tkL_eq (F := fun _ => 5480000000000000 * ((j + 1 : Nat) : Int)) (day := day) (N := n) (a := nI n) (b := day) (R := vR y) (cr := m_credit y) h1 (by omega) (by omega) n 0 0 ds (n_thrown y 0) (by omega) h6'
  rw [h2, show (x_cnt (zOf n ds y)).toNatClampNeg = n from nI_clamp (by omega), show y_today (zOf n ds y) day = (nI n, day, vR y, m_credit y, ds) from rfl, q1, q2]
  generalize (tmL day 0 n 0 (n_thrown y 0)).1 = k
  generalize (tmL day 0 n 0 (n_thrown y 0)).2 = y1 at q3 q4 ⊢
  obtain ⟨r1, r2, r3, r4, r5, r6⟩ := today_H y1 day
  obtain ⟨s1, s2, s3, s4, s5⟩ := q4
  refine ⟨(r1.trans s1).symm, fun _ => rfl, ?_⟩
  show Rel9 (j + 1) (nI n, day, vR y, m_credit y, ds') (n_today y1 day)
  generalize n_today y1 day = y2 at r1 r2 r3 r4 r5 r6 ⊢
  have r3 : vR y2 = vR y := r3.trans s3
  have r4 : m_debts y2 = m_debts y := r4.trans s4
  have r5 : m_credit y2 = m_credit y := r5.trans s5
  refine ⟨n, ds', ?_, h1, r4.trans h2, by rw [r2]; omega, by rw [r2]; omega, by rw [r3]; exact h5, fun i hi => ?_, fun b hb => by rw [r6]; exact q3.2 b hb⟩
  · show _ = (nI n, m_today y2, vR y2, m_credit y2, ds')
    rw [r2, r3, r5]
  · rw [r6, r2]
    exact q3.1 i hi
