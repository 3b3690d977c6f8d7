theorem late_iff {d : DT} {t : Int32} (h0 : 0 ≤ (d_birth d).toInt) (h1 : (d_birth d).toInt ≤ 100000) (h2 : 0 ≤ t.toInt) (h3 : t.toInt ≤ 100000) : f_isTooLate d t = 0 ↔ t ≤ d_birth d + 1095 := by
  have e1 : (t - d_birth d).toInt = t.toInt - (d_birth d).toInt := i_sub (by omega) (by omega)
  have e2 : (d_birth d + 1095).toInt = (d_birth d).toInt + 1095 := by
    rw [i_add (by rw [show (1095 : Int32).toInt = 1095 from rfl]; omega) (by rw [show (1095 : Int32).toInt = 1095 from rfl]; omega)]; rfl
  unfold f_isTooLate
  by_cases c : t - d_birth d ≤ 1095
  · rw [if_pos c]
    rw [Int32.le_iff_toInt_le, e1, show (1095 : Int32).toInt = 1095 from rfl] at c
    refine ⟨fun _ => ?_, fun _ => rfl⟩
    rw [Int32.le_iff_toInt_le, e2]; omega
  · rw [if_neg c]
    rw [Int32.le_iff_toInt_le, e1, show (1095 : Int32).toInt = 1095 from rfl] at c
    refine ⟨fun e => absurd e (by decide), fun e => ?_⟩
    rw [Int32.le_iff_toInt_le, e2] at e; omega
theorem plus10 {t : Int32} (h2 : 0 ≤ t.toInt) (h3 : t.toInt ≤ 100000) : (t + 10).toInt = t.toInt + 10 := by
  rw [i_add (by rw [show (10 : Int32).toInt = 10 from rfl]; omega) (by rw [show (10 : Int32).toInt = 10 from rfl]; omega)]; rfl
theorem st_notified {j : Nat} {z : XT} {y : MT} (q : Int32) (h : Rel9 j z y) : (f_notified z q).1 = m_thrown (g_notified y q).2 ∧ ((f_notified z q).1 = 0 → (f_notified z q).2.1 = (g_notified y q).1) ∧ Rel9 (j + 1) (f_notified z q).2.2 (g_notified y q).2 := by
  obtain ⟨n, ds, rfl, hb⟩ := h
  unfold f_notified g_notified
  rcases hb.isD q with ⟨c1, c2⟩ | ⟨i, hi, c1, c2, rfl, e1, e2⟩
  · rw [if_neg c1, if_pos c2]
    exact ⟨rfl, fun e => absurd e (show ¬ (1 : Int32) = 0 by decide), hb.ref 1⟩
  · rw [if_pos c1, if_neg c2, e1, e2]
    obtain ⟨he, hI⟩ := hb.d hi
    have est : d_state (x_debts (zOf n ds y) i) = m_state y (i + 1) := he.st
    have ebi : d_birth (x_debts (zOf n ds y) i) = m_born y (i + 1) := he.f d_birth (fun _ _ => rfl)
    rw [est]
    by_cases c3 : m_state y (i + 1) = 0
    · rw [if_pos c3, if_pos c3]
      have t0 := hb.2.2.1
      have t1 := hb.2.2.2.1
      have hl : f_isTooLate (x_debts (zOf n ds y) i) (m_today y) = 0 ↔ m_today y ≤ m_born y (i + 1) + 1095 := by
        rw [← ebi]
        have b0 : 0 ≤ (m_born y (i + 1)).toInt := hI.bi0
        have b1 : (m_born y (i + 1)).toInt ≤ (m_today y).toInt := hI.bi1
        exact late_iff (by rw [ebi]; exact b0) (by rw [ebi]; omega) t0 t1
      by_cases c4 : m_today y ≤ m_born y (i + 1) + 1095
      · rw [if_pos c4, if_pos (show f_isTooLate (x_debts (zOf n ds y) i) (x_today (zOf n ds y)) = 0 from hl.mpr c4)]
        have p10 := plus10 t0 t1
        have em : iMax (m_today y + 10) (m_today y) = m_today y + 10 := by
          unfold iMax
          rw [if_neg]
          rw [Int32.lt_iff_toInt_lt, p10]; omega
        refine ⟨rfl, fun _ => rfl, ?_⟩
        refine hb.one hi (v' := f_runAgain (s_due (vD y (i + 1)) (m_today y + 10)) (m_today y)) (H_not _ _ _ (sameH.rf _)) ?_ (fun b hne => ?_) ?_ ?_
        · dsimp only [vD, f_runAgain, m_thrown, m_today, m_rates, m_from, m_up, m_down, m_debts, m_state, m_born, m_dueDay, m_cents, m_open, m_lost, m_fixed, m_runsFrom, m_interestPaid, m_parts, m_deferredOn, m_deferred, m_debtors, m_debtor, m_paidBy, m_credit, n_thrown, n_today, n_rates, n_from, n_up, n_down, n_debts, n_state, n_born, n_dueDay, n_cents, n_open, n_lost, n_fixed, n_runsFrom, n_interestPaid, n_parts, n_deferredOn, n_deferred, n_debtors, n_debtor, n_paidBy, n_credit, d_cents, d_birth, d_people, d_paid, d_debtors, d_state, d_due, d_ib, d_open, d_lost, d_fixed, d_paidI, d_dDay, d_dParts, d_dOpen, s_cents, s_birth, s_people, s_paid, s_debtors, s_state, s_due, s_ib, s_open, s_lost, s_fixed, s_paidI, s_dDay, s_dParts, s_dOpen]
          rw [pk_us, pk_us, pk_us]
          rw [show iMax (y.2.1 + 10) y.2.1 = y.2.1 + 10 from em]
        · dsimp only [vD, m_thrown, m_today, m_rates, m_from, m_up, m_down, m_debts, m_state, m_born, m_dueDay, m_cents, m_open, m_lost, m_fixed, m_runsFrom, m_interestPaid, m_parts, m_deferredOn, m_deferred, m_debtors, m_debtor, m_paidBy, m_credit, n_thrown, n_today, n_rates, n_from, n_up, n_down, n_debts, n_state, n_born, n_dueDay, n_cents, n_open, n_lost, n_fixed, n_runsFrom, n_interestPaid, n_parts, n_deferredOn, n_deferred, n_debtors, n_debtor, n_paidBy, n_credit]
          rw [pk_un hne, pk_un hne, pk_un hne]
        · obtain ⟨r, hr⟩ := he.ib
          refine Or.inl ?_
          show f_runAgain (s_due (ds i) (m_today y + 10)) (m_today y) = _
          rw [hr]; rfl
        · refine (((hI.mono (by omega) (Int.le_refl _)).dueS (by omega) (by omega)).again ?_ t0 (by omega))
          exact Or.inl c3
      · rw [if_neg c4, if_neg (show ¬ f_isTooLate (x_debts (zOf n ds y) i) (x_today (zOf n ds y)) = 0 from fun e => c4 (hl.mp e))]
        exact ⟨rfl, fun _ => rfl, hb.ref 0⟩
    · rw [if_neg c3, if_neg c3]
      exact ⟨rfl, fun _ => rfl, hb.ref 0⟩
theorem Rb.running {j n i : Nat} {ds : Nat → DT} {y : MT} (h : Rb j n ds y) (hi : i < n) : g_running y (nI (i + 1)) = f_runningInterest (vD y (i + 1)) (vR y) (m_today y) := by
  obtain ⟨h1, h2, h3, h4, ⟨m, hm, hc, hR⟩, h6⟩ := h
  refine running_eq (by omega) hm hc (fun r hr => ?_)
  have : 1 ≤ (m_down y r).toInt := (hR r hr).2.1
  rw [Int32.le_iff_toInt_le, show (0 : Int32).toInt = 0 from rfl]; omega
theorem Rb.fix {j n i : Nat} {ds : Nat → DT} {y : MT} (h : Rb j n ds y) (hi : i < n) (c : Int32) : vD (g_fix (n_thrown y c) (nI (i + 1))) (i + 1) = f_fixInterest (vD y (i + 1)) (vR y) (m_today y) ∧ (∀ b, b ≠ i + 1 → vD (g_fix (n_thrown y c) (nI (i + 1))) b = vD y b) ∧ sameH (n_thrown y c) (g_fix (n_thrown y c) (nI (i + 1))) := by
  have hn := h.1
  have eb : (nI (i + 1)).toNatClampNeg = i + 1 := nI_clamp (by omega)
  have e := vD_fix (y := n_thrown y c) (b := nI (i + 1)) (by rw [eb]; exact (show Rb j n ds (n_thrown y c) from h).running hi)
  rw [eb] at e
  exact ⟨e, fun b hb => vD_fix_ne (by rw [eb]; exact hb), fix_H _ _⟩
theorem Rb.ifix {j n i : Nat} {ds : Nat → DT} {y : MT} (h : Rb j n ds y) (hj : j < 512) (hi : i < n) : Inv (5480000000000000 * ((j + 1 : Nat) : Int)) (m_today y) (f_fixInterest (vD y (i + 1)) (vR y) (m_today y)) := by
  have := (h.d hi).2.fix h.2.2.1 h.2.2.2.1 h.2.2.2.2.1 (by omega)
  exact this.mono (by omega) (Int.le_refl _)
theorem st_instalments {j : Nat} {z : XT} {y : MT} (q p : Int32) (hj : j < 512) (h : Rel9 j z y) : (f_instalments z q p).1 = m_thrown (g_instalments y q p).2 ∧ ((f_instalments z q p).1 = 0 → (f_instalments z q p).2.1 = (g_instalments y q p).1) ∧ Rel9 (j + 1) (f_instalments z q p).2.2 (g_instalments y q p).2 := by
  obtain ⟨n, ds, rfl, hb⟩ := h
  unfold f_instalments g_instalments
  rcases hb.isD q with ⟨c1, c2⟩ | ⟨i, hi, c1, c2, rfl, e1, e2⟩
  · rw [if_neg c1, if_pos c2]
    exact ⟨rfl, fun e => absurd e (show ¬ (1 : Int32) = 0 by decide), hb.ref 1⟩
  · rw [if_pos c1, if_neg c2, e1, e2]
    obtain ⟨he, hI⟩ := hb.d hi
    have est : d_state (x_debts (zOf n ds y) i) = m_state y (i + 1) := he.st
    rw [est]
    unfold g_in
    have el : ∀ a : Int32, a.toInt64.toInt = a.toInt := fun a => Int32.toInt_toInt64 a
    by_cases c3 : p < 2
    · rw [if_pos c3, if_pos (show p.toInt64 < 2 from by
        rw [Int32.lt_iff_toInt_lt] at c3; rw [Int64.lt_iff_toInt_lt, el]; exact c3), if_pos rfl]
      exact ⟨rfl, fun e => absurd e (show ¬ (1 : Int32) = 0 by decide), hb.ref 1⟩
    · rw [if_neg c3, if_neg (show ¬ p.toInt64 < 2 from by
        rw [Int32.lt_iff_toInt_lt] at c3; rw [Int64.lt_iff_toInt_lt, el]; exact c3)]
      by_cases c4 : p ≤ 12
      · rw [if_pos c4, if_neg (show ¬ 12 < p.toInt64 from by
          rw [Int32.le_iff_toInt_le] at c4; rw [Int64.lt_iff_toInt_lt, el]; exact Int.not_lt.mpr c4), if_neg (show ¬ (1 : Int32) = 0 by decide)]
        by_cases c5 : m_state y (i + 1) = 1
        · rw [if_pos c5, if_pos c5]
          refine ⟨rfl, fun _ => rfl, ?_⟩
          obtain ⟨f1, f2, f3⟩ := hb.fix hi 0
          have hIf := hb.ifix hj hi
          generalize g_fix (n_thrown y 0) (nI (i + 1)) = y1 at f1 f2 f3 ⊢
          have et : m_today y1 = m_today y := f3.2.1
          have hd : ds i = vD y (i + 1) := he.one c5
          have p0 : 2 ≤ p.toInt := by
            rw [Int32.lt_iff_toInt_lt, show (2 : Int32).toInt = 2 from rfl] at c3; omega
          have p1 : p.toInt ≤ 12 := by
            rw [Int32.le_iff_toInt_le, show (12 : Int32).toInt = 12 from rfl] at c4; omega
          obtain ⟨P, hP, hP', rfl⟩ := i_nn (x := p) (n := 12) (by omega) (by omega)
          rw [nI_toInt hP'] at p0
          refine hb.one hi (v' := f_defer (f_fixInterest (vD y (i + 1)) (vR y) (m_today y)) (m_today y) (nI P)) (H_ins _ _ _ _ f3) ?_ (fun b hne => ?_) ?_ ?_
          · rw [← f1, ← et]
            dsimp only [vD, f_defer, m_thrown, m_today, m_rates, m_from, m_up, m_down, m_debts, m_state, m_born, m_dueDay, m_cents, m_open, m_lost, m_fixed, m_runsFrom, m_interestPaid, m_parts, m_deferredOn, m_deferred, m_debtors, m_debtor, m_paidBy, m_credit, n_thrown, n_today, n_rates, n_from, n_up, n_down, n_debts, n_state, n_born, n_dueDay, n_cents, n_open, n_lost, n_fixed, n_runsFrom, n_interestPaid, n_parts, n_deferredOn, n_deferred, n_debtors, n_debtor, n_paidBy, n_credit, d_cents, d_birth, d_people, d_paid, d_debtors, d_state, d_due, d_ib, d_open, d_lost, d_fixed, d_paidI, d_dDay, d_dParts, d_dOpen, s_cents, s_birth, s_people, s_paid, s_debtors, s_state, s_due, s_ib, s_open, s_lost, s_fixed, s_paidI, s_dDay, s_dParts, s_dOpen]
            rw [pk_us, pk_us, pk_us, pk_uLs]
          · rw [← f2 b hne]
            dsimp only [vD, m_thrown, m_today, m_rates, m_from, m_up, m_down, m_debts, m_state, m_born, m_dueDay, m_cents, m_open, m_lost, m_fixed, m_runsFrom, m_interestPaid, m_parts, m_deferredOn, m_deferred, m_debtors, m_debtor, m_paidBy, m_credit, n_thrown, n_today, n_rates, n_from, n_up, n_down, n_debts, n_state, n_born, n_dueDay, n_cents, n_open, n_lost, n_fixed, n_runsFrom, n_interestPaid, n_parts, n_deferredOn, n_deferred, n_debtors, n_debtor, n_paidBy, n_credit]
            rw [pk_un hne, pk_un hne, pk_un hne, pk_uLn hne]
          · refine Or.inl ?_
            show f_defer (f_fixInterest (ds i) (vR y) (m_today y)) (m_today y) (nI P) = _
            rw [hd]
          · exact hIf.defer (Or.inr (Or.inl c5)) hb.2.2.1 hb.2.2.2.1 (by omega) hP
        · rw [if_neg c5, if_neg c5]
          exact ⟨rfl, fun _ => rfl, hb.ref 0⟩
      · rw [if_neg c4, if_pos (show 12 < p.toInt64 from by
          rw [Int32.le_iff_toInt_le] at c4; rw [Int64.lt_iff_toInt_lt, el]; exact Int.not_le.mp c4), if_pos rfl]
        exact ⟨rfl, fun e => absurd e (show ¬ (1 : Int32) = 0 by decide), hb.ref 1⟩
theorem appeal_ib (v : DT) (r t : Int32) (R : RT) (h : d_state v ≠ 1) : s_state (f_fixInterest (s_ib v r) R t) 3 = s_ib (s_state v 3) (iMax r t) := by
  obtain ⟨a1, a2, a3, a4, a5, a6, a7, a8, a9, a10, a11, a12, a13, a14, a15⟩ := v
  unfold f_fixInterest f_runningInterest
  rw [if_neg (show ¬ a6 = 1 from h)]
  dsimp only [d_cents, d_birth, d_people, d_paid, d_debtors, d_state, d_due, d_ib, d_open, d_lost, d_fixed, d_paidI, d_dDay, d_dParts, d_dOpen, s_cents, s_birth, s_people, s_paid, s_debtors, s_state, s_due, s_ib, s_open, s_lost, s_fixed, s_paidI, s_dDay, s_dParts, s_dOpen]
  rw [Int64.add_zero]
theorem st_appeal {j : Nat} {z : XT} {y : MT} (q : Int32) (hj : j < 512) (h : Rel9 j z y) : (f_appeal z q).1 = m_thrown (g_appeal y q).2 ∧ ((f_appeal z q).1 = 0 → (f_appeal z q).2.1 = (g_appeal y q).1) ∧ Rel9 (j + 1) (f_appeal z q).2.2 (g_appeal y q).2 := by
  obtain ⟨n, ds, rfl, hb⟩ := h
  unfold f_appeal g_appeal
  rcases hb.isD q with ⟨c1, c2⟩ | ⟨i, hi, c1, c2, rfl, e1, e2⟩
  · rw [if_neg c1, if_pos c2]
    exact ⟨rfl, fun e => absurd e (show ¬ (1 : Int32) = 0 by decide), hb.ref 1⟩
  · rw [if_pos c1, if_neg c2, e1, e2]
    obtain ⟨he, hI⟩ := hb.d hi
    have est : d_state (x_debts (zOf n ds y) i) = m_state y (i + 1) := he.st
    unfold f_isPayable
    rw [est]
    by_cases c3 : m_state y (i + 1) = 1
    · rw [if_pos c3, if_neg (show ¬ (1 : Int32) = 0 by decide), if_pos c3]
      refine ⟨rfl, fun _ => rfl, ?_⟩
      obtain ⟨f1, f2, f3⟩ := hb.fix hi 0
      have hIf := hb.ifix hj hi
      generalize g_fix (n_thrown y 0) (nI (i + 1)) = y1 at f1 f2 f3 ⊢
      have hd : ds i = vD y (i + 1) := he.one c3
      refine hb.one hi (v' := s_state (f_fixInterest (vD y (i + 1)) (vR y) (m_today y)) 3) (H_st _ f3) ?_ (fun b hne => ?_) ?_ ?_
      · rw [← f1]
        dsimp only [vD, m_thrown, m_today, m_rates, m_from, m_up, m_down, m_debts, m_state, m_born, m_dueDay, m_cents, m_open, m_lost, m_fixed, m_runsFrom, m_interestPaid, m_parts, m_deferredOn, m_deferred, m_debtors, m_debtor, m_paidBy, m_credit, n_thrown, n_today, n_rates, n_from, n_up, n_down, n_debts, n_state, n_born, n_dueDay, n_cents, n_open, n_lost, n_fixed, n_runsFrom, n_interestPaid, n_parts, n_deferredOn, n_deferred, n_debtors, n_debtor, n_paidBy, n_credit, d_cents, d_birth, d_people, d_paid, d_debtors, d_state, d_due, d_ib, d_open, d_lost, d_fixed, d_paidI, d_dDay, d_dParts, d_dOpen, s_cents, s_birth, s_people, s_paid, s_debtors, s_state, s_due, s_ib, s_open, s_lost, s_fixed, s_paidI, s_dDay, s_dParts, s_dOpen]
        rw [pk_us]
      · rw [← f2 b hne]
        dsimp only [vD, m_thrown, m_today, m_rates, m_from, m_up, m_down, m_debts, m_state, m_born, m_dueDay, m_cents, m_open, m_lost, m_fixed, m_runsFrom, m_interestPaid, m_parts, m_deferredOn, m_deferred, m_debtors, m_debtor, m_paidBy, m_credit, n_thrown, n_today, n_rates, n_from, n_up, n_down, n_debts, n_state, n_born, n_dueDay, n_cents, n_open, n_lost, n_fixed, n_runsFrom, n_interestPaid, n_parts, n_deferredOn, n_deferred, n_debtors, n_debtor, n_paidBy, n_credit]
        rw [pk_un hne]
      · refine Or.inl ?_
        show s_state (f_fixInterest (ds i) (vR y) (m_today y)) 3 = _
        rw [hd]
      · exact hIf.st3 (Or.inr (Or.inl c3))
    · rw [if_neg c3, if_neg c3]
      by_cases c4 : m_state y (i + 1) = 2
      · rw [if_pos c4, if_neg (show ¬ (1 : Int32) = 0 by decide), if_pos c4]
        refine ⟨rfl, fun _ => rfl, ?_⟩
        refine hb.one hi (v' := s_state (vD y (i + 1)) 3) (H_st _ (sameH.rf _)) ?_ (fun b hne => ?_) ?_ ?_
        · dsimp only [vD, m_thrown, m_today, m_rates, m_from, m_up, m_down, m_debts, m_state, m_born, m_dueDay, m_cents, m_open, m_lost, m_fixed, m_runsFrom, m_interestPaid, m_parts, m_deferredOn, m_deferred, m_debtors, m_debtor, m_paidBy, m_credit, n_thrown, n_today, n_rates, n_from, n_up, n_down, n_debts, n_state, n_born, n_dueDay, n_cents, n_open, n_lost, n_fixed, n_runsFrom, n_interestPaid, n_parts, n_deferredOn, n_deferred, n_debtors, n_debtor, n_paidBy, n_credit, d_cents, d_birth, d_people, d_paid, d_debtors, d_state, d_due, d_ib, d_open, d_lost, d_fixed, d_paidI, d_dDay, d_dParts, d_dOpen, s_cents, s_birth, s_people, s_paid, s_debtors, s_state, s_due, s_ib, s_open, s_lost, s_fixed, s_paidI, s_dDay, s_dParts, s_dOpen]
          rw [pk_us]
        · dsimp only [vD, m_thrown, m_today, m_rates, m_from, m_up, m_down, m_debts, m_state, m_born, m_dueDay, m_cents, m_open, m_lost, m_fixed, m_runsFrom, m_interestPaid, m_parts, m_deferredOn, m_deferred, m_debtors, m_debtor, m_paidBy, m_credit, n_thrown, n_today, n_rates, n_from, n_up, n_down, n_debts, n_state, n_born, n_dueDay, n_cents, n_open, n_lost, n_fixed, n_runsFrom, n_interestPaid, n_parts, n_deferredOn, n_deferred, n_debtors, n_debtor, n_paidBy, n_credit]
          rw [pk_un hne]
        · obtain ⟨r, hr⟩ := he.ib
          refine Or.inr ⟨show ¬ (3 : Int32) = 1 by decide, iMax r (m_today y), ?_⟩
          show s_state (f_fixInterest (ds i) (vR y) (m_today y)) 3 = _
          rw [hr]
          exact appeal_ib _ _ _ _ c3
        · exact (hI.mono (by omega) (Int.le_refl _)).st3 (Or.inr (Or.inr (Or.inl c4)))
      · rw [if_neg c4, if_pos rfl, if_neg c4]
        exact ⟨rfl, fun _ => rfl, hb.ref 0⟩
theorem st_decide {j : Nat} {z : XT} {y : MT} (q p : Int32) (h : Rel9 j z y) : (f_decide z q p).1 = m_thrown (g_decide y q p).2 ∧ ((f_decide z q p).1 = 0 → (f_decide z q p).2.1 = (g_decide y q p).1) ∧ Rel9 (j + 1) (f_decide z q p).2.2 (g_decide y q p).2 := by
  obtain ⟨n, ds, rfl, hb⟩ := h
  unfold f_decide g_decide
  rcases hb.isD q with ⟨c1, c2⟩ | ⟨i, hi, c1, c2, rfl, e1, e2⟩
  · rw [if_neg c1, if_pos c2]
    exact ⟨rfl, fun e => absurd e (show ¬ (1 : Int32) = 0 by decide), hb.ref 1⟩
  · rw [if_pos c1, if_neg c2, e1, e2]
    obtain ⟨he, hI⟩ := hb.d hi
    have hI := hI.mono (F' := 5480000000000000 * ((j + 1 : Nat) : Int)) (by omega) (Int.le_refl _)
    have est : d_state (x_debts (zOf n ds y) i) = m_state y (i + 1) := he.st
    rw [est]
    by_cases c3 : m_state y (i + 1) = 3
    · rw [if_pos c3, if_pos c3]
      by_cases c4 : p = 0
      · rw [if_pos c4, if_pos c4]
        refine ⟨rfl, fun _ => rfl, ?_⟩
        have v1 := vD_again (y := n_thrown y 0) (b := nI (i + 1)) (w := m_today y)
        have v2 := fun c => vD_again_ne (y := n_thrown y 0) (b := nI (i + 1)) (w := m_today y) (c := c)
        rw [e2] at v1 v2
        refine hb.one hi (again_H _ _ _) v1 v2 (Or.inl he.again) (hI.again (Or.inr (Or.inr (Or.inr c3))) hb.2.2.1 (by have := hb.2.2.2.1; omega))
      · rw [if_neg c4, if_neg c4]
        have v1 := vD_lose (y := n_thrown y 0) (b := nI (i + 1)) (w := 5)
        have v2 := fun c => vD_lose_ne (y := n_thrown y 0) (b := nI (i + 1)) (w := 5) (c := c)
        refine ⟨rfl, fun _ => ?_, ?_⟩
        · show d_open (ds i) = m_open y (nI (i + 1)).toNatClampNeg
          rw [e2]
          exact he.f d_open (fun _ _ => rfl)
        · rw [e2] at v1 v2
          exact hb.one hi (lose_H _ _ _) v1 v2 (he.lose (by decide)) (hI.lose (Or.inr (Or.inr (Or.inr c3))) (Or.inl rfl))
    · rw [if_neg c3, if_neg c3]
      exact ⟨rfl, fun _ => rfl, hb.ref 0⟩
