theorem eqv.runI {d v : DT} {R : RT} {t : Int32} (h : eqv d v) : f_runningInterest d R t = f_runningInterest v R t := by
  rcases h with rfl | ⟨h1, r, rfl⟩
  · rfl
  · unfold f_runningInterest
    rw [if_neg h1, if_neg (show ¬ d_state (s_ib v r) = 1 from h1)]
theorem in_no {p : Int32} {lo hi : Int64} (h : p.toInt < lo.toInt ∨ hi.toInt < p.toInt) : g_in p.toInt64 lo hi = 0 := by
  unfold g_in
  by_cases c : p.toInt64 < lo
  · rw [if_pos c]
  · rw [if_neg c, if_pos]
    rw [Int64.lt_iff_toInt_lt, Int32.toInt_toInt64] at c ⊢
    omega
theorem in_yes {p : Int32} {lo hi : Int64} (h : lo.toInt ≤ p.toInt) (h1 : p.toInt ≤ hi.toInt) : ¬ g_in p.toInt64 lo hi = 0 := by
  unfold g_in
  rw [if_neg (by rw [Int64.lt_iff_toInt_lt, Int32.toInt_toInt64]; omega), if_neg (by rw [Int64.lt_iff_toInt_lt, Int32.toInt_toInt64]; omega)]
  decide
theorem i_ne {p c : Int32} (h : ¬ p = c) : ¬ p.toInt = c.toInt := fun e => h (Int32.toInt_inj.mp e)
theorem st_due {j : Nat} {z : XT} {y : MT} (q p : Int32) (h : Rel9 j z y) : (f_due z q p).1 = m_thrown (g_due y q p).2 ∧ ((f_due z q p).1 = 0 → (f_due z q p).2.1 = (g_due y q p).1) ∧ Rel9 (j + 1) (f_due z q p).2.2 (g_due y q p).2 := by
  obtain ⟨n, ds, rfl, hb⟩ := h
  unfold f_due g_due
  rcases hb.isD q with ⟨c1, c2⟩ | ⟨i, hi, c1, c2, rfl, e1, e2⟩
  · rw [if_neg c1, if_pos c2]
    exact ⟨rfl, fun e => absurd e (show ¬ (1 : Int32) = 0 by decide), hb.ref 1⟩
  · have hr : g_running (n_thrown y 0) (nI (i + 1)) = f_runningInterest (vD y (i + 1)) (vR y) (m_today y) := (show Rb j n ds (n_thrown y 0) from hb).running hi
    rw [if_pos c1, if_neg c2, e1, hr, e2]
    obtain ⟨he, hI⟩ := hb.d hi
    by_cases q0 : p = 0
    · subst q0
      rw [if_pos rfl, if_neg (show ¬ g_in (0 : Int32).toInt64 0 4 = 0 by decide), if_pos rfl]
      exact ⟨rfl, fun _ => he.f d_open (fun _ _ => rfl), hb.ref 0⟩
    rw [if_neg q0, if_neg q0]
    by_cases q1 : p = 1
    · subst q1
      rw [if_pos rfl, if_neg (show ¬ g_in (1 : Int32).toInt64 0 4 = 0 by decide), if_pos rfl]
      refine ⟨rfl, fun _ => ?_, hb.ref 0⟩
      show d_fixed (ds i) + f_runningInterest (ds i) (vR y) (m_today y) = m_fixed y (i + 1) + f_runningInterest (vD y (i + 1)) (vR y) (m_today y)
      rw [he.runI, show d_fixed (ds i) = m_fixed y (i + 1) from he.f d_fixed (fun _ _ => rfl)]
    rw [if_neg q1, if_neg q1]
    by_cases q2 : p = 2
    · subst q2
      rw [if_pos rfl, if_neg (show ¬ g_in (2 : Int32).toInt64 0 4 = 0 by decide), if_pos rfl]
      exact ⟨rfl, fun _ => he.f d_cents (fun _ _ => rfl), hb.ref 0⟩
    rw [if_neg q2, if_neg q2]
    by_cases q3 : p = 3
    · subst q3
      rw [if_pos rfl, if_neg (show ¬ g_in (3 : Int32).toInt64 0 4 = 0 by decide), if_pos rfl]
      exact ⟨rfl, fun _ => he.f d_lost (fun _ _ => rfl), hb.ref 0⟩
    rw [if_neg q3, if_neg q3]
    by_cases q4 : p = 4
    · subst q4
      rw [if_pos rfl, if_neg (show ¬ g_in (4 : Int32).toInt64 0 4 = 0 by decide)]
      exact ⟨rfl, fun _ => he.f d_paidI (fun _ _ => rfl), hb.ref 0⟩
    rw [if_neg q4, if_pos]
    · exact ⟨rfl, fun e => absurd e (show ¬ (1 : Int32) = 0 by decide), hb.ref 1⟩
    · refine in_no ?_
      have q0 := i_ne q0; have q1 := i_ne q1; have q2 := i_ne q2; have q3 := i_ne q3; have q4 := i_ne q4
      rw [show (0 : Int32).toInt = 0 from rfl] at q0
      rw [show (1 : Int32).toInt = 1 from rfl] at q1
      rw [show (2 : Int32).toInt = 2 from rfl] at q2
      rw [show (3 : Int32).toInt = 3 from rfl] at q3
      rw [show (4 : Int32).toInt = 4 from rfl] at q4
      rw [show (0 : Int64).toInt = 0 from rfl, show (4 : Int64).toInt = 4 from rfl]
      omega
theorem i46 (x : Int32) : 4 + x - 4 = x := by grind
theorem i47 (x y : Int32) : 4 * x + (4 + y) - 4 = 4 * x + y := by grind
theorem ix4 {b k : Nat} (hb : b ≤ 41) (hk : k ≤ 4) : (4 * nI b + nI k).toNatClampNeg = 4 * b + k := by
  rw [show (4 : Int32) = nI 4 from rfl, pk_mul, nI_add, nI_clamp (by omega)]
theorem st_look {j : Nat} {z : XT} {y : MT} (q p : Int32) (h : Rel9 j z y) : (f_look z q p).1 = m_thrown (g_look y q p).2 ∧ ((f_look z q p).1 = 0 → (f_look z q p).2.1 = (g_look y q p).1) ∧ Rel9 (j + 1) (f_look z q p).2.2 (g_look y q p).2 := by
  obtain ⟨n, ds, rfl, hb⟩ := h
  unfold f_look g_look
  rcases hb.isD q with ⟨c1, c2⟩ | ⟨i, hi, c1, c2, rfl, e1, e2⟩
  · rw [if_neg c1, if_pos c2]
    exact ⟨rfl, fun e => absurd e (show ¬ (1 : Int32) = 0 by decide), hb.ref 1⟩
  · rw [if_pos c1, if_neg c2, e1, e2]
    obtain ⟨he, hI⟩ := hb.d hi
    obtain ⟨m, hm1, hm4, hd, -, -⟩ := hI.nm
    have hn := hb.1
    have hd2 : m_debtors y (i + 1) = nI m := hd
    have hd1 : d_debtors (x_debts (zOf n ds y) i) = nI m := (he.f d_debtors (fun _ _ => rfl)).trans hd
    rw [hd1, hd2, show (3 : Int32) + nI m = nI (3 + m) from nI_add 3 m, show (4 : Int32) + nI m = nI (4 + m) from nI_add 4 m]
    by_cases q0 : p = 0
    · subst q0
      rw [if_pos rfl, if_neg (by decide), if_pos (show (0 : Int32) ≤ nI (3 + m) from nI_le (a := 0) (by omega) (by omega)), if_pos rfl]
      exact ⟨rfl, fun _ => he.st, hb.ref 0⟩
    rw [if_neg q0, if_neg q0]
    by_cases q1 : p = 1
    · subst q1
      rw [if_pos rfl, if_neg (by decide), if_pos (show (1 : Int32) ≤ nI (3 + m) from nI_le (a := 1) (by omega) (by omega)), if_pos rfl]
      exact ⟨rfl, fun _ => he.f d_birth (fun _ _ => rfl), hb.ref 0⟩
    rw [if_neg q1, if_neg q1]
    by_cases q2 : p = 2
    · subst q2
      rw [if_pos rfl, if_neg (by decide), if_pos (show (2 : Int32) ≤ nI (3 + m) from nI_le (a := 2) (by omega) (by omega)), if_pos rfl]
      exact ⟨rfl, fun _ => he.f d_due (fun _ _ => rfl), hb.ref 0⟩
    rw [if_neg q2, if_neg q2]
    by_cases q3 : p = 3
    · subst q3
      rw [if_pos rfl, if_neg (by decide), if_pos (show (3 : Int32) ≤ nI (3 + m) from nI_le (a := 3) (by omega) (by omega)), if_pos rfl]
      exact ⟨rfl, fun _ => rfl, hb.ref 0⟩
    rw [if_neg q3, if_neg q3]
    by_cases c3 : p < 0
    · rw [if_pos c3, if_pos (show p < 4 from Int32.lt_trans c3 (by decide))]
      exact ⟨rfl, fun e => absurd e (show ¬ (1 : Int32) = 0 by decide), hb.ref 1⟩
    · rw [if_neg c3]
      obtain ⟨w, hw, rfl⟩ := nI_of c3
      have w0 : w ≠ 0 := fun e => q0 (by rw [e]; rfl)
      have w1 : w ≠ 1 := fun e => q1 (by rw [e]; rfl)
      have w2 : w ≠ 2 := fun e => q2 (by rw [e]; rfl)
      have w3 : w ≠ 3 := fun e => q3 (by rw [e]; rfl)
      rw [if_neg (show ¬ nI w < 4 from fun e => by have := (nI_ltI (b := 4) (by omega) (by omega)).mp e; omega)]
      by_cases c4 : w ≤ 3 + m
      · rw [if_pos (show nI w < nI (4 + m) from nI_lt (by omega) (by omega)), if_pos (nI_le c4 (by omega))]
        refine ⟨rfl, fun _ => ?_, hb.ref 0⟩
        obtain ⟨k, rfl⟩ : ∃ k, w = 4 + k := ⟨w - 4, by omega⟩
        have ek : nI (4 + k) = 4 + nI k := (nI_add 4 k).symm
        rw [ek, i46, i47, ix4 (by omega) (by omega)]
        show f_personAt (ds i) (nI k) = m_debtor y (4 * (i + 1) + k)
        unfold f_personAt f_hasPlace
        rw [show d_debtors (ds i) = nI m from hd1, if_neg (nI_pos (by omega)), if_neg (nI_ge (by omega) (by omega)), if_neg (by decide), nI_clamp (by omega), show d_people (ds i) = v4I (m_debtor y) (i + 1) from he.f d_people (fun _ _ => rfl), v4I_in (by omega)]
      · rw [if_neg (show ¬ nI w < nI (4 + m) from fun e => by have := (nI_ltI (by omega) (by omega)).mp e; omega), if_neg (fun e => c4 ((nI_leI (by omega) (by omega)).mp e))]
        exact ⟨rfl, fun e => absurd e (show ¬ (1 : Int32) = 0 by decide), hb.ref 1⟩
theorem place_cases {d : DT} {m : Nat} {w : Int32} (hm : m ≤ 4) (hd : d_debtors d = nI m) : (f_placeOf d w = -1) ∨ ∃ k, k < m ∧ f_placeOf d w = nI k ∧ ¬ f_placeOf d w = -1 ∧ ¬ f_placeOf d w < 0 := by
  unfold f_placeOf
  rw [hd, nI_clamp (by omega)]
  rcases plc_some (pe := d_people d) (who := w) m 0 with e | ⟨k, -, h2, h3, -⟩
  · exact Or.inl e
  · refine Or.inr ⟨k, by omega, h3, ?_, ?_⟩
    · rw [h3]; intro e
      have : (nI k).toInt = (-1 : Int32).toInt := by rw [e]
      rw [nI_toInt (by omega), show (-1 : Int32).toInt = -1 from rfl] at this
      omega
    · rw [h3]; exact nI_pos (by omega)
theorem st_debtor {j : Nat} {z : XT} {y : MT} (q w : Int32) (h : Rel9 j z y) : (f_debtor z q w).1 = (g_debtor y q w).1 ∧ Rel9 (j + 1) (f_debtor z q w).2 (g_debtor y q w).2 := by
  obtain ⟨n, ds, rfl, hb⟩ := h
  unfold f_debtor g_debtor
  rw [show g_isDebt (n_thrown y 0) q = g_isDebt y q from rfl, show g_isPerson w = f_isPerson w from rfl]
  rcases hb.isD q with ⟨c1, c2⟩ | ⟨i, hi, c1, c2, rfl, e1, e2⟩
  · rw [if_neg c1, if_pos c2]
    exact ⟨rfl, hb.ref 0⟩
  · rw [if_pos c1, if_neg c2, e1, e2]
    obtain ⟨he, hI⟩ := hb.d hi
    obtain ⟨m, hm1, hm4, hd, ha, hz⟩ := hI.nm
    have hn := hb.1
    have hd2 : m_debtors y (i + 1) = nI m := hd
    have est : d_state (x_debts (zOf n ds y) i) = m_state y (i + 1) := he.st
    by_cases c3 : f_isPerson w = 0
    · rw [if_pos c3, if_pos c3]; exact ⟨rfl, hb.ref 0⟩
    · rw [if_neg c3, if_neg c3, est]
      by_cases c4 : m_state y (i + 1) = 0
      · rw [if_pos c4, if_pos c4, hd2, placeOf_eq (by omega) hm4 hd ha]
        have hj := he.join (w := w)
        have hjI := hI.join (w := w)
        have hjI := hjI.mono (F' := 5480000000000000 * ((j + 1 : Nat) : Int)) (by omega) (Int.le_refl _)
        have no : f_join (vD y (i + 1)) w = (0, vD y (i + 1)) → ((if (f_join (x_debts (zOf n ds y) i) w).1 = 0 then ((0 : Int32), y_debt (zOf n ds y) i (f_join (x_debts (zOf n ds y) i) w).2) else (1, y_debt (zOf n ds y) i (f_join (x_debts (zOf n ds y) i) w).2)).1 = 0 ∧ Rel9 (j + 1) (if (f_join (x_debts (zOf n ds y) i) w).1 = 0 then ((0 : Int32), y_debt (zOf n ds y) i (f_join (x_debts (zOf n ds y) i) w).2) else (1, y_debt (zOf n ds y) i (f_join (x_debts (zOf n ds y) i) w).2)).2 (n_thrown y 0)) := by
          intro e
          rw [e] at hj hjI
          rw [if_pos (show (f_join (x_debts (zOf n ds y) i) w).1 = 0 from hj.1)]
          exact ⟨rfl, hb.one hi (sameH.rf _) rfl (fun _ _ => rfl) hj.2 hjI⟩
        by_cases c5 : m = 4
        · rw [if_pos (show nI m = 4 from by rw [c5]; rfl)]
          refine no ?_
          unfold f_join
          rw [hd, if_pos (show (4 : Int32) ≤ nI m from nI_le (a := 4) (by omega) (by omega))]
        · rw [if_neg (show ¬ nI m = 4 from fun e => c5 ((nI_eq (b := 4) (by omega) (by omega)).mp e))]
          have c6 : ¬ (4 : Int32) ≤ d_debtors (vD y (i + 1)) := by
            rw [hd]; exact nI_ge (b := 4) (by omega) (by omega)
          rcases place_cases (w := w) hm4 hd with c7 | ⟨k, hk, c7, c8, c9⟩
          · rw [if_pos (show f_placeOf (vD y (i + 1)) w < 0 from by rw [c7]; decide)]
            have e : f_join (vD y (i + 1)) w = (1, s_debtors (s_people (vD y (i + 1)) (upd (d_people (vD y (i + 1))) m w)) (nI m + 1)) := by
              unfold f_join
              rw [if_neg c6, if_pos c7, hd, nI_clamp (by omega)]
            rw [e] at hj hjI
            rw [if_neg (show ¬ (f_join (x_debts (zOf n ds y) i) w).1 = 0 from by rw [show (f_join (x_debts (zOf n ds y) i) w).1 = 1 from hj.1]; decide), ix4 (by omega) (by omega)]
            refine ⟨rfl, hb.one hi (H_dtr _ _ (sameH.rf _)) ?_ (fun b hne => ?_) hj.2 hjI⟩
            · dsimp only [vD, m_thrown, m_today, m_rates, m_from, m_up, m_down, m_debts, m_state, m_born, m_dueDay, m_cents, m_open, m_lost, m_fixed, m_runsFrom, m_interestPaid, m_parts, m_deferredOn, m_deferred, m_debtors, m_debtor, m_paidBy, m_credit, n_thrown, n_today, n_rates, n_from, n_up, n_down, n_debts, n_state, n_born, n_dueDay, n_cents, n_open, n_lost, n_fixed, n_runsFrom, n_interestPaid, n_parts, n_deferredOn, n_deferred, n_debtors, n_debtor, n_paidBy, n_credit, d_cents, d_birth, d_people, d_paid, d_debtors, d_state, d_due, d_ib, d_open, d_lost, d_fixed, d_paidI, d_dDay, d_dParts, d_dOpen, s_cents, s_birth, s_people, s_paid, s_debtors, s_state, s_due, s_ib, s_open, s_lost, s_fixed, s_paidI, s_dDay, s_dParts, s_dOpen]
              rw [pk_us, v4I_s (by omega)]
            · dsimp only [vD, m_thrown, m_today, m_rates, m_from, m_up, m_down, m_debts, m_state, m_born, m_dueDay, m_cents, m_open, m_lost, m_fixed, m_runsFrom, m_interestPaid, m_parts, m_deferredOn, m_deferred, m_debtors, m_debtor, m_paidBy, m_credit, n_thrown, n_today, n_rates, n_from, n_up, n_down, n_debts, n_state, n_born, n_dueDay, n_cents, n_open, n_lost, n_fixed, n_runsFrom, n_interestPaid, n_parts, n_deferredOn, n_deferred, n_debtors, n_debtor, n_paidBy, n_credit]
              rw [pk_un hne, v4I_n (by omega) hne]
          · rw [if_neg c9]
            refine no ?_
            unfold f_join
            rw [if_neg c6, if_neg c8]
      · rw [if_neg c4, if_neg c4]; exact ⟨rfl, hb.ref 0⟩
