theorem pmL_stop {who : Int32} {l : Int64} (hl : l ≤ 0) : ∀ (n i : Nat) (t : Int32) (y : MT), pmL who i n t l y = (t, l, y) := by
  intro n
  induction n with
  | zero => intro i t y; rfl
  | succ n ih => intro i t y; unfold pmL; rw [if_pos hl]; exact ih (i + 1) t y
theorem take_left {v : DT} {k m : Nat} {n : Int64} (hm : m ≤ 4) (hd : d_debtors v = nI m) (hk : k < m) (hn : 0 ≤ n.toInt) (hf : 0 ≤ (d_fixed v).toInt) (ho : 0 ≤ (d_open v).toInt) : 0 ≤ (n - (f_take v (nI k) n).1).toInt := by
  rw [take_eq hm hd hk, l_sum9]
  have e1 : (n - jMin n (d_fixed v)).toInt = n.toInt - min n.toInt (d_fixed v).toInt := by
    have := Int64.toInt_lt n
    rw [l_sub (by rw [jMin_toInt]; omega) (by rw [jMin_toInt]; omega), jMin_toInt]
  have e2 : (n - jMin n (d_fixed v) - jMin (n - jMin n (d_fixed v)) (d_open v)).toInt = (n - jMin n (d_fixed v)).toInt - min (n - jMin n (d_fixed v)).toInt (d_open v).toInt := by
    have := Int64.toInt_lt n
    rw [l_sub (by rw [jMin_toInt]; omega) (by rw [jMin_toInt]; omega), jMin_toInt]
  omega
theorem pyL_eq {j N : Nat} {who T : Int32} {a : Int32} {R : RT} {cr : Nat → Int64} (hj : j < 512) (hN : N ≤ 40) (t0 : 0 ≤ T.toInt) (t1 : T.toInt ≤ 100000) (hR : okR R) : ∀ (n i : Nat) (t : Int32) (l : Int64) (ds : Nat → DT) (y : MT), i + n = N → 0 ≤ l.toInt → m_today y = T → vR y = R → DR (fun q => if q < i then 5480000000000000 * ((j + 1 : Nat) : Int) else 5480000000000000 * (j : Int)) T N ds y →
    (pyL who i n l t (a, T, R, cr, ds)).1 = (pmL who i n t l y).2.1 ∧ (pyL who i n l t (a, T, R, cr, ds)).2.1 = (pmL who i n t l y).1 ∧ ∃ ds', (pyL who i n l t (a, T, R, cr, ds)).2.2 = (a, T, R, cr, ds') ∧ DR (fun _ => 5480000000000000 * ((j + 1 : Nat) : Int)) T N ds' (pmL who i n t l y).2.2 ∧ sameH y (pmL who i n t l y).2.2 := by
  have up : ∀ (i : Nat) (ds : Nat → DT) (y : MT), DR (fun q => if q < i then 5480000000000000 * ((j + 1 : Nat) : Int) else 5480000000000000 * (j : Int)) T N ds y → DR (fun _ => 5480000000000000 * ((j + 1 : Nat) : Int)) T N ds y := fun i ds y h => h.mono (fun q _ => by
    by_cases e : q < i
    · rw [if_pos e]; exact Int.le_refl _
    · rw [if_neg e]; omega) (Int.le_refl _)
  intro n
  induction n with
  | zero => intro i t l ds y hi hl hT hV h; exact ⟨rfl, rfl, ds, rfl, up i ds y h, sameH.rf y⟩
  | succ n ih =>
    intro i t l ds y hi hl hT hV h
    have h' : DR (fun q => if q < i + 1 then 5480000000000000 * ((j + 1 : Nat) : Int) else 5480000000000000 * (j : Int)) T N ds y := h.mono (fun q _ => by
      by_cases e : q < i
      · rw [if_pos e, if_pos (by omega)]; exact Int.le_refl _
      · rw [if_neg e]
        by_cases e' : q < i + 1
        · rw [if_pos e']; omega
        · rw [if_neg e']; exact Int.le_refl _) (Int.le_refl _)
    by_cases c0 : l ≤ 0
    · rw [pmL_stop c0]
      unfold pyL
      rw [if_pos c0]
      exact ⟨rfl, rfl, ds, rfl, up i ds y h, sameH.rf y⟩
    obtain ⟨he, hI⟩ := h.1 i (by omega)
    dsimp only at hI
    rw [if_neg (by omega)] at hI
    have eb : (nI (i + 1)).toNatClampNeg = i + 1 := nI_clamp (by omega)
    obtain ⟨m, hm1, hm4, hd, ha, hz⟩ := hI.nm
    have est : d_state (ds i) = m_state y (i + 1) := he.st
    have ep : f_placeOf (ds i) who = f_placeOf (vD y (i + 1)) who := he.f (fun v => f_placeOf v who) (fun _ _ => rfl)
    have epf : f_placeOf (f_fixInterest (ds i) R T) who = f_placeOf (ds i) who := rfl
    have skip := ih (i + 1) t l ds y (by omega) hl hT hV h'
    unfold pyL pmL f_isPayable
    rw [if_neg c0, if_neg c0, show x_debts (a, T, R, cr, ds) i = ds i from rfl, show x_rates (a, T, R, cr, ds) = R from rfl, show x_today (a, T, R, cr, ds) = T from rfl, est, epf, ep, placeOf_eq (by omega) hm4 hd ha, eb]
    rcases place_cases (w := who) hm4 hd with c7 | ⟨k, hk, c7, c8, c9⟩
    · rw [if_pos (show f_placeOf (vD y (i + 1)) who < 0 from by rw [c7]; decide), if_pos c7, ite_self]
      exact skip
    rw [if_neg c8, if_neg c9]
    have pay : (m_state y (i + 1) = 1 ∨ m_state y (i + 1) = 2) → (pyL who (i + 1) n (l - (f_take (f_fixInterest (ds i) R T) (f_placeOf (vD y (i + 1)) who) l).1) (t + 1) (y_debt (a, T, R, cr, ds) i (f_take (f_fixInterest (ds i) R T) (f_placeOf (vD y (i + 1)) who) l).2)).1 = (pmL who (i + 1) n (t + 1) (g_payOf y (nI (i + 1)) who l).1 (g_payOf y (nI (i + 1)) who l).2).2.1 ∧ (pyL who (i + 1) n (l - (f_take (f_fixInterest (ds i) R T) (f_placeOf (vD y (i + 1)) who) l).1) (t + 1) (y_debt (a, T, R, cr, ds) i (f_take (f_fixInterest (ds i) R T) (f_placeOf (vD y (i + 1)) who) l).2)).2.1 = (pmL who (i + 1) n (t + 1) (g_payOf y (nI (i + 1)) who l).1 (g_payOf y (nI (i + 1)) who l).2).1 ∧ ∃ ds', (pyL who (i + 1) n (l - (f_take (f_fixInterest (ds i) R T) (f_placeOf (vD y (i + 1)) who) l).1) (t + 1) (y_debt (a, T, R, cr, ds) i (f_take (f_fixInterest (ds i) R T) (f_placeOf (vD y (i + 1)) who) l).2)).2.2 = (a, T, R, cr, ds') ∧ DR (fun _ => 5480000000000000 * ((j + 1 : Nat) : Int)) T N ds' (pmL who (i + 1) n (t + 1) (g_payOf y (nI (i + 1)) who l).1 (g_payOf y (nI (i + 1)) who l).2).2.2 ∧ sameH y (pmL who (i + 1) n (t + 1) (g_payOf y (nI (i + 1)) who l).1 (g_payOf y (nI (i + 1)) who l).2).2.2 := by
      intro hs
      have hlv : d_state (vD y (i + 1)) = 0 ∨ d_state (vD y (i + 1)) = 1 ∨ d_state (vD y (i + 1)) = 2 ∨ d_state (vD y (i + 1)) = 3 := hs.elim (fun e => Or.inr (Or.inl e)) (fun e => Or.inr (Or.inr (Or.inl e)))
      have hF : Inv (5480000000000000 * ((j + 1 : Nat) : Int)) T (f_fixInterest (vD y (i + 1)) R T) := (hI.fix t0 t1 hR (by omega)).mono (by omega) (Int.le_refl _)
      have hr : g_running y (nI (i + 1)) = f_runningInterest (vD y (i + 1)) (vR y) (m_today y) := by
        obtain ⟨r, hr1, hr2, hr3⟩ := hR
        rw [← hV] at hr2 hr3
        refine running_eq (m := r) (by omega) hr1 hr2 (fun s hs => ?_)
        have : 1 ≤ (m_down y s).toInt := (hr3 s hs).2.1
        rw [Int32.le_iff_toInt_le, show (0 : Int32).toInt = 0 from rfl]; omega
      have hf0 := hF.fx0
      rw [← hV, ← hT] at hf0
      obtain ⟨p1, p2, p3⟩ := vD_pay (y := y) (b := i + 1) (k := k) (m := m) (who := who) (n := l) (by omega) hm4 hd hk (by rw [placeOf_eq (by omega) hm4 hd ha, c7]) hr hl hf0
      rw [hV, hT] at p1 p2
      have p4 := payOf_H y (nI (i + 1)) who l
      obtain ⟨x1, x2⟩ := (he.fix (R := R) (t := T)).take (pl := nI k) (n := l)
      rw [c7, x1, p2]
      have hl' := take_left (v := f_fixInterest (vD y (i + 1)) R T) (n := l) hm4 hd hk hl hF.fx0 hF.op0
      have hI' := hF.take (k := k) (m := m) (n := l) hlv hm4 hd hk hl
      generalize l - (f_take (f_fixInterest (vD y (i + 1)) R T) (nI k) l).1 = l1 at hl' ⊢
      generalize (f_take (f_fixInterest (vD y (i + 1)) R T) (nI k) l).2 = v1 at x2 p1 hI'
      generalize (g_payOf y (nI (i + 1)) who l).2 = y1 at p1 p3 p4 ⊢
      generalize (f_take (f_fixInterest (ds i) R T) (nI k) l).2 = d1 at x2 ⊢
      obtain ⟨q1, q2, ds', q3, q4, q5⟩ := ih (i + 1) (t + 1) l1 (va_up ds i d1) y1 (by omega) hl' (p4.2.1.trans hT) (p4.2.2.1.trans hV) ((h.step (i := i) (by omega) (5480000000000000 * ((j + 1 : Nat) : Int)) p1 p3 x2 hI').mono (fun q _ => by
        by_cases e : q = i
        · rw [if_pos e, if_pos (by omega)]; exact Int.le_refl _
        · rw [if_neg e]
          by_cases e' : q < i
          · rw [if_pos e', if_pos (by omega)]; exact Int.le_refl _
          · rw [if_neg e', if_neg (by omega)]; exact Int.le_refl _) (Int.le_refl _))
      exact ⟨q1, q2, ds', q3, q4, p4.tr q5⟩
    by_cases c1 : m_state y (i + 1) = 1
    · rw [if_pos c1, if_pos c1, if_neg (show ¬ (1 : Int32) = 0 by decide)]
      exact pay (Or.inl c1)
    rw [if_neg c1, if_neg c1]
    by_cases c2 : m_state y (i + 1) = 2
    · rw [if_pos c2, if_pos c2, if_neg (show ¬ (1 : Int32) = 0 by decide)]
      exact pay (Or.inr c2)
    rw [if_neg c2, if_neg c2, if_pos rfl]
    exact skip
theorem credit_H (y : MT) (u : Nat → Int64) : m_thrown (n_credit y u) = m_thrown y ∧ m_today (n_credit y u) = m_today y ∧ vR (n_credit y u) = vR y ∧ m_debts (n_credit y u) = m_debts y ∧ m_credit (n_credit y u) = u ∧ ∀ b, vD (n_credit y u) b = vD y b := by
  obtain ⟨a0, a1, a2, a3, a4, a5, a6, a7, a8, a9, a10, a11, a12, a13, a14, a15, a16, a17, a18, a19, a20, a21, a22⟩ := y
  dsimp only [vR, vD, m_thrown, m_today, m_rates, m_from, m_up, m_down, m_debts, m_state, m_born, m_dueDay, m_cents, m_open, m_lost, m_fixed, m_runsFrom, m_interestPaid, m_parts, m_deferredOn, m_deferred, m_debtors, m_debtor, m_paidBy, m_credit, n_thrown, n_today, n_rates, n_from, n_up, n_down, n_debts, n_state, n_born, n_dueDay, n_cents, n_open, n_lost, n_fixed, n_runsFrom, n_interestPaid, n_parts, n_deferredOn, n_deferred, n_debtors, n_debtor, n_paidBy, n_credit]
  exact ⟨rfl, rfl, rfl, rfl, rfl, fun _ => rfl⟩
theorem st_pay {j : Nat} {z : XT} {y : MT} (w : Int32) (c : Int64) (hj : j < 512) (h : Rel9 j z y) : (f_pay z w c).1 = m_thrown (g_pay y w c).2 ∧ ((f_pay z w c).1 = 0 → (f_pay z w c).2.1 = (g_pay y w c).1) ∧ Rel9 (j + 1) (f_pay z w c).2.2 (g_pay y w c).2 := by
  obtain ⟨n, ds, rfl, hb⟩ := h
  unfold f_pay g_pay
  rw [show g_in c 1 1000000000 = f_isSum c from rfl, show g_isPerson w = f_isPerson w from rfl]
  by_cases c1 : f_isPerson w = 0
  · rw [if_pos c1, if_pos c1]
    exact ⟨rfl, fun e => absurd e (show ¬ (1 : Int32) = 0 by decide), hb.ref 1⟩
  rw [if_neg c1, if_neg c1]
  by_cases c2 : f_isSum c = 0
  · rw [if_pos c2, if_pos c2]
    exact ⟨rfl, fun e => absurd e (show ¬ (1 : Int32) = 0 by decide), hb.ref 1⟩
  rw [if_neg c2, if_neg c2]
  have hl : 0 ≤ c.toInt := by
    unfold f_isSum at c2
    by_cases a1 : c < 1
    · rw [if_pos a1] at c2; exact absurd rfl c2
    · rw [Int64.lt_iff_toInt_lt, show (1 : Int64).toInt = 1 from rfl] at a1; omega
  obtain ⟨h1, h2, h3, h4, h5, h6⟩ := hb
  have h6' : DR (fun q => if q < 0 then 5480000000000000 * ((j + 1 : Nat) : Int) else 5480000000000000 * (j : Int)) (m_today y) n ds (n_thrown y 0) := h6.mono (fun q _ => by
    rw [if_neg (by omega)]; exact Int.le_refl _) (Int.le_refl _)
  obtain ⟨q1, q2, ds', q3, q4, q5⟩ := pyL_eq (j := j) (N := n) (who := w) (T := m_today y) (a := nI n) (R := vR y) (cr := m_credit y) hj h1 h3 h4 h5 n 0 0 c ds (n_thrown y 0) (by omega) hl rfl rfl h6'
  rw [h2, show (x_cnt (zOf n ds y)).toNatClampNeg = n from nI_clamp (by omega), show zOf n ds y = (nI n, m_today y, vR y, m_credit y, ds) from rfl, q1, q2, q3]
  generalize (pmL w 0 n 0 c (n_thrown y 0)).1 = k
  generalize (pmL w 0 n 0 c (n_thrown y 0)).2.1 = l1
  generalize (pmL w 0 n 0 c (n_thrown y 0)).2.2 = y1 at q4 q5 ⊢
  obtain ⟨s1, s2, s3, s4, s5⟩ := q5
  have s5 : m_credit y1 = m_credit y := s5
  rw [s5]
  obtain ⟨r1, r2, r3, r4, r5, r6⟩ := credit_H y1 (vp_updL (m_credit y) w.toNatClampNeg (m_credit y w.toNatClampNeg + l1))
  refine ⟨(r1.trans s1).symm, fun _ => rfl, ?_⟩
  show Rel9 (j + 1) (nI n, m_today y, vR y, vp_updL (m_credit y) w.toNatClampNeg (m_credit y w.toNatClampNeg + l1), ds') (n_credit y1 (vp_updL (m_credit y) w.toNatClampNeg (m_credit y w.toNatClampNeg + l1)))
  generalize n_credit y1 (vp_updL (m_credit y) w.toNatClampNeg (m_credit y w.toNatClampNeg + l1)) = y2 at r1 r2 r3 r4 r5 r6 ⊢
  have r2 : m_today y2 = m_today y := r2.trans s2
  have r3 : vR y2 = vR y := r3.trans s3
  have r4 : m_debts y2 = m_debts y := r4.trans s4
  refine ⟨n, ds', ?_, h1, r4.trans h2, by rw [r2]; exact h3, by rw [r2]; exact h4, by rw [r3]; exact h5, fun i hi => ?_, fun b hb => by rw [r6]; exact q4.2 b hb⟩
  · show _ = (nI n, m_today y2, vR y2, m_credit y2, ds')
    rw [r2, r3, r5]
  · rw [r6, r2]
    exact q4.1 i hi
theorem rel_ok : stepOK Rel9 :=
  ⟨fun _ _ _ h => rel_wf h, fun _ _ _ _ h => by
      obtain ⟨n, ds, e, hb⟩ := h
      exact ⟨n, ds, e, hb.up⟩,
    fun _ _ _ a b c _ h => st_rate a b c h,
    fun _ _ _ a b _ h => st_debt a b h,
    fun _ _ _ a _ h => st_notified a h,
    fun _ _ _ a b hj h => st_pay a b hj h,
    fun _ _ _ a b hj h => st_instalments a b hj h,
    fun _ _ _ a hj h => st_appeal a hj h,
    fun _ _ _ a b _ h => st_decide a b h,
    fun _ _ _ a _ h => st_tick a h,
    fun _ _ _ a b _ h => st_due a b h,
    fun _ _ _ a b c _ h => st_recourse a b c h,
    fun _ _ _ a b _ h => st_look a b h,
    fun _ _ _ a b _ h => st_debtor a b h,
    fun _ _ _ a _ h => st_sum a h⟩
