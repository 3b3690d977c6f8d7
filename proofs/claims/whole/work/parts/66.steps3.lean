def yNewD (y : MT) (k : Int32) (b q : Nat) (c : Int64) (w : Int32) : MT := n_debtor (n_debtors (n_dueDay (n_born (n_open (n_cents (n_debts (n_thrown y 0) k) (vp_updL (m_cents y) b c)) (vp_updL (m_open y) b c)) (upd (m_born y) b (m_today y))) (upd (m_dueDay y) b (-1))) (upd (m_debtors y) b 1)) (upd (m_debtor y) q w)
theorem yNewD_H (y : MT) (k : Int32) (b q : Nat) (c : Int64) (w : Int32) : m_thrown (yNewD y k b q c w) = 0 ∧ m_today (yNewD y k b q c w) = m_today y ∧ vR (yNewD y k b q c w) = vR y ∧ m_debts (yNewD y k b q c w) = k ∧ m_credit (yNewD y k b q c w) = m_credit y := by
  obtain ⟨a0, a1, a2, a3, a4, a5, a6, a7, a8, a9, a10, a11, a12, a13, a14, a15, a16, a17, a18, a19, a20, a21, a22⟩ := y
  dsimp only [yNewD, vR, m_thrown, m_today, m_rates, m_from, m_up, m_down, m_debts, m_state, m_born, m_dueDay, m_cents, m_open, m_lost, m_fixed, m_runsFrom, m_interestPaid, m_parts, m_deferredOn, m_deferred, m_debtors, m_debtor, m_paidBy, m_credit, n_thrown, n_today, n_rates, n_from, n_up, n_down, n_debts, n_state, n_born, n_dueDay, n_cents, n_open, n_lost, n_fixed, n_runsFrom, n_interestPaid, n_parts, n_deferredOn, n_deferred, n_debtors, n_debtor, n_paidBy, n_credit]
  exact ⟨rfl, rfl, rfl, rfl, rfl⟩
theorem yNewD_s {y : MT} {k : Int32} {b : Nat} {c : Int64} {w : Int32} (h : vD y b = dZ) : vD (yNewD y k b (4 * b + 0) c w) b = (f_join (dNew c (m_today y)) w).2 := by
  rw [show (f_join (dNew c (m_today y)) w).2 = (c, m_today y, upd (fun _ => 0) 0 w, fun _ => 0, 1, 0, -1, 0, c, 0, 0, 0, 0, 0, 0) from rfl]
  have z1 : v4I (m_debtor y) b = fun _ => 0 := congrArg d_people h
  have z2 : v4L (m_paidBy y) b = fun _ => 0 := congrArg d_paid h
  have z3 : m_state y b = 0 := congrArg d_state h
  have z4 : m_runsFrom y b = 0 := congrArg d_ib h
  have z5 : m_lost y b = 0 := congrArg d_lost h
  have z6 : m_fixed y b = 0 := congrArg d_fixed h
  have z7 : m_interestPaid y b = 0 := congrArg d_paidI h
  have z8 : m_deferredOn y b = 0 := congrArg d_dDay h
  have z9 : m_parts y b = 0 := congrArg d_dParts h
  have z10 : m_deferred y b = 0 := congrArg d_dOpen h
  obtain ⟨a0, a1, a2, a3, a4, a5, a6, a7, a8, a9, a10, a11, a12, a13, a14, a15, a16, a17, a18, a19, a20, a21, a22⟩ := y
  dsimp only [m_thrown, m_today, m_rates, m_from, m_up, m_down, m_debts, m_state, m_born, m_dueDay, m_cents, m_open, m_lost, m_fixed, m_runsFrom, m_interestPaid, m_parts, m_deferredOn, m_deferred, m_debtors, m_debtor, m_paidBy, m_credit, n_thrown, n_today, n_rates, n_from, n_up, n_down, n_debts, n_state, n_born, n_dueDay, n_cents, n_open, n_lost, n_fixed, n_runsFrom, n_interestPaid, n_parts, n_deferredOn, n_deferred, n_debtors, n_debtor, n_paidBy, n_credit] at z1 z2 z3 z4 z5 z6 z7 z8 z9 z10
  dsimp only [yNewD, vD, m_thrown, m_today, m_rates, m_from, m_up, m_down, m_debts, m_state, m_born, m_dueDay, m_cents, m_open, m_lost, m_fixed, m_runsFrom, m_interestPaid, m_parts, m_deferredOn, m_deferred, m_debtors, m_debtor, m_paidBy, m_credit, n_thrown, n_today, n_rates, n_from, n_up, n_down, n_debts, n_state, n_born, n_dueDay, n_cents, n_open, n_lost, n_fixed, n_runsFrom, n_interestPaid, n_parts, n_deferredOn, n_deferred, n_debtors, n_debtor, n_paidBy, n_credit]
  rw [v4I_s (by omega), pk_us, pk_us, pk_us, pk_uLs, pk_uLs, z1, z2, z3, z4, z5, z6, z7, z8, z9, z10]
theorem yNewD_n {y : MT} {k : Int32} {b e : Nat} {c : Int64} {w : Int32} (h : e ≠ b) : vD (yNewD y k b (4 * b + 0) c w) e = vD y e := by
  obtain ⟨a0, a1, a2, a3, a4, a5, a6, a7, a8, a9, a10, a11, a12, a13, a14, a15, a16, a17, a18, a19, a20, a21, a22⟩ := y
  dsimp only [yNewD, vD, m_thrown, m_today, m_rates, m_from, m_up, m_down, m_debts, m_state, m_born, m_dueDay, m_cents, m_open, m_lost, m_fixed, m_runsFrom, m_interestPaid, m_parts, m_deferredOn, m_deferred, m_debtors, m_debtor, m_paidBy, m_credit, n_thrown, n_today, n_rates, n_from, n_up, n_down, n_debts, n_state, n_born, n_dueDay, n_cents, n_open, n_lost, n_fixed, n_runsFrom, n_interestPaid, n_parts, n_deferredOn, n_deferred, n_debtors, n_debtor, n_paidBy, n_credit]
  rw [v4I_n (by omega) h, pk_un h, pk_un h, pk_un h, pk_uLn h, pk_uLn h]
theorem st_debt {j : Nat} {z : XT} {y : MT} (c : Int64) (w : Int32) (h : Rel9 j z y) : (f_debt z c w).1 = m_thrown (g_debt y c w).2 ∧ ((f_debt z c w).1 = 0 → (f_debt z c w).2.1 = (g_debt y c w).1) ∧ Rel9 (j + 1) (f_debt z c w).2.2 (g_debt y c w).2 := by
  obtain ⟨n, ds, rfl, hb⟩ := h
  unfold f_debt g_debt
  rw [show g_in c 1 1000000000 = f_isSum c from rfl, show g_isPerson w = f_isPerson w from rfl]
  by_cases c1 : f_isSum c = 0
  · rw [if_pos c1, if_pos c1]
    exact ⟨rfl, fun e => absurd e (show ¬ (1 : Int32) = 0 by decide), hb.ref 1⟩
  rw [if_neg c1, if_neg c1]
  by_cases c2 : f_isPerson w = 0
  · rw [if_pos c2, if_pos c2]
    exact ⟨rfl, fun e => absurd e (show ¬ (1 : Int32) = 0 by decide), hb.ref 1⟩
  rw [if_neg c2, if_neg c2]
  have hn := hb.1
  have hd := hb.2.1
  by_cases c3 : n = 40
  · rw [if_neg (show ¬ nI n < 40 from fun e => by have := (nI_ltI (b := 40) (by omega) (by omega)).mp e; omega), if_pos (show m_debts y = 40 from by rw [hd, c3]; rfl)]
    exact ⟨rfl, fun e => absurd e (show ¬ (2 : Int32) = 0 by decide), hb.ref 2⟩
  · rw [if_pos (show nI n < 40 from nI_lt (b := 40) (by omega) (by omega)), if_neg (show ¬ m_debts y = 40 from by
      rw [hd]; exact fun e => c3 ((nI_eq (b := 40) (by omega) (by omega)).mp e))]
    have b0 : 1 ≤ c.toInt ∧ c.toInt ≤ 1000000000 := by
      unfold f_isSum at c1
      by_cases a1 : c < 1
      · rw [if_pos a1] at c1; exact absurd rfl c1
      · rw [if_neg a1] at c1
        by_cases a2 : 1000000000 < c
        · rw [if_pos a2] at c1; exact absurd rfl c1
        · rw [Int64.lt_iff_toInt_lt, show (1 : Int64).toInt = 1 from rfl] at a1
          rw [Int64.lt_iff_toInt_lt, show (1000000000 : Int64).toInt = 1000000000 from rfl] at a2
          omega
    rw [hd, nI_1, nI_clamp (n := n + 1) (by omega), show (4 : Int32) * nI (n + 1) = 4 * nI (n + 1) + nI 0 from (Int32.add_zero _).symm, ix4 (by omega) (by omega)]
    obtain ⟨h1, h2, h3, h4, h5, h6⟩ := hb
    show _ ∧ _ ∧ Rel9 (j + 1) _ (yNewD y (nI (n + 1)) (n + 1) (4 * (n + 1) + 0) c w)
    obtain ⟨k1, k2, k3, k4, k5⟩ := yNewD_H y (nI (n + 1)) (n + 1) (4 * (n + 1) + 0) c w
    have k6 := yNewD_s (y := y) (k := nI (n + 1)) (b := n + 1) (c := c) (w := w) (h6.2 (n + 1) (Or.inr (by omega)))
    have k7 := fun e => yNewD_n (y := y) (k := nI (n + 1)) (b := n + 1) (e := e) (c := c) (w := w)
    refine ⟨k1.symm, fun _ => rfl, ?_⟩
    generalize yNewD y (nI (n + 1)) (n + 1) (4 * (n + 1) + 0) c w = y1 at k1 k2 k3 k4 k5 k6 k7 ⊢
    refine ⟨n + 1, va_up ds n (f_join (dNew c (m_today y)) w).2, ?_, by omega, k4, by rw [k2]; exact h3, by rw [k2]; exact h4, by rw [k3]; exact h5, ?_, ?_⟩
    · show (nI (n + 1), m_today y, vR y, m_credit y, va_up ds (nI n).toNatClampNeg (f_join (dNew c (m_today y)) w).2) = (nI (n + 1), m_today y1, vR y1, m_credit y1, va_up ds n (f_join (dNew c (m_today y)) w).2)
      rw [k2, k3, k5, nI_clamp (by omega)]
    · intro i hi
      rw [k2]
      by_cases e : i = n
      · subst e
        rw [va_up_self, k6]
        exact ⟨eqv.rf _, Inv.new h3 (by dsimp only; omega) b0.1 b0.2⟩
      · rw [va_up_ne _ _ e, k7 (i + 1) (by omega)]
        obtain ⟨g1, g2⟩ := h6.1 i (by omega)
        exact ⟨g1, g2.mono (by dsimp only; omega) (Int.le_refl _)⟩
    · intro b hb
      rw [k7 b (by omega)]
      exact h6.2 b (by omega)
def yRate (y : MT) (k : Int32) (r : Nat) (a b c : Int32) : MT := n_rates (n_down (n_up (n_from (n_thrown y 0) (upd (m_from y) r a)) (upd (m_up y) r b)) (upd (m_down y) r c)) k
theorem yRate_H (y : MT) (k : Int32) (r : Nat) (a b c : Int32) : m_thrown (yRate y k r a b c) = 0 ∧ m_today (yRate y k r a b c) = m_today y ∧ vR (yRate y k r a b c) = (k, upd (m_from y) r a, upd (m_up y) r b, upd (m_down y) r c) ∧ m_debts (yRate y k r a b c) = m_debts y ∧ m_credit (yRate y k r a b c) = m_credit y ∧ ∀ e, vD (yRate y k r a b c) e = vD y e := by
  obtain ⟨a0, a1, a2, a3, a4, a5, a6, a7, a8, a9, a10, a11, a12, a13, a14, a15, a16, a17, a18, a19, a20, a21, a22⟩ := y
  dsimp only [yRate, vR, vD, m_thrown, m_today, m_rates, m_from, m_up, m_down, m_debts, m_state, m_born, m_dueDay, m_cents, m_open, m_lost, m_fixed, m_runsFrom, m_interestPaid, m_parts, m_deferredOn, m_deferred, m_debtors, m_debtor, m_paidBy, m_credit, n_thrown, n_today, n_rates, n_from, n_up, n_down, n_debts, n_state, n_born, n_dueDay, n_cents, n_open, n_lost, n_fixed, n_runsFrom, n_interestPaid, n_parts, n_deferredOn, n_deferred, n_debtors, n_debtor, n_paidBy, n_credit]
  exact ⟨rfl, rfl, rfl, rfl, rfl, fun _ => rfl⟩
def fTail (z : XT) (fr up dn : Int32) : Int32 × Int32 × XT :=
  if dn < 0 then (2, 0, z)
  else if 1000 < dn then (2, 0, z)
    else if up < 0 then (2, 0, z)
      else if up ≤ dn then (if r_count (x_rates z) < 20 then (0, r_count ((f_R_append (x_rates z) (fr) (up) (dn))), y_rates (z) (f_R_append (x_rates z) (fr) (up) (dn)))
          else (3, 0, z))
        else (2, 0, z)
def gTail (y : MT) (day ra rb : Int32) : Int32 × MT :=
  if rb < 0 then ((g_fails y (2)).1, (g_fails y (2)).2)
  else if 1000 < rb then ((g_fails y (2)).1, (g_fails y (2)).2)
    else if ra < 0 then ((g_fails y (2)).1, (g_fails y (2)).2)
      else if ra ≤ rb then (if m_rates y = 20 then ((g_fails y (3)).1, (g_fails y (3)).2)
          else ((m_rates y + 1), (n_rates (n_down (n_up (n_from (n_thrown y (0)) (upd (m_from y) (m_rates y).toNatClampNeg (day))) (upd (m_up y) (m_rates y).toNatClampNeg (ra))) (upd (m_down y) (m_rates y).toNatClampNeg (rb))) ((m_rates y + 1)))))
        else ((g_fails y (2)).1, (g_fails y (2)).2)
theorem f_rate_eq (z : XT) (fr up dn : Int32) : f_rate z fr up dn = if dn = 0 then (1, 0, z) else if fr ≤ x_today z then (2, 0, z) else if fr < (f_R_latestDay (x_rates z)) then (2, 0, z) else if fr ≤ 100000 then fTail z fr up dn else (2, 0, z) := rfl
theorem g_rate_eq (y : MT) (day ra rb : Int32) : g_rate y day ra rb = if rb = 0 then (0, n_thrown y 1) else if day ≤ m_today y then (0, n_thrown y 2) else if 100000 < day then (0, n_thrown y 2) else if m_rates y ≤ 0 then gTail y day ra rb else if day < ((m_from y) ((m_rates y - 1)).toNatClampNeg) then (0, n_thrown y 2) else gTail y day ra rb := rfl
theorem st_rate {j : Nat} {z : XT} {y : MT} (a b c : Int32) (h : Rel9 j z y) : (f_rate z a b c).1 = m_thrown (g_rate y a b c).2 ∧ ((f_rate z a b c).1 = 0 → (f_rate z a b c).2.1 = (g_rate y a b c).1) ∧ Rel9 (j + 1) (f_rate z a b c).2.2 (g_rate y a b c).2 := by
  obtain ⟨n, ds, rfl, hb⟩ := h
  have no : ∀ (k : Int32), ¬ k = 0 → (k = m_thrown (n_thrown y k) ∧ (k = 0 → (0 : Int32) = 0) ∧ Rel9 (j + 1) (zOf n ds y) (n_thrown y k)) := fun k hk => ⟨rfl, fun e => absurd e hk, hb.ref k⟩
  have hb' := hb
  obtain ⟨h1, h2, h3, h4, ⟨m, hm, hc, hR⟩, h6⟩ := hb'
  have hc2 : m_rates y = nI m := hc
  have hc3 : r_count (x_rates (zOf n ds y)) = nI m := hc
  rw [f_rate_eq, g_rate_eq]
  by_cases c1 : c = 0
  · rw [if_pos c1, if_pos c1]; exact no 1 (by decide)
  rw [if_neg c1, if_neg c1]
  by_cases c2 : a ≤ m_today y
  · rw [if_pos c2, if_pos (show a ≤ x_today (zOf n ds y) from c2)]; exact no 2 (by decide)
  rw [if_neg c2, if_neg (show ¬ a ≤ x_today (zOf n ds y) from c2)]
  have c2 : ¬ a.toInt ≤ (m_today y).toInt := fun e => c2 (Int32.le_iff_toInt_le.mpr e)
  by_cases c3 : 100000 < a
  · rw [if_pos c3, if_neg (Int32.not_le.mpr c3), ite_self]; exact no 2 (by decide)
  rw [if_neg c3, if_pos (Int32.not_lt.mp c3)]
  have c3 : a.toInt ≤ 100000 := Int32.le_iff_toInt_le.mp (Int32.not_lt.mp c3)
  have tail : (fTail (zOf n ds y) a b c).1 = m_thrown (gTail y a b c).2 ∧ ((fTail (zOf n ds y) a b c).1 = 0 → (fTail (zOf n ds y) a b c).2.1 = (gTail y a b c).1) ∧ Rel9 (j + 1) (fTail (zOf n ds y) a b c).2.2 (gTail y a b c).2 := by
    unfold fTail gTail
    by_cases c4 : c < 0
    · rw [if_pos c4, if_pos c4]; exact no 2 (by decide)
    rw [if_neg c4, if_neg c4]
    by_cases c5 : 1000 < c
    · rw [if_pos c5, if_pos c5]; exact no 2 (by decide)
    rw [if_neg c5, if_neg c5]
    by_cases c6 : b < 0
    · rw [if_pos c6, if_pos c6]; exact no 2 (by decide)
    rw [if_neg c6, if_neg c6]
    by_cases c7 : b ≤ c
    case neg => rw [if_neg c7, if_neg c7]; exact no 2 (by decide)
    rw [if_pos c7, if_pos c7]
    have c1 := i_ne c1
    rw [show (0 : Int32).toInt = 0 from rfl] at c1
    rw [Int32.lt_iff_toInt_lt, show (0 : Int32).toInt = 0 from rfl] at c4 c6
    rw [Int32.lt_iff_toInt_lt, show (1000 : Int32).toInt = 1000 from rfl] at c5
    rw [Int32.le_iff_toInt_le] at c7
    rw [hc3, hc2]
    by_cases c8 : m = 20
    · rw [if_neg (show ¬ nI m < 20 from fun e => by have := (nI_ltI (b := 20) (by omega) (by omega)).mp e; omega), if_pos (show nI m = 20 from by rw [c8]; rfl)]
      exact no 3 (by decide)
    rw [if_pos (show nI m < 20 from nI_lt (b := 20) (by omega) (by omega)), if_neg (show ¬ nI m = 20 from fun e => c8 ((nI_eq (b := 20) (by omega) (by omega)).mp e)), nI_1, nI_clamp (by omega)]
    have ea : f_R_append (x_rates (zOf n ds y)) a b c = (nI (m + 1), upd (m_from y) m a, upd (m_up y) m b, upd (m_down y) m c) := by
      unfold f_R_append
      rw [hc3, if_pos (show nI m < 20 from nI_lt (b := 20) (by omega) (by omega)), nI_1, nI_clamp (by omega)]
    rw [ea]
    obtain ⟨k1, k2, k3, k4, k5, k6⟩ := yRate_H y (nI (m + 1)) m a b c
    show _ ∧ _ ∧ Rel9 (j + 1) _ (yRate y (nI (m + 1)) m a b c)
    refine ⟨k1.symm, fun _ => rfl, ?_⟩
    generalize yRate y (nI (m + 1)) m a b c = y1 at k1 k2 k3 k4 k5 k6 ⊢
    refine ⟨n, ds, ?_, h1, k4.trans h2, by rw [k2]; exact h3, by rw [k2]; exact h4, ?_, fun i hi => ?_, fun e he => by rw [k6]; exact h6.2 e he⟩
    · show (nI n, m_today y, (nI (m + 1), upd (m_from y) m a, upd (m_up y) m b, upd (m_down y) m c), m_credit y, ds) = (nI n, m_today y1, vR y1, m_credit y1, ds)
      rw [k2, k3, k5]
    · rw [k3]
      refine ⟨m + 1, by omega, rfl, fun r hr => ?_⟩
      show (0 ≤ (upd (m_from y) m a r).toInt ∧ (upd (m_from y) m a r).toInt ≤ 100000) ∧ 1 ≤ (upd (m_down y) m c r).toInt ∧ 0 ≤ (upd (m_up y) m b r).toInt ∧ (upd (m_up y) m b r).toInt ≤ 1000
      by_cases e : r = m
      · subst e
        rw [pk_us, pk_us, pk_us]; omega
      · rw [pk_un e, pk_un e, pk_un e]; exact hR r (by omega)
    · rw [k6, k2]
      obtain ⟨g1, g2⟩ := h6.1 i hi
      exact ⟨g1, g2.mono (by dsimp only; omega) (Int.le_refl _)⟩
  unfold f_R_latestDay
  rw [hc3]
  by_cases c9 : m = 0
  · have e9 : nI m = 0 := by rw [c9]; rfl
    rw [if_pos (show m_rates y ≤ 0 from by rw [hc2, e9]; decide), if_neg (show ¬ (1 : Int32) ≤ nI m from by rw [e9]; decide), if_neg (show ¬ a < 0 from by rw [Int32.lt_iff_toInt_lt, show (0 : Int32).toInt = 0 from rfl]; omega)]
    exact tail
  · rw [if_neg (show ¬ m_rates y ≤ 0 from by rw [hc2]; exact nI_ge (a := 0) (by omega) (by omega)), if_pos (show (1 : Int32) ≤ nI m from nI_le (a := 1) (by omega) (by omega)), hc2, show r_from (x_rates (zOf n ds y)) = m_from y from rfl]
    by_cases c10 : a < m_from y (nI m - 1).toNatClampNeg
    · rw [if_pos c10, if_pos c10]; exact no 2 (by decide)
    · rw [if_neg c10, if_neg c10]
      exact tail
