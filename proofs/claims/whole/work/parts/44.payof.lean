/-! the payment of one debt -/
def pMid (y1 : MT) (c q : Nat) (n : Int64) : MT := n_paidBy (n_open (n_interestPaid (n_fixed y1 (vp_updL (m_fixed y1) c (m_fixed y1 c - mnL n (m_fixed y1 c)))) (vp_updL (m_interestPaid y1) c (m_interestPaid y1 c + mnL n (m_fixed y1 c)))) (vp_updL (m_open y1) c (m_open y1 c - mnL (n - mnL n (m_fixed y1 c)) (m_open y1 c)))) (vp_updL (m_paidBy y1) q (m_paidBy y1 q + mnL (n - mnL n (m_fixed y1 c)) (m_open y1 c)))
def pEnd (y2 : MT) (b : Int32) : MT := if m_fixed y2 b.toNatClampNeg = 0 then (if m_open y2 b.toNatClampNeg = 0 then n_state y2 (upd (m_state y2) b.toNatClampNeg 4) else if 10 < m_open y2 b.toNatClampNeg then y2 else (g_lose y2 b 7).2) else y2
theorem payOf_eq (y : MT) (b who : Int32) (n : Int64) : g_payOf y b who n = (n - mnL n (m_fixed (g_fix y b) b.toNatClampNeg) - mnL (n - mnL n (m_fixed (g_fix y b) b.toNatClampNeg)) (m_open (g_fix y b) b.toNatClampNeg), pEnd (pMid (g_fix y b) b.toNatClampNeg (4 * b + g_debtorOf y b who).toNatClampNeg n) b) := by
  unfold g_payOf
  generalize g_fix y b = y1
  generalize (4 * b + g_debtorOf y b who).toNatClampNeg = q
  have e1 : m_fixed (pMid y1 b.toNatClampNeg q n) b.toNatClampNeg = m_fixed y1 b.toNatClampNeg - mnL n (m_fixed y1 b.toNatClampNeg) := by
    dsimp only [pMid, m_thrown, m_today, m_rates, m_from, m_up, m_down, m_debts, m_state, m_born, m_dueDay, m_cents, m_open, m_lost, m_fixed, m_runsFrom, m_interestPaid, m_parts, m_deferredOn, m_deferred, m_debtors, m_debtor, m_paidBy, m_credit, n_thrown, n_today, n_rates, n_from, n_up, n_down, n_debts, n_state, n_born, n_dueDay, n_cents, n_open, n_lost, n_fixed, n_runsFrom, n_interestPaid, n_parts, n_deferredOn, n_deferred, n_debtors, n_debtor, n_paidBy, n_credit]; exact pk_uLs
  have e2 : m_open (pMid y1 b.toNatClampNeg q n) b.toNatClampNeg = m_open y1 b.toNatClampNeg - mnL (n - mnL n (m_fixed y1 b.toNatClampNeg)) (m_open y1 b.toNatClampNeg) := by
    dsimp only [pMid, m_thrown, m_today, m_rates, m_from, m_up, m_down, m_debts, m_state, m_born, m_dueDay, m_cents, m_open, m_lost, m_fixed, m_runsFrom, m_interestPaid, m_parts, m_deferredOn, m_deferred, m_debtors, m_debtor, m_paidBy, m_credit, n_thrown, n_today, n_rates, n_from, n_up, n_down, n_debts, n_state, n_born, n_dueDay, n_cents, n_open, n_lost, n_fixed, n_runsFrom, n_interestPaid, n_parts, n_deferredOn, n_deferred, n_debtors, n_debtor, n_paidBy, n_credit]; exact pk_uLs
  unfold pEnd
  rw [e1, e2]
  by_cases h1 : m_fixed y1 b.toNatClampNeg - mnL n (m_fixed y1 b.toNatClampNeg) = 0
  · rw [if_pos h1, if_pos h1]
    by_cases h2 : m_open y1 b.toNatClampNeg - mnL (n - mnL n (m_fixed y1 b.toNatClampNeg)) (m_open y1 b.toNatClampNeg) = 0
    · rw [if_pos h2, if_pos h2]; rfl
    · rw [if_neg h2, if_neg h2]
      by_cases h3 : 10 < m_open y1 b.toNatClampNeg - mnL (n - mnL n (m_fixed y1 b.toNatClampNeg)) (m_open y1 b.toNatClampNeg)
      · rw [if_pos h3, if_pos h3]; rfl
      · rw [if_neg h3, if_neg h3]; rfl
  · rw [if_neg h1, if_neg h1]; rfl
/-- what a debt is after money came, before it is settled -/
def dMid (v : DT) (k : Nat) (n : Int64) : DT := s_paid (s_open (s_paidI (s_fixed v (d_fixed v - jMin n (d_fixed v))) (d_paidI v + jMin n (d_fixed v))) (d_open v - jMin (n - jMin n (d_fixed v)) (d_open v))) (vp_updL (d_paid v) k (d_paid v k + jMin (n - jMin n (d_fixed v)) (d_open v)))
theorem take_eq {v : DT} {k m : Nat} {n : Int64} (hm : m ≤ 4) (hd : d_debtors v = nI m) (hk : k < m) : f_take v (nI k) n = (jMin n (d_fixed v) + jMin (n - jMin n (d_fixed v)) (d_open v), f_settle (dMid v k n)) := by
  unfold f_take f_hasPlace
  rw [if_neg (nI_pos (by omega)), hd, if_neg (nI_ge hk (by omega)), if_neg (by decide), nI_clamp (by omega)]
  rfl
theorem vD_mid {y1 : MT} {c k : Nat} {n : Int64} (hk : k < 4) : vD (pMid y1 c (4 * c + k) n) c = dMid (vD y1 c) k n := by
  dsimp only [pMid, dMid, vD, m_thrown, m_today, m_rates, m_from, m_up, m_down, m_debts, m_state, m_born, m_dueDay, m_cents, m_open, m_lost, m_fixed, m_runsFrom, m_interestPaid, m_parts, m_deferredOn, m_deferred, m_debtors, m_debtor, m_paidBy, m_credit, n_thrown, n_today, n_rates, n_from, n_up, n_down, n_debts, n_state, n_born, n_dueDay, n_cents, n_open, n_lost, n_fixed, n_runsFrom, n_interestPaid, n_parts, n_deferredOn, n_deferred, n_debtors, n_debtor, n_paidBy, n_credit, d_cents, d_birth, d_people, d_paid, d_debtors, d_state, d_due, d_ib, d_open, d_lost, d_fixed, d_paidI, d_dDay, d_dParts, d_dOpen, s_cents, s_birth, s_people, s_paid, s_debtors, s_state, s_due, s_ib, s_open, s_lost, s_fixed, s_paidI, s_dDay, s_dParts, s_dOpen]
  rw [v4L_s hk, v4L_in hk, pk_uLs, pk_uLs, pk_uLs, jMin_eq, jMin_eq]
theorem vD_mid_ne {y1 : MT} {c k a : Nat} {n : Int64} (hk : k < 4) (h : a ≠ c) : vD (pMid y1 c (4 * c + k) n) a = vD y1 a := by
  dsimp only [pMid, vD, m_thrown, m_today, m_rates, m_from, m_up, m_down, m_debts, m_state, m_born, m_dueDay, m_cents, m_open, m_lost, m_fixed, m_runsFrom, m_interestPaid, m_parts, m_deferredOn, m_deferred, m_debtors, m_debtor, m_paidBy, m_credit, n_thrown, n_today, n_rates, n_from, n_up, n_down, n_debts, n_state, n_born, n_dueDay, n_cents, n_open, n_lost, n_fixed, n_runsFrom, n_interestPaid, n_parts, n_deferredOn, n_deferred, n_debtors, n_debtor, n_paidBy, n_credit]
  rw [v4L_n hk h, pk_uLn h, pk_uLn h, pk_uLn h]
theorem vD_end {y2 : MT} {b : Int32} (hf : 0 ≤ (d_fixed (vD y2 b.toNatClampNeg)).toInt) : vD (pEnd y2 b) b.toNatClampNeg = f_settle (vD y2 b.toNatClampNeg) := by
  unfold pEnd f_settle
  by_cases h1 : m_fixed y2 b.toNatClampNeg = 0
  · rw [if_pos h1, if_neg (show ¬ 0 < d_fixed (vD y2 b.toNatClampNeg) from by rw [show d_fixed (vD y2 b.toNatClampNeg) = 0 from h1]; decide)]
    by_cases h2 : m_open y2 b.toNatClampNeg = 0
    · rw [if_pos h2, if_pos (show d_open (vD y2 b.toNatClampNeg) ≤ 10 from by rw [show d_open (vD y2 b.toNatClampNeg) = 0 from h2]; decide), if_pos (show d_open (vD y2 b.toNatClampNeg) = 0 from h2)]
      dsimp only [vD, m_thrown, m_today, m_rates, m_from, m_up, m_down, m_debts, m_state, m_born, m_dueDay, m_cents, m_open, m_lost, m_fixed, m_runsFrom, m_interestPaid, m_parts, m_deferredOn, m_deferred, m_debtors, m_debtor, m_paidBy, m_credit, n_thrown, n_today, n_rates, n_from, n_up, n_down, n_debts, n_state, n_born, n_dueDay, n_cents, n_open, n_lost, n_fixed, n_runsFrom, n_interestPaid, n_parts, n_deferredOn, n_deferred, n_debtors, n_debtor, n_paidBy, n_credit, d_cents, d_birth, d_people, d_paid, d_debtors, d_state, d_due, d_ib, d_open, d_lost, d_fixed, d_paidI, d_dDay, d_dParts, d_dOpen, s_cents, s_birth, s_people, s_paid, s_debtors, s_state, s_due, s_ib, s_open, s_lost, s_fixed, s_paidI, s_dDay, s_dParts, s_dOpen]
      rw [pk_us]
    · rw [if_neg h2]
      by_cases h3 : 10 < m_open y2 b.toNatClampNeg
      · rw [if_pos h3, if_neg (show ¬ d_open (vD y2 b.toNatClampNeg) ≤ 10 from Int64.not_le.mpr h3)]
      · rw [if_neg h3, if_pos (show d_open (vD y2 b.toNatClampNeg) ≤ 10 from Int64.not_lt.mp h3), if_neg (show ¬ d_open (vD y2 b.toNatClampNeg) = 0 from h2)]
        exact vD_lose
  · rw [if_neg h1, if_pos]
    have h1 : ¬ d_fixed (vD y2 b.toNatClampNeg) = 0 := h1
    rw [Int64.lt_iff_toInt_lt, show (0 : Int64).toInt = 0 from rfl]
    rcases Int.lt_or_eq_of_le hf with h | h
    · exact h
    · exact absurd (Int64.toInt_inj.mp (h.symm.trans (show (0 : Int) = (0 : Int64).toInt from rfl))) h1
theorem vD_end_ne {y2 : MT} {b : Int32} {a : Nat} (h : a ≠ b.toNatClampNeg) : vD (pEnd y2 b) a = vD y2 a := by
  unfold pEnd
  by_cases h1 : m_fixed y2 b.toNatClampNeg = 0
  · rw [if_pos h1]
    by_cases h2 : m_open y2 b.toNatClampNeg = 0
    · rw [if_pos h2]
      dsimp only [vD, m_thrown, m_today, m_rates, m_from, m_up, m_down, m_debts, m_state, m_born, m_dueDay, m_cents, m_open, m_lost, m_fixed, m_runsFrom, m_interestPaid, m_parts, m_deferredOn, m_deferred, m_debtors, m_debtor, m_paidBy, m_credit, n_thrown, n_today, n_rates, n_from, n_up, n_down, n_debts, n_state, n_born, n_dueDay, n_cents, n_open, n_lost, n_fixed, n_runsFrom, n_interestPaid, n_parts, n_deferredOn, n_deferred, n_debtors, n_debtor, n_paidBy, n_credit]
      rw [pk_un h]
    · rw [if_neg h2]
      by_cases h3 : 10 < m_open y2 b.toNatClampNeg
      · rw [if_pos h3]
      · rw [if_neg h3]; exact vD_lose_ne h
  · rw [if_neg h1]
/-- what no payment touches -/
def sameH (y y' : MT) : Prop := m_thrown y' = m_thrown y ∧ m_today y' = m_today y ∧ vR y' = vR y ∧ m_debts y' = m_debts y ∧ m_credit y' = m_credit y
theorem sameH.rf (y : MT) : sameH y y := ⟨rfl, rfl, rfl, rfl, rfl⟩
theorem sameH.tr {a b c : MT} (h : sameH a b) (k : sameH b c) : sameH a c := ⟨k.1.trans h.1, k.2.1.trans h.2.1, k.2.2.1.trans h.2.2.1, k.2.2.2.1.trans h.2.2.2.1, k.2.2.2.2.trans h.2.2.2.2⟩
theorem fix_H (y : MT) (b : Int32) : sameH y (g_fix y b) := ⟨rfl, rfl, rfl, rfl, rfl⟩
theorem lose_H (y : MT) (b w : Int32) : sameH y (g_lose y b w).2 := ⟨rfl, rfl, rfl, rfl, rfl⟩
theorem again_H (y : MT) (b w : Int32) : sameH y (g_again y b w) := ⟨rfl, rfl, rfl, rfl, rfl⟩
theorem mid_H (y : MT) (c q : Nat) (n : Int64) : sameH y (pMid y c q n) := ⟨rfl, rfl, rfl, rfl, rfl⟩
theorem end_H (y : MT) (b : Int32) : sameH y (pEnd y b) := by
  unfold pEnd
  by_cases h1 : m_fixed y b.toNatClampNeg = 0
  · rw [if_pos h1]
    by_cases h2 : m_open y b.toNatClampNeg = 0
    · rw [if_pos h2]; exact ⟨rfl, rfl, rfl, rfl, rfl⟩
    · rw [if_neg h2]
      by_cases h3 : 10 < m_open y b.toNatClampNeg
      · rw [if_pos h3]; exact sameH.rf y
      · rw [if_neg h3]; exact lose_H y b 7
  · rw [if_neg h1]; exact sameH.rf y
theorem payOf_H (y : MT) (b who : Int32) (n : Int64) : sameH y (g_payOf y b who n).2 := by
  rw [payOf_eq]
  exact (fix_H y b).tr ((mid_H _ _ _ _).tr (end_H _ _))
theorem jm_nn {n f : Int64} (hn : 0 ≤ n.toInt) (hf : 0 ≤ f.toInt) : (f - jMin n f).toInt = f.toInt - min n.toInt f.toInt := by
  have h1 := Int64.toInt_lt f
  rw [l_sub (by rw [jMin_toInt]; omega) (by rw [jMin_toInt]; omega), jMin_toInt]
/-- the payment of one debt, as the class does it -/
theorem vD_pay {y : MT} {b k m : Nat} {who : Int32} {n : Int64} (hb : b ≤ 40) (hm : m ≤ 4) (hd : d_debtors (vD y b) = nI m) (hk : k < m) (hp : g_debtorOf y (nI b) who = nI k) (hr : g_running y (nI b) = f_runningInterest (vD y b) (vR y) (m_today y)) (hn : 0 ≤ n.toInt) (hf : 0 ≤ (d_fixed (f_fixInterest (vD y b) (vR y) (m_today y))).toInt) :
    vD (g_payOf y (nI b) who n).2 b = (f_take (f_fixInterest (vD y b) (vR y) (m_today y)) (nI k) n).2 ∧ (g_payOf y (nI b) who n).1 = n - (f_take (f_fixInterest (vD y b) (vR y) (m_today y)) (nI k) n).1 ∧ ∀ a, a ≠ b → vD (g_payOf y (nI b) who n).2 a = vD y a := by
  have eb : (nI b).toNatClampNeg = b := nI_clamp (by omega)
  have eq : (4 * nI b + nI k).toNatClampNeg = 4 * b + k := by
    rw [show (4 : Int32) = nI 4 from rfl, pk_mul, nI_add, nI_clamp (by omega)]
  have ef : vD (g_fix y (nI b)) b = f_fixInterest (vD y b) (vR y) (m_today y) := by
    have := vD_fix (y := y) (b := nI b) (by rw [eb]; exact hr)
    rw [eb] at this; exact this
  rw [take_eq (v := f_fixInterest (vD y b) (vR y) (m_today y)) hm hd hk, payOf_eq, hp, eq, eb]
  rw [← ef] at hf ⊢
  have em := vD_mid (y1 := g_fix y (nI b)) (c := b) (k := k) (n := n) (by omega)
  refine ⟨?_, ?_, fun a ha => ?_⟩
  · have := vD_end (y2 := pMid (g_fix y (nI b)) b (4 * b + k) n) (b := nI b) (by
      rw [eb, em]
      show 0 ≤ (d_fixed (vD (g_fix y (nI b)) b) - jMin n (d_fixed (vD (g_fix y (nI b)) b))).toInt
      rw [jm_nn hn hf]; omega)
    rw [eb, em] at this
    exact this
  · rw [l_sum9]
    dsimp only
    rw [jMin_eq, jMin_eq]
    rfl
  · have := vD_end_ne (y2 := pMid (g_fix y (nI b)) b (4 * b + k) n) (b := nI b) (a := a) (by rw [eb]; exact ha)
    dsimp only
    rw [this, vD_mid_ne (by omega) ha, vD_fix_ne (by rw [eb]; exact ha)]
