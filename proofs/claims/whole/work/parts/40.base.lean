theorem i_add {a b : Int32} (h1 : -2147483648 ≤ a.toInt + b.toInt) (h2 : a.toInt + b.toInt < 2147483648) : (a + b).toInt = a.toInt + b.toInt := by
  rw [Int32.toInt_add]; exact Int.bmod_eq_of_le (by omega) (by omega)
theorem i_sub {a b : Int32} (h1 : -2147483648 ≤ a.toInt - b.toInt) (h2 : a.toInt - b.toInt < 2147483648) : (a - b).toInt = a.toInt - b.toInt := by
  rw [Int32.toInt_sub]; exact Int.bmod_eq_of_le (by omega) (by omega)
theorem l_add {a b : Int64} (h1 : -9223372036854775808 ≤ a.toInt + b.toInt) (h2 : a.toInt + b.toInt < 9223372036854775808) : (a + b).toInt = a.toInt + b.toInt := by
  rw [Int64.toInt_add]; exact Int.bmod_eq_of_le (by omega) (by omega)
theorem l_sub {a b : Int64} (h1 : -9223372036854775808 ≤ a.toInt - b.toInt) (h2 : a.toInt - b.toInt < 9223372036854775808) : (a - b).toInt = a.toInt - b.toInt := by
  rw [Int64.toInt_sub]; exact Int.bmod_eq_of_le (by omega) (by omega)
theorem l_sum9 {n a b : Int64} : n - (a + b) = n - a - b := by grind
theorem iMax_eq (a b : Int32) : (if a ≤ b then b else a) = iMax a b := by
  unfold iMax
  by_cases h : a < b
  · rw [if_pos h, if_pos (Int32.le_of_lt h)]
  · rw [if_neg h]
    by_cases e : a ≤ b
    · rw [if_pos e]; exact Int32.le_antisymm (Int32.not_lt.mp h) e
    · rw [if_neg e]
theorem iMax_toInt (a b : Int32) : (iMax a b).toInt = max a.toInt b.toInt := by
  unfold iMax
  by_cases h : a < b
  · rw [if_pos h]; rw [Int32.lt_iff_toInt_lt] at h; omega
  · rw [if_neg h]; rw [Int32.lt_iff_toInt_lt] at h; omega
theorem jMin_eq (a b : Int64) : mnL a b = jMin a b := by
  unfold mnL jMin
  by_cases h : b < a
  · rw [if_pos h, if_pos (Int64.le_of_lt h)]
  · rw [if_neg h]
    by_cases e : b ≤ a
    · rw [if_pos e]; exact Int64.le_antisymm e (Int64.not_lt.mp h)
    · rw [if_neg e]
theorem jMin_toInt (a b : Int64) : (jMin a b).toInt = min a.toInt b.toInt := by
  unfold jMin
  by_cases h : b < a
  · rw [if_pos h]; rw [Int64.lt_iff_toInt_lt] at h; omega
  · rw [if_neg h]; rw [Int64.lt_iff_toInt_lt] at h; omega
/-! The reference's state of a debt, as the class would hold it. -/
def v4I (f : Nat → Int32) (b : Nat) : Nat → Int32 := fun k => if k < 4 then f (4 * b + k) else 0
def v4L (f : Nat → Int64) (b : Nat) : Nat → Int64 := fun k => if k < 4 then f (4 * b + k) else 0
theorem v4I_in {f : Nat → Int32} {b k : Nat} (h : k < 4) : v4I f b k = f (4 * b + k) := if_pos h
theorem v4L_in {f : Nat → Int64} {b k : Nat} (h : k < 4) : v4L f b k = f (4 * b + k) := if_pos h
theorem v4I_s {f : Nat → Int32} {b k : Nat} {x : Int32} (h : k < 4) : v4I (upd f (4 * b + k) x) b = upd (v4I f b) k x := by
  funext j
  unfold v4I upd
  by_cases e : j = k
  · subst e; rw [if_pos h, if_pos rfl, if_pos rfl]
  · rw [if_neg e]
    dsimp only
    by_cases h4 : j < 4
    · rw [if_pos h4, if_pos h4, if_neg (by omega)]
    · rw [if_neg h4, if_neg h4]
theorem v4I_n {f : Nat → Int32} {b c k : Nat} {x : Int32} (h : k < 4) (hn : c ≠ b) : v4I (upd f (4 * b + k) x) c = v4I f c := by
  funext j
  unfold v4I upd
  by_cases h4 : j < 4
  · rw [if_pos h4, if_pos h4, if_neg (by omega)]
  · rw [if_neg h4, if_neg h4]
theorem v4L_s {f : Nat → Int64} {b k : Nat} {x : Int64} (h : k < 4) : v4L (vp_updL f (4 * b + k) x) b = vp_updL (v4L f b) k x := by
  funext j
  unfold v4L vp_updL
  by_cases e : j = k
  · subst e; rw [if_pos h, if_pos rfl, if_pos rfl]
  · rw [if_neg e]
    dsimp only
    by_cases h4 : j < 4
    · rw [if_pos h4, if_pos h4, if_neg (by omega)]
    · rw [if_neg h4, if_neg h4]
theorem v4L_n {f : Nat → Int64} {b c k : Nat} {x : Int64} (h : k < 4) (hn : c ≠ b) : v4L (vp_updL f (4 * b + k) x) c = v4L f c := by
  funext j
  unfold v4L vp_updL
  by_cases h4 : j < 4
  · rw [if_pos h4, if_pos h4, if_neg (by omega)]
  · rw [if_neg h4, if_neg h4]
abbrev vR (y : MT) : RT := (m_rates y, m_from y, m_up y, m_down y)
def vD (y : MT) (b : Nat) : DT := (m_cents y b, m_born y b, v4I (m_debtor y) b, v4L (m_paidBy y) b, m_debtors y b, m_state y b, m_dueDay y b, m_runsFrom y b, m_open y b, m_lost y b, m_fixed y b, m_interestPaid y b, m_deferredOn y b, m_parts y b, m_deferred y b)
abbrev dZ : DT := (0, 0, fun _ => 0, fun _ => 0, 0, 0, 0, 0, 0, 0, 0, 0, 0, 0, 0)
theorem nc (i : Nat) (h : i < 2 ^ 31) : (nI i).toNatClampNeg = i := nI_clamp h
/-! the operations on one debt -/
theorem vD_lose {y : MT} {b : Int32} {w : Int32} : vD (g_lose y b w).2 b.toNatClampNeg = f_lose (vD y b.toNatClampNeg) w := by
  dsimp only [g_lose, f_lose, vD, m_thrown, m_today, m_rates, m_from, m_up, m_down, m_debts, m_state, m_born, m_dueDay, m_cents, m_open, m_lost, m_fixed, m_runsFrom, m_interestPaid, m_parts, m_deferredOn, m_deferred, m_debtors, m_debtor, m_paidBy, m_credit, n_thrown, n_today, n_rates, n_from, n_up, n_down, n_debts, n_state, n_born, n_dueDay, n_cents, n_open, n_lost, n_fixed, n_runsFrom, n_interestPaid, n_parts, n_deferredOn, n_deferred, n_debtors, n_debtor, n_paidBy, n_credit, d_cents, d_birth, d_people, d_paid, d_debtors, d_state, d_due, d_ib, d_open, d_lost, d_fixed, d_paidI, d_dDay, d_dParts, d_dOpen, s_cents, s_birth, s_people, s_paid, s_debtors, s_state, s_due, s_ib, s_open, s_lost, s_fixed, s_paidI, s_dDay, s_dParts, s_dOpen]
  rw [pk_us, pk_uLs, pk_uLs]
theorem vD_lose_ne {y : MT} {b : Int32} {w : Int32} {c : Nat} (h : c ≠ b.toNatClampNeg) : vD (g_lose y b w).2 c = vD y c := by
  dsimp only [g_lose, vD, m_thrown, m_today, m_rates, m_from, m_up, m_down, m_debts, m_state, m_born, m_dueDay, m_cents, m_open, m_lost, m_fixed, m_runsFrom, m_interestPaid, m_parts, m_deferredOn, m_deferred, m_debtors, m_debtor, m_paidBy, m_credit, n_thrown, n_today, n_rates, n_from, n_up, n_down, n_debts, n_state, n_born, n_dueDay, n_cents, n_open, n_lost, n_fixed, n_runsFrom, n_interestPaid, n_parts, n_deferredOn, n_deferred, n_debtors, n_debtor, n_paidBy, n_credit]
  rw [pk_un h, pk_uLn h, pk_uLn h]
theorem vD_again {y : MT} {b : Int32} {w : Int32} : vD (g_again y b w) b.toNatClampNeg = f_runAgain (vD y b.toNatClampNeg) w := by
  dsimp only [g_again, f_runAgain, vD, m_thrown, m_today, m_rates, m_from, m_up, m_down, m_debts, m_state, m_born, m_dueDay, m_cents, m_open, m_lost, m_fixed, m_runsFrom, m_interestPaid, m_parts, m_deferredOn, m_deferred, m_debtors, m_debtor, m_paidBy, m_credit, n_thrown, n_today, n_rates, n_from, n_up, n_down, n_debts, n_state, n_born, n_dueDay, n_cents, n_open, n_lost, n_fixed, n_runsFrom, n_interestPaid, n_parts, n_deferredOn, n_deferred, n_debtors, n_debtor, n_paidBy, n_credit, d_cents, d_birth, d_people, d_paid, d_debtors, d_state, d_due, d_ib, d_open, d_lost, d_fixed, d_paidI, d_dDay, d_dParts, d_dOpen, s_cents, s_birth, s_people, s_paid, s_debtors, s_state, s_due, s_ib, s_open, s_lost, s_fixed, s_paidI, s_dDay, s_dParts, s_dOpen]
  rw [pk_us, pk_us, iMax_eq]
theorem vD_again_ne {y : MT} {b : Int32} {w : Int32} {c : Nat} (h : c ≠ b.toNatClampNeg) : vD (g_again y b w) c = vD y c := by
  dsimp only [g_again, vD, m_thrown, m_today, m_rates, m_from, m_up, m_down, m_debts, m_state, m_born, m_dueDay, m_cents, m_open, m_lost, m_fixed, m_runsFrom, m_interestPaid, m_parts, m_deferredOn, m_deferred, m_debtors, m_debtor, m_paidBy, m_credit, n_thrown, n_today, n_rates, n_from, n_up, n_down, n_debts, n_state, n_born, n_dueDay, n_cents, n_open, n_lost, n_fixed, n_runsFrom, n_interestPaid, n_parts, n_deferredOn, n_deferred, n_debtors, n_debtor, n_paidBy, n_credit]
  rw [pk_un h, pk_un h]
theorem vD_fix {y : MT} {b : Int32} (hr : g_running y b = f_runningInterest (vD y b.toNatClampNeg) (vR y) (m_today y)) : vD (g_fix y b) b.toNatClampNeg = f_fixInterest (vD y b.toNatClampNeg) (vR y) (m_today y) := by
  unfold f_fixInterest
  rw [← hr]
  dsimp only [g_fix, vD, m_thrown, m_today, m_rates, m_from, m_up, m_down, m_debts, m_state, m_born, m_dueDay, m_cents, m_open, m_lost, m_fixed, m_runsFrom, m_interestPaid, m_parts, m_deferredOn, m_deferred, m_debtors, m_debtor, m_paidBy, m_credit, n_thrown, n_today, n_rates, n_from, n_up, n_down, n_debts, n_state, n_born, n_dueDay, n_cents, n_open, n_lost, n_fixed, n_runsFrom, n_interestPaid, n_parts, n_deferredOn, n_deferred, n_debtors, n_debtor, n_paidBy, n_credit, d_cents, d_birth, d_people, d_paid, d_debtors, d_state, d_due, d_ib, d_open, d_lost, d_fixed, d_paidI, d_dDay, d_dParts, d_dOpen, s_cents, s_birth, s_people, s_paid, s_debtors, s_state, s_due, s_ib, s_open, s_lost, s_fixed, s_paidI, s_dDay, s_dParts, s_dOpen]
  rw [pk_us, pk_uLs, iMax_eq]
theorem vD_fix_ne {y : MT} {b : Int32} {c : Nat} (h : c ≠ b.toNatClampNeg) : vD (g_fix y b) c = vD y c := by
  dsimp only [g_fix, vD, m_thrown, m_today, m_rates, m_from, m_up, m_down, m_debts, m_state, m_born, m_dueDay, m_cents, m_open, m_lost, m_fixed, m_runsFrom, m_interestPaid, m_parts, m_deferredOn, m_deferred, m_debtors, m_debtor, m_paidBy, m_credit, n_thrown, n_today, n_rates, n_from, n_up, n_down, n_debts, n_state, n_born, n_dueDay, n_cents, n_open, n_lost, n_fixed, n_runsFrom, n_interestPaid, n_parts, n_deferredOn, n_deferred, n_debtors, n_debtor, n_paidBy, n_credit, d_cents, d_birth, d_people, d_paid, d_debtors, d_state, d_due, d_ib, d_open, d_lost, d_fixed, d_paidI, d_dDay, d_dParts, d_dOpen, s_cents, s_birth, s_people, s_paid, s_debtors, s_state, s_due, s_ib, s_open, s_lost, s_fixed, s_paidI, s_dDay, s_dParts, s_dOpen]
  rw [pk_un h, pk_uLn h]
