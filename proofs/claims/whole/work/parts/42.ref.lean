/-! the place of a debtor: the first against the last -/
theorem plc_none {pe : Nat → Int32} {who : Int32} : ∀ (n i : Nat), (∀ k, i ≤ k → k < i + n → pe k ≠ who) → plc pe who i n = -1 := by
  intro n
  induction n with
  | zero => intro i _; rfl
  | succ n ih =>
    intro i h
    unfold plc
    rw [if_neg (h i (by omega) (by omega))]
    exact ih (i + 1) (fun k h1 h2 => h k (by omega) (by omega))
theorem plc_some {pe : Nat → Int32} {who : Int32} : ∀ (n i : Nat), plc pe who i n = -1 ∨ ∃ k, i ≤ k ∧ k < i + n ∧ plc pe who i n = nI k ∧ pe k = who := by
  intro n
  induction n with
  | zero => intro i; exact Or.inl rfl
  | succ n ih =>
    intro i
    unfold plc
    by_cases h : pe i = who
    · rw [if_pos h]; exact Or.inr ⟨i, by omega, by omega, rfl, h⟩
    · rw [if_neg h]
      rcases ih (i + 1) with e | ⟨k, h1, h2, h3⟩
      · exact Or.inl e
      · exact Or.inr ⟨k, by omega, by omega, h3⟩
theorem plc_no {pe : Nat → Int32} {who : Int32} : ∀ (n i : Nat), i + n ≤ 4 → plc pe who i n = -1 → ∀ k, i ≤ k → k < i + n → pe k ≠ who := by
  intro n
  induction n with
  | zero => intro i _ _ k h1 h2; omega
  | succ n ih =>
    intro i h4 h k h1 h2 e
    unfold plc at h
    by_cases h0 : pe i = who
    · rw [if_pos h0] at h
      have : (nI i).toInt = (-1 : Int32).toInt := by rw [h]
      rw [nI_toInt (by omega), show (-1 : Int32).toInt = -1 from rfl] at this
      omega
    · rw [if_neg h0] at h
      by_cases e1 : k = i
      · subst e1; exact h0 e
      · exact ih (i + 1) (by omega) h k (by omega) (by omega) e
theorem dbL_plc {f : Nat → Int32} {B : Nat} (hB : B ≤ 40) {pe : Nat → Int32} (hp : ∀ k, k < 4 → pe k = f (4 * B + k)) {who : Int32} : ∀ (n i : Nat) (t : Int32), i + n ≤ 4 → (∀ k k', k < i + n → k' < i + n → pe k = pe k' → k = k') → dbL f (nI B) who i n t = if plc pe who i n = -1 then t else plc pe who i n := by
  intro n
  induction n with
  | zero => intro i t _ _; rw [show plc pe who i 0 = -1 from rfl, if_pos rfl]; rfl
  | succ n ih =>
    intro i t h4 hd
    have e4 : (4 * nI B + nI i).toNatClampNeg = 4 * B + i := by
      rw [show (4 : Int32) = nI 4 from rfl, pk_mul, nI_add, nI_clamp (by omega)]
    unfold dbL plc
    rw [e4, ← hp i (by omega), ih (i + 1) _ (by omega) (fun k k' a b => hd k k' (by omega) (by omega))]
    by_cases h0 : pe i = who
    · rw [if_pos h0, if_pos h0, plc_none n (i + 1) (fun k h1 h2 e => by have := hd k i (by omega) (by omega) (e.trans h0.symm); omega), if_pos rfl, if_neg]
      intro h
      have : (nI i).toInt = (-1 : Int32).toInt := by rw [h]
      rw [nI_toInt (by omega), show (-1 : Int32).toInt = -1 from rfl] at this
      omega
    · rw [if_neg h0, if_neg h0]
theorem placeOf_eq {y : MT} {b m : Nat} {who : Int32} (hb : b ≤ 40) (hm : m ≤ 4) (hd : d_debtors (vD y b) = nI m) (ha : ∀ k k', k < m → k' < m → d_people (vD y b) k = d_people (vD y b) k' → k = k') : g_debtorOf y (nI b) who = f_placeOf (vD y b) who := by
  unfold g_debtorOf f_placeOf
  have hd : m_debtors y b = nI m := hd
  rw [nI_clamp (n := b) (by omega), hd, show d_debtors (vD y b) = nI m from hd, nI_clamp (by omega), dbL_plc (pe := d_people (vD y b)) hb (fun k h => v4I_in h) m 0 _ (by omega) (fun k k' a b => ha k k' (by omega) (by omega))]
  by_cases h : plc (d_people (vD y b)) who 0 m = -1
  · rw [if_pos h, h]
  · rw [if_neg h]
/-! when an instalment is missed -/
theorem moL_eq {y : MT} {b P : Nat} (hb : b ≤ 40) (hP : P ≤ 12) (hp : d_dParts (vD y b) = nI P) (ho : 1 ≤ (d_open (vD y b)).toInt) : ∀ (n i : Nat), 1 ≤ i → i + n = P → moL y (nI b) i (n + 1) = d_dDay (vD y b) + 30 * nI (fmL (vD y b) i n) + 1 := by
  have hp' : m_parts y b = nI P := hp
  intro n
  induction n with
  | zero =>
    intro i h1 hi
    have e : i = P := by omega
    subst e
    unfold moL fmL
    rw [nI_clamp (n := b) (by omega), hp', if_neg]
    · rfl
    · rw [Int32.sub_self, show (0 : Int32).toInt64 = 0 from rfl, Int64.mul_zero, Int64.zero_div, Int64.le_iff_toInt_le, show (0 : Int64).toInt = 0 from rfl]
      have : 1 ≤ (m_open y b).toInt := ho
      omega
  | succ n ih =>
    intro i h1 hi
    unfold moL fmL
    rw [ih (i + 1) (by omega) (by omega), nI_clamp (n := b) (by omega), hp']
    have em : f_mayBeOpen (vD y b) (nI i) = m_deferred y b * (nI P - nI i).toInt64 / (nI P).toInt64 := by
      unfold f_mayBeOpen
      rw [hp, if_pos (show (1 : Int32) ≤ nI P from nI_le (a := 1) (by omega) (by omega))]
      rfl
    rw [em]
    by_cases h : m_open y b ≤ m_deferred y b * (nI P - nI i).toInt64 / (nI P).toInt64
    · rw [if_pos h, if_neg (fun q : _ < d_open (vD y b) => absurd h (Int64.not_le.mpr q))]
    · rw [if_neg h, if_pos (show _ < d_open (vD y b) from Int64.not_le.mp h)]
      rfl
theorem fmL_in (d : DT) : ∀ (n i : Nat), i ≤ fmL d i n ∧ fmL d i n ≤ i + n := by
  intro n
  induction n with
  | zero => intro i; exact ⟨Nat.le_refl _, Nat.le_refl _⟩
  | succ n ih =>
    intro i
    unfold fmL
    by_cases h : f_mayBeOpen d (nI i) < d_open d
    · rw [if_pos h]; omega
    · rw [if_neg h]; have := ih (i + 1); omega
theorem missed_eq {y : MT} {b P : Nat} (hb : b ≤ 40) (h1 : 1 ≤ P) (hP : P ≤ 12) (hp : d_dParts (vD y b) = nI P) (ho : 1 ≤ (d_open (vD y b)).toInt) : g_missedOn y (nI b) = f_firstMissedDay (vD y b) + 1 := by
  have hp' : m_parts y b = nI P := hp
  obtain ⟨n, rfl⟩ : ∃ n, P = n + 1 := ⟨P - 1, by omega⟩
  unfold g_missedOn f_firstMissedDay
  rw [nI_clamp (n := b) (by omega), hp', hp, nI_clamp (by omega), moL_eq hb hP hp ho n 1 (by omega) (by omega), Nat.add_sub_cancel]
theorem missed_toInt {d : DT} {P : Nat} (h1 : 1 ≤ P) (hP : P ≤ 12) (hp : d_dParts d = nI P) (h0 : 0 ≤ (d_dDay d).toInt) (h2 : (d_dDay d).toInt ≤ 100000) : 30 ≤ (f_firstMissedDay d).toInt ∧ (f_firstMissedDay d).toInt ≤ 100360 := by
  unfold f_firstMissedDay
  rw [hp, nI_clamp (by omega)]
  have h := fmL_in d (P - 1) 1
  generalize fmL d 1 (P - 1) = k at h ⊢
  have e : (30 * nI k).toInt = 30 * k := by
    rw [show (30 : Int32) = nI 30 from rfl, pk_mul, nI_toInt (by omega)]; omega
  rw [i_add (by omega) (by omega), e]
  omega
/-! the running interest -/
theorem zdiv (a b c : Int64) : a * 0 * b / c = 0 := by rw [Int64.mul_zero, Int64.zero_mul, Int64.zero_div]
theorem mxN (a b : Int32) : (if a ≤ b then b else a) = iMax a b := iMax_eq a b
theorem daysOf_eq {y : MT} {op t : Int64} {be ut : Int32} {i : Nat} (hi : i < 20) (hd : ¬ m_down y i ≤ 0) : t + (op * g_daysOf y (nI i) be ut) * (m_up y i).toInt64 / ((m_down y i).toInt64 * 365) = inS (vR y) op be ut i t := by
  unfold g_daysOf inS
  rw [nI_1, nI_clamp (n := i) (by omega), nI_clamp (n := i + 1) (by omega), iMax_eq]
  dsimp only [x_cnt, x_today, x_rates, x_credit, x_debts, y_cnt, y_today, y_rates, y_credit, y_debts, y_debt, r_count, r_from, r_up, r_down, q_count, q_from, q_up, q_down]
  by_cases h1 : m_rates y ≤ nI (i + 1)
  · rw [if_pos h1, if_pos h1]
    by_cases h2 : iMax (m_from y i) (be + 1) ≤ ut
    · rw [if_pos h2, if_neg (Int32.not_lt.mpr h2), if_neg hd]
    · rw [if_neg h2, if_pos (Int32.not_le.mp h2), zdiv, Int64.add_zero]
  · rw [if_neg h1, if_neg h1]
    by_cases h3 : ut ≤ m_from y (i + 1) - 1
    · have e : iMin ut (m_from y (i + 1) - 1) = ut := by unfold iMin; rw [if_neg (Int32.not_lt.mpr h3)]
      rw [if_pos h3, e]
      by_cases h2 : iMax (m_from y i) (be + 1) ≤ ut
      · rw [if_pos h2, if_neg (Int32.not_lt.mpr h2), if_neg hd]
      · rw [if_neg h2, if_pos (Int32.not_le.mp h2), zdiv, Int64.add_zero]
    · have e : iMin ut (m_from y (i + 1) - 1) = m_from y (i + 1) - 1 := by unfold iMin; rw [if_pos (Int32.not_le.mp h3)]
      rw [if_neg h3, e]
      by_cases h2 : iMax (m_from y i) (be + 1) ≤ m_from y (i + 1) - 1
      · rw [if_pos h2, if_neg (Int32.not_lt.mpr h2), if_neg hd]
      · rw [if_neg h2, if_pos (Int32.not_le.mp h2), zdiv, Int64.add_zero]
theorem rnL_eq {y : MT} {b m : Nat} (hb : b ≤ 40) (hm : m ≤ 20) (hd : ∀ r, r < m → ¬ m_down y r ≤ 0) : ∀ (n i : Nat) (t : Int64), i + n ≤ m → rnL y (nI b) i n t = inL (vR y) (m_open y b) (m_runsFrom y b) (m_today y) i n t := by
  intro n
  induction n with
  | zero => intro i t _; rfl
  | succ n ih =>
    intro i t h
    unfold rnL inL
    rw [ih (i + 1) _ (by omega), nI_clamp (n := b) (by omega), daysOf_eq (by omega) (hd i (by omega))]
theorem running_eq {y : MT} {b m : Nat} (hb : b ≤ 40) (hm : m ≤ 20) (hr : m_rates y = nI m) (hd : ∀ r, r < m → ¬ m_down y r ≤ 0) : g_running y (nI b) = f_runningInterest (vD y b) (vR y) (m_today y) := by
  unfold g_running f_runningInterest f_R_interest
  rw [nI_clamp (n := b) (by omega), hr, nI_clamp (by omega), rnL_eq hb hm hd m 0 0 (by omega), show r_count (vR y) = nI m from hr, nI_clamp (by omega)]
  rfl
