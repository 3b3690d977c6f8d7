theorem jMax_toInt (a b : Int64) : (jMax a b).toInt = max a.toInt b.toInt := by
  unfold jMax
  by_cases h : b < a
  · rw [if_pos h]; rw [Int64.lt_iff_toInt_lt] at h; omega
  · rw [if_neg h]; rw [Int64.lt_iff_toInt_lt] at h; omega
theorem shr_b {c : Int64} {m : Nat} {e : Int64} (h0 : 1 ≤ c.toInt) (h1 : c.toInt ≤ 1000000000) (hm : 1 ≤ m) (hm4 : m ≤ 4) (he : e = 0 ∨ e = 1) : 0 ≤ (c / (nI m).toInt64 + e).toInt ∧ (c / (nI m).toInt64 + e).toInt ≤ 1000000001 := by
  obtain ⟨a, ha, rfl, ea⟩ := l_nn (x := c) (by omega)
  have hq : a / m ≤ a := Nat.div_le_self a m
  rw [nI_l (by omega), pk_lDiv ha (by omega) (by omega)]
  have e1 : (lN (a / m)).toInt = ((a / m : Nat) : Int) := pk_lT (by omega)
  have e2 : 0 ≤ e.toInt ∧ e.toInt ≤ 1 := by
    rcases he with rfl | rfl
    · exact ⟨by decide, by decide⟩
    · exact ⟨by decide, by decide⟩
  generalize a / m = Q at hq e1 ⊢
  rw [l_add (by omega) (by omega)]
  omega
theorem rec2 {p s : Int64} (h0 : 0 ≤ p.toInt) (h1 : p.toInt ≤ 1000000000) (h2 : 0 ≤ s.toInt) (h3 : s.toInt ≤ 1000000001) : jMax 0 (p - s) = if p ≤ s then 0 else p - s := by
  have e : (p - s).toInt = p.toInt - s.toInt := l_sub (by omega) (by omega)
  apply Int64.toInt_inj.mp
  rw [jMax_toInt, e, show (0 : Int64).toInt = 0 from rfl]
  by_cases c : p ≤ s
  · rw [if_pos c]
    rw [Int64.le_iff_toInt_le] at c
    rw [show (0 : Int64).toInt = 0 from rfl]; omega
  · rw [if_neg c, e]
    rw [Int64.le_iff_toInt_le] at c
    omega
theorem st_recourse {j : Nat} {z : XT} {y : MT} (q w p : Int32) (h : Rel9 j z y) : (f_recourse z q w p).1 = m_thrown (g_recourse y q w p).2 ∧ ((f_recourse z q w p).1 = 0 → (f_recourse z q w p).2.1 = (g_recourse y q w p).1) ∧ Rel9 (j + 1) (f_recourse z q w p).2.2 (g_recourse y q w p).2 := by
  obtain ⟨n, ds, rfl, hb⟩ := h
  unfold f_recourse g_recourse
  rcases hb.isD q with ⟨c1, c2⟩ | ⟨i, hi, c1, c2, rfl, e1, e2⟩
  · rw [if_neg c1, if_pos c2]
    exact ⟨rfl, fun e => absurd e (show ¬ (1 : Int32) = 0 by decide), hb.ref 1⟩
  · obtain ⟨he, hI⟩ := hb.d hi
    obtain ⟨m, hm1, hm4, hd, ha, hz⟩ := hI.nm
    have hn := hb.1
    have hd2 : m_debtors y (i + 1) = nI m := hd
    have hd1 : d_debtors (ds i) = nI m := (he.f d_debtors (fun _ _ => rfl)).trans hd
    have ep : f_placeOf (x_debts (zOf n ds y) i) w = f_placeOf (vD y (i + 1)) w := he.f (fun v => f_placeOf v w) (fun _ _ => rfl)
    rw [if_pos c1, if_neg c2, e1, ep, placeOf_eq (by omega) hm4 hd ha, e2, hd2]
    rcases place_cases (w := w) hm4 hd with c7 | ⟨k, hk, c7, c8, c9⟩
    · rw [if_pos c7, if_pos (show f_placeOf (vD y (i + 1)) w < 0 from by rw [c7]; decide)]
      exact ⟨rfl, fun e => absurd e (show ¬ (1 : Int32) = 0 by decide), hb.ref 1⟩
    rw [if_neg c8, if_neg c9, c7, ix4 (by omega) (by omega)]
    have epa : f_paidBy (x_debts (zOf n ds y) i) (nI k) = m_paidBy y (4 * (i + 1) + k) := by
      show f_paidBy (ds i) (nI k) = _
      unfold f_paidBy f_hasPlace
      rw [hd1, if_neg (nI_pos (by omega)), if_neg (nI_ge hk (by omega)), if_neg (by decide), nI_clamp (by omega), show d_paid (ds i) = v4L (m_paidBy y) (i + 1) from he.f d_paid (fun _ _ => rfl), v4L_in (by omega)]
    have esh : f_shareOf (x_debts (zOf n ds y) i) (nI k) = m_cents y (i + 1) / (nI m).toInt64 + (if m_cents y (i + 1) - m_cents y (i + 1) / (nI m).toInt64 * (nI m).toInt64 ≤ (nI k).toInt64 then 0 else 1) := by
      show f_shareOf (ds i) (nI k) = _
      unfold f_shareOf
      rw [hd1, if_pos (show (1 : Int32) ≤ nI m from nI_le (a := 1) hm1 (by omega)), show d_cents (ds i) = m_cents y (i + 1) from he.f d_cents (fun _ _ => rfl)]
      by_cases c : m_cents y (i + 1) - m_cents y (i + 1) / (nI m).toInt64 * (nI m).toInt64 ≤ (nI k).toInt64
      · rw [if_pos c, if_pos c]; rfl
      · rw [if_neg c, if_neg c]; rfl
    rw [epa, esh]
    have bs := shr_b (c := m_cents y (i + 1)) (m := m) (e := if m_cents y (i + 1) - m_cents y (i + 1) / (nI m).toInt64 * (nI m).toInt64 ≤ (nI k).toInt64 then 0 else 1) hI.ce0 hI.ce1 hm1 hm4 (by
      by_cases c : m_cents y (i + 1) - m_cents y (i + 1) / (nI m).toInt64 * (nI m).toInt64 ≤ (nI k).toInt64
      · rw [if_pos c]; exact Or.inl rfl
      · rw [if_neg c]; exact Or.inr rfl)
    generalize (m_cents y (i + 1) / (nI m).toInt64 + (if m_cents y (i + 1) - m_cents y (i + 1) / (nI m).toInt64 * (nI m).toInt64 ≤ (nI k).toInt64 then 0 else 1)) = sh at bs ⊢
    have bp : 0 ≤ (m_paidBy y (4 * (i + 1) + k)).toInt ∧ (m_paidBy y (4 * (i + 1) + k)).toInt ≤ 1000000000 := by
      have e : d_paid (vD y (i + 1)) k = m_paidBy y (4 * (i + 1) + k) := v4L_in (by omega)
      rw [← e]
      have p0 := hI.pa 0; have p1 := hI.pa 1; have p2 := hI.pa 2; have p3 := hI.pa 3
      have su := hI.su; have ce := hI.ce1; have op := hI.op0; have lo := hI.lo0
      rcases (show k = 0 ∨ k = 1 ∨ k = 2 ∨ k = 3 by omega) with rfl | rfl | rfl | rfl <;> omega
    by_cases q0 : p = 0
    · subst q0
      rw [if_pos rfl, if_neg (show ¬ g_in (0 : Int32).toInt64 0 2 = 0 by decide), if_pos rfl]
      exact ⟨rfl, fun _ => rfl, hb.ref 0⟩
    rw [if_neg q0, if_neg q0]
    by_cases q1 : p = 1
    · subst q1
      rw [if_pos rfl, if_neg (show ¬ g_in (1 : Int32).toInt64 0 2 = 0 by decide), if_pos rfl]
      exact ⟨rfl, fun _ => rfl, hb.ref 0⟩
    rw [if_neg q1, if_neg q1]
    by_cases q2 : p = 2
    · subst q2
      rw [if_pos rfl, if_neg (show ¬ g_in (2 : Int32).toInt64 0 2 = 0 by decide), rec2 bp.1 bp.2 bs.1 bs.2]
      by_cases c : m_paidBy y (4 * (i + 1) + k) ≤ sh
      · rw [if_pos c, if_pos c]; exact ⟨rfl, fun _ => rfl, hb.ref 0⟩
      · rw [if_neg c, if_neg c]; exact ⟨rfl, fun _ => rfl, hb.ref 0⟩
    rw [if_neg q2, if_pos]
    · exact ⟨rfl, fun e => absurd e (show ¬ (1 : Int32) = 0 by decide), hb.ref 1⟩
    · refine in_no ?_
      have q0 := i_ne q0; have q1 := i_ne q1; have q2 := i_ne q2
      rw [show (0 : Int32).toInt = 0 from rfl] at q0
      rw [show (1 : Int32).toInt = 1 from rfl] at q1
      rw [show (2 : Int32).toInt = 2 from rfl] at q2
      rw [show (0 : Int64).toInt = 0 from rfl, show (2 : Int64).toInt = 2 from rfl]
      omega
theorem su64 {F : Int} {t : Int32} {v : DT} (h : Inv F t v) : d_cents v - d_open v - d_lost v = d_paid v 0 + d_paid v 1 + d_paid v 2 + d_paid v 3 := by
  have p0 := h.pa 0; have p1 := h.pa 1; have p2 := h.pa 2; have p3 := h.pa 3
  have su := h.su; have ce := h.ce1; have op := h.op0; have lo := h.lo0
  apply Int64.toInt_inj.mp
  have a1 : (d_cents v - d_open v).toInt = (d_cents v).toInt - (d_open v).toInt := l_sub (by omega) (by omega)
  have a2 : (d_cents v - d_open v - d_lost v).toInt = (d_cents v - d_open v).toInt - (d_lost v).toInt := l_sub (by omega) (by omega)
  have b1 : (d_paid v 0 + d_paid v 1).toInt = (d_paid v 0).toInt + (d_paid v 1).toInt := l_add (by omega) (by omega)
  have b2 : (d_paid v 0 + d_paid v 1 + d_paid v 2).toInt = (d_paid v 0 + d_paid v 1).toInt + (d_paid v 2).toInt := l_add (by omega) (by omega)
  have b3 : (d_paid v 0 + d_paid v 1 + d_paid v 2 + d_paid v 3).toInt = (d_paid v 0 + d_paid v 1 + d_paid v 2).toInt + (d_paid v 3).toInt := l_add (by omega) (by omega)
  omega
theorem ps64 {F : Int} {t : Int32} {y : MT} {b : Nat} (hb : b ≤ 40) (h : Inv F t (vD y b)) (p : Int64) : psL y (nI b) 0 (m_debtors y b).toNatClampNeg p = p + (d_cents (vD y b) - d_open (vD y b) - d_lost (vD y b)) := by
  rw [su64 h]
  obtain ⟨m, hm1, hm4, hd, -, hz⟩ := h.nm
  have hd2 : m_debtors y b = nI m := hd
  have e0 : m_paidBy y (4 * b + 0) = d_paid (vD y b) 0 := (v4L_in (by omega)).symm
  have e1 : m_paidBy y (4 * b + 1) = d_paid (vD y b) 1 := (v4L_in (by omega)).symm
  have e2 : m_paidBy y (4 * b + 2) = d_paid (vD y b) 2 := (v4L_in (by omega)).symm
  have e3 : m_paidBy y (4 * b + 3) = d_paid (vD y b) 3 := (v4L_in (by omega)).symm
  rw [hd2, nI_clamp (by omega)]
  have z1 := hz 1; have z2 := hz 2; have z3 := hz 3
  generalize d_paid (vD y b) 0 = a0 at *
  generalize d_paid (vD y b) 1 = a1 at *
  generalize d_paid (vD y b) 2 = a2 at *
  generalize d_paid (vD y b) 3 = a3 at *
  rcases (show m = 1 ∨ m = 2 ∨ m = 3 ∨ m = 4 by omega) with rfl | rfl | rfl | rfl
  · dsimp only [psL]
    rw [ix4 (by omega) (by omega), e0, z1 (by omega), z2 (by omega), z3 (by omega)]; grind
  · dsimp only [psL]
    rw [ix4 (by omega) (by omega), ix4 (by omega) (by omega), e0, e1, z2 (by omega), z3 (by omega)]; grind
  · dsimp only [psL]
    rw [ix4 (by omega) (by omega), ix4 (by omega) (by omega), ix4 (by omega) (by omega), e0, e1, e2, z3 (by omega)]; grind
  · dsimp only [psL]
    rw [ix4 (by omega) (by omega), ix4 (by omega) (by omega), ix4 (by omega) (by omega), ix4 (by omega) (by omega), e0, e1, e2, e3]; grind
theorem smL_eq {F : Int} {t0 : Int32} {y : MT} {z : XT} {N : Nat} (hN : N ≤ 40) (H : ∀ i, i < N → eqv (x_debts z i) (vD y (i + 1)) ∧ Inv F t0 (vD y (i + 1))) : ∀ (n i : Nat) (a s p g t : Int64), i + n ≤ N → smL y i n a s p g t = (ovL z 0 i n a, ovL z 1 i n s, ovL z 2 i n p, ovL z 3 i n g, ovL z 4 i n t) := by
  intro n
  induction n with
  | zero => intro i a s p g t _; rfl
  | succ n ih =>
    intro i a s p g t hi
    obtain ⟨he, hI⟩ := H i (by omega)
    have f0 : m_cents y (i + 1) = f_part (x_debts z i) 0 := (he.f d_cents (fun _ _ => rfl)).symm
    have f1 : m_open y (i + 1) = f_part (x_debts z i) 1 := (he.f d_open (fun _ _ => rfl)).symm
    have f2 : d_cents (vD y (i + 1)) - d_open (vD y (i + 1)) - d_lost (vD y (i + 1)) = f_part (x_debts z i) 2 := (he.f (fun v => d_cents v - d_open v - d_lost v) (fun _ _ => rfl)).symm
    have f3 : m_lost y (i + 1) = f_part (x_debts z i) 3 := (he.f d_lost (fun _ _ => rfl)).symm
    have f4 : m_interestPaid y (i + 1) = f_part (x_debts z i) 4 := (he.f d_paidI (fun _ _ => rfl)).symm
    unfold smL ovL
    rw [nI_clamp (n := i + 1) (by omega), ps64 (by omega) hI, f0, f1, f2, f3, f4]
    exact ih (i + 1) _ _ _ _ _ (by omega)
theorem st_sum {j : Nat} {z : XT} {y : MT} (w : Int32) (h : Rel9 j z y) : f_sum z w = (g_sum y w).1 ∧ Rel9 (j + 1) z (g_sum y w).2 := by
  obtain ⟨n, ds, rfl, hb⟩ := h
  have hn := hb.1
  have hd := hb.2.1
  have hc : r_count (x_rates (zOf n ds y)) = m_rates y := rfl
  have eL := smL_eq (F := 5480000000000000 * (j : Int)) (t0 := m_today y) (y := y) (z := zOf n ds y) (N := n) hn (fun i hi => hb.d hi) n 0 0 0 0 0 0 (by omega)
  unfold f_sum g_sum f_overAllDebts
  rw [hd, nI_clamp (by omega), eL]
  by_cases c1 : w < 20
  · rw [if_pos c1, if_pos c1]
    by_cases q0 : w = 0
    · subst q0; rw [if_pos rfl, if_pos rfl]; exact ⟨rfl, hb.ref 0⟩
    rw [if_neg q0, if_neg q0]
    by_cases q1 : w = 1
    · subst q1; rw [if_pos rfl, if_pos rfl]; exact ⟨rfl, hb.ref 0⟩
    rw [if_neg q1, if_neg q1]
    by_cases q2 : w = 2
    · subst q2; rw [if_pos rfl, if_pos rfl]; exact ⟨rfl, hb.ref 0⟩
    rw [if_neg q2, if_neg q2]
    by_cases q3 : w = 3
    · subst q3; rw [if_pos rfl, if_pos rfl]; exact ⟨rfl, hb.ref 0⟩
    rw [if_neg q3, if_neg q3]
    by_cases q4 : w = 4
    · subst q4; rw [if_pos rfl, if_pos rfl]; exact ⟨rfl, hb.ref 0⟩
    rw [if_neg q4, if_neg q4]
    by_cases q5 : w = 5
    · rw [if_pos q5, if_pos q5]; exact ⟨rfl, hb.ref 0⟩
    rw [if_neg q5, if_neg q5]
    by_cases q6 : w = 6
    · rw [if_pos q6, if_pos q6]; exact ⟨rfl, hb.ref 0⟩
    rw [if_neg q6, if_neg q6]
    by_cases q7 : w = 7
    · rw [if_pos q7, if_pos q7]; exact ⟨rfl, hb.ref 0⟩
    rw [if_neg q7, if_neg q7]
    exact ⟨rfl, hb.ref 0⟩
  · rw [if_neg c1, if_neg c1]
    rw [Int32.lt_iff_toInt_lt, show (20 : Int32).toInt = 20 from rfl] at c1
    have w31 := Int32.toInt_lt w
    have e20 : (w - 20).toInt = w.toInt - 20 := by
      rw [i_sub (by rw [show (20 : Int32).toInt = 20 from rfl]; omega) (by rw [show (20 : Int32).toInt = 20 from rfl]; omega)]; rfl
    by_cases c2 : 36 ≤ w
    · have c2' := c2
      rw [Int32.le_iff_toInt_le, show (36 : Int32).toInt = 36 from rfl] at c2'
      have no : ∀ k : Int32, k.toInt ≤ 7 → ¬ w = k := fun k hk e => by rw [e] at c2'; omega
      rw [if_pos c2, if_neg (no 0 (by decide)), if_neg (no 1 (by decide)), if_neg (no 2 (by decide)), if_neg (no 3 (by decide)), if_neg (no 4 (by decide)), if_neg (no 5 (by decide)), if_neg (no 6 (by decide)), if_neg (no 7 (by decide)), if_pos]
      · exact ⟨rfl, hb.ref 0⟩
      · unfold g_isPerson
        rw [if_neg (by rw [Int32.lt_iff_toInt_lt, e20, show (0 : Int32).toInt = 0 from rfl]; omega), if_pos (by rw [Int32.le_iff_toInt_le, e20, show (16 : Int32).toInt = 16 from rfl]; omega)]
    · rw [if_neg c2, if_neg]
      · exact ⟨rfl, hb.ref 0⟩
      · rw [Int32.le_iff_toInt_le, show (36 : Int32).toInt = 36 from rfl] at c2
        unfold g_isPerson
        rw [if_neg (by rw [Int32.lt_iff_toInt_lt, e20, show (0 : Int32).toInt = 0 from rfl]; omega), if_neg (by rw [Int32.le_iff_toInt_le, e20, show (16 : Int32).toInt = 16 from rfl]; omega)]
        decide
