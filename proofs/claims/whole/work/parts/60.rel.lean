/-! class and reference, side by side -/
theorem eqv.f {α : Type} {d v : DT} (g : DT → α) (hg : ∀ v r, g (s_ib v r) = g v) (h : eqv d v) : g d = g v := by
  obtain ⟨r, rfl⟩ := h.ib
  exact hg v r
theorem eqv.st {d v : DT} (h : eqv d v) : d_state d = d_state v := h.f d_state (fun _ _ => rfl)
def DR (F : Nat → Int) (t : Int32) (n : Nat) (ds : Nat → DT) (y : MT) : Prop := (∀ i, i < n → eqv (ds i) (vD y (i + 1)) ∧ Inv (F i) t (vD y (i + 1))) ∧ ∀ b, (b = 0 ∨ n < b) → vD y b = dZ
theorem DR.step {F : Nat → Int} {t : Int32} {n i : Nat} {ds : Nat → DT} {y y' : MT} {d' v' : DT} (h : DR F t n ds y) (hi : i < n) (F' : Int) (he : vD y' (i + 1) = v') (hne : ∀ b, b ≠ i + 1 → vD y' b = vD y b) (hd : eqv d' v') (hI : Inv F' t v') : DR (fun q => if q = i then F' else F q) t n (va_up ds i d') y' := by
  refine ⟨fun q hq => ?_, fun b hb => ?_⟩
  · by_cases e : q = i
    · subst e
      rw [va_up_self, he]
      dsimp only
      rw [if_pos rfl]
      exact ⟨hd, hI⟩
    · rw [va_up_ne _ _ e, hne _ (by omega)]
      dsimp only
      rw [if_neg e]
      exact h.1 q hq
  · rw [hne b (by omega)]; exact h.2 b hb
theorem DR.mono {F G : Nat → Int} {t t' : Int32} {n : Nat} {ds : Nat → DT} {y : MT} (h : DR F t n ds y) (hF : ∀ i, i < n → F i ≤ G i) (ht : t.toInt ≤ t'.toInt) : DR G t' n ds y :=
  ⟨fun i hi => ⟨(h.1 i hi).1, (h.1 i hi).2.mono (hF i hi) ht⟩, h.2⟩
abbrev zOf (n : Nat) (ds : Nat → DT) (y : MT) : XT := (nI n, m_today y, vR y, m_credit y, ds)
def Rb (j n : Nat) (ds : Nat → DT) (y : MT) : Prop := n ≤ 40 ∧ m_debts y = nI n ∧ 0 ≤ (m_today y).toInt ∧ (m_today y).toInt ≤ 100000 ∧ okR (vR y) ∧ DR (fun _ => 5480000000000000 * (j : Int)) (m_today y) n ds y
def Rel9 (j : Nat) (z : XT) (y : MT) : Prop := ∃ (n : Nat) (ds : Nat → DT), z = zOf n ds y ∧ Rb j n ds y
theorem Rb.up {j n : Nat} {ds : Nat → DT} {y : MT} (h : Rb j n ds y) : Rb (j + 1) n ds y := by
  obtain ⟨h1, h2, h3, h4, h5, h6⟩ := h
  exact ⟨h1, h2, h3, h4, h5, h6.mono (fun i _ => by omega) (Int.le_refl _)⟩
theorem Rb.ref {j n : Nat} {ds : Nat → DT} {y : MT} (h : Rb j n ds y) (c : Int32) : Rel9 (j + 1) (zOf n ds y) (n_thrown y c) := ⟨n, ds, rfl, h.up⟩
theorem Rb.one {j n i : Nat} {ds : Nat → DT} {y y' : MT} {d' v' : DT} (h : Rb j n ds y) (hi : i < n) (H : sameH (n_thrown y 0) y') (he : vD y' (i + 1) = v') (hne : ∀ b, b ≠ i + 1 → vD y' b = vD y b) (hd : eqv d' v') (hI : Inv (5480000000000000 * ((j + 1 : Nat) : Int)) (m_today y) v') : Rel9 (j + 1) (y_debt (zOf n ds y) i d') y' := by
  obtain ⟨h1, h2, h3, h4, h5, h6⟩ := h
  obtain ⟨-, e1, e2, e3, e4⟩ := H
  have e1 : m_today y' = m_today y := e1
  have e2 : vR y' = vR y := e2
  have e3 : m_debts y' = m_debts y := e3
  have e4 : m_credit y' = m_credit y := e4
  refine ⟨n, va_up ds i d', ?_, h1, e3.trans h2, by rw [e1]; exact h3, by rw [e1]; exact h4, by rw [e2]; exact h5, ?_⟩
  · show (nI n, m_today y, vR y, m_credit y, va_up ds i d') = (nI n, m_today y', vR y', m_credit y', va_up ds i d')
    rw [e1, e2, e4]
  · rw [e1]
    exact (h6.step hi _ he hne hd hI).mono (fun q hq => by
      by_cases e : q = i
      · rw [if_pos e]; exact Int.le_refl _
      · rw [if_neg e]; omega) (Int.le_refl _)
theorem Rb.isD {j n : Nat} {ds : Nat → DT} {y : MT} (h : Rb j n ds y) (q : Int32) : (¬ okN (zOf n ds y) q ∧ g_isDebt y q = 0) ∨ ∃ i, i < n ∧ okN (zOf n ds y) q ∧ ¬ g_isDebt y q = 0 ∧ q = nI (i + 1) ∧ ixN q = i ∧ q.toNatClampNeg = i + 1 := by
  obtain ⟨h1, h2, -⟩ := h
  by_cases c : okN (zOf n ds y) q
  · obtain ⟨a, b, -⟩ := okN_ix (s := zOf n ds y) (n := n) c rfl h1
    refine Or.inr ⟨ixN q, a, c, ?_, b, rfl, ?_⟩
    · unfold g_isDebt
      rw [if_neg (Int32.not_lt.mpr c.1), h2, if_neg (Int32.not_lt.mpr c.2)]; decide
    · conv => lhs; rw [b]
      exact nI_clamp (by omega)
  · refine Or.inl ⟨c, ?_⟩
    unfold g_isDebt
    by_cases c1 : q < 1
    · rw [if_pos c1]
    · rw [if_neg c1, h2, if_pos]
      exact Int32.not_le.mp (fun e => c ⟨Int32.not_lt.mp c1, e⟩)
theorem Rb.d {j n i : Nat} {ds : Nat → DT} {y : MT} (h : Rb j n ds y) (hi : i < n) : eqv (ds i) (vD y (i + 1)) ∧ Inv (5480000000000000 * (j : Int)) (m_today y) (vD y (i + 1)) := h.2.2.2.2.2.1 i hi
theorem vD_new (b : Nat) : vD mNew b = dZ := by
  have e1 : v4I (fun _ => 0) b = fun _ => 0 := by
    funext k; unfold v4I; by_cases h : k < 4
    · rw [if_pos h]
    · rw [if_neg h]
  have e2 : v4L (fun _ => 0) b = fun _ => 0 := by
    funext k; unfold v4L; by_cases h : k < 4
    · rw [if_pos h]
    · rw [if_neg h]
  dsimp only [vD, m_thrown, m_today, m_rates, m_from, m_up, m_down, m_debts, m_state, m_born, m_dueDay, m_cents, m_open, m_lost, m_fixed, m_runsFrom, m_interestPaid, m_parts, m_deferredOn, m_deferred, m_debtors, m_debtor, m_paidBy, m_credit, n_thrown, n_today, n_rates, n_from, n_up, n_down, n_debts, n_state, n_born, n_dueDay, n_cents, n_open, n_lost, n_fixed, n_runsFrom, n_interestPaid, n_parts, n_deferredOn, n_deferred, n_debtors, n_debtor, n_paidBy, n_credit]
  rw [e1, e2]
theorem rel_0 : Rel9 0 xNew mNew := by
  refine ⟨0, fun _ => dNew 0 0, rfl, by omega, rfl, by decide, by decide, ⟨0, by omega, rfl, fun r h => absurd h (by omega)⟩, fun i hi => absurd hi (by omega), fun b _ => vD_new b⟩
theorem rel_wf {j : Nat} {z : XT} {y : MT} (h : Rel9 j z y) : wfM y := by
  obtain ⟨n, ds, rfl, h1, h2, h3, h4, ⟨m, hm, hc, hR⟩, h6⟩ := h
  refine ⟨⟨n, h1, h2⟩, ⟨m, hm, hc, fun r hr => ?_⟩, fun b => ?_, fun b => ?_⟩
  · have : 1 ≤ (m_down y r).toInt := (hR r hr).2.1
    rw [Int32.le_iff_toInt_le, show (0 : Int32).toInt = 0 from rfl]; omega
  · by_cases c : b = 0 ∨ n < b
    · refine ⟨0, by omega, ?_⟩
      show d_debtors (vD y b) = nI 0
      rw [h6.2 b c]; rfl
    · obtain ⟨i, rfl⟩ : ∃ i, b = i + 1 := ⟨b - 1, by omega⟩
      obtain ⟨k, -, h5, h7, -⟩ := (h6.1 i (by omega)).2.nm
      exact ⟨k, h5, h7⟩
  · by_cases c : b = 0 ∨ n < b
    · refine ⟨0, by omega, ?_⟩
      show d_dParts (vD y b) = nI 0
      rw [h6.2 b c]; rfl
    · obtain ⟨i, rfl⟩ : ∃ i, b = i + 1 := ⟨b - 1, by omega⟩
      obtain ⟨k, h5, h7, -⟩ := (h6.1 i (by omega)).2.pt
      exact ⟨k, h5, h7⟩
