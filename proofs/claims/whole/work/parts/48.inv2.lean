theorem iMin_toInt (a b : Int32) : (iMin a b).toInt = min a.toInt b.toInt := by
  unfold iMin
  by_cases h : b < a
  · rw [if_pos h]; rw [Int32.lt_iff_toInt_lt] at h; omega
  · rw [if_neg h]; rw [Int32.lt_iff_toInt_lt] at h; omega
def okR (R : RT) : Prop := ∃ m : Nat, m ≤ 20 ∧ r_count R = nI m ∧ ∀ r, r < m → (0 ≤ (r_from R r).toInt ∧ (r_from R r).toInt ≤ 100000) ∧ 1 ≤ (r_down R r).toInt ∧ 0 ≤ (r_up R r).toInt ∧ (r_up R r).toInt ≤ 1000
theorem i_nn {x : Int32} {n : Nat} (h : 0 ≤ x.toInt) (h1 : x.toInt ≤ n) : ∃ j : Nat, j ≤ n ∧ j < 2 ^ 31 ∧ x = nI j := by
  obtain ⟨j, hj, e⟩ := nI_of (x := x) (fun q => by rw [Int32.lt_iff_toInt_lt, show (0 : Int32).toInt = 0 from rfl] at q; omega)
  refine ⟨j, ?_, hj, e⟩
  rw [e, nI_toInt hj] at h1; omega
theorem l_nn {x : Int64} (h : 0 ≤ x.toInt) : ∃ j : Nat, j < 2 ^ 63 ∧ x = lN j ∧ x.toInt = j := by
  obtain ⟨j, hj, e⟩ := pk_lOf (x := x) (fun q => by rw [Int64.lt_iff_toInt_lt, show (0 : Int64).toInt = 0 from rfl] at q; omega)
  exact ⟨j, hj, e, by rw [e, pk_lT hj]⟩
theorem iq {op : Int64} {dy up dn : Int32} (h0 : 0 ≤ op.toInt) (h1 : op.toInt ≤ 1000000000) (h2 : 0 ≤ dy.toInt) (h3 : dy.toInt ≤ 100000) (h4 : 0 ≤ up.toInt) (h5 : up.toInt ≤ 1000) (h6 : 1 ≤ dn.toInt) : 0 ≤ (op * dy.toInt64 * up.toInt64 / (dn.toInt64 * 365)).toInt ∧ (op * dy.toInt64 * up.toInt64 / (dn.toInt64 * 365)).toInt ≤ 274000000000000 := by
  obtain ⟨a, ha, rfl, ea⟩ := l_nn h0
  obtain ⟨c, hc, hc', rfl⟩ := i_nn (n := 100000) h2 (by omega)
  obtain ⟨u, hu, hu', rfl⟩ := i_nn (n := 1000) h4 (by omega)
  obtain ⟨d, hd, rfl⟩ := nI_of (x := dn) (fun q => by rw [Int32.lt_iff_toInt_lt, show (0 : Int32).toInt = 0 from rfl] at q; omega)
  rw [nI_toInt hd] at h6
  have e1 : lN a * lN c * lN u = lN (a * c * u) := by
    unfold lN; rw [← Int64.ofNat_mul, ← Int64.ofNat_mul]
  have e2 : lN d * 365 = lN (d * 365) := by
    unfold lN; rw [Int64.ofNat_mul]; rfl
  have b1 : a * c * u ≤ 1000000000 * 100000 * 1000 := Nat.mul_le_mul (Nat.mul_le_mul (by omega) hc) hu
  have b2 : a * c * u / (d * 365) ≤ 1000000000 * 100000 * 1000 / 365 := Nat.div_le_div b1 (by omega) (by decide)
  rw [nI_l hc', nI_l hu', nI_l hd, e1, e2, pk_lDiv (by omega) (by omega) (by omega), pk_lT (by omega)]
  generalize a * c * u / (d * 365) = Q at b2 ⊢
  omega
theorem inS_b {R : RT} {m : Nat} {op : Int64} {be ut : Int32} {i : Nat} {t : Int64} {T : Int} (hm : m ≤ 20) (hc : r_count R = nI m) (hR : ∀ r, r < m → (0 ≤ (r_from R r).toInt ∧ (r_from R r).toInt ≤ 100000) ∧ 1 ≤ (r_down R r).toInt ∧ 0 ≤ (r_up R r).toInt ∧ (r_up R r).toInt ≤ 1000)
    (h0 : 0 ≤ op.toInt) (h1 : op.toInt ≤ 1000000000) (hb0 : 0 ≤ be.toInt) (hb1 : be.toInt ≤ 100010) (hu0 : 0 ≤ ut.toInt) (hu1 : ut.toInt ≤ 100000) (hi : i < m) (ht0 : 0 ≤ t.toInt) (ht1 : t.toInt ≤ T) (hT : T ≤ 1000000000000000000) : 0 ≤ (inS R op be ut i t).toInt ∧ (inS R op be ut i t).toInt ≤ T + 274000000000000 := by
  obtain ⟨⟨f0, f1⟩, hd, hu, hu2⟩ := hR i hi
  have hfi : 1 ≤ (iMax (r_from R i) (be + 1)).toInt ∧ (iMax (r_from R i) (be + 1)).toInt ≤ 200000 := by
    rw [iMax_toInt, i_add (by rw [show (1 : Int32).toInt = 1 from rfl]; omega) (by rw [show (1 : Int32).toInt = 1 from rfl]; omega), show (1 : Int32).toInt = 1 from rfl]; omega
  have core : ∀ la : Int32, 0 ≤ la.toInt + 1 → la.toInt ≤ 100000 → ¬ la < iMax (r_from R i) (be + 1) → 0 ≤ (t + op * (la - iMax (r_from R i) (be + 1) + 1).toInt64 * (r_up R i).toInt64 / ((r_down R i).toInt64 * 365)).toInt ∧ (t + op * (la - iMax (r_from R i) (be + 1) + 1).toInt64 * (r_up R i).toInt64 / ((r_down R i).toInt64 * 365)).toInt ≤ T + 274000000000000 := by
    intro la hl0 hl hn
    rw [Int32.lt_iff_toInt_lt] at hn
    have e1 : (la - iMax (r_from R i) (be + 1)).toInt = la.toInt - (iMax (r_from R i) (be + 1)).toInt := i_sub (by omega) (by omega)
    have e2 : (la - iMax (r_from R i) (be + 1) + 1).toInt = la.toInt - (iMax (r_from R i) (be + 1)).toInt + 1 := by
      rw [i_add (by rw [e1, show (1 : Int32).toInt = 1 from rfl]; omega) (by rw [e1, show (1 : Int32).toInt = 1 from rfl]; omega), e1]; rfl
    have q := iq (op := op) (dy := la - iMax (r_from R i) (be + 1) + 1) (up := r_up R i) (dn := r_down R i) h0 h1 (by omega) (by omega) hu hu2 hd
    rw [l_add (by omega) (by omega)]
    omega
  have hdn : ¬ r_down R i ≤ 0 := by rw [Int32.le_iff_toInt_le, show (0 : Int32).toInt = 0 from rfl]; omega
  unfold inS
  rw [hc, nI_1]
  by_cases c1 : nI m ≤ nI (i + 1)
  · rw [if_pos c1]
    by_cases c2 : ut < iMax (r_from R i) (be + 1)
    · rw [if_pos c2]; omega
    · rw [if_neg c2, if_neg hdn]; exact core ut (by omega) hu1 c2
  · rw [if_neg c1]
    have hi1 : i + 1 < m := by
      have : ¬ m ≤ i + 1 := fun q => c1 ((nI_leI (by omega) (by omega)).mpr q)
      omega
    obtain ⟨⟨g0, g1⟩, -⟩ := hR (i + 1) hi1
    have el : (iMin ut (r_from R (i + 1) - 1)).toInt = min ut.toInt ((r_from R (i + 1)).toInt - 1) := by
      rw [iMin_toInt, i_sub (by rw [show (1 : Int32).toInt = 1 from rfl]; omega) (by rw [show (1 : Int32).toInt = 1 from rfl]; omega)]; rfl
    by_cases c2 : iMin ut (r_from R (i + 1) - 1) < iMax (r_from R i) (be + 1)
    · rw [if_pos c2]; omega
    · rw [if_neg c2, if_neg hdn]; exact core _ (by omega) (by omega) c2
theorem inL_b {R : RT} {m : Nat} {op : Int64} {be ut : Int32} (hm : m ≤ 20) (hc : r_count R = nI m) (hR : ∀ r, r < m → (0 ≤ (r_from R r).toInt ∧ (r_from R r).toInt ≤ 100000) ∧ 1 ≤ (r_down R r).toInt ∧ 0 ≤ (r_up R r).toInt ∧ (r_up R r).toInt ≤ 1000)
    (h0 : 0 ≤ op.toInt) (h1 : op.toInt ≤ 1000000000) (hb0 : 0 ≤ be.toInt) (hb1 : be.toInt ≤ 100010) (hu0 : 0 ≤ ut.toInt) (hu1 : ut.toInt ≤ 100000) : ∀ (n i : Nat) (t : Int64), i + n ≤ m → 0 ≤ t.toInt → t.toInt ≤ 274000000000000 * i → 0 ≤ (inL R op be ut i n t).toInt ∧ (inL R op be ut i n t).toInt ≤ 274000000000000 * (i + n : Nat) := by
  intro n
  induction n with
  | zero => intro i t hi h2 h3; exact ⟨h2, h3⟩
  | succ n ih =>
    intro i t hi h2 h3
    unfold inL
    have q := inS_b hm hc hR h0 h1 hb0 hb1 hu0 hu1 (i := i) (t := t) (T := 274000000000000 * i) (by omega) h2 h3 (by omega)
    have := ih (i + 1) _ (by omega) q.1 (by omega)
    rw [show i + 1 + n = i + (n + 1) from by omega] at this
    exact this
theorem okR.int {R : RT} (hR : okR R) {op : Int64} {be ut : Int32} (h0 : 0 ≤ op.toInt) (h1 : op.toInt ≤ 1000000000) (hb0 : 0 ≤ be.toInt) (hb1 : be.toInt ≤ 100010) (hu0 : 0 ≤ ut.toInt) (hu1 : ut.toInt ≤ 100000) : 0 ≤ (f_R_interest R op be ut).toInt ∧ (f_R_interest R op be ut).toInt ≤ 5480000000000000 := by
  obtain ⟨m, hm, hc, hR⟩ := hR
  unfold f_R_interest
  rw [hc, nI_clamp (by omega)]
  have := inL_b hm hc hR h0 h1 hb0 hb1 hu0 hu1 m 0 0 (by omega) (Int.le_refl _) (Int.le_refl _)
  omega
theorem Inv.op1 {F : Int} {t : Int32} {v : DT} (h : Inv F t v) : (d_open v).toInt ≤ 1000000000 := by
  have h1 := h.su; have h2 := h.ce1; have h3 := h.lo0; have := h.pa 0; have := h.pa 1; have := h.pa 2; have := h.pa 3
  omega
theorem Inv.run {F : Int} {t t1 : Int32} {v : DT} {R : RT} (h : Inv F t1 v) (ht0 : 0 ≤ t.toInt) (ht1 : t.toInt ≤ 100000) (hR : okR R) : 0 ≤ (f_runningInterest v R t).toInt ∧ (f_runningInterest v R t).toInt ≤ 5480000000000000 := by
  unfold f_runningInterest
  by_cases h1 : d_state v = 1
  · rw [if_pos h1]
    exact hR.int h.op0 h.op1 (h.ib h1).1 (h.ib h1).2 ht0 ht1
  · rw [if_neg h1]; decide
theorem Inv.fix {F : Int} {t t1 : Int32} {v : DT} {R : RT} (h : Inv F t1 v) (ht0 : 0 ≤ t.toInt) (ht1 : t.toInt ≤ 100000) (hR : okR R) (hF : F ≤ 3000000000000000000) : Inv (F + 5480000000000000) t1 (f_fixInterest v R t) := by
  have q := h.run ht0 ht1 hR
  have f0 := h.fx0
  have f1 := h.fx1
  have e : (d_fixed v + f_runningInterest v R t).toInt = (d_fixed v).toInt + (f_runningInterest v R t).toInt := l_add (by omega) (by omega)
  refine ⟨h.bi0, h.bi1, h.du0, h.du1, h.nm, h.pt, h.dd0, h.dd1, h.ce0, h.ce1, h.op0, h.lo0, h.live, ?_, ?_, h.pa, h.su, fun e1 => ?_⟩
  · show 0 ≤ (d_fixed v + f_runningInterest v R t).toInt
    omega
  · show (d_fixed v + f_runningInterest v R t).toInt ≤ _
    omega
  · have i1 := h.ib e1
    show 0 ≤ (iMax (d_ib v) t).toInt ∧ (iMax (d_ib v) t).toInt ≤ 100010
    rw [iMax_toInt]
    omega
