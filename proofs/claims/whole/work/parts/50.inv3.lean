theorem Inv.midc {F : Int} {t : Int32} {v : DT} {k m : Nat} {n : Int64} (h : Inv F t v) (hl : d_state v = 0 ∨ d_state v = 1 ∨ d_state v = 2 ∨ d_state v = 3) (hm : m ≤ 4) (hd : d_debtors v = nI m) (hk : k < m) (hn : 0 ≤ n.toInt) (st : Int32) (hs : (st = d_state v ∧ 1 ≤ (d_open (dMid v k n)).toInt) ∨ st = 4) : Inv F t (s_state (dMid v k n) st) := by
  have f0 := h.fx0
  have o0 := h.op0
  have o1 := h.op1
  have hn1 := Int64.toInt_lt n
  have e1 : (d_fixed v - jMin n (d_fixed v)).toInt = (d_fixed v).toInt - min n.toInt (d_fixed v).toInt := jm_nn hn f0
  have e2 : (n - jMin n (d_fixed v)).toInt = n.toInt - min n.toInt (d_fixed v).toInt := by
    rw [l_sub (by rw [jMin_toInt]; omega) (by rw [jMin_toInt]; omega), jMin_toInt]
  have e3 : (d_open v - jMin (n - jMin n (d_fixed v)) (d_open v)).toInt = (d_open v).toInt - min (n - jMin n (d_fixed v)).toInt (d_open v).toInt := jm_nn (by omega) o0
  have e4 : (jMin (n - jMin n (d_fixed v)) (d_open v)).toInt = min (n - jMin n (d_fixed v)).toInt (d_open v).toInt := jMin_toInt _ _
  have hc := h.ce1
  have hsu := h.su
  have lo := h.lo0
  have p0 := h.pa 0
  have p1 := h.pa 1
  have p2 := h.pa 2
  have p3 := h.pa 3
  have pk : (d_paid v k).toInt + (d_open v).toInt ≤ 1000000000 := by
    rcases (show k = 0 ∨ k = 1 ∨ k = 2 ∨ k = 3 by omega) with rfl | rfl | rfl | rfl <;> omega
  have pk0 := h.pa k
  have e5 : (d_paid v k + jMin (n - jMin n (d_fixed v)) (d_open v)).toInt = (d_paid v k).toInt + min (n - jMin n (d_fixed v)).toInt (d_open v).toInt := by
    rw [l_add (by omega) (by omega), e4]
  obtain ⟨m', hm1, hm4, hd', ha, hz⟩ := h.nm
  have emm : m' = m := (nI_eq (by omega) (by omega)).mp (hd'.symm.trans hd)
  subst emm
  obtain ⟨P, hP, eP, hP2⟩ := h.pt
  have hpa : ∀ q, d_paid (s_state (dMid v k n) st) q = if q = k then d_paid v k + jMin (n - jMin n (d_fixed v)) (d_open v) else d_paid v q := fun q => rfl
  refine ⟨h.bi0, h.bi1, h.du0, h.du1, ⟨m', hm1, hm4, hd', ha, fun q hq => ?_⟩, ⟨P, hP, eP, fun e => ?_⟩, h.dd0, h.dd1, h.ce0, h.ce1, ?_, h.lo0, fun e => ?_, ?_, ?_, fun q => ?_, ?_, fun e => ?_⟩
  · rw [hpa, if_neg (by omega)]; exact hz q hq
  · have e : st = 2 := e
    rcases hs with ⟨rfl, -⟩ | rfl
    · exact hP2 e
    · exact absurd e (by decide)
  · show 0 ≤ (d_open v - jMin (n - jMin n (d_fixed v)) (d_open v)).toInt
    omega
  · rcases hs with ⟨rfl, q⟩ | rfl
    · exact ⟨q, (h.live hl).2⟩
    · have e : (4 : Int32) = 0 ∨ (4 : Int32) = 1 ∨ (4 : Int32) = 2 ∨ (4 : Int32) = 3 := e
      exact absurd e (by decide)
  · show 0 ≤ (d_fixed v - jMin n (d_fixed v)).toInt
    omega
  · show (d_fixed v - jMin n (d_fixed v)).toInt ≤ F
    have := h.fx1
    omega
  · rw [hpa]
    by_cases e : q = k
    · rw [if_pos e]; omega
    · rw [if_neg e]; exact h.pa q
  · rw [hpa 0, hpa 1, hpa 2, hpa 3]
    show (d_cents v).toInt = (d_open v - jMin (n - jMin n (d_fixed v)) (d_open v)).toInt + (d_lost v).toInt + _ + _ + _ + _
    rw [e3]
    rcases (show k = 0 ∨ k = 1 ∨ k = 2 ∨ k = 3 by omega) with rfl | rfl | rfl | rfl
    · rw [if_pos rfl, if_neg (by decide), if_neg (by decide), if_neg (by decide), e5]; omega
    · rw [if_neg (by decide), if_pos rfl, if_neg (by decide), if_neg (by decide), e5]; omega
    · rw [if_neg (by decide), if_neg (by decide), if_pos rfl, if_neg (by decide), e5]; omega
    · rw [if_neg (by decide), if_neg (by decide), if_neg (by decide), if_pos rfl, e5]; omega
  · have e : st = 1 := e
    rcases hs with ⟨rfl, -⟩ | rfl
    · exact h.ib e
    · exact absurd e (by decide)
theorem Inv.take {F : Int} {t : Int32} {v : DT} {k m : Nat} {n : Int64} (h : Inv F t v) (hl : d_state v = 0 ∨ d_state v = 1 ∨ d_state v = 2 ∨ d_state v = 3) (hm : m ≤ 4) (hd : d_debtors v = nI m) (hk : k < m) (hn : 0 ≤ n.toInt) : Inv F t (f_take v (nI k) n).2 := by
  rw [take_eq hm hd hk]
  show Inv F t (f_settle (dMid v k n))
  have f0 := h.fx0
  have o0 := h.op0
  have o1 := (h.live hl).1
  have hn1 := Int64.toInt_lt n
  have e1 : (d_fixed (dMid v k n)).toInt = (d_fixed v).toInt - min n.toInt (d_fixed v).toInt := jm_nn hn f0
  have e2 : (n - jMin n (d_fixed v)).toInt = n.toInt - min n.toInt (d_fixed v).toInt := by
    rw [l_sub (by rw [jMin_toInt]; omega) (by rw [jMin_toInt]; omega), jMin_toInt]
  have e3 : (d_open (dMid v k n)).toInt = (d_open v).toInt - min (n - jMin n (d_fixed v)).toInt (d_open v).toInt := jm_nn (by omega) o0
  have keep : 1 ≤ (d_open (dMid v k n)).toInt → Inv F t (dMid v k n) := fun q => h.midc hl hm hd hk hn (d_state v) (Or.inl ⟨rfl, q⟩)
  unfold f_settle
  by_cases c1 : 0 < d_fixed (dMid v k n)
  · rw [if_pos c1]
    rw [Int64.lt_iff_toInt_lt, show (0 : Int64).toInt = 0 from rfl] at c1
    exact keep (by omega)
  · rw [if_neg c1]
    by_cases c2 : d_open (dMid v k n) ≤ 10
    · rw [if_pos c2]
      by_cases c3 : d_open (dMid v k n) = 0
      · rw [if_pos c3]; exact h.midc hl hm hd hk hn 4 (Or.inr rfl)
      · rw [if_neg c3]
        have c3 : ¬ (d_open (dMid v k n)).toInt = (0 : Int64).toInt := fun e => c3 (Int64.toInt_inj.mp e)
        rw [show (0 : Int64).toInt = 0 from rfl] at c3
        exact (keep (by omega)).lose hl (Or.inr (Or.inr rfl))
    · rw [if_neg c2]
      rw [Int64.le_iff_toInt_le, show (10 : Int64).toInt = 10 from rfl] at c2
      exact keep (by omega)
theorem Inv.join {F : Int} {t : Int32} {v : DT} {w : Int32} (h : Inv F t v) : Inv F t (f_join v w).2 := by
  obtain ⟨m, hm1, hm4, hd, ha, hz⟩ := h.nm
  unfold f_join
  rw [hd]
  by_cases c1 : (4 : Int32) ≤ nI m
  · rw [if_pos c1]; exact h
  · rw [if_neg c1]
    have hm : m < 4 := by
      have : ¬ 4 ≤ m := fun q => c1 (nI_le (a := 4) q (by omega))
      omega
    by_cases c2 : f_placeOf v w = -1
    · rw [if_pos c2, nI_clamp (by omega), nI_1]
      have hno : ∀ k, k < m → d_people v k ≠ w := by
        unfold f_placeOf at c2
        rw [hd, nI_clamp (by omega)] at c2
        exact fun k hk => plc_no m 0 (by omega) c2 k (by omega) (by omega)
      have hpe : ∀ q, upd (d_people v) m w q = if q = m then w else d_people v q := fun q => rfl
      refine ⟨h.bi0, h.bi1, h.du0, h.du1, ⟨m + 1, by omega, by omega, rfl, fun k k' h1 h2 => ?_, fun k hk => hz k (by omega)⟩, h.pt, h.dd0, h.dd1, h.ce0, h.ce1, h.op0, h.lo0, h.live, h.fx0, h.fx1, h.pa, h.su, h.ib⟩
      show upd (d_people v) m w k = upd (d_people v) m w k' → k = k'
      rw [hpe, hpe]
      by_cases a1 : k = m
      · rw [if_pos a1]
        by_cases a2 : k' = m
        · intro _; omega
        · rw [if_neg a2]; intro e; exact absurd e.symm (hno k' (by omega))
      · rw [if_neg a1]
        by_cases a2 : k' = m
        · rw [if_pos a2]; intro e; exact absurd e (hno k (by omega))
        · rw [if_neg a2]; exact ha k k' (by omega) (by omega)
    · rw [if_neg c2]; exact h
theorem Inv.defer {F : Int} {t : Int32} {v : DT} {w : Int32} {P : Nat} (h : Inv F t v) (hl : d_state v = 0 ∨ d_state v = 1 ∨ d_state v = 2 ∨ d_state v = 3) (h0 : 0 ≤ w.toInt) (h1 : w.toInt ≤ 100000) (hP1 : 1 ≤ P) (hP : P ≤ 12) : Inv F t (f_defer v w (nI P)) := by
  refine ⟨h.bi0, h.bi1, h.du0, h.du1, h.nm, ⟨P, hP, rfl, fun _ => hP1⟩, h0, h1, h.ce0, h.ce1, h.op0, h.lo0, fun _ => h.live hl, h.fx0, h.fx1, h.pa, h.su, fun e => ?_⟩
  have e : (2 : Int32) = 1 := e
  exact absurd e (by decide)
theorem Inv.st3 {F : Int} {t : Int32} {v : DT} (h : Inv F t v) (hl : d_state v = 0 ∨ d_state v = 1 ∨ d_state v = 2 ∨ d_state v = 3) : Inv F t (s_state v 3) := by
  obtain ⟨P, hP, eP, -⟩ := h.pt
  refine ⟨h.bi0, h.bi1, h.du0, h.du1, h.nm, ⟨P, hP, eP, fun e => ?_⟩, h.dd0, h.dd1, h.ce0, h.ce1, h.op0, h.lo0, fun _ => h.live hl, h.fx0, h.fx1, h.pa, h.su, fun e => ?_⟩
  · have e : (3 : Int32) = 2 := e
    exact absurd e (by decide)
  · have e : (3 : Int32) = 1 := e
    exact absurd e (by decide)
theorem Inv.dueS {F : Int} {t : Int32} {v : DT} {w : Int32} (h : Inv F t v) (h0 : -1 ≤ w.toInt) (h1 : w.toInt ≤ 100010) : Inv F t (s_due v w) := ⟨h.bi0, h.bi1, h0, h1, h.nm, h.pt, h.dd0, h.dd1, h.ce0, h.ce1, h.op0, h.lo0, h.live, h.fx0, h.fx1, h.pa, h.su, h.ib⟩
theorem Inv.new {F : Int} {t : Int32} {c : Int64} {w : Int32} (ht : 0 ≤ t.toInt) (hF : 0 ≤ F) (h0 : 1 ≤ c.toInt) (h1 : c.toInt ≤ 1000000000) : Inv F t (f_join (dNew c t) w).2 := by
  have z : (0 : Int64).toInt = 0 := rfl
  have e : (f_join (dNew c t) w).2 = (c, t, upd (fun _ => 0) 0 w, fun _ => 0, 1, 0, -1, 0, c, 0, 0, 0, 0, 0, 0) := rfl
  rw [e]
  refine ⟨ht, Int.le_refl _, show (-1 : Int) ≤ (-1 : Int32).toInt by decide, show (-1 : Int32).toInt ≤ 100010 by decide, ⟨1, by omega, by omega, rfl, fun k k' a b _ => by omega, fun _ _ => rfl⟩, ⟨0, by omega, rfl, fun e => absurd e (show ¬ (0 : Int32) = 2 by decide)⟩, show (0 : Int) ≤ (0 : Int32).toInt by decide, show (0 : Int32).toInt ≤ 100000 by decide, h0, h1, ?_, show (0 : Int) ≤ (0 : Int64).toInt by decide, fun _ => ⟨h0, rfl⟩, show (0 : Int) ≤ (0 : Int64).toInt by decide, ?_, fun _ => show (0 : Int) ≤ (0 : Int64).toInt by decide, ?_, fun e => absurd e (show ¬ (0 : Int32) = 1 by decide)⟩
  · show 0 ≤ c.toInt
    omega
  · show (0 : Int64).toInt ≤ F
    omega
  · show c.toInt = c.toInt + (0 : Int64).toInt + (0 : Int64).toInt + (0 : Int64).toInt + (0 : Int64).toInt + (0 : Int64).toInt
    omega
