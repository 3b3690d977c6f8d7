def mnL (a b : Int64) : Int64 := if b ≤ a then b else a
theorem mnL_p {a b : Int64} (h : b ≤ a) : b = mnL a b := by rw [mnL, if_pos h]
theorem mnL_n {a b : Int64} (h : ¬ b ≤ a) : a = mnL a b := by rw [mnL, if_neg h]
def dbL (f : Nat → Int32) (b who : Int32) : Nat → Nat → Int32 → Int32
  | _, 0, t => t
  | i, n + 1, t => dbL f b who (i + 1) n (if (f (4 * b + nI i).toNatClampNeg) = who then nI i else t)
def g_debtorOf (y : MT) (b who : Int32) : Int32 := dbL (m_debtor y) b who 0 ((m_debtors y) (b).toNatClampNeg).toNatClampNeg (-1)
set_option maxHeartbeats 4000000 in
set_option maxRecDepth 100000 in
theorem c_M_debtorOf (l : Launch) (D : va_G) (A : Nat → Prop) (w : va_W) (cI cL cD : ClassId) (k h0 : Nat) (ma : Nat → Nat) (y : MT) (b : Int32) (who : Int32) (hU0 : mA w k cI cL h0 ma y) (hw : wfM y) (hok : okM y b) : Met l y_M_debtorOf w_M_debtorOf ({ frames := 0, cells := 0, slots := 0, locals := 0 }) (mPc D w (tyL cI cL cD) A [.ref h0, .int (b), .int (who)]) (vp_Si (fun z9 => z9 = g_debtorOf y b who)) 0 0 (fun _ => False) := by
  refine Met.ofW (cc := b_M_debtorOf) (maxL := 5) (ret := (some .int)) (by decide) rfl ?_
  intro p e s m args below meth c s₁ B hml hv
  obtain ⟨rfl, hP, hK, hD⟩ := hv
  have hx := B.exec
  have hb := B.bytes
  have hr := B.returns
  have hts := atoms_spec (ws := w_M_debtorOf) B.pre
  have hown : s.vm.findClass R_M = some m.cls := findClass_of_methodNamed B.named
  have hlocks := B.notSynchronized
  have hS : va_S A s.heap s.heap [] := va_S.rf
  have hU : mUpd w w k cI cL h0 ma y := mUpd.rf hU0
  have hl := lv_entry ([.ref h0, .int (b), .int (who)]) (n := 5) (Nat.le_of_ble_eq_true rfl)
  rw [lg_entry_eq]
  generalize (lg_sl ([.ref h0, .int (b), .int (who)]) ++ List.replicate (5 - (lg_sl ([.ref h0, .int (b), .int (who)])).length) Slot.unset).toArray = ls at hl ⊢
  have hl : lv_has ls 5 [(0, .ref h0), (1, .int (b)), (2, .int (who))] := hl
  refine lv_iconst (v := -1) hx hb d_M_debtorOf_0 (by decide) ?_
  refine lv_istore_n (lv' := [(3, .int (-1)), (0, .ref h0), (1, .int (b)), (2, .int (who))]) hx hb d_M_debtorOf_1 rfl hl (by decide) rfl (fun ls hl => ?_)
  refine lv_iconst (v := 0) hx hb d_M_debtorOf_2 (by decide) ?_
  refine lv_istore (lv' := [(4, .int (0)), (3, .int (-1)), (0, .ref h0), (1, .int (b)), (2, .int (who))]) hx hb d_M_debtorOf_3 hl (by decide) rfl (fun ls hl => ?_)
  obtain ⟨mm, hmm, em⟩ := hw.2.2.1 (b).toNatClampNeg
  have loop : ∀ (n i : Nat) (t0 : Int32), i + n = mm → dbL (m_debtor y) b who i n t0 = g_debtorOf y b who → ∀ (ls : Array Slot), lv_has ls 5 [(4, .int (nI i)), (3, .int (t0)), (0, .ref h0), (1, .int (b)), (2, .int (who))] → W p l e (headSpec w_M_debtorOf ({ frames := 0, cells := 0, slots := 0, locals := 0 })).room s m [.ref h0, .int (b), .int (who)].toArray below meth c s.heap [] 0 0 (MQ below (vp_Si (fun z9 => z9 = g_debtorOf y b who)) [.ref h0, .int (b), .int (who)].toArray s 0 0 (fun _ => False)) (F0 m 5 ls []) := by
    intro n
    induction n with
    | zero =>
      intro i t0 hin hv ls hl
      refine lv_iload hx hb d_M_debtorOf_5 (lv_at hl 0 rfl) ?_
      refine lv_aload_n hx hb d_M_debtorOf_7 rfl (lv_at hl 2 rfl) ?_
      refine va_get (D := D) (ci := 3) (v := .ref (ma 15)) (C := R_M) (T := F_M) (N := 23) hx hb hts (in_M _) hown hK hP k hU.o rfl 19 (by decide) (hts (.fieldLink R_M 56 "DebtRowsModel" "debtors" "[I") (List.mem_cons_of_mem _ mB_433)) (fun _ h9 => h9) rfl d_M_debtorOf_8 ?_
      refine lv_iload_n hx hb d_M_debtorOf_11 rfl (lv_at hl 3 rfl) ?_
      refine va_iald hx hb hK hP (k + 16) 0 hU.a15 rfl (in_b hw hok) d_M_debtorOf_12 ?_
      refine lv_icmp_ge (tgt := 44) hx hb d_M_debtorOf_13 (by decide) (fun c_385 => ?_) (fun c_385 => ?_)
      · refine lv_iload_n hx hb d_M_debtorOf_44 rfl (lv_at hl 1 rfl) ?_
        exact W.iret (v := t0) hx hb hr (fun t ht hW => ⟨_, rfl, by rw [← hv]; rfl, ht⟩) t_nil d_M_debtorOf_45
      · exact absurd (by rw [em]; exact nI_le (by omega) (by omega)) c_385
    | succ n ih =>
      intro i t0 hin hv ls hl
      refine lv_iload hx hb d_M_debtorOf_5 (lv_at hl 0 rfl) ?_
      refine lv_aload_n hx hb d_M_debtorOf_7 rfl (lv_at hl 2 rfl) ?_
      refine va_get (D := D) (ci := 3) (v := .ref (ma 15)) (C := R_M) (T := F_M) (N := 23) hx hb hts (in_M _) hown hK hP k hU.o rfl 19 (by decide) (hts (.fieldLink R_M 56 "DebtRowsModel" "debtors" "[I") (List.mem_cons_of_mem _ mB_433)) (fun _ h9 => h9) rfl d_M_debtorOf_8 ?_
      refine lv_iload_n hx hb d_M_debtorOf_11 rfl (lv_at hl 3 rfl) ?_
      refine va_iald hx hb hK hP (k + 16) 0 hU.a15 rfl (in_b hw hok) d_M_debtorOf_12 ?_
      refine lv_icmp_ge (tgt := 44) hx hb d_M_debtorOf_13 (by decide) (fun c_386 => ?_) (fun c_386 => ?_)
      · exact absurd c_386 (by rw [em]; exact nI_ge (by omega) (by omega))
      · refine lv_aload_n hx hb d_M_debtorOf_16 rfl (lv_at hl 2 rfl) ?_
        refine va_get (D := D) (ci := 3) (v := .ref (ma 16)) (C := R_M) (T := F_M) (N := 23) hx hb hts (in_M _) hown hK hP k hU.o rfl 20 (by decide) (hts (.fieldLink R_M 59 "DebtRowsModel" "debtor" "[I") (List.mem_cons_of_mem _ mB_434)) (fun _ h9 => h9) rfl d_M_debtorOf_17 ?_
        refine lv_iconst (v := 4) hx hb d_M_debtorOf_20 (by decide) ?_
        refine lv_iload_n hx hb d_M_debtorOf_21 rfl (lv_at hl 3 rfl) ?_
        refine lv_imul hx hb d_M_debtorOf_22 ?_
        refine lv_iload hx hb d_M_debtorOf_23 (lv_at hl 0 rfl) ?_
        refine lv_iadd hx hb d_M_debtorOf_25 ?_
        refine va_iald hx hb hK hP (k + 17) 0 hU.a16 rfl (in_4 hw hok (by omega)) d_M_debtorOf_26 ?_
        refine lv_iload_n hx hb d_M_debtorOf_27 rfl (lv_at hl 4 rfl) ?_
        have kont_c_387 : ∀ v9 : Int32, v9 = (if ((m_debtor y) (((4 * b) + nI i)).toNatClampNeg) = who then nI i else t0) → W p l e (headSpec w_M_debtorOf ({ frames := 0, cells := 0, slots := 0, locals := 0 })).room s m [.ref h0, .int (b), .int (who)].toArray below meth c s.heap [] 0 0 (MQ below (vp_Si (fun z9 => z9 = g_debtorOf y b who)) [.ref h0, .int (b), .int (who)].toArray s 0 0 (fun _ => False)) (F0 m 37 ls (.int v9 :: [])) := by
          intro v9 ev9
          subst ev9
          refine lv_istore_n (lv' := [(3, .int ((if ((m_debtor y) (((4 * b) + nI i)).toNatClampNeg) = who then nI i else t0))), (4, .int (nI i)), (0, .ref h0), (1, .int (b)), (2, .int (who))]) hx hb d_M_debtorOf_37 rfl hl (by decide) rfl (fun ls hl => ?_)
          refine lv_iinc (v := nI (i + 1)) (lv' := [(4, .int (nI (i + 1))), (3, .int ((if ((m_debtor y) (((4 * b) + nI i)).toNatClampNeg) = who then nI i else t0))), (0, .ref h0), (1, .int (b)), (2, .int (who))]) hx hb d_M_debtorOf_38 hl (k := 1) rfl (by first | exact nI_inc i | exact nI_inc (i + 1) | rfl) (by decide) rfl (fun ls hl => ?_)
          refine lv_goto (tgt := 5) hx hb d_M_debtorOf_41 (by decide) ?_
          exact ih (i + 1) ((if ((m_debtor y) (((4 * b) + nI i)).toNatClampNeg) = who then nI i else t0)) (by omega) (by rw [← hv, dbL]) ls (lv_sub hl [0, 1, 2, 3, 4] rfl)
        refine lv_icmp_ne (tgt := 36) hx hb d_M_debtorOf_28 (by decide) (fun c_387 => ?_) (fun c_387 => ?_)
        · refine lv_iload_n hx hb d_M_debtorOf_36 rfl (lv_at hl 1 rfl) ?_
          exact kont_c_387 _ (by rw [if_neg c_387])
        · refine lv_iload hx hb d_M_debtorOf_31 (lv_at hl 0 rfl) ?_
          refine lv_goto (tgt := 37) hx hb d_M_debtorOf_33 (by decide) ?_
          exact kont_c_387 _ (by rw [if_pos c_387])
  exact loop mm 0 (-1) (by omega) (by rw [g_debtorOf, em, nI_clamp (by omega)]) ls hl
theorem dbL_ix (f : Nat → Int32) (b who : Int32) : ∀ (n i : Nat) (t : Int32), i + n ≤ 4 → (t = -1 ∨ ∃ j : Nat, j < i ∧ t = nI j) → (dbL f b who i n t = -1 ∨ ∃ j : Nat, j < i + n ∧ dbL f b who i n t = nI j) := by
  intro n
  induction n with
  | zero => intro i t _ h; exact h
  | succ n ih =>
    intro i t h h2
    rw [dbL, show i + (n + 1) = (i + 1) + n by omega]
    refine ih (i + 1) _ (by omega) ?_
    by_cases c : f (4 * b + nI i).toNatClampNeg = who
    · rw [if_pos c]; exact Or.inr ⟨i, by omega, rfl⟩
    · rw [if_neg c]
      rcases h2 with h2 | ⟨j, hj, e⟩
      · exact Or.inl h2
      · exact Or.inr ⟨j, by omega, e⟩
theorem db_ix {y : MT} {b who : Int32} (hw : wfM y) (h : ¬ g_debtorOf y b who < 0) : ∃ (j k : Nat), j < k ∧ k ≤ 4 ∧ (m_debtors y) (b).toNatClampNeg = nI k ∧ g_debtorOf y b who = nI j := by
  obtain ⟨k, hk, ek⟩ := hw.2.2.1 (b).toNatClampNeg
  unfold g_debtorOf at h ⊢
  rw [ek, nI_clamp (by omega)] at h ⊢
  rcases dbL_ix (m_debtor y) b who k 0 (-1) (by omega) (Or.inl rfl) with q | ⟨j, hj, e⟩
  · rw [q] at h; exact absurd (by decide) h
  · exact ⟨j, k, by omega, hk, rfl, e⟩
theorem in_4g {y : MT} {b who : Int32} (hw : wfM y) (hok : okM y b) (h : ¬ g_debtorOf y b who < 0) : vp_in (4 * b + g_debtorOf y b who) 164 := by
  obtain ⟨j, k, h1, h2, -, e⟩ := db_ix hw h
  rw [e]; exact in_4 hw hok (by omega)
theorem db_nz {y : MT} {b who : Int32} (hw : wfM y) (h : ¬ g_debtorOf y b who < 0) : ¬ ((m_debtors y) (b).toNatClampNeg : Int32).toInt64 = 0 := by
  obtain ⟨j, k, h1, h2, e, -⟩ := db_ix hw h
  refine n64_0 ?_
  rw [e]; exact (show nI 1 ≤ nI k from nI_le (by omega) (by omega))
theorem in_look {y : MT} {b x : Int32} (hw : wfM y) (hok : okM y b) (h : ¬ x < 0) (h2 : x ≤ 3 + ((m_debtors y) (b).toNatClampNeg)) (h3 : ¬ x = 0) (h4 : ¬ x = 1) (h5 : ¬ x = 2) (h6 : ¬ x = 3) : vp_in (4 * b + x - 4) 164 := by
  obtain ⟨k, hk, ek⟩ := hw.2.2.1 (b).toNatClampNeg
  obtain ⟨j, hj, rfl⟩ := nI_of h
  rw [ek, show (3 : Int32) = nI 3 from rfl, nI_add, nI_leI hj (by omega)] at h2
  have : j ≠ 0 := fun q => h3 (by rw [q]; rfl)
  have : j ≠ 1 := fun q => h4 (by rw [q]; rfl)
  have : j ≠ 2 := fun q => h5 (by rw [q]; rfl)
  have : j ≠ 3 := fun q => h6 (by rw [q]; rfl)
  obtain ⟨n, hn, en⟩ := hw.1
  obtain ⟨q, h7, h8, rfl⟩ := okM_ix hok en hn
  rw [show (4 : Int32) = nI 4 from rfl, pk_mul, nI_add, pk_sub (by omega)]
  exact vp_in_nI (by omega) (by decide)
theorem in_row {y : MT} {i : Nat} {m : Nat} (em : m_rates y = nI m) (hm : m ≤ 20) (hi : i < m) (h : ¬ m_rates y ≤ (nI i + 1)) : vp_in (nI i + 1) 20 := by
  rw [em, nI_1] at h
  rw [nI_1]
  rcases Nat.lt_or_ge (i + 1) m with q | q
  · exact vp_in_nI (by omega) (by decide)
  · exact absurd (nI_le q (by omega)) h
theorem nz_parts {x : Int32} {i : Nat} (hi : 1 ≤ i) (hi2 : i < 100) (h : ¬ x < nI i) : ¬ x.toInt64 = 0 := by
  refine n64_0 ?_
  rw [Int32.lt_iff_toInt_lt, nI_toInt (by omega)] at h
  rw [Int32.le_iff_toInt_le, show (1 : Int32).toInt = 1 from by decide]
  omega
def g_debtor (y : MT) (b : Int32) (who : Int32) : Int32 × MT :=
  if (g_isDebt (n_thrown y (0)) (b)) = 0 then (0, (n_thrown y (0)))
  else if (g_isPerson (who)) = 0 then (0, (n_thrown y (0)))
    else if ((m_state y) (b).toNatClampNeg) = 0 then (if ((m_debtors y) (b).toNatClampNeg) = 4 then (0, (n_thrown y (0)))
        else if (g_debtorOf y (b) (who)) < 0 then (1, (n_debtors (n_debtor (n_thrown y (0)) (upd (m_debtor y) (((4 * b) + ((m_debtors y) (b).toNatClampNeg))).toNatClampNeg (who))) (upd (m_debtors y) (b).toNatClampNeg ((((m_debtors y) (b).toNatClampNeg) + 1)))))
          else (0, (n_thrown y (0))))
      else (0, (n_thrown y (0)))
set_option maxHeartbeats 4000000 in
set_option maxRecDepth 100000 in
theorem c_M_debtor (l : Launch) (D : va_G) (A : Nat → Prop) (w : va_W) (cI cL cD : ClassId) (k h0 : Nat) (ma : Nat → Nat) (y : MT) (b : Int32) (who : Int32) (hU0 : mA w k cI cL h0 ma y) (hw : wfM y) : Met l y_M_debtor w_M_debtor ({ frames := 1, cells := 0, slots := 0, locals := 24 }) (mPc D w (tyL cI cL cD) A [.ref h0, .int (b), .int (who)]) (va_Qi (fun z9 (_ : Unit) => z9 = (g_debtor y b who).1) (fun (_ : Unit) t => ∃ w9 : va_W, va_P D vwCl w9 t.heap ∧ va_D A w9 ∧ mUpd w w9 k cI cL h0 ma ((g_debtor y b who).2)) A) 0 0 A := by
  refine Met.ofW (cc := b_M_debtor) (maxL := 3) (ret := (some .boolean)) (by decide) rfl ?_
  intro p e s m args below meth c s₁ B hml hv
  obtain ⟨rfl, hP, hK, hD⟩ := hv
  have hx := B.exec
  have hb := B.bytes
  have hr := B.returns
  have hts := atoms_spec (ws := w_M_debtor) B.pre
  have hown : s.vm.findClass R_M = some m.cls := findClass_of_methodNamed B.named
  have hlocks := B.notSynchronized
  have hS : va_S A s.heap s.heap [] := va_S.rf
  have hU : mUpd w w k cI cL h0 ma y := mUpd.rf hU0
  have hl := lv_entry ([.ref h0, .int (b), .int (who)]) (n := 3) (Nat.le_of_ble_eq_true rfl)
  rw [lg_entry_eq]
  generalize (lg_sl ([.ref h0, .int (b), .int (who)]) ++ List.replicate (3 - (lg_sl ([.ref h0, .int (b), .int (who)])).length) Slot.unset).toArray = ls at hl ⊢
  have hl : lv_has ls 3 [(0, .ref h0), (1, .int (b)), (2, .int (who))] := hl
  refine lv_aload_n hx hb d_M_debtor_0 rfl (lv_at hl 0 rfl) ?_
  refine lv_iconst (v := 0) hx hb d_M_debtor_1 (by decide) ?_
  refine va_put (D := D) (ci := 3) (v := .int (0)) (ty := .int) (C := R_M) (T := F_M) (N := 23) hx hb hts (in_M _) t_M to_M nn_M hown hK hP hD hS k hU.o rfl 0 (by decide) (hts (.fieldLink R_M 68 "DebtRowsModel" "thrown" "I") (List.mem_cons_of_mem _ mB_414)) (fun _ h9 => h9) rfl (by decide +kernel) rfl rfl (Nat.le_of_ble_eq_true rfl) d_M_debtor_2 (fun H locs hP hD hS => ?_)
  have hU := hU.s_thrown (0)
  have hP : va_P D vwCl (w.set k (h0, mE ma (n_thrown y (0)))) H := hP
  have hD : va_D A (w.set k (h0, mE ma (n_thrown y (0)))) := hD
  generalize w.set k (h0, mE ma (n_thrown y (0))) = w_388 at hP hD hU
  refine lv_aload_n hx hb d_M_debtor_5 rfl (lv_at hl 0 rfl) ?_
  refine lv_iload_n hx hb d_M_debtor_6 rfl (lv_at hl 1 rfl) ?_
  refine vp_callSi (W.runV (As := [.int (b)]) (rest := []) ⟨hx, hb, hml, hown, hts⟩ (c_M_isDebt l D A w_388 cI cL cD k h0 ma (n_thrown y (0)) (b) hU.1) (cwV 1 hts (gV _ mB_488 mB_489 mB_5 mB_17 mB_490) rfl rfl rfl (by decide +kernel) ⟨(Nat.le_of_ble_eq_true rfl), (Nat.le_of_ble_eq_true rfl)⟩) ⟨mPc_bl, va_recv hK hP (ci := 3) (q0 := k) rfl hU.o, mPc_pr hP hK hD⟩ rfl rfl hl.1 rfl (lv_room (Nat.le_of_ble_eq_true rfl)) d_M_debtor_7 ⟨Nat.zero_le _, Nat.zero_le _⟩) (fun v_389 ev_389 => ?_)
  subst ev_389
  refine lv_if_eq (tgt := 48) hx hb d_M_debtor_10 (by decide) (fun c_390 => ?_) (fun c_390 => ?_)
  · refine lv_iconst (v := 0) hx hb d_M_debtor_48 (by decide) ?_
    exact W.zret (v := 0) hx hb hr rfl (fun t ht hW => ⟨⟨_, (), rfl, by rw [g_debtor, if_pos c_390], w_388, by rw [ht]; exact hP, hD, by rw [g_debtor, if_pos c_390]; exact hU⟩, hS.F ht⟩) hS.2.2 d_M_debtor_49
  · refine lv_iload_n hx hb d_M_debtor_13 rfl (lv_at hl 2 rfl) ?_
    refine vp_callSi (W.runS (As := [.int (who)]) (rest := []) ⟨hx, hb, hml, hown, hts⟩ (c_M_isPerson l (who)) (cwS 1 hts (gS _ mB_481 mB_482 mB_17 mB_483) rfl rfl rfl (by decide +kernel) ⟨(Nat.le_of_ble_eq_true rfl), (Nat.le_of_ble_eq_true rfl)⟩) ⟨fun _ _ _ _ q => q, fun U _ _ => ⟨rfl, trivial⟩⟩ rfl rfl hl.1 rfl (lv_room (Nat.le_of_ble_eq_true rfl)) d_M_debtor_14 ⟨Nat.zero_le _, Nat.zero_le _⟩) (fun v_391 ev_391 => ?_)
    subst ev_391
    refine lv_if_eq (tgt := 48) hx hb d_M_debtor_17 (by decide) (fun c_392 => ?_) (fun c_392 => ?_)
    · refine lv_iconst (v := 0) hx hb d_M_debtor_48 (by decide) ?_
      exact W.zret (v := 0) hx hb hr rfl (fun t ht hW => ⟨⟨_, (), rfl, by rw [g_debtor, if_neg c_390, if_pos c_392], w_388, by rw [ht]; exact hP, hD, by rw [g_debtor, if_neg c_390, if_pos c_392]; exact hU⟩, hS.F ht⟩) hS.2.2 d_M_debtor_49
    · refine lv_aload_n hx hb d_M_debtor_20 rfl (lv_at hl 0 rfl) ?_
      refine va_get (D := D) (ci := 3) (v := .ref (ma 3)) (C := R_M) (T := F_M) (N := 23) hx hb hts (in_M _) hown hK hP k hU.o rfl 7 (by decide) (hts (.fieldLink R_M 19 "DebtRowsModel" "state" "[I") (List.mem_cons_of_mem _ mB_421)) (fun _ h9 => h9) rfl d_M_debtor_21 ?_
      refine lv_iload_n hx hb d_M_debtor_24 rfl (lv_at hl 1 rfl) ?_
      refine va_iald hx hb hK hP (k + 4) 0 hU.a3 rfl (in_b hw (ok_of c_390)) d_M_debtor_25 ?_
      refine lv_if_ne (tgt := 48) hx hb d_M_debtor_26 (by decide) (fun c_393 => ?_) (fun c_393 => ?_)
      · refine lv_iconst (v := 0) hx hb d_M_debtor_48 (by decide) ?_
        exact W.zret (v := 0) hx hb hr rfl (fun t ht hW => ⟨⟨_, (), rfl, by rw [g_debtor, if_neg c_390, if_neg c_392, if_neg c_393], w_388, by rw [ht]; exact hP, hD, by rw [g_debtor, if_neg c_390, if_neg c_392, if_neg c_393]; exact hU⟩, hS.F ht⟩) hS.2.2 d_M_debtor_49
      · refine lv_aload_n hx hb d_M_debtor_29 rfl (lv_at hl 0 rfl) ?_
        refine va_get (D := D) (ci := 3) (v := .ref (ma 15)) (C := R_M) (T := F_M) (N := 23) hx hb hts (in_M _) hown hK hP k hU.o rfl 19 (by decide) (hts (.fieldLink R_M 56 "DebtRowsModel" "debtors" "[I") (List.mem_cons_of_mem _ mB_433)) (fun _ h9 => h9) rfl d_M_debtor_30 ?_
        refine lv_iload_n hx hb d_M_debtor_33 rfl (lv_at hl 1 rfl) ?_
        refine va_iald hx hb hK hP (k + 16) 0 hU.a15 rfl (in_b hw (ok_of c_390)) d_M_debtor_34 ?_
        refine lv_iconst (v := 4) hx hb d_M_debtor_35 (by decide) ?_
        refine lv_icmp_eq (tgt := 48) hx hb d_M_debtor_36 (by decide) (fun c_394 => ?_) (fun c_394 => ?_)
        · refine lv_iconst (v := 0) hx hb d_M_debtor_48 (by decide) ?_
          exact W.zret (v := 0) hx hb hr rfl (fun t ht hW => ⟨⟨_, (), rfl, by rw [g_debtor, if_neg c_390, if_neg c_392, if_pos c_393, if_pos c_394], w_388, by rw [ht]; exact hP, hD, by rw [g_debtor, if_neg c_390, if_neg c_392, if_pos c_393, if_pos c_394]; exact hU⟩, hS.F ht⟩) hS.2.2 d_M_debtor_49
        · refine lv_aload_n hx hb d_M_debtor_39 rfl (lv_at hl 0 rfl) ?_
          refine lv_iload_n hx hb d_M_debtor_40 rfl (lv_at hl 1 rfl) ?_
          refine lv_iload_n hx hb d_M_debtor_41 rfl (lv_at hl 2 rfl) ?_
          refine vp_callSi (W.runV (As := [.int (b), .int (who)]) (rest := []) ⟨hx, hb, hml, hown, hts⟩ (c_M_debtorOf l D A w_388 cI cL cD k h0 ma (n_thrown y (0)) (b) (who) hU.1 hw (ok_of c_390)) (cwV 2 hts (gV _ mB_491 mB_492 mB_6 mB_17 mB_493) rfl rfl rfl (by decide +kernel) ⟨(Nat.le_of_ble_eq_true rfl), (Nat.le_of_ble_eq_true rfl)⟩) ⟨mPc_bl, va_recv hK hP (ci := 3) (q0 := k) rfl hU.o, mPc_pr hP hK hD⟩ rfl rfl hl.1 rfl (lv_room (Nat.le_of_ble_eq_true rfl)) d_M_debtor_42 ⟨Nat.zero_le _, Nat.zero_le _⟩) (fun v_395 ev_395 => ?_)
          have ev_395 : v_395 = g_debtorOf y (b) (who) := ev_395
          subst ev_395
          refine lv_if_lt (tgt := 50) hx hb d_M_debtor_45 (by decide) (fun c_396 => ?_) (fun c_396 => ?_)
          · refine lv_aload_n hx hb d_M_debtor_50 rfl (lv_at hl 0 rfl) ?_
            refine va_get (D := D) (ci := 3) (v := .ref (ma 16)) (C := R_M) (T := F_M) (N := 23) hx hb hts (in_M _) hown hK hP k hU.o rfl 20 (by decide) (hts (.fieldLink R_M 59 "DebtRowsModel" "debtor" "[I") (List.mem_cons_of_mem _ mB_434)) (fun _ h9 => h9) rfl d_M_debtor_51 ?_
            refine lv_iconst (v := 4) hx hb d_M_debtor_54 (by decide) ?_
            refine lv_iload_n hx hb d_M_debtor_55 rfl (lv_at hl 1 rfl) ?_
            refine lv_imul hx hb d_M_debtor_56 ?_
            refine lv_aload_n hx hb d_M_debtor_57 rfl (lv_at hl 0 rfl) ?_
            refine va_get (D := D) (ci := 3) (v := .ref (ma 15)) (C := R_M) (T := F_M) (N := 23) hx hb hts (in_M _) hown hK hP k hU.o rfl 19 (by decide) (hts (.fieldLink R_M 56 "DebtRowsModel" "debtors" "[I") (List.mem_cons_of_mem _ mB_433)) (fun _ h9 => h9) rfl d_M_debtor_58 ?_
            refine lv_iload_n hx hb d_M_debtor_61 rfl (lv_at hl 1 rfl) ?_
            refine va_iald hx hb hK hP (k + 16) 0 hU.a15 rfl (in_b hw (ok_of c_390)) d_M_debtor_62 ?_
            refine lv_iadd hx hb d_M_debtor_63 ?_
            refine lv_iload_n hx hb d_M_debtor_64 rfl (lv_at hl 2 rfl) ?_
            refine va_iast hx hb hK hP hD hS (k + 17) 0 hU.a16 rfl (in_4d hw (ok_of c_390) c_394) d_M_debtor_65 (fun H locs hP hD hS => ?_)
            have hU := hU.s_debtor (upd (m_debtor y) (((4 * b) + ((m_debtors y) (b).toNatClampNeg))).toNatClampNeg (who))
            have hP : va_P D vwCl (w_388.set (k + 17) (ma 16, aI cI 164 (upd (m_debtor y) (((4 * b) + ((m_debtors y) (b).toNatClampNeg))).toNatClampNeg (who)))) H := hP
            have hD : va_D A (w_388.set (k + 17) (ma 16, aI cI 164 (upd (m_debtor y) (((4 * b) + ((m_debtors y) (b).toNatClampNeg))).toNatClampNeg (who)))) := hD
            generalize w_388.set (k + 17) (ma 16, aI cI 164 (upd (m_debtor y) (((4 * b) + ((m_debtors y) (b).toNatClampNeg))).toNatClampNeg (who))) = w_397 at hP hD hU
            refine lv_aload_n hx hb d_M_debtor_66 rfl (lv_at hl 0 rfl) ?_
            refine va_get (D := D) (ci := 3) (v := .ref (ma 15)) (C := R_M) (T := F_M) (N := 23) hx hb hts (in_M _) hown hK hP k hU.o rfl 19 (by decide) (hts (.fieldLink R_M 56 "DebtRowsModel" "debtors" "[I") (List.mem_cons_of_mem _ mB_433)) (fun _ h9 => h9) rfl d_M_debtor_67 ?_
            refine lv_iload_n hx hb d_M_debtor_70 rfl (lv_at hl 1 rfl) ?_
            refine lv_dup2_11 hx hb d_M_debtor_71 rfl rfl ?_
            refine va_iald hx hb hK hP (k + 16) 0 hU.a15 rfl (in_b hw (ok_of c_390)) d_M_debtor_72 ?_
            refine lv_iconst (v := 1) hx hb d_M_debtor_73 (by decide) ?_
            refine lv_iadd hx hb d_M_debtor_74 ?_
            refine va_iast hx hb hK hP hD hS (k + 16) 0 hU.a15 rfl (in_b hw (ok_of c_390)) d_M_debtor_75 (fun H locs hP hD hS => ?_)
            have hU := hU.s_debtors (upd (m_debtors y) (b).toNatClampNeg ((((m_debtors y) (b).toNatClampNeg) + 1)))
            have hP : va_P D vwCl (w_397.set (k + 16) (ma 15, aI cI 41 (upd (m_debtors y) (b).toNatClampNeg ((((m_debtors y) (b).toNatClampNeg) + 1))))) H := hP
            have hD : va_D A (w_397.set (k + 16) (ma 15, aI cI 41 (upd (m_debtors y) (b).toNatClampNeg ((((m_debtors y) (b).toNatClampNeg) + 1))))) := hD
            generalize w_397.set (k + 16) (ma 15, aI cI 41 (upd (m_debtors y) (b).toNatClampNeg ((((m_debtors y) (b).toNatClampNeg) + 1)))) = w_398 at hP hD hU
            refine lv_iconst (v := 1) hx hb d_M_debtor_76 (by decide) ?_
            exact W.zret (v := 1) hx hb hr rfl (fun t ht hW => ⟨⟨_, (), rfl, by rw [g_debtor, if_neg c_390, if_neg c_392, if_pos c_393, if_neg c_394, if_pos c_396], w_398, by rw [ht]; exact hP, hD, by rw [g_debtor, if_neg c_390, if_neg c_392, if_pos c_393, if_neg c_394, if_pos c_396]; exact hU⟩, hS.F ht⟩) hS.2.2 d_M_debtor_77
          · refine lv_iconst (v := 0) hx hb d_M_debtor_48 (by decide) ?_
            exact W.zret (v := 0) hx hb hr rfl (fun t ht hW => ⟨⟨_, (), rfl, by rw [g_debtor, if_neg c_390, if_neg c_392, if_pos c_393, if_neg c_394, if_neg c_396], w_388, by rw [ht]; exact hP, hD, by rw [g_debtor, if_neg c_390, if_neg c_392, if_pos c_393, if_neg c_394, if_neg c_396]; exact hU⟩, hS.F ht⟩) hS.2.2 d_M_debtor_49
def g_notified (y : MT) (b : Int32) : Int32 × MT :=
  if (g_isDebt y (b)) = 0 then ((g_fails y (1)).1, (g_fails y (1)).2)
  else if ((m_state y) (b).toNatClampNeg) = 0 then (if m_today y ≤ (((m_born y) (b).toNatClampNeg) + 1095) then (((m_today y + 10)), (n_runsFrom (n_dueDay (n_state (n_thrown y (0)) (upd (m_state y) (b).toNatClampNeg (1))) (upd (m_dueDay y) (b).toNatClampNeg ((m_today y + 10)))) (upd (m_runsFrom y) (b).toNatClampNeg (((m_today y + 10))))))
      else (0, (n_thrown y (0))))
    else (0, (n_thrown y (0)))
set_option maxHeartbeats 4000000 in
set_option maxRecDepth 100000 in
theorem c_M_notified (l : Launch) (D : va_G) (A : Nat → Prop) (w : va_W) (cI cL cD : ClassId) (k h0 : Nat) (ma : Nat → Nat) (y : MT) (b : Int32) (hU0 : mA w k cI cL h0 ma y) (hw : wfM y) : Met l y_M_notified w_M_notified ({ frames := 1, cells := 0, slots := 0, locals := 21 }) (mPc D w (tyL cI cL cD) A [.ref h0, .int (b)]) (va_Qi (fun z9 (_ : Unit) => z9 = (g_notified y b).1) (fun (_ : Unit) t => ∃ w9 : va_W, va_P D vwCl w9 t.heap ∧ va_D A w9 ∧ mUpd w w9 k cI cL h0 ma ((g_notified y b).2)) A) 0 0 A := by
  refine Met.ofW (cc := b_M_notified) (maxL := 2) (ret := (some .int)) (by decide) rfl ?_
  intro p e s m args below meth c s₁ B hml hv
  obtain ⟨rfl, hP, hK, hD⟩ := hv
  have hx := B.exec
  have hb := B.bytes
  have hr := B.returns
  have hts := atoms_spec (ws := w_M_notified) B.pre
  have hown : s.vm.findClass R_M = some m.cls := findClass_of_methodNamed B.named
  have hlocks := B.notSynchronized
  have hS : va_S A s.heap s.heap [] := va_S.rf
  have hU : mUpd w w k cI cL h0 ma y := mUpd.rf hU0
  have hl := lv_entry ([.ref h0, .int (b)]) (n := 2) (Nat.le_of_ble_eq_true rfl)
  rw [lg_entry_eq]
  generalize (lg_sl ([.ref h0, .int (b)]) ++ List.replicate (2 - (lg_sl ([.ref h0, .int (b)])).length) Slot.unset).toArray = ls at hl ⊢
  have hl : lv_has ls 2 [(0, .ref h0), (1, .int (b))] := hl
  refine lv_aload_n hx hb d_M_notified_0 rfl (lv_at hl 0 rfl) ?_
  refine lv_iload_n hx hb d_M_notified_1 rfl (lv_at hl 1 rfl) ?_
  refine vp_callSi (W.runV (As := [.int (b)]) (rest := []) ⟨hx, hb, hml, hown, hts⟩ (c_M_isDebt l D A w cI cL cD k h0 ma y (b) hU.1) (cwV 1 hts (gV _ mB_488 mB_489 mB_5 mB_17 mB_490) rfl rfl rfl (by decide +kernel) ⟨(Nat.le_of_ble_eq_true rfl), (Nat.le_of_ble_eq_true rfl)⟩) ⟨mPc_bl, va_recv hK hP (ci := 3) (q0 := k) rfl hU.o, mPc_pr hP hK hD⟩ rfl rfl hl.1 rfl (lv_room (Nat.le_of_ble_eq_true rfl)) d_M_notified_2 ⟨Nat.zero_le _, Nat.zero_le _⟩) (fun v_399 ev_399 => ?_)
  subst ev_399
  refine lv_if_ne (tgt := 14) hx hb d_M_notified_5 (by decide) (fun c_400 => ?_) (fun c_400 => ?_)
  · refine lv_aload_n hx hb d_M_notified_14 rfl (lv_at hl 0 rfl) ?_
    refine lv_iconst (v := 0) hx hb d_M_notified_15 (by decide) ?_
    refine va_put (D := D) (ci := 3) (v := .int (0)) (ty := .int) (C := R_M) (T := F_M) (N := 23) hx hb hts (in_M _) t_M to_M nn_M hown hK hP hD hS k hU.o rfl 0 (by decide) (hts (.fieldLink R_M 68 "DebtRowsModel" "thrown" "I") (List.mem_cons_of_mem _ mB_414)) (fun _ h9 => h9) rfl (by decide +kernel) rfl rfl (Nat.le_of_ble_eq_true rfl) d_M_notified_16 (fun H locs hP hD hS => ?_)
    have hU := hU.s_thrown (0)
    have hP : va_P D vwCl (w.set k (h0, mE ma (n_thrown y (0)))) H := hP
    have hD : va_D A (w.set k (h0, mE ma (n_thrown y (0)))) := hD
    generalize w.set k (h0, mE ma (n_thrown y (0))) = w_401 at hP hD hU
    refine lv_aload_n hx hb d_M_notified_19 rfl (lv_at hl 0 rfl) ?_
    refine va_get (D := D) (ci := 3) (v := .ref (ma 3)) (C := R_M) (T := F_M) (N := 23) hx hb hts (in_M _) hown hK hP k hU.o rfl 7 (by decide) (hts (.fieldLink R_M 19 "DebtRowsModel" "state" "[I") (List.mem_cons_of_mem _ mB_421)) (fun _ h9 => h9) rfl d_M_notified_20 ?_
    refine lv_iload_n hx hb d_M_notified_23 rfl (lv_at hl 1 rfl) ?_
    refine va_iald hx hb hK hP (k + 4) 0 hU.a3 rfl (in_b hw (ok_of c_400)) d_M_notified_24 ?_
    refine lv_if_ne (tgt := 45) hx hb d_M_notified_25 (by decide) (fun c_402 => ?_) (fun c_402 => ?_)
    · refine lv_iconst (v := 0) hx hb d_M_notified_45 (by decide) ?_
      exact W.iret (v := 0) hx hb hr (fun t ht hW => ⟨⟨_, (), rfl, by rw [g_notified, if_neg c_400, if_neg c_402], w_401, by rw [ht]; exact hP, hD, by rw [g_notified, if_neg c_400, if_neg c_402]; exact hU⟩, hS.F ht⟩) hS.2.2 d_M_notified_46
    · refine lv_aload_n hx hb d_M_notified_28 rfl (lv_at hl 0 rfl) ?_
      refine va_get (D := D) (ci := 3) (v := .int (m_today y)) (C := R_M) (T := F_M) (N := 23) hx hb hts (in_M _) hown hK hP k hU.o rfl 1 (by decide) (hts (.fieldLink R_M 79 "DebtRowsModel" "today" "I") (List.mem_cons_of_mem _ mB_415)) (fun _ h9 => h9) rfl d_M_notified_29 ?_
      refine lv_aload_n hx hb d_M_notified_32 rfl (lv_at hl 0 rfl) ?_
      refine va_get (D := D) (ci := 3) (v := .ref (ma 4)) (C := R_M) (T := F_M) (N := 23) hx hb hts (in_M _) hown hK hP k hU.o rfl 8 (by decide) (hts (.fieldLink R_M 22 "DebtRowsModel" "born" "[I") (List.mem_cons_of_mem _ mB_422)) (fun _ h9 => h9) rfl d_M_notified_33 ?_
      refine lv_iload_n hx hb d_M_notified_36 rfl (lv_at hl 1 rfl) ?_
      refine va_iald hx hb hK hP (k + 5) 0 hU.a4 rfl (in_b hw (ok_of c_400)) d_M_notified_37 ?_
      refine lv_sipush (v := 1095) hx hb d_M_notified_38 (by decide) ?_
      refine lv_iadd hx hb d_M_notified_41 ?_
      refine lv_icmp_le (tgt := 47) hx hb d_M_notified_42 (by decide) (fun c_403 => ?_) (fun c_403 => ?_)
      · refine lv_aload_n hx hb d_M_notified_47 rfl (lv_at hl 0 rfl) ?_
        refine va_get (D := D) (ci := 3) (v := .ref (ma 3)) (C := R_M) (T := F_M) (N := 23) hx hb hts (in_M _) hown hK hP k hU.o rfl 7 (by decide) (hts (.fieldLink R_M 19 "DebtRowsModel" "state" "[I") (List.mem_cons_of_mem _ mB_421)) (fun _ h9 => h9) rfl d_M_notified_48 ?_
        refine lv_iload_n hx hb d_M_notified_51 rfl (lv_at hl 1 rfl) ?_
        refine lv_iconst (v := 1) hx hb d_M_notified_52 (by decide) ?_
        refine va_iast hx hb hK hP hD hS (k + 4) 0 hU.a3 rfl (in_b hw (ok_of c_400)) d_M_notified_53 (fun H locs hP hD hS => ?_)
        have hU := hU.s_state (upd (m_state y) (b).toNatClampNeg (1))
        have hP : va_P D vwCl (w_401.set (k + 4) (ma 3, aI cI 41 (upd (m_state y) (b).toNatClampNeg (1)))) H := hP
        have hD : va_D A (w_401.set (k + 4) (ma 3, aI cI 41 (upd (m_state y) (b).toNatClampNeg (1)))) := hD
        generalize w_401.set (k + 4) (ma 3, aI cI 41 (upd (m_state y) (b).toNatClampNeg (1))) = w_404 at hP hD hU
        refine lv_aload_n hx hb d_M_notified_54 rfl (lv_at hl 0 rfl) ?_
        refine va_get (D := D) (ci := 3) (v := .ref (ma 5)) (C := R_M) (T := F_M) (N := 23) hx hb hts (in_M _) hown hK hP k hU.o rfl 9 (by decide) (hts (.fieldLink R_M 25 "DebtRowsModel" "dueDay" "[I") (List.mem_cons_of_mem _ mB_423)) (fun _ h9 => h9) rfl d_M_notified_55 ?_
        refine lv_iload_n hx hb d_M_notified_58 rfl (lv_at hl 1 rfl) ?_
        refine lv_aload_n hx hb d_M_notified_59 rfl (lv_at hl 0 rfl) ?_
        refine va_get (D := D) (ci := 3) (v := .int (m_today y)) (C := R_M) (T := F_M) (N := 23) hx hb hts (in_M _) hown hK hP k hU.o rfl 1 (by decide) (hts (.fieldLink R_M 79 "DebtRowsModel" "today" "I") (List.mem_cons_of_mem _ mB_415)) (fun _ h9 => h9) rfl d_M_notified_60 ?_
        refine lv_bipush (v := 10) hx hb d_M_notified_63 (by decide) ?_
        refine lv_iadd hx hb d_M_notified_65 ?_
        refine va_iast hx hb hK hP hD hS (k + 6) 0 hU.a5 rfl (in_b hw (ok_of c_400)) d_M_notified_66 (fun H locs hP hD hS => ?_)
        have hU := hU.s_dueDay (upd (m_dueDay y) (b).toNatClampNeg ((m_today y + 10)))
        have hP : va_P D vwCl (w_404.set (k + 6) (ma 5, aI cI 41 (upd (m_dueDay y) (b).toNatClampNeg ((m_today y + 10))))) H := hP
        have hD : va_D A (w_404.set (k + 6) (ma 5, aI cI 41 (upd (m_dueDay y) (b).toNatClampNeg ((m_today y + 10))))) := hD
        generalize w_404.set (k + 6) (ma 5, aI cI 41 (upd (m_dueDay y) (b).toNatClampNeg ((m_today y + 10)))) = w_405 at hP hD hU
        refine lv_aload_n hx hb d_M_notified_67 rfl (lv_at hl 0 rfl) ?_
        refine va_get (D := D) (ci := 3) (v := .ref (ma 10)) (C := R_M) (T := F_M) (N := 23) hx hb hts (in_M _) hown hK hP k hU.o rfl 14 (by decide) (hts (.fieldLink R_M 41 "DebtRowsModel" "runsFrom" "[I") (List.mem_cons_of_mem _ mB_428)) (fun _ h9 => h9) rfl d_M_notified_68 ?_
        refine lv_iload_n hx hb d_M_notified_71 rfl (lv_at hl 1 rfl) ?_
        refine lv_aload_n hx hb d_M_notified_72 rfl (lv_at hl 0 rfl) ?_
        refine va_get (D := D) (ci := 3) (v := .ref (ma 5)) (C := R_M) (T := F_M) (N := 23) hx hb hts (in_M _) hown hK hP k hU.o rfl 9 (by decide) (hts (.fieldLink R_M 25 "DebtRowsModel" "dueDay" "[I") (List.mem_cons_of_mem _ mB_423)) (fun _ h9 => h9) rfl d_M_notified_73 ?_
        refine lv_iload_n hx hb d_M_notified_76 rfl (lv_at hl 1 rfl) ?_
        refine va_iald hx hb hK hP (k + 6) 0 hU.a5 rfl (in_b hw (ok_of c_400)) d_M_notified_77 ?_
        refine lv_topi (fun v_406 ev_406 => ?_)
        have ev_406 : v_406 = (m_today y + 10) := ev_406.trans pk_us
        subst ev_406
        refine va_iast hx hb hK hP hD hS (k + 11) 0 hU.a10 rfl (in_b hw (ok_of c_400)) d_M_notified_78 (fun H locs hP hD hS => ?_)
        have hU := hU.s_runsFrom (upd (m_runsFrom y) (b).toNatClampNeg (((m_today y + 10))))
        have hP : va_P D vwCl (w_405.set (k + 11) (ma 10, aI cI 41 (upd (m_runsFrom y) (b).toNatClampNeg (((m_today y + 10)))))) H := hP
        have hD : va_D A (w_405.set (k + 11) (ma 10, aI cI 41 (upd (m_runsFrom y) (b).toNatClampNeg (((m_today y + 10)))))) := hD
        generalize w_405.set (k + 11) (ma 10, aI cI 41 (upd (m_runsFrom y) (b).toNatClampNeg (((m_today y + 10))))) = w_407 at hP hD hU
        refine lv_aload_n hx hb d_M_notified_79 rfl (lv_at hl 0 rfl) ?_
        refine va_get (D := D) (ci := 3) (v := .ref (ma 5)) (C := R_M) (T := F_M) (N := 23) hx hb hts (in_M _) hown hK hP k hU.o rfl 9 (by decide) (hts (.fieldLink R_M 25 "DebtRowsModel" "dueDay" "[I") (List.mem_cons_of_mem _ mB_423)) (fun _ h9 => h9) rfl d_M_notified_80 ?_
        refine lv_iload_n hx hb d_M_notified_83 rfl (lv_at hl 1 rfl) ?_
        refine va_iald hx hb hK hP (k + 6) 0 hU.a5 rfl (in_b hw (ok_of c_400)) d_M_notified_84 ?_
        refine lv_topi (fun v_408 ev_408 => ?_)
        have ev_408 : v_408 = (m_today y + 10) := ev_408.trans pk_us
        subst ev_408
        exact W.iret (v := ((m_today y + 10))) hx hb hr (fun t ht hW => ⟨⟨_, (), rfl, by rw [g_notified, if_neg c_400, if_pos c_402, if_pos c_403], w_407, by rw [ht]; exact hP, hD, by rw [g_notified, if_neg c_400, if_pos c_402, if_pos c_403]; exact hU⟩, hS.F ht⟩) hS.2.2 d_M_notified_85
      · refine lv_iconst (v := 0) hx hb d_M_notified_45 (by decide) ?_
        exact W.iret (v := 0) hx hb hr (fun t ht hW => ⟨⟨_, (), rfl, by rw [g_notified, if_neg c_400, if_pos c_402, if_neg c_403], w_401, by rw [ht]; exact hP, hD, by rw [g_notified, if_neg c_400, if_pos c_402, if_neg c_403]; exact hU⟩, hS.F ht⟩) hS.2.2 d_M_notified_46
  · refine lv_aload_n hx hb d_M_notified_8 rfl (lv_at hl 0 rfl) ?_
    refine lv_iconst (v := 1) hx hb d_M_notified_9 (by decide) ?_
    refine va_calli (va_runV (As := [.int (1)]) (rest := []) ⟨hx, hb, hml, hown, hts⟩ (c_M_fails l D A w cI cL cD k h0 ma y (1) hU.1) (cwV 1 hts (gV _ mB_469 mB_470 mB_4 mB_17 mB_471) rfl rfl rfl (by decide +kernel) ⟨(Nat.le_of_ble_eq_true rfl), (Nat.le_of_ble_eq_true rfl)⟩) ⟨mPc_bl, va_recv hK hP (ci := 3) (q0 := k) rfl hU.o, mPc_pr hP hK hD⟩ rfl rfl hl.1 rfl (lv_room (Nat.le_of_ble_eq_true rfl)) d_M_notified_10 ⟨Nat.zero_le _, Nat.zero_le _⟩) hS (fun _ _ h => h) (fun _ h => h) (fun v_409 u9 t H locs ht hvm ev_409 hB hz1 hk1 hS => ?_)
    obtain ⟨w_410, hP, hD, hU1⟩ := hB
    rw [ht] at hP
    have hU := hU.tr hU1
    subst ev_409
    exact W.iret (v := (g_fails y (1)).1) hx hb hr (fun t ht hW => ⟨⟨_, (), rfl, by rw [g_notified, if_pos c_400], w_410, by rw [ht]; exact hP, hD, by rw [g_notified, if_pos c_400]; exact hU⟩, hS.F ht⟩) hS.2.2 d_M_notified_13
