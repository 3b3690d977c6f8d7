def moL (y : MT) (b : Int32) : Nat → Nat → Int32
  | _, 0 => 100001
  | i, n + 1 => if ((m_open y) (b).toNatClampNeg) ≤ ((((m_deferred y) (b).toNatClampNeg) * ((((m_parts y) (b).toNatClampNeg) - nI i) : Int32).toInt64) / (((m_parts y) (b).toNatClampNeg) : Int32).toInt64) then moL y b (i + 1) n else ((((m_deferredOn y) (b).toNatClampNeg) + (30 * nI i)) + 1)
def g_missedOn (y : MT) (b : Int32) : Int32 := moL y b 1 ((m_parts y) (b).toNatClampNeg).toNatClampNeg
set_option maxHeartbeats 4000000 in
set_option maxRecDepth 100000 in
theorem c_M_missedOn (l : Launch) (D : va_G) (A : Nat → Prop) (w : va_W) (cI cL cD : ClassId) (k h0 : Nat) (ma : Nat → Nat) (y : MT) (b : Int32) (hU0 : mA w k cI cL h0 ma y) (hw : wfM y) (hok : okM y b) : Met l y_M_missedOn w_M_missedOn ({ frames := 0, cells := 0, slots := 0, locals := 0 }) (mPc D w (tyL cI cL cD) A [.ref h0, .int (b)]) (vp_Si (fun z9 => z9 = g_missedOn y b)) 0 0 (fun _ => False) := by
  refine Met.ofW (cc := b_M_missedOn) (maxL := 3) (ret := (some .int)) (by decide) rfl ?_
  intro p e s m args below meth c s₁ B hml hv
  obtain ⟨rfl, hP, hK, hD⟩ := hv
  have hx := B.exec
  have hb := B.bytes
  have hr := B.returns
  have hts := atoms_spec (ws := w_M_missedOn) B.pre
  have hown : s.vm.findClass R_M = some m.cls := findClass_of_methodNamed B.named
  have hlocks := B.notSynchronized
  have hS : va_S A s.heap s.heap [] := va_S.rf
  have hU : mUpd w w k cI cL h0 ma y := mUpd.rf hU0
  have hl := lv_entry ([.ref h0, .int (b)]) (n := 3) (Nat.le_of_ble_eq_true rfl)
  rw [lg_entry_eq]
  generalize (lg_sl ([.ref h0, .int (b)]) ++ List.replicate (3 - (lg_sl ([.ref h0, .int (b)])).length) Slot.unset).toArray = ls at hl ⊢
  have hl : lv_has ls 3 [(0, .ref h0), (1, .int (b))] := hl
  refine lv_iconst (v := 1) hx hb d_M_missedOn_0 (by decide) ?_
  refine lv_istore_n (lv' := [(2, .int (1)), (0, .ref h0), (1, .int (b))]) hx hb d_M_missedOn_1 rfl hl (by decide) rfl (fun ls hl => ?_)
  obtain ⟨PP, hPP, eP⟩ := hw.2.2.2 (b).toNatClampNeg
  have loop : ∀ (n i : Nat), i + n = PP + 1 → 1 ≤ i → moL y b i n = g_missedOn y b → ∀ (ls : Array Slot), lv_has ls 3 [(2, .int (nI i)), (0, .ref h0), (1, .int (b))] → W p l e (headSpec w_M_missedOn ({ frames := 0, cells := 0, slots := 0, locals := 0 })).room s m [.ref h0, .int (b)].toArray below meth c s.heap [] 0 0 (MQ below (vp_Si (fun z9 => z9 = g_missedOn y b)) [.ref h0, .int (b)].toArray s 0 0 (fun _ => False)) (F0 m 2 ls []) := by
    intro n
    induction n with
    | zero =>
      intro i hin hi1 hv ls hl
      refine lv_iload_n hx hb d_M_missedOn_2 rfl (lv_at hl 0 rfl) ?_
      refine lv_aload_n hx hb d_M_missedOn_3 rfl (lv_at hl 1 rfl) ?_
      refine va_get (D := D) (ci := 3) (v := .ref (ma 12)) (C := R_M) (T := F_M) (N := 23) hx hb hts (in_M _) hown hK hP k hU.o rfl 16 (by decide) (hts (.fieldLink R_M 47 "DebtRowsModel" "parts" "[I") (List.mem_cons_of_mem _ mB_430)) (fun _ h9 => h9) rfl d_M_missedOn_4 ?_
      refine lv_iload_n hx hb d_M_missedOn_7 rfl (lv_at hl 2 rfl) ?_
      refine va_iald hx hb hK hP (k + 13) 0 hU.a12 rfl (in_b hw hok) d_M_missedOn_8 ?_
      refine lv_icmp_gt (tgt := 66) hx hb d_M_missedOn_9 (by decide) (fun c_506 => ?_) (fun c_506 => ?_)
      · refine lv_ldc (own := R_M) (index := 137) (v := 100001) hx hb hown (hts (.constant R_M 137 (100001)) (List.mem_cons_of_mem _ mB_545)) d_M_missedOn_66 ?_
        exact W.iret (v := 100001) hx hb hr (fun t ht hW => ⟨_, rfl, by rw [← hv]; rfl, ht⟩) t_nil d_M_missedOn_68
      · exact absurd (by rw [eP]; exact nI_lt (by omega) (by omega)) c_506
    | succ n ih =>
      intro i hin hi1 hv ls hl
      refine lv_iload_n hx hb d_M_missedOn_2 rfl (lv_at hl 0 rfl) ?_
      refine lv_aload_n hx hb d_M_missedOn_3 rfl (lv_at hl 1 rfl) ?_
      refine va_get (D := D) (ci := 3) (v := .ref (ma 12)) (C := R_M) (T := F_M) (N := 23) hx hb hts (in_M _) hown hK hP k hU.o rfl 16 (by decide) (hts (.fieldLink R_M 47 "DebtRowsModel" "parts" "[I") (List.mem_cons_of_mem _ mB_430)) (fun _ h9 => h9) rfl d_M_missedOn_4 ?_
      refine lv_iload_n hx hb d_M_missedOn_7 rfl (lv_at hl 2 rfl) ?_
      refine va_iald hx hb hK hP (k + 13) 0 hU.a12 rfl (in_b hw hok) d_M_missedOn_8 ?_
      refine lv_icmp_gt (tgt := 66) hx hb d_M_missedOn_9 (by decide) (fun c_507 => ?_) (fun c_507 => ?_)
      · exact absurd c_507 (by rw [eP]; exact nI_nlt (by omega) (by omega))
      · refine lv_aload_n hx hb d_M_missedOn_12 rfl (lv_at hl 1 rfl) ?_
        refine va_get (D := D) (ci := 3) (v := .ref (ma 7)) (C := R_M) (T := F_M) (N := 23) hx hb hts (in_M _) hown hK hP k hU.o rfl 11 (by decide) (hts (.fieldLink R_M 32 "DebtRowsModel" "open" "[J") (List.mem_cons_of_mem _ mB_425)) (fun _ h9 => h9) rfl d_M_missedOn_13 ?_
        refine lv_iload_n hx hb d_M_missedOn_16 rfl (lv_at hl 2 rfl) ?_
        refine va_lald hx hb hK hP (k + 8) 1 hU.a7 rfl (in_b hw hok) d_M_missedOn_17 ?_
        refine lv_aload_n hx hb d_M_missedOn_18 rfl (lv_at hl 1 rfl) ?_
        refine va_get (D := D) (ci := 3) (v := .ref (ma 14)) (C := R_M) (T := F_M) (N := 23) hx hb hts (in_M _) hown hK hP k hU.o rfl 18 (by decide) (hts (.fieldLink R_M 53 "DebtRowsModel" "deferred" "[J") (List.mem_cons_of_mem _ mB_432)) (fun _ h9 => h9) rfl d_M_missedOn_19 ?_
        refine lv_iload_n hx hb d_M_missedOn_22 rfl (lv_at hl 2 rfl) ?_
        refine va_lald hx hb hK hP (k + 15) 1 hU.a14 rfl (in_b hw hok) d_M_missedOn_23 ?_
        refine lv_aload_n hx hb d_M_missedOn_24 rfl (lv_at hl 1 rfl) ?_
        refine va_get (D := D) (ci := 3) (v := .ref (ma 12)) (C := R_M) (T := F_M) (N := 23) hx hb hts (in_M _) hown hK hP k hU.o rfl 16 (by decide) (hts (.fieldLink R_M 47 "DebtRowsModel" "parts" "[I") (List.mem_cons_of_mem _ mB_430)) (fun _ h9 => h9) rfl d_M_missedOn_25 ?_
        refine lv_iload_n hx hb d_M_missedOn_28 rfl (lv_at hl 2 rfl) ?_
        refine va_iald hx hb hK hP (k + 13) 0 hU.a12 rfl (in_b hw hok) d_M_missedOn_29 ?_
        refine lv_iload_n hx hb d_M_missedOn_30 rfl (lv_at hl 0 rfl) ?_
        refine lv_isub hx hb d_M_missedOn_31 ?_
        refine lv_i2l hx hb d_M_missedOn_32 rfl ?_
        refine lv_lmul hx hb d_M_missedOn_33 ?_
        refine lv_aload_n hx hb d_M_missedOn_34 rfl (lv_at hl 1 rfl) ?_
        refine va_get (D := D) (ci := 3) (v := .ref (ma 12)) (C := R_M) (T := F_M) (N := 23) hx hb hts (in_M _) hown hK hP k hU.o rfl 16 (by decide) (hts (.fieldLink R_M 47 "DebtRowsModel" "parts" "[I") (List.mem_cons_of_mem _ mB_430)) (fun _ h9 => h9) rfl d_M_missedOn_35 ?_
        refine lv_iload_n hx hb d_M_missedOn_38 rfl (lv_at hl 2 rfl) ?_
        refine va_iald hx hb hK hP (k + 13) 0 hU.a12 rfl (in_b hw hok) d_M_missedOn_39 ?_
        refine lv_i2l hx hb d_M_missedOn_40 rfl ?_
        refine lv_ldiv hx hb d_M_missedOn_41 (nz_parts hi1 (by omega) c_507) ?_
        refine W.lcmp hx hb d_M_missedOn_42 ?_
        refine lv_if_le (tgt := 60) hx hb d_M_missedOn_43 (by decide) (fun c_508 => ?_) (fun c_508 => ?_)
        · have c_508 : ((m_open y) (b).toNatClampNeg) ≤ ((((m_deferred y) (b).toNatClampNeg) * ((((m_parts y) (b).toNatClampNeg) - nI i) : Int32).toInt64) / (((m_parts y) (b).toNatClampNeg) : Int32).toInt64) := (lg_cmp_le _ _).mp c_508
          refine lv_iinc (v := nI (i + 1)) (lv' := [(2, .int (nI (i + 1))), (0, .ref h0), (1, .int (b))]) hx hb d_M_missedOn_60 hl (k := 0) rfl (by first | exact nI_inc i | exact nI_inc (i + 1) | rfl) (by decide) rfl (fun ls hl => ?_)
          refine lv_goto (tgt := 2) hx hb d_M_missedOn_63 (by decide) ?_
          exact ih (i + 1) (by omega) (by omega) (by rw [← hv, moL, if_pos c_508]) ls (lv_sub hl [0, 1, 2] rfl)
        · have c_508 : ¬ ((m_open y) (b).toNatClampNeg) ≤ ((((m_deferred y) (b).toNatClampNeg) * ((((m_parts y) (b).toNatClampNeg) - nI i) : Int32).toInt64) / (((m_parts y) (b).toNatClampNeg) : Int32).toInt64) := fun h9 => c_508 ((lg_cmp_le _ _).mpr h9)
          refine lv_aload_n hx hb d_M_missedOn_46 rfl (lv_at hl 1 rfl) ?_
          refine va_get (D := D) (ci := 3) (v := .ref (ma 13)) (C := R_M) (T := F_M) (N := 23) hx hb hts (in_M _) hown hK hP k hU.o rfl 17 (by decide) (hts (.fieldLink R_M 50 "DebtRowsModel" "deferredOn" "[I") (List.mem_cons_of_mem _ mB_431)) (fun _ h9 => h9) rfl d_M_missedOn_47 ?_
          refine lv_iload_n hx hb d_M_missedOn_50 rfl (lv_at hl 2 rfl) ?_
          refine va_iald hx hb hK hP (k + 14) 0 hU.a13 rfl (in_b hw hok) d_M_missedOn_51 ?_
          refine lv_bipush (v := 30) hx hb d_M_missedOn_52 (by decide) ?_
          refine lv_iload_n hx hb d_M_missedOn_54 rfl (lv_at hl 0 rfl) ?_
          refine lv_imul hx hb d_M_missedOn_55 ?_
          refine lv_iadd hx hb d_M_missedOn_56 ?_
          refine lv_iconst (v := 1) hx hb d_M_missedOn_57 (by decide) ?_
          refine lv_iadd hx hb d_M_missedOn_58 ?_
          exact W.iret (v := ((((m_deferredOn y) (b).toNatClampNeg) + (30 * nI i)) + 1)) hx hb hr (fun t ht hW => ⟨_, rfl, by rw [← hv, moL, if_neg c_508], ht⟩) t_nil d_M_missedOn_59
  exact loop PP 1 (by omega) (by omega) (by rw [g_missedOn, eP, nI_clamp (by omega)]) ls hl
def g_due (y : MT) (b : Int32) (sd : Int32) : Int64 × MT :=
  if (g_isDebt y (b)) = 0 then (((g_fails y (1)).1 : Int32).toInt64, (g_fails y (1)).2)
  else if (g_in ((sd : Int32).toInt64) (0) (4)) = 0 then (((g_fails y (1)).1 : Int32).toInt64, (g_fails y (1)).2)
    else if sd = 0 then (((m_open y) (b).toNatClampNeg), (n_thrown y (0)))
      else if sd = 1 then ((((m_fixed y) (b).toNatClampNeg) + (g_running (n_thrown y (0)) (b))), (n_thrown y (0)))
        else if sd = 2 then (((m_cents y) (b).toNatClampNeg), (n_thrown y (0)))
          else if sd = 3 then (((m_lost y) (b).toNatClampNeg), (n_thrown y (0)))
            else (((m_interestPaid y) (b).toNatClampNeg), (n_thrown y (0)))
set_option maxHeartbeats 4000000 in
set_option maxRecDepth 100000 in
theorem c_M_due (l : Launch) (D : va_G) (A : Nat → Prop) (w : va_W) (cI cL cD : ClassId) (k h0 : Nat) (ma : Nat → Nat) (y : MT) (b : Int32) (sd : Int32) (hU0 : mA w k cI cL h0 ma y) (hw : wfM y) : Met l y_M_due w_M_due ({ frames := 2, cells := 0, slots := 0, locals := 49 }) (mPc D w (tyL cI cL cD) A [.ref h0, .int (b), .int (sd)]) (va_Ql (fun z9 (_ : Unit) => z9 = (g_due y b sd).1) (fun (_ : Unit) t => ∃ w9 : va_W, va_P D vwCl w9 t.heap ∧ va_D A w9 ∧ mUpd w w9 k cI cL h0 ma ((g_due y b sd).2)) A) 0 0 A := by
  refine Met.ofW (cc := b_M_due) (maxL := 3) (ret := (some .long)) (by decide) rfl ?_
  intro p e s m args below meth c s₁ B hml hv
  obtain ⟨rfl, hP, hK, hD⟩ := hv
  have hx := B.exec
  have hb := B.bytes
  have hr := B.returns
  have hts := atoms_spec (ws := w_M_due) B.pre
  have hown : s.vm.findClass R_M = some m.cls := findClass_of_methodNamed B.named
  have hlocks := B.notSynchronized
  have hS : va_S A s.heap s.heap [] := va_S.rf
  have hU : mUpd w w k cI cL h0 ma y := mUpd.rf hU0
  have hl := lv_entry ([.ref h0, .int (b), .int (sd)]) (n := 3) (Nat.le_of_ble_eq_true rfl)
  rw [lg_entry_eq]
  generalize (lg_sl ([.ref h0, .int (b), .int (sd)]) ++ List.replicate (3 - (lg_sl ([.ref h0, .int (b), .int (sd)])).length) Slot.unset).toArray = ls at hl ⊢
  have hl : lv_has ls 3 [(0, .ref h0), (1, .int (b)), (2, .int (sd))] := hl
  have hw0 := hw
  obtain ⟨e0_thrown, e0_today, e0_rates, e0_from, e0_up, e0_down, e0_debts, e0_state, e0_born, e0_dueDay, e0_cents, e0_open, e0_lost, e0_fixed, e0_runsFrom, e0_interestPaid, e0_parts, e0_deferredOn, e0_deferred, e0_debtors, e0_debtor, e0_paidBy, e0_credit⟩ := y
  refine lv_aload_n hx hb d_M_due_0 rfl (lv_at hl 0 rfl) ?_
  refine lv_iload_n hx hb d_M_due_1 rfl (lv_at hl 1 rfl) ?_
  refine vp_callSi (W.runV (As := [.int (b)]) (rest := []) ⟨hx, hb, hml, hown, hts⟩ (c_M_isDebt l D A w cI cL cD k h0 ma (e0_thrown, e0_today, e0_rates, e0_from, e0_up, e0_down, e0_debts, e0_state, e0_born, e0_dueDay, e0_cents, e0_open, e0_lost, e0_fixed, e0_runsFrom, e0_interestPaid, e0_parts, e0_deferredOn, e0_deferred, e0_debtors, e0_debtor, e0_paidBy, e0_credit) (b) hU.1) (cwV 1 hts (gV _ mB_488 mB_489 mB_5 mB_17 mB_490) rfl rfl rfl (by decide +kernel) ⟨(Nat.le_of_ble_eq_true rfl), (Nat.le_of_ble_eq_true rfl)⟩) ⟨mPc_bl, va_recv hK hP (ci := 3) (q0 := k) rfl hU.o, mPc_pr hP hK hD⟩ rfl rfl hl.1 rfl (lv_room (Nat.le_of_ble_eq_true rfl)) d_M_due_2 ⟨Nat.zero_le _, Nat.zero_le _⟩) (fun v_509 ev_509 => ?_)
  subst ev_509
  refine lv_if_eq (tgt := 20) hx hb d_M_due_5 (by decide) (fun c_510 => ?_) (fun c_510 => ?_)
  · refine lv_aload_n hx hb d_M_due_20 rfl (lv_at hl 0 rfl) ?_
    refine lv_iconst (v := 1) hx hb d_M_due_21 (by decide) ?_
    refine va_calli (va_runV (As := [.int (1)]) (rest := []) ⟨hx, hb, hml, hown, hts⟩ (c_M_fails l D A w cI cL cD k h0 ma (e0_thrown, e0_today, e0_rates, e0_from, e0_up, e0_down, e0_debts, e0_state, e0_born, e0_dueDay, e0_cents, e0_open, e0_lost, e0_fixed, e0_runsFrom, e0_interestPaid, e0_parts, e0_deferredOn, e0_deferred, e0_debtors, e0_debtor, e0_paidBy, e0_credit) (1) hU.1) (cwV 1 hts (gV _ mB_469 mB_470 mB_4 mB_17 mB_471) rfl rfl rfl (by decide +kernel) ⟨(Nat.le_of_ble_eq_true rfl), (Nat.le_of_ble_eq_true rfl)⟩) ⟨mPc_bl, va_recv hK hP (ci := 3) (q0 := k) rfl hU.o, mPc_pr hP hK hD⟩ rfl rfl hl.1 rfl (lv_room (Nat.le_of_ble_eq_true rfl)) d_M_due_22 ⟨Nat.zero_le _, Nat.zero_le _⟩) hS (fun _ _ h => h) (fun _ h => h) (fun v_511 u9 t H locs ht hvm ev_511 hB hz1 hk1 hS => ?_)
    obtain ⟨w_512, hP, hD, hU1⟩ := hB
    rw [ht] at hP
    have hU := hU.tr hU1
    subst ev_511
    refine lv_i2l hx hb d_M_due_25 rfl ?_
    exact W.lret (v := ((g_fails (e0_thrown, e0_today, e0_rates, e0_from, e0_up, e0_down, e0_debts, e0_state, e0_born, e0_dueDay, e0_cents, e0_open, e0_lost, e0_fixed, e0_runsFrom, e0_interestPaid, e0_parts, e0_deferredOn, e0_deferred, e0_debtors, e0_debtor, e0_paidBy, e0_credit) (1)).1 : Int32).toInt64) hx hb hr (fun t ht hW => ⟨⟨_, (), rfl, by rw [g_due, if_pos c_510], w_512, by rw [ht]; exact hP, hD, by rw [g_due, if_pos c_510]; exact hU⟩, hS.F ht⟩) hS.2.2 d_M_due_26
  · refine lv_iload_n hx hb d_M_due_8 rfl (lv_at hl 2 rfl) ?_
    refine lv_i2l hx hb d_M_due_9 rfl ?_
    refine lv_lconst (v := 0) hx hb d_M_due_10 (by decide) ?_
    refine lv_ldc2 (own := R_M) (index := 143) (v := 4) hx hb hown (hts (.constantLong R_M 143 (4)) (List.mem_cons_of_mem _ mB_550)) d_M_due_11 ?_
    refine vp_callSi (W.runS (As := [.long ((sd : Int32).toInt64), .long (0), .long (4)]) (rest := []) ⟨hx, hb, hml, hown, hts⟩ (c_M_in l ((sd : Int32).toInt64) (0) (4)) (cwS 3 hts (gS _ mB_478 mB_479 mB_17 mB_480) rfl rfl rfl (by decide +kernel) ⟨(Nat.le_of_ble_eq_true rfl), (Nat.le_of_ble_eq_true rfl)⟩) ⟨fun _ _ _ _ q => q, fun U _ _ => ⟨rfl, trivial⟩⟩ rfl rfl hl.1 rfl (lv_room (Nat.le_of_ble_eq_true rfl)) d_M_due_14 ⟨Nat.zero_le _, Nat.zero_le _⟩) (fun v_513 ev_513 => ?_)
    subst ev_513
    refine lv_if_ne (tgt := 27) hx hb d_M_due_17 (by decide) (fun c_514 => ?_) (fun c_514 => ?_)
    · refine lv_aload_n hx hb d_M_due_27 rfl (lv_at hl 0 rfl) ?_
      refine lv_iconst (v := 0) hx hb d_M_due_28 (by decide) ?_
      refine va_put (D := D) (ci := 3) (v := .int (0)) (ty := .int) (C := R_M) (T := F_M) (N := 23) hx hb hts (in_M _) t_M to_M nn_M hown hK hP hD hS k hU.o rfl 0 (by decide) (hts (.fieldLink R_M 68 "DebtRowsModel" "thrown" "I") (List.mem_cons_of_mem _ mB_414)) (fun _ h9 => h9) rfl (by decide +kernel) rfl rfl (Nat.le_of_ble_eq_true rfl) d_M_due_29 (fun H locs hP hD hS => ?_)
      have hU : mUpd w (w.set k (h0, mE ma (0, e0_today, e0_rates, e0_from, e0_up, e0_down, e0_debts, e0_state, e0_born, e0_dueDay, e0_cents, e0_open, e0_lost, e0_fixed, e0_runsFrom, e0_interestPaid, e0_parts, e0_deferredOn, e0_deferred, e0_debtors, e0_debtor, e0_paidBy, e0_credit))) k cI cL h0 ma ((0), e0_today, e0_rates, e0_from, e0_up, e0_down, e0_debts, e0_state, e0_born, e0_dueDay, e0_cents, e0_open, e0_lost, e0_fixed, e0_runsFrom, e0_interestPaid, e0_parts, e0_deferredOn, e0_deferred, e0_debtors, e0_debtor, e0_paidBy, e0_credit) := hU.s_thrown (0)
      have hP : va_P D vwCl (w.set k (h0, mE ma (0, e0_today, e0_rates, e0_from, e0_up, e0_down, e0_debts, e0_state, e0_born, e0_dueDay, e0_cents, e0_open, e0_lost, e0_fixed, e0_runsFrom, e0_interestPaid, e0_parts, e0_deferredOn, e0_deferred, e0_debtors, e0_debtor, e0_paidBy, e0_credit))) H := hP
      have hD : va_D A (w.set k (h0, mE ma (0, e0_today, e0_rates, e0_from, e0_up, e0_down, e0_debts, e0_state, e0_born, e0_dueDay, e0_cents, e0_open, e0_lost, e0_fixed, e0_runsFrom, e0_interestPaid, e0_parts, e0_deferredOn, e0_deferred, e0_debtors, e0_debtor, e0_paidBy, e0_credit))) := hD
      generalize w.set k (h0, mE ma (0, e0_today, e0_rates, e0_from, e0_up, e0_down, e0_debts, e0_state, e0_born, e0_dueDay, e0_cents, e0_open, e0_lost, e0_fixed, e0_runsFrom, e0_interestPaid, e0_parts, e0_deferredOn, e0_deferred, e0_debtors, e0_debtor, e0_paidBy, e0_credit)) = w_515 at hP hD hU
      refine lv_iload_n hx hb d_M_due_32 rfl (lv_at hl 2 rfl) ?_
      rcases Decidable.em (sd = (0 : Int32)) with c_516 | c_516
      · refine lv_tableIn (tgt := 64) hx hb d_M_due_33 (by rw [c_516]; decide) (by rw [c_516]; decide) (by rw [c_516]; rfl) (by decide) ?_
        refine lv_aload_n hx hb d_M_due_64 rfl (lv_at hl 0 rfl) ?_
        refine va_get (D := D) (ci := 3) (v := .ref (ma 7)) (C := R_M) (T := F_M) (N := 23) hx hb hts (in_M _) hown hK hP k hU.o rfl 11 (by decide) (hts (.fieldLink R_M 32 "DebtRowsModel" "open" "[J") (List.mem_cons_of_mem _ mB_425)) (fun _ h9 => h9) rfl d_M_due_65 ?_
        refine lv_iload_n hx hb d_M_due_68 rfl (lv_at hl 1 rfl) ?_
        refine va_lald hx hb hK hP (k + 8) 1 hU.a7 rfl (in_b hw0 (ok_of c_510)) d_M_due_69 ?_
        refine lv_topl (fun v_517 ev_517 => ?_)
        have ev_517 : v_517 = (e0_open (b).toNatClampNeg) := ev_517
        subst ev_517
        exact W.lret (v := (e0_open (b).toNatClampNeg)) hx hb hr (fun t ht hW => ⟨⟨_, (), rfl, by rw [g_due, if_neg c_510, if_neg c_514, if_pos c_516], w_515, by rw [ht]; exact hP, hD, by rw [g_due, if_neg c_510, if_neg c_514, if_pos c_516]; exact hU⟩, hS.F ht⟩) hS.2.2 d_M_due_70
      · rcases Decidable.em (sd = (1 : Int32)) with c_518 | c_518
        · refine lv_tableIn (tgt := 71) hx hb d_M_due_33 (by rw [c_518]; decide) (by rw [c_518]; decide) (by rw [c_518]; rfl) (by decide) ?_
          refine lv_aload_n hx hb d_M_due_71 rfl (lv_at hl 0 rfl) ?_
          refine va_get (D := D) (ci := 3) (v := .ref (ma 9)) (C := R_M) (T := F_M) (N := 23) hx hb hts (in_M _) hown hK hP k hU.o rfl 13 (by decide) (hts (.fieldLink R_M 38 "DebtRowsModel" "fixed" "[J") (List.mem_cons_of_mem _ mB_427)) (fun _ h9 => h9) rfl d_M_due_72 ?_
          refine lv_iload_n hx hb d_M_due_75 rfl (lv_at hl 1 rfl) ?_
          refine va_lald hx hb hK hP (k + 10) 1 hU.a9 rfl (in_b hw0 (ok_of c_510)) d_M_due_76 ?_
          refine lv_topl (fun v_519 ev_519 => ?_)
          have ev_519 : v_519 = (e0_fixed (b).toNatClampNeg) := ev_519
          subst ev_519
          refine lv_aload_n hx hb d_M_due_77 rfl (lv_at hl 0 rfl) ?_
          refine lv_iload_n hx hb d_M_due_78 rfl (lv_at hl 1 rfl) ?_
          refine vp_callSl (W.runV (As := [.int (b)]) (rest := [.long ((e0_fixed (b).toNatClampNeg))]) ⟨hx, hb, hml, hown, hts⟩ (c_M_running l D A w_515 cI cL cD k h0 ma ((0), e0_today, e0_rates, e0_from, e0_up, e0_down, e0_debts, e0_state, e0_born, e0_dueDay, e0_cents, e0_open, e0_lost, e0_fixed, e0_runsFrom, e0_interestPaid, e0_parts, e0_deferredOn, e0_deferred, e0_debtors, e0_debtor, e0_paidBy, e0_credit) (b) hU.1 hw (ok_of c_510)) (cwV 1 hts (gV _ mB_508 mB_509 mB_9 mB_17 mB_510) rfl rfl rfl (by decide +kernel) ⟨(Nat.le_of_ble_eq_true rfl), (Nat.le_of_ble_eq_true rfl)⟩) ⟨mPc_bl, va_recv hK hP (ci := 3) (q0 := k) rfl hU.o, mPc_pr hP hK hD⟩ rfl rfl hl.1 rfl (lv_room (Nat.le_of_ble_eq_true rfl)) d_M_due_79 ⟨Nat.zero_le _, Nat.zero_le _⟩) (fun v_520 ev_520 => ?_)
          subst ev_520
          refine lv_ladd hx hb d_M_due_82 ?_
          exact W.lret (v := ((e0_fixed (b).toNatClampNeg) + (g_running ((0), e0_today, e0_rates, e0_from, e0_up, e0_down, e0_debts, e0_state, e0_born, e0_dueDay, e0_cents, e0_open, e0_lost, e0_fixed, e0_runsFrom, e0_interestPaid, e0_parts, e0_deferredOn, e0_deferred, e0_debtors, e0_debtor, e0_paidBy, e0_credit) (b)))) hx hb hr (fun t ht hW => ⟨⟨_, (), rfl, by rw [g_due, if_neg c_510, if_neg c_514, if_neg c_516, if_pos c_518], w_515, by rw [ht]; exact hP, hD, by rw [g_due, if_neg c_510, if_neg c_514, if_neg c_516, if_pos c_518]; exact hU⟩, hS.F ht⟩) hS.2.2 d_M_due_83
        · rcases Decidable.em (sd = (2 : Int32)) with c_521 | c_521
          · refine lv_tableIn (tgt := 84) hx hb d_M_due_33 (by rw [c_521]; decide) (by rw [c_521]; decide) (by rw [c_521]; rfl) (by decide) ?_
            refine lv_aload_n hx hb d_M_due_84 rfl (lv_at hl 0 rfl) ?_
            refine va_get (D := D) (ci := 3) (v := .ref (ma 6)) (C := R_M) (T := F_M) (N := 23) hx hb hts (in_M _) hown hK hP k hU.o rfl 10 (by decide) (hts (.fieldLink R_M 28 "DebtRowsModel" "cents" "[J") (List.mem_cons_of_mem _ mB_424)) (fun _ h9 => h9) rfl d_M_due_85 ?_
            refine lv_iload_n hx hb d_M_due_88 rfl (lv_at hl 1 rfl) ?_
            refine va_lald hx hb hK hP (k + 7) 1 hU.a6 rfl (in_b hw0 (ok_of c_510)) d_M_due_89 ?_
            refine lv_topl (fun v_522 ev_522 => ?_)
            have ev_522 : v_522 = (e0_cents (b).toNatClampNeg) := ev_522
            subst ev_522
            exact W.lret (v := (e0_cents (b).toNatClampNeg)) hx hb hr (fun t ht hW => ⟨⟨_, (), rfl, by rw [g_due, if_neg c_510, if_neg c_514, if_neg c_516, if_neg c_518, if_pos c_521], w_515, by rw [ht]; exact hP, hD, by rw [g_due, if_neg c_510, if_neg c_514, if_neg c_516, if_neg c_518, if_pos c_521]; exact hU⟩, hS.F ht⟩) hS.2.2 d_M_due_90
          · rcases Decidable.em (sd = (3 : Int32)) with c_523 | c_523
            · refine lv_tableIn (tgt := 91) hx hb d_M_due_33 (by rw [c_523]; decide) (by rw [c_523]; decide) (by rw [c_523]; rfl) (by decide) ?_
              refine lv_aload_n hx hb d_M_due_91 rfl (lv_at hl 0 rfl) ?_
              refine va_get (D := D) (ci := 3) (v := .ref (ma 8)) (C := R_M) (T := F_M) (N := 23) hx hb hts (in_M _) hown hK hP k hU.o rfl 12 (by decide) (hts (.fieldLink R_M 35 "DebtRowsModel" "lost" "[J") (List.mem_cons_of_mem _ mB_426)) (fun _ h9 => h9) rfl d_M_due_92 ?_
              refine lv_iload_n hx hb d_M_due_95 rfl (lv_at hl 1 rfl) ?_
              refine va_lald hx hb hK hP (k + 9) 1 hU.a8 rfl (in_b hw0 (ok_of c_510)) d_M_due_96 ?_
              refine lv_topl (fun v_524 ev_524 => ?_)
              have ev_524 : v_524 = (e0_lost (b).toNatClampNeg) := ev_524
              subst ev_524
              exact W.lret (v := (e0_lost (b).toNatClampNeg)) hx hb hr (fun t ht hW => ⟨⟨_, (), rfl, by rw [g_due, if_neg c_510, if_neg c_514, if_neg c_516, if_neg c_518, if_neg c_521, if_pos c_523], w_515, by rw [ht]; exact hP, hD, by rw [g_due, if_neg c_510, if_neg c_514, if_neg c_516, if_neg c_518, if_neg c_521, if_pos c_523]; exact hU⟩, hS.F ht⟩) hS.2.2 d_M_due_97
            · refine lv_tableOut (tgt := 98) hx hb d_M_due_33 (tsw4 c_516 c_518 c_521 c_523) (by decide) ?_
              refine lv_aload_n hx hb d_M_due_98 rfl (lv_at hl 0 rfl) ?_
              refine va_get (D := D) (ci := 3) (v := .ref (ma 11)) (C := R_M) (T := F_M) (N := 23) hx hb hts (in_M _) hown hK hP k hU.o rfl 15 (by decide) (hts (.fieldLink R_M 44 "DebtRowsModel" "interestPaid" "[J") (List.mem_cons_of_mem _ mB_429)) (fun _ h9 => h9) rfl d_M_due_99 ?_
              refine lv_iload_n hx hb d_M_due_102 rfl (lv_at hl 1 rfl) ?_
              refine va_lald hx hb hK hP (k + 12) 1 hU.a11 rfl (in_b hw0 (ok_of c_510)) d_M_due_103 ?_
              refine lv_topl (fun v_525 ev_525 => ?_)
              have ev_525 : v_525 = (e0_interestPaid (b).toNatClampNeg) := ev_525
              subst ev_525
              exact W.lret (v := (e0_interestPaid (b).toNatClampNeg)) hx hb hr (fun t ht hW => ⟨⟨_, (), rfl, by rw [g_due, if_neg c_510, if_neg c_514, if_neg c_516, if_neg c_518, if_neg c_521, if_neg c_523], w_515, by rw [ht]; exact hP, hD, by rw [g_due, if_neg c_510, if_neg c_514, if_neg c_516, if_neg c_518, if_neg c_521, if_neg c_523]; exact hU⟩, hS.F ht⟩) hS.2.2 d_M_due_104
    · refine lv_aload_n hx hb d_M_due_20 rfl (lv_at hl 0 rfl) ?_
      refine lv_iconst (v := 1) hx hb d_M_due_21 (by decide) ?_
      refine va_calli (va_runV (As := [.int (1)]) (rest := []) ⟨hx, hb, hml, hown, hts⟩ (c_M_fails l D A w cI cL cD k h0 ma (e0_thrown, e0_today, e0_rates, e0_from, e0_up, e0_down, e0_debts, e0_state, e0_born, e0_dueDay, e0_cents, e0_open, e0_lost, e0_fixed, e0_runsFrom, e0_interestPaid, e0_parts, e0_deferredOn, e0_deferred, e0_debtors, e0_debtor, e0_paidBy, e0_credit) (1) hU.1) (cwV 1 hts (gV _ mB_469 mB_470 mB_4 mB_17 mB_471) rfl rfl rfl (by decide +kernel) ⟨(Nat.le_of_ble_eq_true rfl), (Nat.le_of_ble_eq_true rfl)⟩) ⟨mPc_bl, va_recv hK hP (ci := 3) (q0 := k) rfl hU.o, mPc_pr hP hK hD⟩ rfl rfl hl.1 rfl (lv_room (Nat.le_of_ble_eq_true rfl)) d_M_due_22 ⟨Nat.zero_le _, Nat.zero_le _⟩) hS (fun _ _ h => h) (fun _ h => h) (fun v_526 u9 t H locs ht hvm ev_526 hB hz1 hk1 hS => ?_)
      obtain ⟨w_527, hP, hD, hU1⟩ := hB
      rw [ht] at hP
      have hU := hU.tr hU1
      subst ev_526
      refine lv_i2l hx hb d_M_due_25 rfl ?_
      exact W.lret (v := ((g_fails (e0_thrown, e0_today, e0_rates, e0_from, e0_up, e0_down, e0_debts, e0_state, e0_born, e0_dueDay, e0_cents, e0_open, e0_lost, e0_fixed, e0_runsFrom, e0_interestPaid, e0_parts, e0_deferredOn, e0_deferred, e0_debtors, e0_debtor, e0_paidBy, e0_credit) (1)).1 : Int32).toInt64) hx hb hr (fun t ht hW => ⟨⟨_, (), rfl, by rw [g_due, if_neg c_510, if_pos c_514], w_527, by rw [ht]; exact hP, hD, by rw [g_due, if_neg c_510, if_pos c_514]; exact hU⟩, hS.F ht⟩) hS.2.2 d_M_due_26
def g_recourse (y : MT) (b : Int32) (who : Int32) (sd : Int32) : Int64 × MT :=
  if (g_isDebt y (b)) = 0 then (((g_fails y (1)).1 : Int32).toInt64, (g_fails y (1)).2)
  else if (g_debtorOf y (b) (who)) < 0 then (((g_fails y (1)).1 : Int32).toInt64, (g_fails y (1)).2)
    else if (g_in ((sd : Int32).toInt64) (0) (2)) = 0 then (((g_fails y (1)).1 : Int32).toInt64, (g_fails y (1)).2)
      else if sd = 0 then (((m_paidBy y) (((4 * b) + (g_debtorOf y (b) (who)))).toNatClampNeg), (n_thrown y (0)))
        else if sd = 1 then (((((m_cents y) (b).toNatClampNeg) / (((m_debtors y) (b).toNatClampNeg) : Int32).toInt64) + (if (((m_cents y) (b).toNatClampNeg) - ((m_cents y) (b).toNatClampNeg) / (((m_debtors y) (b).toNatClampNeg) : Int32).toInt64 * (((m_debtors y) (b).toNatClampNeg) : Int32).toInt64) ≤ ((g_debtorOf y (b) (who)) : Int32).toInt64 then 0 else 1)), (n_thrown y (0)))
          else if ((m_paidBy y) (((4 * b) + (g_debtorOf y (b) (who)))).toNatClampNeg) ≤ ((((m_cents y) (b).toNatClampNeg) / (((m_debtors y) (b).toNatClampNeg) : Int32).toInt64) + (if (((m_cents y) (b).toNatClampNeg) - ((m_cents y) (b).toNatClampNeg) / (((m_debtors y) (b).toNatClampNeg) : Int32).toInt64 * (((m_debtors y) (b).toNatClampNeg) : Int32).toInt64) ≤ ((g_debtorOf y (b) (who)) : Int32).toInt64 then 0 else 1)) then (0, (n_thrown y (0)))
            else ((((m_paidBy y) (((4 * b) + (g_debtorOf y (b) (who)))).toNatClampNeg) - ((((m_cents y) (b).toNatClampNeg) / (((m_debtors y) (b).toNatClampNeg) : Int32).toInt64) + (if (((m_cents y) (b).toNatClampNeg) - ((m_cents y) (b).toNatClampNeg) / (((m_debtors y) (b).toNatClampNeg) : Int32).toInt64 * (((m_debtors y) (b).toNatClampNeg) : Int32).toInt64) ≤ ((g_debtorOf y (b) (who)) : Int32).toInt64 then 0 else 1))), (n_thrown y (0)))
set_option maxHeartbeats 4000000 in
set_option maxRecDepth 100000 in
theorem c_M_recourse (l : Launch) (D : va_G) (A : Nat → Prop) (w : va_W) (cI cL cD : ClassId) (k h0 : Nat) (ma : Nat → Nat) (y : MT) (b : Int32) (who : Int32) (sd : Int32) (hU0 : mA w k cI cL h0 ma y) (hw : wfM y) : Met l y_M_recourse w_M_recourse ({ frames := 1, cells := 0, slots := 0, locals := 25 }) (mPc D w (tyL cI cL cD) A [.ref h0, .int (b), .int (who), .int (sd)]) (va_Ql (fun z9 (_ : Unit) => z9 = (g_recourse y b who sd).1) (fun (_ : Unit) t => ∃ w9 : va_W, va_P D vwCl w9 t.heap ∧ va_D A w9 ∧ mUpd w w9 k cI cL h0 ma ((g_recourse y b who sd).2)) A) 0 0 A := by
  refine Met.ofW (cc := b_M_recourse) (maxL := 9) (ret := (some .long)) (by decide) rfl ?_
  intro p e s m args below meth c s₁ B hml hv
  obtain ⟨rfl, hP, hK, hD⟩ := hv
  have hx := B.exec
  have hb := B.bytes
  have hr := B.returns
  have hts := atoms_spec (ws := w_M_recourse) B.pre
  have hown : s.vm.findClass R_M = some m.cls := findClass_of_methodNamed B.named
  have hlocks := B.notSynchronized
  have hS : va_S A s.heap s.heap [] := va_S.rf
  have hU : mUpd w w k cI cL h0 ma y := mUpd.rf hU0
  have hl := lv_entry ([.ref h0, .int (b), .int (who), .int (sd)]) (n := 9) (Nat.le_of_ble_eq_true rfl)
  rw [lg_entry_eq]
  generalize (lg_sl ([.ref h0, .int (b), .int (who), .int (sd)]) ++ List.replicate (9 - (lg_sl ([.ref h0, .int (b), .int (who), .int (sd)])).length) Slot.unset).toArray = ls at hl ⊢
  have hl : lv_has ls 9 [(0, .ref h0), (1, .int (b)), (2, .int (who)), (3, .int (sd))] := hl
  have hw0 := hw
  obtain ⟨e0_thrown, e0_today, e0_rates, e0_from, e0_up, e0_down, e0_debts, e0_state, e0_born, e0_dueDay, e0_cents, e0_open, e0_lost, e0_fixed, e0_runsFrom, e0_interestPaid, e0_parts, e0_deferredOn, e0_deferred, e0_debtors, e0_debtor, e0_paidBy, e0_credit⟩ := y
  refine lv_aload_n hx hb d_M_recourse_0 rfl (lv_at hl 0 rfl) ?_
  refine lv_iload_n hx hb d_M_recourse_1 rfl (lv_at hl 1 rfl) ?_
  refine vp_callSi (W.runV (As := [.int (b)]) (rest := []) ⟨hx, hb, hml, hown, hts⟩ (c_M_isDebt l D A w cI cL cD k h0 ma (e0_thrown, e0_today, e0_rates, e0_from, e0_up, e0_down, e0_debts, e0_state, e0_born, e0_dueDay, e0_cents, e0_open, e0_lost, e0_fixed, e0_runsFrom, e0_interestPaid, e0_parts, e0_deferredOn, e0_deferred, e0_debtors, e0_debtor, e0_paidBy, e0_credit) (b) hU.1) (cwV 1 hts (gV _ mB_488 mB_489 mB_5 mB_17 mB_490) rfl rfl rfl (by decide +kernel) ⟨(Nat.le_of_ble_eq_true rfl), (Nat.le_of_ble_eq_true rfl)⟩) ⟨mPc_bl, va_recv hK hP (ci := 3) (q0 := k) rfl hU.o, mPc_pr hP hK hD⟩ rfl rfl hl.1 rfl (lv_room (Nat.le_of_ble_eq_true rfl)) d_M_recourse_2 ⟨Nat.zero_le _, Nat.zero_le _⟩) (fun v_528 ev_528 => ?_)
  subst ev_528
  refine lv_if_eq (tgt := 17) hx hb d_M_recourse_5 (by decide) (fun c_529 => ?_) (fun c_529 => ?_)
  · refine lv_iconst (v := -1) hx hb d_M_recourse_17 (by decide) ?_
    refine lv_istore (lv' := [(4, .int (-1)), (0, .ref h0), (1, .int (b)), (2, .int (who)), (3, .int (sd))]) hx hb d_M_recourse_18 hl (by decide) rfl (fun ls hl => ?_)
    refine lv_iload hx hb d_M_recourse_20 (lv_at hl 0 rfl) ?_
    refine lv_if_lt (tgt := 37) hx hb d_M_recourse_22 (by decide) (fun c_530 => ?_) (fun c_530 => ?_)
    · refine lv_aload_n hx hb d_M_recourse_37 rfl (lv_at hl 1 rfl) ?_
      refine lv_iconst (v := 1) hx hb d_M_recourse_38 (by decide) ?_
      refine va_calli (va_runV (As := [.int (1)]) (rest := []) ⟨hx, hb, hml, hown, hts⟩ (c_M_fails l D A w cI cL cD k h0 ma (e0_thrown, e0_today, e0_rates, e0_from, e0_up, e0_down, e0_debts, e0_state, e0_born, e0_dueDay, e0_cents, e0_open, e0_lost, e0_fixed, e0_runsFrom, e0_interestPaid, e0_parts, e0_deferredOn, e0_deferred, e0_debtors, e0_debtor, e0_paidBy, e0_credit) (1) hU.1) (cwV 1 hts (gV _ mB_469 mB_470 mB_4 mB_17 mB_471) rfl rfl rfl (by decide +kernel) ⟨(Nat.le_of_ble_eq_true rfl), (Nat.le_of_ble_eq_true rfl)⟩) ⟨mPc_bl, va_recv hK hP (ci := 3) (q0 := k) rfl hU.o, mPc_pr hP hK hD⟩ rfl rfl hl.1 rfl (lv_room (Nat.le_of_ble_eq_true rfl)) d_M_recourse_39 ⟨Nat.zero_le _, Nat.zero_le _⟩) hS (fun _ _ h => h) (fun _ h => h) (fun v_531 u9 t H locs ht hvm ev_531 hB hz1 hk1 hS => ?_)
      obtain ⟨w_532, hP, hD, hU1⟩ := hB
      rw [ht] at hP
      have hU := hU.tr hU1
      subst ev_531
      refine lv_i2l hx hb d_M_recourse_42 rfl ?_
      exact W.lret (v := ((g_fails (e0_thrown, e0_today, e0_rates, e0_from, e0_up, e0_down, e0_debts, e0_state, e0_born, e0_dueDay, e0_cents, e0_open, e0_lost, e0_fixed, e0_runsFrom, e0_interestPaid, e0_parts, e0_deferredOn, e0_deferred, e0_debtors, e0_debtor, e0_paidBy, e0_credit) (1)).1 : Int32).toInt64) hx hb hr (fun t ht hW => ⟨⟨_, (), rfl, by rw [g_recourse, if_pos c_529], w_532, by rw [ht]; exact hP, hD, by rw [g_recourse, if_pos c_529]; exact hU⟩, hS.F ht⟩) hS.2.2 d_M_recourse_43
    · exact absurd (by decide) c_530
  · refine lv_aload_n hx hb d_M_recourse_8 rfl (lv_at hl 0 rfl) ?_
    refine lv_iload_n hx hb d_M_recourse_9 rfl (lv_at hl 1 rfl) ?_
    refine lv_iload_n hx hb d_M_recourse_10 rfl (lv_at hl 2 rfl) ?_
    refine vp_callSi (W.runV (As := [.int (b), .int (who)]) (rest := []) ⟨hx, hb, hml, hown, hts⟩ (c_M_debtorOf l D A w cI cL cD k h0 ma (e0_thrown, e0_today, e0_rates, e0_from, e0_up, e0_down, e0_debts, e0_state, e0_born, e0_dueDay, e0_cents, e0_open, e0_lost, e0_fixed, e0_runsFrom, e0_interestPaid, e0_parts, e0_deferredOn, e0_deferred, e0_debtors, e0_debtor, e0_paidBy, e0_credit) (b) (who) hU.1 hw (ok_of c_529)) (cwV 2 hts (gV _ mB_491 mB_492 mB_6 mB_17 mB_493) rfl rfl rfl (by decide +kernel) ⟨(Nat.le_of_ble_eq_true rfl), (Nat.le_of_ble_eq_true rfl)⟩) ⟨mPc_bl, va_recv hK hP (ci := 3) (q0 := k) rfl hU.o, mPc_pr hP hK hD⟩ rfl rfl hl.1 rfl (lv_room (Nat.le_of_ble_eq_true rfl)) d_M_recourse_11 ⟨Nat.zero_le _, Nat.zero_le _⟩) (fun v_533 ev_533 => ?_)
    subst ev_533
    refine lv_goto (tgt := 18) hx hb d_M_recourse_14 (by decide) ?_
    refine lv_istore (lv' := [(4, .int ((g_debtorOf (e0_thrown, e0_today, e0_rates, e0_from, e0_up, e0_down, e0_debts, e0_state, e0_born, e0_dueDay, e0_cents, e0_open, e0_lost, e0_fixed, e0_runsFrom, e0_interestPaid, e0_parts, e0_deferredOn, e0_deferred, e0_debtors, e0_debtor, e0_paidBy, e0_credit) (b) (who)))), (0, .ref h0), (1, .int (b)), (2, .int (who)), (3, .int (sd))]) hx hb d_M_recourse_18 hl (by decide) rfl (fun ls hl => ?_)
    refine lv_iload hx hb d_M_recourse_20 (lv_at hl 0 rfl) ?_
    refine lv_if_lt (tgt := 37) hx hb d_M_recourse_22 (by decide) (fun c_534 => ?_) (fun c_534 => ?_)
    · refine lv_aload_n hx hb d_M_recourse_37 rfl (lv_at hl 1 rfl) ?_
      refine lv_iconst (v := 1) hx hb d_M_recourse_38 (by decide) ?_
      refine va_calli (va_runV (As := [.int (1)]) (rest := []) ⟨hx, hb, hml, hown, hts⟩ (c_M_fails l D A w cI cL cD k h0 ma (e0_thrown, e0_today, e0_rates, e0_from, e0_up, e0_down, e0_debts, e0_state, e0_born, e0_dueDay, e0_cents, e0_open, e0_lost, e0_fixed, e0_runsFrom, e0_interestPaid, e0_parts, e0_deferredOn, e0_deferred, e0_debtors, e0_debtor, e0_paidBy, e0_credit) (1) hU.1) (cwV 1 hts (gV _ mB_469 mB_470 mB_4 mB_17 mB_471) rfl rfl rfl (by decide +kernel) ⟨(Nat.le_of_ble_eq_true rfl), (Nat.le_of_ble_eq_true rfl)⟩) ⟨mPc_bl, va_recv hK hP (ci := 3) (q0 := k) rfl hU.o, mPc_pr hP hK hD⟩ rfl rfl hl.1 rfl (lv_room (Nat.le_of_ble_eq_true rfl)) d_M_recourse_39 ⟨Nat.zero_le _, Nat.zero_le _⟩) hS (fun _ _ h => h) (fun _ h => h) (fun v_535 u9 t H locs ht hvm ev_535 hB hz1 hk1 hS => ?_)
      obtain ⟨w_536, hP, hD, hU1⟩ := hB
      rw [ht] at hP
      have hU := hU.tr hU1
      subst ev_535
      refine lv_i2l hx hb d_M_recourse_42 rfl ?_
      exact W.lret (v := ((g_fails (e0_thrown, e0_today, e0_rates, e0_from, e0_up, e0_down, e0_debts, e0_state, e0_born, e0_dueDay, e0_cents, e0_open, e0_lost, e0_fixed, e0_runsFrom, e0_interestPaid, e0_parts, e0_deferredOn, e0_deferred, e0_debtors, e0_debtor, e0_paidBy, e0_credit) (1)).1 : Int32).toInt64) hx hb hr (fun t ht hW => ⟨⟨_, (), rfl, by rw [g_recourse, if_neg c_529, if_pos c_534], w_536, by rw [ht]; exact hP, hD, by rw [g_recourse, if_neg c_529, if_pos c_534]; exact hU⟩, hS.F ht⟩) hS.2.2 d_M_recourse_43
    · refine lv_iload_n hx hb d_M_recourse_25 rfl (lv_at hl 4 rfl) ?_
      refine lv_i2l hx hb d_M_recourse_26 rfl ?_
      refine lv_lconst (v := 0) hx hb d_M_recourse_27 (by decide) ?_
      refine lv_ldc2 (own := R_M) (index := 127) (v := 2) hx hb hown (hts (.constantLong R_M 127 (2)) (List.mem_cons_of_mem _ mB_523)) d_M_recourse_28 ?_
      refine vp_callSi (W.runS (As := [.long ((sd : Int32).toInt64), .long (0), .long (2)]) (rest := []) ⟨hx, hb, hml, hown, hts⟩ (c_M_in l ((sd : Int32).toInt64) (0) (2)) (cwS 3 hts (gS _ mB_478 mB_479 mB_17 mB_480) rfl rfl rfl (by decide +kernel) ⟨(Nat.le_of_ble_eq_true rfl), (Nat.le_of_ble_eq_true rfl)⟩) ⟨fun _ _ _ _ q => q, fun U _ _ => ⟨rfl, trivial⟩⟩ rfl rfl hl.1 rfl (lv_room (Nat.le_of_ble_eq_true rfl)) d_M_recourse_31 ⟨Nat.zero_le _, Nat.zero_le _⟩) (fun v_537 ev_537 => ?_)
      subst ev_537
      refine lv_if_ne (tgt := 44) hx hb d_M_recourse_34 (by decide) (fun c_538 => ?_) (fun c_538 => ?_)
      · refine lv_aload_n hx hb d_M_recourse_44 rfl (lv_at hl 1 rfl) ?_
        refine lv_iconst (v := 0) hx hb d_M_recourse_45 (by decide) ?_
        refine va_put (D := D) (ci := 3) (v := .int (0)) (ty := .int) (C := R_M) (T := F_M) (N := 23) hx hb hts (in_M _) t_M to_M nn_M hown hK hP hD hS k hU.o rfl 0 (by decide) (hts (.fieldLink R_M 68 "DebtRowsModel" "thrown" "I") (List.mem_cons_of_mem _ mB_414)) (fun _ h9 => h9) rfl (by decide +kernel) rfl rfl (Nat.le_of_ble_eq_true rfl) d_M_recourse_46 (fun H locs hP hD hS => ?_)
        have hU : mUpd w (w.set k (h0, mE ma (0, e0_today, e0_rates, e0_from, e0_up, e0_down, e0_debts, e0_state, e0_born, e0_dueDay, e0_cents, e0_open, e0_lost, e0_fixed, e0_runsFrom, e0_interestPaid, e0_parts, e0_deferredOn, e0_deferred, e0_debtors, e0_debtor, e0_paidBy, e0_credit))) k cI cL h0 ma ((0), e0_today, e0_rates, e0_from, e0_up, e0_down, e0_debts, e0_state, e0_born, e0_dueDay, e0_cents, e0_open, e0_lost, e0_fixed, e0_runsFrom, e0_interestPaid, e0_parts, e0_deferredOn, e0_deferred, e0_debtors, e0_debtor, e0_paidBy, e0_credit) := hU.s_thrown (0)
        have hP : va_P D vwCl (w.set k (h0, mE ma (0, e0_today, e0_rates, e0_from, e0_up, e0_down, e0_debts, e0_state, e0_born, e0_dueDay, e0_cents, e0_open, e0_lost, e0_fixed, e0_runsFrom, e0_interestPaid, e0_parts, e0_deferredOn, e0_deferred, e0_debtors, e0_debtor, e0_paidBy, e0_credit))) H := hP
        have hD : va_D A (w.set k (h0, mE ma (0, e0_today, e0_rates, e0_from, e0_up, e0_down, e0_debts, e0_state, e0_born, e0_dueDay, e0_cents, e0_open, e0_lost, e0_fixed, e0_runsFrom, e0_interestPaid, e0_parts, e0_deferredOn, e0_deferred, e0_debtors, e0_debtor, e0_paidBy, e0_credit))) := hD
        generalize w.set k (h0, mE ma (0, e0_today, e0_rates, e0_from, e0_up, e0_down, e0_debts, e0_state, e0_born, e0_dueDay, e0_cents, e0_open, e0_lost, e0_fixed, e0_runsFrom, e0_interestPaid, e0_parts, e0_deferredOn, e0_deferred, e0_debtors, e0_debtor, e0_paidBy, e0_credit)) = w_539 at hP hD hU
        refine lv_aload_n hx hb d_M_recourse_49 rfl (lv_at hl 1 rfl) ?_
        refine va_get (D := D) (ci := 3) (v := .ref (ma 6)) (C := R_M) (T := F_M) (N := 23) hx hb hts (in_M _) hown hK hP k hU.o rfl 10 (by decide) (hts (.fieldLink R_M 28 "DebtRowsModel" "cents" "[J") (List.mem_cons_of_mem _ mB_424)) (fun _ h9 => h9) rfl d_M_recourse_50 ?_
        refine lv_iload_n hx hb d_M_recourse_53 rfl (lv_at hl 2 rfl) ?_
        refine va_lald hx hb hK hP (k + 7) 1 hU.a6 rfl (in_b hw (ok_of c_529)) d_M_recourse_54 ?_
        refine lv_topl (fun v_540 ev_540 => ?_)
        have ev_540 : v_540 = (e0_cents (b).toNatClampNeg) := ev_540
        subst ev_540
        refine lv_aload_n hx hb d_M_recourse_55 rfl (lv_at hl 1 rfl) ?_
        refine va_get (D := D) (ci := 3) (v := .ref (ma 15)) (C := R_M) (T := F_M) (N := 23) hx hb hts (in_M _) hown hK hP k hU.o rfl 19 (by decide) (hts (.fieldLink R_M 56 "DebtRowsModel" "debtors" "[I") (List.mem_cons_of_mem _ mB_433)) (fun _ h9 => h9) rfl d_M_recourse_56 ?_
        refine lv_iload_n hx hb d_M_recourse_59 rfl (lv_at hl 2 rfl) ?_
        refine va_iald hx hb hK hP (k + 16) 0 hU.a15 rfl (in_b hw (ok_of c_529)) d_M_recourse_60 ?_
        refine lv_topi (fun v_541 ev_541 => ?_)
        have ev_541 : v_541 = (e0_debtors (b).toNatClampNeg) := ev_541
        subst ev_541
        refine lv_i2l hx hb d_M_recourse_61 rfl ?_
        refine lv_ldiv hx hb d_M_recourse_62 (db_nz hw c_534) ?_
        refine lv_iload hx hb d_M_recourse_63 (lv_at hl 0 rfl) ?_
        refine lv_i2l hx hb d_M_recourse_65 rfl ?_
        refine lv_aload_n hx hb d_M_recourse_66 rfl (lv_at hl 1 rfl) ?_
        refine va_get (D := D) (ci := 3) (v := .ref (ma 6)) (C := R_M) (T := F_M) (N := 23) hx hb hts (in_M _) hown hK hP k hU.o rfl 10 (by decide) (hts (.fieldLink R_M 28 "DebtRowsModel" "cents" "[J") (List.mem_cons_of_mem _ mB_424)) (fun _ h9 => h9) rfl d_M_recourse_67 ?_
        refine lv_iload_n hx hb d_M_recourse_70 rfl (lv_at hl 2 rfl) ?_
        refine va_lald hx hb hK hP (k + 7) 1 hU.a6 rfl (in_b hw (ok_of c_529)) d_M_recourse_71 ?_
        refine lv_topl (fun v_542 ev_542 => ?_)
        have ev_542 : v_542 = (e0_cents (b).toNatClampNeg) := ev_542
        subst ev_542
        refine lv_aload_n hx hb d_M_recourse_72 rfl (lv_at hl 1 rfl) ?_
        refine va_get (D := D) (ci := 3) (v := .ref (ma 15)) (C := R_M) (T := F_M) (N := 23) hx hb hts (in_M _) hown hK hP k hU.o rfl 19 (by decide) (hts (.fieldLink R_M 56 "DebtRowsModel" "debtors" "[I") (List.mem_cons_of_mem _ mB_433)) (fun _ h9 => h9) rfl d_M_recourse_73 ?_
        refine lv_iload_n hx hb d_M_recourse_76 rfl (lv_at hl 2 rfl) ?_
        refine va_iald hx hb hK hP (k + 16) 0 hU.a15 rfl (in_b hw (ok_of c_529)) d_M_recourse_77 ?_
        refine lv_topi (fun v_543 ev_543 => ?_)
        have ev_543 : v_543 = (e0_debtors (b).toNatClampNeg) := ev_543
        subst ev_543
        refine lv_i2l hx hb d_M_recourse_78 rfl ?_
        refine lv_lrem hx hb d_M_recourse_79 (db_nz hw c_534) ?_
        refine W.lcmp hx hb d_M_recourse_80 ?_
        have kont_c_544 : ∀ v9 : Int64, v9 = (if ((e0_cents (b).toNatClampNeg) - (e0_cents (b).toNatClampNeg) / ((e0_debtors (b).toNatClampNeg) : Int32).toInt64 * ((e0_debtors (b).toNatClampNeg) : Int32).toInt64) ≤ ((g_debtorOf (e0_thrown, e0_today, e0_rates, e0_from, e0_up, e0_down, e0_debts, e0_state, e0_born, e0_dueDay, e0_cents, e0_open, e0_lost, e0_fixed, e0_runsFrom, e0_interestPaid, e0_parts, e0_deferredOn, e0_deferred, e0_debtors, e0_debtor, e0_paidBy, e0_credit) (b) (who)) : Int32).toInt64 then 0 else 1) → W p l e (headSpec w_M_recourse ({ frames := 1, cells := 0, slots := 0, locals := 25 })).room s m [.ref h0, .int (b), .int (who), .int (sd)].toArray below meth c H locs 0 0 (MQ below (va_Ql (fun z9 (_ : Unit) => z9 = (g_recourse (e0_thrown, e0_today, e0_rates, e0_from, e0_up, e0_down, e0_debts, e0_state, e0_born, e0_dueDay, e0_cents, e0_open, e0_lost, e0_fixed, e0_runsFrom, e0_interestPaid, e0_parts, e0_deferredOn, e0_deferred, e0_debtors, e0_debtor, e0_paidBy, e0_credit) b who sd).1) (fun (_ : Unit) t => ∃ w9 : va_W, va_P D vwCl w9 t.heap ∧ va_D A w9 ∧ mUpd w w9 k cI cL h0 ma ((g_recourse (e0_thrown, e0_today, e0_rates, e0_from, e0_up, e0_down, e0_debts, e0_state, e0_born, e0_dueDay, e0_cents, e0_open, e0_lost, e0_fixed, e0_runsFrom, e0_interestPaid, e0_parts, e0_deferredOn, e0_deferred, e0_debtors, e0_debtor, e0_paidBy, e0_credit) b who sd).2)) A) [.ref h0, .int (b), .int (who), .int (sd)].toArray s 0 0 A) (F0 m 89 ls (.long v9 :: .long (((e0_cents (b).toNatClampNeg) / ((e0_debtors (b).toNatClampNeg) : Int32).toInt64)) :: [])) := by
          intro v9 ev9
          subst ev9
          refine lv_ladd hx hb d_M_recourse_89 ?_
          refine lv_lstore (lv' := [(5, .long ((((e0_cents (b).toNatClampNeg) / ((e0_debtors (b).toNatClampNeg) : Int32).toInt64) + (if ((e0_cents (b).toNatClampNeg) - (e0_cents (b).toNatClampNeg) / ((e0_debtors (b).toNatClampNeg) : Int32).toInt64 * ((e0_debtors (b).toNatClampNeg) : Int32).toInt64) ≤ ((g_debtorOf (e0_thrown, e0_today, e0_rates, e0_from, e0_up, e0_down, e0_debts, e0_state, e0_born, e0_dueDay, e0_cents, e0_open, e0_lost, e0_fixed, e0_runsFrom, e0_interestPaid, e0_parts, e0_deferredOn, e0_deferred, e0_debtors, e0_debtor, e0_paidBy, e0_credit) (b) (who)) : Int32).toInt64 then 0 else 1)))), (4, .int ((g_debtorOf (e0_thrown, e0_today, e0_rates, e0_from, e0_up, e0_down, e0_debts, e0_state, e0_born, e0_dueDay, e0_cents, e0_open, e0_lost, e0_fixed, e0_runsFrom, e0_interestPaid, e0_parts, e0_deferredOn, e0_deferred, e0_debtors, e0_debtor, e0_paidBy, e0_credit) (b) (who)))), (0, .ref h0), (1, .int (b)), (2, .int (who)), (3, .int (sd))]) hx hb d_M_recourse_90 hl (by decide) rfl (fun ls hl => ?_)
          refine lv_aload_n hx hb d_M_recourse_92 rfl (lv_at hl 2 rfl) ?_
          refine va_get (D := D) (ci := 3) (v := .ref (ma 17)) (C := R_M) (T := F_M) (N := 23) hx hb hts (in_M _) hown hK hP k hU.o rfl 21 (by decide) (hts (.fieldLink R_M 62 "DebtRowsModel" "paidBy" "[J") (List.mem_cons_of_mem _ mB_435)) (fun _ h9 => h9) rfl d_M_recourse_93 ?_
          refine lv_iconst (v := 4) hx hb d_M_recourse_96 (by decide) ?_
          refine lv_iload_n hx hb d_M_recourse_97 rfl (lv_at hl 3 rfl) ?_
          refine lv_imul hx hb d_M_recourse_98 ?_
          refine lv_iload hx hb d_M_recourse_99 (lv_at hl 1 rfl) ?_
          refine lv_iadd hx hb d_M_recourse_101 ?_
          refine va_lald hx hb hK hP (k + 18) 1 hU.a17 rfl (in_4g hw (ok_of c_529) c_534) d_M_recourse_102 ?_
          refine lv_topl (fun v_545 ev_545 => ?_)
          have ev_545 : v_545 = (e0_paidBy (((4 * b) + (g_debtorOf (e0_thrown, e0_today, e0_rates, e0_from, e0_up, e0_down, e0_debts, e0_state, e0_born, e0_dueDay, e0_cents, e0_open, e0_lost, e0_fixed, e0_runsFrom, e0_interestPaid, e0_parts, e0_deferredOn, e0_deferred, e0_debtors, e0_debtor, e0_paidBy, e0_credit) (b) (who)))).toNatClampNeg) := ev_545
          subst ev_545
          refine lv_lstore (lv' := [(7, .long ((e0_paidBy (((4 * b) + (g_debtorOf (e0_thrown, e0_today, e0_rates, e0_from, e0_up, e0_down, e0_debts, e0_state, e0_born, e0_dueDay, e0_cents, e0_open, e0_lost, e0_fixed, e0_runsFrom, e0_interestPaid, e0_parts, e0_deferredOn, e0_deferred, e0_debtors, e0_debtor, e0_paidBy, e0_credit) (b) (who)))).toNatClampNeg))), (5, .long ((((e0_cents (b).toNatClampNeg) / ((e0_debtors (b).toNatClampNeg) : Int32).toInt64) + (if ((e0_cents (b).toNatClampNeg) - (e0_cents (b).toNatClampNeg) / ((e0_debtors (b).toNatClampNeg) : Int32).toInt64 * ((e0_debtors (b).toNatClampNeg) : Int32).toInt64) ≤ ((g_debtorOf (e0_thrown, e0_today, e0_rates, e0_from, e0_up, e0_down, e0_debts, e0_state, e0_born, e0_dueDay, e0_cents, e0_open, e0_lost, e0_fixed, e0_runsFrom, e0_interestPaid, e0_parts, e0_deferredOn, e0_deferred, e0_debtors, e0_debtor, e0_paidBy, e0_credit) (b) (who)) : Int32).toInt64 then 0 else 1)))), (4, .int ((g_debtorOf (e0_thrown, e0_today, e0_rates, e0_from, e0_up, e0_down, e0_debts, e0_state, e0_born, e0_dueDay, e0_cents, e0_open, e0_lost, e0_fixed, e0_runsFrom, e0_interestPaid, e0_parts, e0_deferredOn, e0_deferred, e0_debtors, e0_debtor, e0_paidBy, e0_credit) (b) (who)))), (0, .ref h0), (1, .int (b)), (2, .int (who)), (3, .int (sd))]) hx hb d_M_recourse_103 hl (by decide) rfl (fun ls hl => ?_)
          refine lv_iload_n hx hb d_M_recourse_105 rfl (lv_at hl 6 rfl) ?_
          refine lv_if_ne (tgt := 114) hx hb d_M_recourse_106 (by decide) (fun c_546 => ?_) (fun c_546 => ?_)
          · refine lv_iload_n hx hb d_M_recourse_114 rfl (lv_at hl 6 rfl) ?_
            refine lv_iconst (v := 1) hx hb d_M_recourse_115 (by decide) ?_
            refine lv_icmp_ne (tgt := 124) hx hb d_M_recourse_116 (by decide) (fun c_547 => ?_) (fun c_547 => ?_)
            · refine lv_lload hx hb d_M_recourse_124 (lv_at hl 0 rfl) ?_
              refine lv_lload hx hb d_M_recourse_126 (lv_at hl 1 rfl) ?_
              refine W.lcmp hx hb d_M_recourse_128 ?_
              refine lv_if_le (tgt := 140) hx hb d_M_recourse_129 (by decide) (fun c_548 => ?_) (fun c_548 => ?_)
              · have c_548 : (e0_paidBy (((4 * b) + (g_debtorOf (e0_thrown, e0_today, e0_rates, e0_from, e0_up, e0_down, e0_debts, e0_state, e0_born, e0_dueDay, e0_cents, e0_open, e0_lost, e0_fixed, e0_runsFrom, e0_interestPaid, e0_parts, e0_deferredOn, e0_deferred, e0_debtors, e0_debtor, e0_paidBy, e0_credit) (b) (who)))).toNatClampNeg) ≤ (((e0_cents (b).toNatClampNeg) / ((e0_debtors (b).toNatClampNeg) : Int32).toInt64) + (if ((e0_cents (b).toNatClampNeg) - (e0_cents (b).toNatClampNeg) / ((e0_debtors (b).toNatClampNeg) : Int32).toInt64 * ((e0_debtors (b).toNatClampNeg) : Int32).toInt64) ≤ ((g_debtorOf (e0_thrown, e0_today, e0_rates, e0_from, e0_up, e0_down, e0_debts, e0_state, e0_born, e0_dueDay, e0_cents, e0_open, e0_lost, e0_fixed, e0_runsFrom, e0_interestPaid, e0_parts, e0_deferredOn, e0_deferred, e0_debtors, e0_debtor, e0_paidBy, e0_credit) (b) (who)) : Int32).toInt64 then 0 else 1)) := (lg_cmp_le _ _).mp c_548
                refine lv_lconst (v := 0) hx hb d_M_recourse_140 (by decide) ?_
                exact W.lret (v := 0) hx hb hr (fun t ht hW => ⟨⟨_, (), rfl, by rw [g_recourse, if_neg c_529, if_neg c_534, if_neg c_538, if_neg c_546, if_neg c_547, if_pos c_548], w_539, by rw [ht]; exact hP, hD, by rw [g_recourse, if_neg c_529, if_neg c_534, if_neg c_538, if_neg c_546, if_neg c_547, if_pos c_548]; exact hU⟩, hS.F ht⟩) hS.2.2 d_M_recourse_141
              · have c_548 : ¬ (e0_paidBy (((4 * b) + (g_debtorOf (e0_thrown, e0_today, e0_rates, e0_from, e0_up, e0_down, e0_debts, e0_state, e0_born, e0_dueDay, e0_cents, e0_open, e0_lost, e0_fixed, e0_runsFrom, e0_interestPaid, e0_parts, e0_deferredOn, e0_deferred, e0_debtors, e0_debtor, e0_paidBy, e0_credit) (b) (who)))).toNatClampNeg) ≤ (((e0_cents (b).toNatClampNeg) / ((e0_debtors (b).toNatClampNeg) : Int32).toInt64) + (if ((e0_cents (b).toNatClampNeg) - (e0_cents (b).toNatClampNeg) / ((e0_debtors (b).toNatClampNeg) : Int32).toInt64 * ((e0_debtors (b).toNatClampNeg) : Int32).toInt64) ≤ ((g_debtorOf (e0_thrown, e0_today, e0_rates, e0_from, e0_up, e0_down, e0_debts, e0_state, e0_born, e0_dueDay, e0_cents, e0_open, e0_lost, e0_fixed, e0_runsFrom, e0_interestPaid, e0_parts, e0_deferredOn, e0_deferred, e0_debtors, e0_debtor, e0_paidBy, e0_credit) (b) (who)) : Int32).toInt64 then 0 else 1)) := fun h9 => c_548 ((lg_cmp_le _ _).mpr h9)
                refine lv_lload hx hb d_M_recourse_132 (lv_at hl 0 rfl) ?_
                refine lv_lload hx hb d_M_recourse_134 (lv_at hl 1 rfl) ?_
                refine lv_lsub hx hb d_M_recourse_136 ?_
                refine lv_goto (tgt := 141) hx hb d_M_recourse_137 (by decide) ?_
                exact W.lret (v := ((e0_paidBy (((4 * b) + (g_debtorOf (e0_thrown, e0_today, e0_rates, e0_from, e0_up, e0_down, e0_debts, e0_state, e0_born, e0_dueDay, e0_cents, e0_open, e0_lost, e0_fixed, e0_runsFrom, e0_interestPaid, e0_parts, e0_deferredOn, e0_deferred, e0_debtors, e0_debtor, e0_paidBy, e0_credit) (b) (who)))).toNatClampNeg) - (((e0_cents (b).toNatClampNeg) / ((e0_debtors (b).toNatClampNeg) : Int32).toInt64) + (if ((e0_cents (b).toNatClampNeg) - (e0_cents (b).toNatClampNeg) / ((e0_debtors (b).toNatClampNeg) : Int32).toInt64 * ((e0_debtors (b).toNatClampNeg) : Int32).toInt64) ≤ ((g_debtorOf (e0_thrown, e0_today, e0_rates, e0_from, e0_up, e0_down, e0_debts, e0_state, e0_born, e0_dueDay, e0_cents, e0_open, e0_lost, e0_fixed, e0_runsFrom, e0_interestPaid, e0_parts, e0_deferredOn, e0_deferred, e0_debtors, e0_debtor, e0_paidBy, e0_credit) (b) (who)) : Int32).toInt64 then 0 else 1)))) hx hb hr (fun t ht hW => ⟨⟨_, (), rfl, by rw [g_recourse, if_neg c_529, if_neg c_534, if_neg c_538, if_neg c_546, if_neg c_547, if_neg c_548], w_539, by rw [ht]; exact hP, hD, by rw [g_recourse, if_neg c_529, if_neg c_534, if_neg c_538, if_neg c_546, if_neg c_547, if_neg c_548]; exact hU⟩, hS.F ht⟩) hS.2.2 d_M_recourse_141
            · refine lv_lload hx hb d_M_recourse_119 (lv_at hl 1 rfl) ?_
              refine lv_goto (tgt := 141) hx hb d_M_recourse_121 (by decide) ?_
              exact W.lret (v := (((e0_cents (b).toNatClampNeg) / ((e0_debtors (b).toNatClampNeg) : Int32).toInt64) + (if ((e0_cents (b).toNatClampNeg) - (e0_cents (b).toNatClampNeg) / ((e0_debtors (b).toNatClampNeg) : Int32).toInt64 * ((e0_debtors (b).toNatClampNeg) : Int32).toInt64) ≤ ((g_debtorOf (e0_thrown, e0_today, e0_rates, e0_from, e0_up, e0_down, e0_debts, e0_state, e0_born, e0_dueDay, e0_cents, e0_open, e0_lost, e0_fixed, e0_runsFrom, e0_interestPaid, e0_parts, e0_deferredOn, e0_deferred, e0_debtors, e0_debtor, e0_paidBy, e0_credit) (b) (who)) : Int32).toInt64 then 0 else 1))) hx hb hr (fun t ht hW => ⟨⟨_, (), rfl, by rw [g_recourse, if_neg c_529, if_neg c_534, if_neg c_538, if_neg c_546, if_pos c_547], w_539, by rw [ht]; exact hP, hD, by rw [g_recourse, if_neg c_529, if_neg c_534, if_neg c_538, if_neg c_546, if_pos c_547]; exact hU⟩, hS.F ht⟩) hS.2.2 d_M_recourse_141
          · refine lv_lload hx hb d_M_recourse_109 (lv_at hl 0 rfl) ?_
            refine lv_goto (tgt := 141) hx hb d_M_recourse_111 (by decide) ?_
            exact W.lret (v := (e0_paidBy (((4 * b) + (g_debtorOf (e0_thrown, e0_today, e0_rates, e0_from, e0_up, e0_down, e0_debts, e0_state, e0_born, e0_dueDay, e0_cents, e0_open, e0_lost, e0_fixed, e0_runsFrom, e0_interestPaid, e0_parts, e0_deferredOn, e0_deferred, e0_debtors, e0_debtor, e0_paidBy, e0_credit) (b) (who)))).toNatClampNeg)) hx hb hr (fun t ht hW => ⟨⟨_, (), rfl, by rw [g_recourse, if_neg c_529, if_neg c_534, if_neg c_538, if_pos c_546], w_539, by rw [ht]; exact hP, hD, by rw [g_recourse, if_neg c_529, if_neg c_534, if_neg c_538, if_pos c_546]; exact hU⟩, hS.F ht⟩) hS.2.2 d_M_recourse_141
        refine lv_if_ge (tgt := 88) hx hb d_M_recourse_81 (by decide) (fun c_544 => ?_) (fun c_544 => ?_)
        · have c_544 : ((e0_cents (b).toNatClampNeg) - (e0_cents (b).toNatClampNeg) / ((e0_debtors (b).toNatClampNeg) : Int32).toInt64 * ((e0_debtors (b).toNatClampNeg) : Int32).toInt64) ≤ ((g_debtorOf (e0_thrown, e0_today, e0_rates, e0_from, e0_up, e0_down, e0_debts, e0_state, e0_born, e0_dueDay, e0_cents, e0_open, e0_lost, e0_fixed, e0_runsFrom, e0_interestPaid, e0_parts, e0_deferredOn, e0_deferred, e0_debtors, e0_debtor, e0_paidBy, e0_credit) (b) (who)) : Int32).toInt64 := (lg_cmp_ge _ _).mp c_544
          refine lv_lconst (v := 0) hx hb d_M_recourse_88 (by decide) ?_
          exact kont_c_544 _ (by rw [if_pos c_544])
        · have c_544 : ¬ ((e0_cents (b).toNatClampNeg) - (e0_cents (b).toNatClampNeg) / ((e0_debtors (b).toNatClampNeg) : Int32).toInt64 * ((e0_debtors (b).toNatClampNeg) : Int32).toInt64) ≤ ((g_debtorOf (e0_thrown, e0_today, e0_rates, e0_from, e0_up, e0_down, e0_debts, e0_state, e0_born, e0_dueDay, e0_cents, e0_open, e0_lost, e0_fixed, e0_runsFrom, e0_interestPaid, e0_parts, e0_deferredOn, e0_deferred, e0_debtors, e0_debtor, e0_paidBy, e0_credit) (b) (who)) : Int32).toInt64 := fun h9 => c_544 ((lg_cmp_ge _ _).mpr h9)
          refine lv_lconst (v := 1) hx hb d_M_recourse_84 (by decide) ?_
          refine lv_goto (tgt := 89) hx hb d_M_recourse_85 (by decide) ?_
          exact kont_c_544 _ (by rw [if_neg c_544])
      · refine lv_aload_n hx hb d_M_recourse_37 rfl (lv_at hl 1 rfl) ?_
        refine lv_iconst (v := 1) hx hb d_M_recourse_38 (by decide) ?_
        refine va_calli (va_runV (As := [.int (1)]) (rest := []) ⟨hx, hb, hml, hown, hts⟩ (c_M_fails l D A w cI cL cD k h0 ma (e0_thrown, e0_today, e0_rates, e0_from, e0_up, e0_down, e0_debts, e0_state, e0_born, e0_dueDay, e0_cents, e0_open, e0_lost, e0_fixed, e0_runsFrom, e0_interestPaid, e0_parts, e0_deferredOn, e0_deferred, e0_debtors, e0_debtor, e0_paidBy, e0_credit) (1) hU.1) (cwV 1 hts (gV _ mB_469 mB_470 mB_4 mB_17 mB_471) rfl rfl rfl (by decide +kernel) ⟨(Nat.le_of_ble_eq_true rfl), (Nat.le_of_ble_eq_true rfl)⟩) ⟨mPc_bl, va_recv hK hP (ci := 3) (q0 := k) rfl hU.o, mPc_pr hP hK hD⟩ rfl rfl hl.1 rfl (lv_room (Nat.le_of_ble_eq_true rfl)) d_M_recourse_39 ⟨Nat.zero_le _, Nat.zero_le _⟩) hS (fun _ _ h => h) (fun _ h => h) (fun v_549 u9 t H locs ht hvm ev_549 hB hz1 hk1 hS => ?_)
        obtain ⟨w_550, hP, hD, hU1⟩ := hB
        rw [ht] at hP
        have hU := hU.tr hU1
        subst ev_549
        refine lv_i2l hx hb d_M_recourse_42 rfl ?_
        exact W.lret (v := ((g_fails (e0_thrown, e0_today, e0_rates, e0_from, e0_up, e0_down, e0_debts, e0_state, e0_born, e0_dueDay, e0_cents, e0_open, e0_lost, e0_fixed, e0_runsFrom, e0_interestPaid, e0_parts, e0_deferredOn, e0_deferred, e0_debtors, e0_debtor, e0_paidBy, e0_credit) (1)).1 : Int32).toInt64) hx hb hr (fun t ht hW => ⟨⟨_, (), rfl, by rw [g_recourse, if_neg c_529, if_neg c_534, if_pos c_538], w_550, by rw [ht]; exact hP, hD, by rw [g_recourse, if_neg c_529, if_neg c_534, if_pos c_538]; exact hU⟩, hS.F ht⟩) hS.2.2 d_M_recourse_43
