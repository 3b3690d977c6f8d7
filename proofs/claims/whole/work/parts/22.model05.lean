theorem wk_fix {y : MT} {b : Int32} (h : wfM y) : wfM (g_fix y b) := h
theorem wk_lose {y : MT} {b c : Int32} (h : wfM y) : wfM (g_lose y b c).2 := h
def g_instalments (y : MT) (b : Int32) (n : Int32) : Int32 × MT :=
  if (g_isDebt y (b)) = 0 then ((g_fails y (1)).1, (g_fails y (1)).2)
  else if (g_in ((n : Int32).toInt64) (2) (12)) = 0 then ((g_fails y (1)).1, (g_fails y (1)).2)
    else if ((m_state y) (b).toNatClampNeg) = 1 then (1, (n_deferred (n_deferredOn (n_parts (n_state (g_fix (n_thrown y (0)) (b)) (upd ((m_state (g_fix (n_thrown y (0)) (b)))) (b).toNatClampNeg (2))) (upd ((m_parts (g_fix (n_thrown y (0)) (b)))) (b).toNatClampNeg (n))) (upd ((m_deferredOn (g_fix (n_thrown y (0)) (b)))) (b).toNatClampNeg ((m_today (g_fix (n_thrown y (0)) (b)))))) (vp_updL ((m_deferred (g_fix (n_thrown y (0)) (b)))) (b).toNatClampNeg (((m_open (g_fix (n_thrown y (0)) (b))) (b).toNatClampNeg)))))
      else (0, (n_thrown y (0)))
set_option maxHeartbeats 4000000 in
set_option maxRecDepth 100000 in
theorem c_M_instalments (l : Launch) (D : va_G) (A : Nat → Prop) (w : va_W) (cI cL cD : ClassId) (k h0 : Nat) (ma : Nat → Nat) (y : MT) (b : Int32) (n : Int32) (hU0 : mA w k cI cL h0 ma y) (hw : wfM y) : Met l y_M_instalments w_M_instalments ({ frames := 3, cells := 0, slots := 0, locals := 70 }) (mPc D w (tyL cI cL cD) A [.ref h0, .int (b), .int (n)]) (va_Qi (fun z9 (_ : Unit) => z9 = (g_instalments y b n).1) (fun (_ : Unit) t => ∃ w9 : va_W, va_P D vwCl w9 t.heap ∧ va_D A w9 ∧ mUpd w w9 k cI cL h0 ma ((g_instalments y b n).2)) A) 0 0 A := by
  refine Met.ofW (cc := b_M_instalments) (maxL := 3) (ret := (some .int)) (by decide) rfl ?_
  intro p e s m args below meth c s₁ B hml hv
  obtain ⟨rfl, hP, hK, hD⟩ := hv
  have hx := B.exec
  have hb := B.bytes
  have hr := B.returns
  have hts := atoms_spec (ws := w_M_instalments) B.pre
  have hown : s.vm.findClass R_M = some m.cls := findClass_of_methodNamed B.named
  have hlocks := B.notSynchronized
  have hS : va_S A s.heap s.heap [] := va_S.rf
  have hU : mUpd w w k cI cL h0 ma y := mUpd.rf hU0
  have hl := lv_entry ([.ref h0, .int (b), .int (n)]) (n := 3) (Nat.le_of_ble_eq_true rfl)
  rw [lg_entry_eq]
  generalize (lg_sl ([.ref h0, .int (b), .int (n)]) ++ List.replicate (3 - (lg_sl ([.ref h0, .int (b), .int (n)])).length) Slot.unset).toArray = ls at hl ⊢
  have hl : lv_has ls 3 [(0, .ref h0), (1, .int (b)), (2, .int (n))] := hl
  have hw0 := hw
  obtain ⟨e0_thrown, e0_today, e0_rates, e0_from, e0_up, e0_down, e0_debts, e0_state, e0_born, e0_dueDay, e0_cents, e0_open, e0_lost, e0_fixed, e0_runsFrom, e0_interestPaid, e0_parts, e0_deferredOn, e0_deferred, e0_debtors, e0_debtor, e0_paidBy, e0_credit⟩ := y
  refine lv_aload_n hx hb d_M_instalments_0 rfl (lv_at hl 0 rfl) ?_
  refine lv_iload_n hx hb d_M_instalments_1 rfl (lv_at hl 1 rfl) ?_
  refine vp_callSi (W.runV (As := [.int (b)]) (rest := []) ⟨hx, hb, hml, hown, hts⟩ (c_M_isDebt l D A w cI cL cD k h0 ma (e0_thrown, e0_today, e0_rates, e0_from, e0_up, e0_down, e0_debts, e0_state, e0_born, e0_dueDay, e0_cents, e0_open, e0_lost, e0_fixed, e0_runsFrom, e0_interestPaid, e0_parts, e0_deferredOn, e0_deferred, e0_debtors, e0_debtor, e0_paidBy, e0_credit) (b) hU.1) (cwV 1 hts (gV _ mB_488 mB_489 mB_5 mB_17 mB_490) rfl rfl rfl (by decide +kernel) ⟨(Nat.le_of_ble_eq_true rfl), (Nat.le_of_ble_eq_true rfl)⟩) ⟨mPc_bl, va_recv hK hP (ci := 3) (q0 := k) rfl hU.o, mPc_pr hP hK hD⟩ rfl rfl hl.1 rfl (lv_room (Nat.le_of_ble_eq_true rfl)) d_M_instalments_2 ⟨Nat.zero_le _, Nat.zero_le _⟩) (fun v_452 ev_452 => ?_)
  subst ev_452
  refine lv_if_eq (tgt := 22) hx hb d_M_instalments_5 (by decide) (fun c_453 => ?_) (fun c_453 => ?_)
  · refine lv_aload_n hx hb d_M_instalments_22 rfl (lv_at hl 0 rfl) ?_
    refine lv_iconst (v := 1) hx hb d_M_instalments_23 (by decide) ?_
    refine va_calli (va_runV (As := [.int (1)]) (rest := []) ⟨hx, hb, hml, hown, hts⟩ (c_M_fails l D A w cI cL cD k h0 ma (e0_thrown, e0_today, e0_rates, e0_from, e0_up, e0_down, e0_debts, e0_state, e0_born, e0_dueDay, e0_cents, e0_open, e0_lost, e0_fixed, e0_runsFrom, e0_interestPaid, e0_parts, e0_deferredOn, e0_deferred, e0_debtors, e0_debtor, e0_paidBy, e0_credit) (1) hU.1) (cwV 1 hts (gV _ mB_469 mB_470 mB_4 mB_17 mB_471) rfl rfl rfl (by decide +kernel) ⟨(Nat.le_of_ble_eq_true rfl), (Nat.le_of_ble_eq_true rfl)⟩) ⟨mPc_bl, va_recv hK hP (ci := 3) (q0 := k) rfl hU.o, mPc_pr hP hK hD⟩ rfl rfl hl.1 rfl (lv_room (Nat.le_of_ble_eq_true rfl)) d_M_instalments_24 ⟨Nat.zero_le _, Nat.zero_le _⟩) hS (fun _ _ h => h) (fun _ h => h) (fun v_454 u9 t H locs ht hvm ev_454 hB hz1 hk1 hS => ?_)
    obtain ⟨w_455, hP, hD, hU1⟩ := hB
    rw [ht] at hP
    have hU := hU.tr hU1
    subst ev_454
    exact W.iret (v := (g_fails (e0_thrown, e0_today, e0_rates, e0_from, e0_up, e0_down, e0_debts, e0_state, e0_born, e0_dueDay, e0_cents, e0_open, e0_lost, e0_fixed, e0_runsFrom, e0_interestPaid, e0_parts, e0_deferredOn, e0_deferred, e0_debtors, e0_debtor, e0_paidBy, e0_credit) (1)).1) hx hb hr (fun t ht hW => ⟨⟨_, (), rfl, by rw [g_instalments, if_pos c_453], w_455, by rw [ht]; exact hP, hD, by rw [g_instalments, if_pos c_453]; exact hU⟩, hS.F ht⟩) hS.2.2 d_M_instalments_27
  · refine lv_iload_n hx hb d_M_instalments_8 rfl (lv_at hl 2 rfl) ?_
    refine lv_i2l hx hb d_M_instalments_9 rfl ?_
    refine lv_ldc2 (own := R_M) (index := 127) (v := 2) hx hb hown (hts (.constantLong R_M 127 (2)) (List.mem_cons_of_mem _ mB_523)) d_M_instalments_10 ?_
    refine lv_ldc2 (own := R_M) (index := 129) (v := 12) hx hb hown (hts (.constantLong R_M 129 (12)) (List.mem_cons_of_mem _ mB_524)) d_M_instalments_13 ?_
    refine vp_callSi (W.runS (As := [.long ((n : Int32).toInt64), .long (2), .long (12)]) (rest := []) ⟨hx, hb, hml, hown, hts⟩ (c_M_in l ((n : Int32).toInt64) (2) (12)) (cwS 3 hts (gS _ mB_478 mB_479 mB_17 mB_480) rfl rfl rfl (by decide +kernel) ⟨(Nat.le_of_ble_eq_true rfl), (Nat.le_of_ble_eq_true rfl)⟩) ⟨fun _ _ _ _ q => q, fun U _ _ => ⟨rfl, trivial⟩⟩ rfl rfl hl.1 rfl (lv_room (Nat.le_of_ble_eq_true rfl)) d_M_instalments_16 ⟨Nat.zero_le _, Nat.zero_le _⟩) (fun v_456 ev_456 => ?_)
    subst ev_456
    refine lv_if_ne (tgt := 28) hx hb d_M_instalments_19 (by decide) (fun c_457 => ?_) (fun c_457 => ?_)
    · refine lv_aload_n hx hb d_M_instalments_28 rfl (lv_at hl 0 rfl) ?_
      refine lv_iconst (v := 0) hx hb d_M_instalments_29 (by decide) ?_
      refine va_put (D := D) (ci := 3) (v := .int (0)) (ty := .int) (C := R_M) (T := F_M) (N := 23) hx hb hts (in_M _) t_M to_M nn_M hown hK hP hD hS k hU.o rfl 0 (by decide) (hts (.fieldLink R_M 68 "DebtRowsModel" "thrown" "I") (List.mem_cons_of_mem _ mB_414)) (fun _ h9 => h9) rfl (by decide +kernel) rfl rfl (Nat.le_of_ble_eq_true rfl) d_M_instalments_30 (fun H locs hP hD hS => ?_)
      have hU : mUpd w (w.set k (h0, mE ma (0, e0_today, e0_rates, e0_from, e0_up, e0_down, e0_debts, e0_state, e0_born, e0_dueDay, e0_cents, e0_open, e0_lost, e0_fixed, e0_runsFrom, e0_interestPaid, e0_parts, e0_deferredOn, e0_deferred, e0_debtors, e0_debtor, e0_paidBy, e0_credit))) k cI cL h0 ma ((0), e0_today, e0_rates, e0_from, e0_up, e0_down, e0_debts, e0_state, e0_born, e0_dueDay, e0_cents, e0_open, e0_lost, e0_fixed, e0_runsFrom, e0_interestPaid, e0_parts, e0_deferredOn, e0_deferred, e0_debtors, e0_debtor, e0_paidBy, e0_credit) := hU.s_thrown (0)
      have hP : va_P D vwCl (w.set k (h0, mE ma (0, e0_today, e0_rates, e0_from, e0_up, e0_down, e0_debts, e0_state, e0_born, e0_dueDay, e0_cents, e0_open, e0_lost, e0_fixed, e0_runsFrom, e0_interestPaid, e0_parts, e0_deferredOn, e0_deferred, e0_debtors, e0_debtor, e0_paidBy, e0_credit))) H := hP
      have hD : va_D A (w.set k (h0, mE ma (0, e0_today, e0_rates, e0_from, e0_up, e0_down, e0_debts, e0_state, e0_born, e0_dueDay, e0_cents, e0_open, e0_lost, e0_fixed, e0_runsFrom, e0_interestPaid, e0_parts, e0_deferredOn, e0_deferred, e0_debtors, e0_debtor, e0_paidBy, e0_credit))) := hD
      generalize w.set k (h0, mE ma (0, e0_today, e0_rates, e0_from, e0_up, e0_down, e0_debts, e0_state, e0_born, e0_dueDay, e0_cents, e0_open, e0_lost, e0_fixed, e0_runsFrom, e0_interestPaid, e0_parts, e0_deferredOn, e0_deferred, e0_debtors, e0_debtor, e0_paidBy, e0_credit)) = w_458 at hP hD hU
      refine lv_aload_n hx hb d_M_instalments_33 rfl (lv_at hl 0 rfl) ?_
      refine va_get (D := D) (ci := 3) (v := .ref (ma 3)) (C := R_M) (T := F_M) (N := 23) hx hb hts (in_M _) hown hK hP k hU.o rfl 7 (by decide) (hts (.fieldLink R_M 19 "DebtRowsModel" "state" "[I") (List.mem_cons_of_mem _ mB_421)) (fun _ h9 => h9) rfl d_M_instalments_34 ?_
      refine lv_iload_n hx hb d_M_instalments_37 rfl (lv_at hl 1 rfl) ?_
      refine va_iald hx hb hK hP (k + 4) 0 hU.a3 rfl (in_b hw0 (ok_of c_453)) d_M_instalments_38 ?_
      refine lv_topi (fun v_459 ev_459 => ?_)
      have ev_459 : v_459 = (e0_state (b).toNatClampNeg) := ev_459
      subst ev_459
      refine lv_iconst (v := 1) hx hb d_M_instalments_39 (by decide) ?_
      refine lv_icmp_eq (tgt := 45) hx hb d_M_instalments_40 (by decide) (fun c_460 => ?_) (fun c_460 => ?_)
      · refine lv_aload_n hx hb d_M_instalments_45 rfl (lv_at hl 0 rfl) ?_
        refine lv_iload_n hx hb d_M_instalments_46 rfl (lv_at hl 1 rfl) ?_
        refine va_callv (va_runV (As := [.int (b)]) (rest := []) ⟨hx, hb, hml, hown, hts⟩ (c_M_fix l D A w_458 cI cL cD k h0 ma ((0), e0_today, e0_rates, e0_from, e0_up, e0_down, e0_debts, e0_state, e0_born, e0_dueDay, e0_cents, e0_open, e0_lost, e0_fixed, e0_runsFrom, e0_interestPaid, e0_parts, e0_deferredOn, e0_deferred, e0_debtors, e0_debtor, e0_paidBy, e0_credit) (b) hU.1 hw (ok_of c_453)) (cwV 1 hts (gV _ mB_505 mB_506 mB_8 mB_17 mB_507) rfl rfl rfl (by decide +kernel) ⟨(Nat.le_of_ble_eq_true rfl), (Nat.le_of_ble_eq_true rfl)⟩) ⟨mPc_bl, va_recv hK hP (ci := 3) (q0 := k) rfl hU.o, mPc_pr hP hK hD⟩ rfl rfl hl.1 rfl (lv_room (Nat.le_of_ble_eq_true rfl)) d_M_instalments_47 ⟨Nat.zero_le _, Nat.zero_le _⟩) hS (fun _ _ h => h) (fun _ h => h) (fun u9 t H locs ht hvm ev_461 hB hz1 hk1 hS => ?_)
        obtain ⟨w_462, hP, hD, hU1⟩ := hB
        rw [ht] at hP
        have hU := hU.tr hU1
        refine lv_aload_n hx hb d_M_instalments_50 rfl (lv_at hl 0 rfl) ?_
        generalize hge_463 : (g_fix ((0), e0_today, e0_rates, e0_from, e0_up, e0_down, e0_debts, e0_state, e0_born, e0_dueDay, e0_cents, e0_open, e0_lost, e0_fixed, e0_runsFrom, e0_interestPaid, e0_parts, e0_deferredOn, e0_deferred, e0_debtors, e0_debtor, e0_paidBy, e0_credit) (b)) = yq at hU
        have hw : wfM (g_fix ((0), e0_today, e0_rates, e0_from, e0_up, e0_down, e0_debts, e0_state, e0_born, e0_dueDay, e0_cents, e0_open, e0_lost, e0_fixed, e0_runsFrom, e0_interestPaid, e0_parts, e0_deferredOn, e0_deferred, e0_debtors, e0_debtor, e0_paidBy, e0_credit) (b)) := wk_fix hw
        rw [hge_463] at hw
        obtain ⟨e_463_thrown, e_463_today, e_463_rates, e_463_from, e_463_up, e_463_down, e_463_debts, e_463_state, e_463_born, e_463_dueDay, e_463_cents, e_463_open, e_463_lost, e_463_fixed, e_463_runsFrom, e_463_interestPaid, e_463_parts, e_463_deferredOn, e_463_deferred, e_463_debtors, e_463_debtor, e_463_paidBy, e_463_credit⟩ := yq
        refine va_get (D := D) (ci := 3) (v := .ref (ma 3)) (C := R_M) (T := F_M) (N := 23) hx hb hts (in_M _) hown hK hP k hU.o rfl 7 (by decide) (hts (.fieldLink R_M 19 "DebtRowsModel" "state" "[I") (List.mem_cons_of_mem _ mB_421)) (fun _ h9 => h9) rfl d_M_instalments_51 ?_
        refine lv_iload_n hx hb d_M_instalments_54 rfl (lv_at hl 1 rfl) ?_
        refine lv_iconst (v := 2) hx hb d_M_instalments_55 (by decide) ?_
        refine va_iast hx hb hK hP hD hS (k + 4) 0 hU.a3 rfl (in_b hw0 (ok_of c_453)) d_M_instalments_56 (fun H locs hP hD hS => ?_)
        have hU : mUpd w (w_462.set (k + 4) (ma 3, aI cI 41 (upd (e_463_state) (b).toNatClampNeg (2)))) k cI cL h0 ma (e_463_thrown, e_463_today, e_463_rates, e_463_from, e_463_up, e_463_down, e_463_debts, (upd (e_463_state) (b).toNatClampNeg (2)), e_463_born, e_463_dueDay, e_463_cents, e_463_open, e_463_lost, e_463_fixed, e_463_runsFrom, e_463_interestPaid, e_463_parts, e_463_deferredOn, e_463_deferred, e_463_debtors, e_463_debtor, e_463_paidBy, e_463_credit) := hU.s_state (upd (e_463_state) (b).toNatClampNeg (2))
        have hP : va_P D vwCl (w_462.set (k + 4) (ma 3, aI cI 41 (upd (e_463_state) (b).toNatClampNeg (2)))) H := hP
        have hD : va_D A (w_462.set (k + 4) (ma 3, aI cI 41 (upd (e_463_state) (b).toNatClampNeg (2)))) := hD
        generalize w_462.set (k + 4) (ma 3, aI cI 41 (upd (e_463_state) (b).toNatClampNeg (2))) = w_464 at hP hD hU
        refine lv_aload_n hx hb d_M_instalments_57 rfl (lv_at hl 0 rfl) ?_
        refine va_get (D := D) (ci := 3) (v := .ref (ma 12)) (C := R_M) (T := F_M) (N := 23) hx hb hts (in_M _) hown hK hP k hU.o rfl 16 (by decide) (hts (.fieldLink R_M 47 "DebtRowsModel" "parts" "[I") (List.mem_cons_of_mem _ mB_430)) (fun _ h9 => h9) rfl d_M_instalments_58 ?_
        refine lv_iload_n hx hb d_M_instalments_61 rfl (lv_at hl 1 rfl) ?_
        refine lv_iload_n hx hb d_M_instalments_62 rfl (lv_at hl 2 rfl) ?_
        refine va_iast hx hb hK hP hD hS (k + 13) 0 hU.a12 rfl (in_b hw0 (ok_of c_453)) d_M_instalments_63 (fun H locs hP hD hS => ?_)
        have hU : mUpd w (w_464.set (k + 13) (ma 12, aI cI 41 (upd (e_463_parts) (b).toNatClampNeg (n)))) k cI cL h0 ma (e_463_thrown, e_463_today, e_463_rates, e_463_from, e_463_up, e_463_down, e_463_debts, (upd (e_463_state) (b).toNatClampNeg (2)), e_463_born, e_463_dueDay, e_463_cents, e_463_open, e_463_lost, e_463_fixed, e_463_runsFrom, e_463_interestPaid, (upd (e_463_parts) (b).toNatClampNeg (n)), e_463_deferredOn, e_463_deferred, e_463_debtors, e_463_debtor, e_463_paidBy, e_463_credit) := hU.s_parts (upd (e_463_parts) (b).toNatClampNeg (n))
        have hP : va_P D vwCl (w_464.set (k + 13) (ma 12, aI cI 41 (upd (e_463_parts) (b).toNatClampNeg (n)))) H := hP
        have hD : va_D A (w_464.set (k + 13) (ma 12, aI cI 41 (upd (e_463_parts) (b).toNatClampNeg (n)))) := hD
        generalize w_464.set (k + 13) (ma 12, aI cI 41 (upd (e_463_parts) (b).toNatClampNeg (n))) = w_465 at hP hD hU
        refine lv_aload_n hx hb d_M_instalments_64 rfl (lv_at hl 0 rfl) ?_
        refine va_get (D := D) (ci := 3) (v := .ref (ma 13)) (C := R_M) (T := F_M) (N := 23) hx hb hts (in_M _) hown hK hP k hU.o rfl 17 (by decide) (hts (.fieldLink R_M 50 "DebtRowsModel" "deferredOn" "[I") (List.mem_cons_of_mem _ mB_431)) (fun _ h9 => h9) rfl d_M_instalments_65 ?_
        refine lv_iload_n hx hb d_M_instalments_68 rfl (lv_at hl 1 rfl) ?_
        refine lv_aload_n hx hb d_M_instalments_69 rfl (lv_at hl 0 rfl) ?_
        refine va_get (D := D) (ci := 3) (v := .int (e_463_today)) (C := R_M) (T := F_M) (N := 23) hx hb hts (in_M _) hown hK hP k hU.o rfl 1 (by decide) (hts (.fieldLink R_M 79 "DebtRowsModel" "today" "I") (List.mem_cons_of_mem _ mB_415)) (fun _ h9 => h9) rfl d_M_instalments_70 ?_
        refine va_iast hx hb hK hP hD hS (k + 14) 0 hU.a13 rfl (in_b hw0 (ok_of c_453)) d_M_instalments_73 (fun H locs hP hD hS => ?_)
        have hU : mUpd w (w_465.set (k + 14) (ma 13, aI cI 41 (upd (e_463_deferredOn) (b).toNatClampNeg (e_463_today)))) k cI cL h0 ma (e_463_thrown, e_463_today, e_463_rates, e_463_from, e_463_up, e_463_down, e_463_debts, (upd (e_463_state) (b).toNatClampNeg (2)), e_463_born, e_463_dueDay, e_463_cents, e_463_open, e_463_lost, e_463_fixed, e_463_runsFrom, e_463_interestPaid, (upd (e_463_parts) (b).toNatClampNeg (n)), (upd (e_463_deferredOn) (b).toNatClampNeg (e_463_today)), e_463_deferred, e_463_debtors, e_463_debtor, e_463_paidBy, e_463_credit) := hU.s_deferredOn (upd (e_463_deferredOn) (b).toNatClampNeg (e_463_today))
        have hP : va_P D vwCl (w_465.set (k + 14) (ma 13, aI cI 41 (upd (e_463_deferredOn) (b).toNatClampNeg (e_463_today)))) H := hP
        have hD : va_D A (w_465.set (k + 14) (ma 13, aI cI 41 (upd (e_463_deferredOn) (b).toNatClampNeg (e_463_today)))) := hD
        generalize w_465.set (k + 14) (ma 13, aI cI 41 (upd (e_463_deferredOn) (b).toNatClampNeg (e_463_today))) = w_466 at hP hD hU
        refine lv_aload_n hx hb d_M_instalments_74 rfl (lv_at hl 0 rfl) ?_
        refine va_get (D := D) (ci := 3) (v := .ref (ma 14)) (C := R_M) (T := F_M) (N := 23) hx hb hts (in_M _) hown hK hP k hU.o rfl 18 (by decide) (hts (.fieldLink R_M 53 "DebtRowsModel" "deferred" "[J") (List.mem_cons_of_mem _ mB_432)) (fun _ h9 => h9) rfl d_M_instalments_75 ?_
        refine lv_iload_n hx hb d_M_instalments_78 rfl (lv_at hl 1 rfl) ?_
        refine lv_aload_n hx hb d_M_instalments_79 rfl (lv_at hl 0 rfl) ?_
        refine va_get (D := D) (ci := 3) (v := .ref (ma 7)) (C := R_M) (T := F_M) (N := 23) hx hb hts (in_M _) hown hK hP k hU.o rfl 11 (by decide) (hts (.fieldLink R_M 32 "DebtRowsModel" "open" "[J") (List.mem_cons_of_mem _ mB_425)) (fun _ h9 => h9) rfl d_M_instalments_80 ?_
        refine lv_iload_n hx hb d_M_instalments_83 rfl (lv_at hl 1 rfl) ?_
        refine va_lald hx hb hK hP (k + 8) 1 hU.a7 rfl (in_b hw0 (ok_of c_453)) d_M_instalments_84 ?_
        refine lv_topl (fun v_467 ev_467 => ?_)
        have ev_467 : v_467 = (e_463_open (b).toNatClampNeg) := ev_467
        subst ev_467
        refine va_last hx hb hK hP hD hS (k + 15) 1 hU.a14 rfl (in_b hw0 (ok_of c_453)) d_M_instalments_85 (fun H locs hP hD hS => ?_)
        have hU : mUpd w (w_466.set (k + 15) (ma 14, aL cL 41 (vp_updL (e_463_deferred) (b).toNatClampNeg ((e_463_open (b).toNatClampNeg))))) k cI cL h0 ma (e_463_thrown, e_463_today, e_463_rates, e_463_from, e_463_up, e_463_down, e_463_debts, (upd (e_463_state) (b).toNatClampNeg (2)), e_463_born, e_463_dueDay, e_463_cents, e_463_open, e_463_lost, e_463_fixed, e_463_runsFrom, e_463_interestPaid, (upd (e_463_parts) (b).toNatClampNeg (n)), (upd (e_463_deferredOn) (b).toNatClampNeg (e_463_today)), (vp_updL (e_463_deferred) (b).toNatClampNeg ((e_463_open (b).toNatClampNeg))), e_463_debtors, e_463_debtor, e_463_paidBy, e_463_credit) := hU.s_deferred (vp_updL (e_463_deferred) (b).toNatClampNeg ((e_463_open (b).toNatClampNeg)))
        have hP : va_P D vwCl (w_466.set (k + 15) (ma 14, aL cL 41 (vp_updL (e_463_deferred) (b).toNatClampNeg ((e_463_open (b).toNatClampNeg))))) H := hP
        have hD : va_D A (w_466.set (k + 15) (ma 14, aL cL 41 (vp_updL (e_463_deferred) (b).toNatClampNeg ((e_463_open (b).toNatClampNeg))))) := hD
        generalize w_466.set (k + 15) (ma 14, aL cL 41 (vp_updL (e_463_deferred) (b).toNatClampNeg ((e_463_open (b).toNatClampNeg)))) = w_468 at hP hD hU
        refine lv_iconst (v := 1) hx hb d_M_instalments_86 (by decide) ?_
        exact W.iret (v := 1) hx hb hr (fun t ht hW => ⟨⟨_, (), rfl, by rw [g_instalments, if_neg c_453, if_neg c_457, if_pos c_460, hge_463], w_468, by rw [ht]; exact hP, hD, by rw [g_instalments, if_neg c_453, if_neg c_457, if_pos c_460, hge_463]; exact hU⟩, hS.F ht⟩) hS.2.2 d_M_instalments_87
      · refine lv_iconst (v := 0) hx hb d_M_instalments_43 (by decide) ?_
        exact W.iret (v := 0) hx hb hr (fun t ht hW => ⟨⟨_, (), rfl, by rw [g_instalments, if_neg c_453, if_neg c_457, if_neg c_460], w_458, by rw [ht]; exact hP, hD, by rw [g_instalments, if_neg c_453, if_neg c_457, if_neg c_460]; exact hU⟩, hS.F ht⟩) hS.2.2 d_M_instalments_44
    · refine lv_aload_n hx hb d_M_instalments_22 rfl (lv_at hl 0 rfl) ?_
      refine lv_iconst (v := 1) hx hb d_M_instalments_23 (by decide) ?_
      refine va_calli (va_runV (As := [.int (1)]) (rest := []) ⟨hx, hb, hml, hown, hts⟩ (c_M_fails l D A w cI cL cD k h0 ma (e0_thrown, e0_today, e0_rates, e0_from, e0_up, e0_down, e0_debts, e0_state, e0_born, e0_dueDay, e0_cents, e0_open, e0_lost, e0_fixed, e0_runsFrom, e0_interestPaid, e0_parts, e0_deferredOn, e0_deferred, e0_debtors, e0_debtor, e0_paidBy, e0_credit) (1) hU.1) (cwV 1 hts (gV _ mB_469 mB_470 mB_4 mB_17 mB_471) rfl rfl rfl (by decide +kernel) ⟨(Nat.le_of_ble_eq_true rfl), (Nat.le_of_ble_eq_true rfl)⟩) ⟨mPc_bl, va_recv hK hP (ci := 3) (q0 := k) rfl hU.o, mPc_pr hP hK hD⟩ rfl rfl hl.1 rfl (lv_room (Nat.le_of_ble_eq_true rfl)) d_M_instalments_24 ⟨Nat.zero_le _, Nat.zero_le _⟩) hS (fun _ _ h => h) (fun _ h => h) (fun v_469 u9 t H locs ht hvm ev_469 hB hz1 hk1 hS => ?_)
      obtain ⟨w_470, hP, hD, hU1⟩ := hB
      rw [ht] at hP
      have hU := hU.tr hU1
      subst ev_469
      exact W.iret (v := (g_fails (e0_thrown, e0_today, e0_rates, e0_from, e0_up, e0_down, e0_debts, e0_state, e0_born, e0_dueDay, e0_cents, e0_open, e0_lost, e0_fixed, e0_runsFrom, e0_interestPaid, e0_parts, e0_deferredOn, e0_deferred, e0_debtors, e0_debtor, e0_paidBy, e0_credit) (1)).1) hx hb hr (fun t ht hW => ⟨⟨_, (), rfl, by rw [g_instalments, if_neg c_453, if_pos c_457], w_470, by rw [ht]; exact hP, hD, by rw [g_instalments, if_neg c_453, if_pos c_457]; exact hU⟩, hS.F ht⟩) hS.2.2 d_M_instalments_27
def g_appeal (y : MT) (b : Int32) : Int32 × MT :=
  if (g_isDebt y (b)) = 0 then ((g_fails y (1)).1, (g_fails y (1)).2)
  else if ((m_state y) (b).toNatClampNeg) = 1 then (1, (n_state (g_fix (n_thrown y (0)) (b)) (upd ((m_state (g_fix (n_thrown y (0)) (b)))) (b).toNatClampNeg (3))))
    else if ((m_state y) (b).toNatClampNeg) = 2 then (1, (n_state (n_thrown y (0)) (upd ((m_state y)) (b).toNatClampNeg (3))))
      else (0, (n_thrown y (0)))
set_option maxHeartbeats 4000000 in
set_option maxRecDepth 100000 in
theorem c_M_appeal (l : Launch) (D : va_G) (A : Nat → Prop) (w : va_W) (cI cL cD : ClassId) (k h0 : Nat) (ma : Nat → Nat) (y : MT) (b : Int32) (hU0 : mA w k cI cL h0 ma y) (hw : wfM y) : Met l y_M_appeal w_M_appeal ({ frames := 3, cells := 0, slots := 0, locals := 70 }) (mPc D w (tyL cI cL cD) A [.ref h0, .int (b)]) (va_Qi (fun z9 (_ : Unit) => z9 = (g_appeal y b).1) (fun (_ : Unit) t => ∃ w9 : va_W, va_P D vwCl w9 t.heap ∧ va_D A w9 ∧ mUpd w w9 k cI cL h0 ma ((g_appeal y b).2)) A) 0 0 A := by
  refine Met.ofW (cc := b_M_appeal) (maxL := 2) (ret := (some .int)) (by decide) rfl ?_
  intro p e s m args below meth c s₁ B hml hv
  obtain ⟨rfl, hP, hK, hD⟩ := hv
  have hx := B.exec
  have hb := B.bytes
  have hr := B.returns
  have hts := atoms_spec (ws := w_M_appeal) B.pre
  have hown : s.vm.findClass R_M = some m.cls := findClass_of_methodNamed B.named
  have hlocks := B.notSynchronized
  have hS : va_S A s.heap s.heap [] := va_S.rf
  have hU : mUpd w w k cI cL h0 ma y := mUpd.rf hU0
  have hl := lv_entry ([.ref h0, .int (b)]) (n := 2) (Nat.le_of_ble_eq_true rfl)
  rw [lg_entry_eq]
  generalize (lg_sl ([.ref h0, .int (b)]) ++ List.replicate (2 - (lg_sl ([.ref h0, .int (b)])).length) Slot.unset).toArray = ls at hl ⊢
  have hl : lv_has ls 2 [(0, .ref h0), (1, .int (b))] := hl
  have hw0 := hw
  obtain ⟨e0_thrown, e0_today, e0_rates, e0_from, e0_up, e0_down, e0_debts, e0_state, e0_born, e0_dueDay, e0_cents, e0_open, e0_lost, e0_fixed, e0_runsFrom, e0_interestPaid, e0_parts, e0_deferredOn, e0_deferred, e0_debtors, e0_debtor, e0_paidBy, e0_credit⟩ := y
  refine lv_aload_n hx hb d_M_appeal_0 rfl (lv_at hl 0 rfl) ?_
  refine lv_iload_n hx hb d_M_appeal_1 rfl (lv_at hl 1 rfl) ?_
  refine vp_callSi (W.runV (As := [.int (b)]) (rest := []) ⟨hx, hb, hml, hown, hts⟩ (c_M_isDebt l D A w cI cL cD k h0 ma (e0_thrown, e0_today, e0_rates, e0_from, e0_up, e0_down, e0_debts, e0_state, e0_born, e0_dueDay, e0_cents, e0_open, e0_lost, e0_fixed, e0_runsFrom, e0_interestPaid, e0_parts, e0_deferredOn, e0_deferred, e0_debtors, e0_debtor, e0_paidBy, e0_credit) (b) hU.1) (cwV 1 hts (gV _ mB_488 mB_489 mB_5 mB_17 mB_490) rfl rfl rfl (by decide +kernel) ⟨(Nat.le_of_ble_eq_true rfl), (Nat.le_of_ble_eq_true rfl)⟩) ⟨mPc_bl, va_recv hK hP (ci := 3) (q0 := k) rfl hU.o, mPc_pr hP hK hD⟩ rfl rfl hl.1 rfl (lv_room (Nat.le_of_ble_eq_true rfl)) d_M_appeal_2 ⟨Nat.zero_le _, Nat.zero_le _⟩) (fun v_471 ev_471 => ?_)
  subst ev_471
  refine lv_if_ne (tgt := 14) hx hb d_M_appeal_5 (by decide) (fun c_472 => ?_) (fun c_472 => ?_)
  · refine lv_aload_n hx hb d_M_appeal_14 rfl (lv_at hl 0 rfl) ?_
    refine lv_iconst (v := 0) hx hb d_M_appeal_15 (by decide) ?_
    refine va_put (D := D) (ci := 3) (v := .int (0)) (ty := .int) (C := R_M) (T := F_M) (N := 23) hx hb hts (in_M _) t_M to_M nn_M hown hK hP hD hS k hU.o rfl 0 (by decide) (hts (.fieldLink R_M 68 "DebtRowsModel" "thrown" "I") (List.mem_cons_of_mem _ mB_414)) (fun _ h9 => h9) rfl (by decide +kernel) rfl rfl (Nat.le_of_ble_eq_true rfl) d_M_appeal_16 (fun H locs hP hD hS => ?_)
    have hU : mUpd w (w.set k (h0, mE ma (0, e0_today, e0_rates, e0_from, e0_up, e0_down, e0_debts, e0_state, e0_born, e0_dueDay, e0_cents, e0_open, e0_lost, e0_fixed, e0_runsFrom, e0_interestPaid, e0_parts, e0_deferredOn, e0_deferred, e0_debtors, e0_debtor, e0_paidBy, e0_credit))) k cI cL h0 ma ((0), e0_today, e0_rates, e0_from, e0_up, e0_down, e0_debts, e0_state, e0_born, e0_dueDay, e0_cents, e0_open, e0_lost, e0_fixed, e0_runsFrom, e0_interestPaid, e0_parts, e0_deferredOn, e0_deferred, e0_debtors, e0_debtor, e0_paidBy, e0_credit) := hU.s_thrown (0)
    have hP : va_P D vwCl (w.set k (h0, mE ma (0, e0_today, e0_rates, e0_from, e0_up, e0_down, e0_debts, e0_state, e0_born, e0_dueDay, e0_cents, e0_open, e0_lost, e0_fixed, e0_runsFrom, e0_interestPaid, e0_parts, e0_deferredOn, e0_deferred, e0_debtors, e0_debtor, e0_paidBy, e0_credit))) H := hP
    have hD : va_D A (w.set k (h0, mE ma (0, e0_today, e0_rates, e0_from, e0_up, e0_down, e0_debts, e0_state, e0_born, e0_dueDay, e0_cents, e0_open, e0_lost, e0_fixed, e0_runsFrom, e0_interestPaid, e0_parts, e0_deferredOn, e0_deferred, e0_debtors, e0_debtor, e0_paidBy, e0_credit))) := hD
    generalize w.set k (h0, mE ma (0, e0_today, e0_rates, e0_from, e0_up, e0_down, e0_debts, e0_state, e0_born, e0_dueDay, e0_cents, e0_open, e0_lost, e0_fixed, e0_runsFrom, e0_interestPaid, e0_parts, e0_deferredOn, e0_deferred, e0_debtors, e0_debtor, e0_paidBy, e0_credit)) = w_473 at hP hD hU
    refine lv_aload_n hx hb d_M_appeal_19 rfl (lv_at hl 0 rfl) ?_
    refine va_get (D := D) (ci := 3) (v := .ref (ma 3)) (C := R_M) (T := F_M) (N := 23) hx hb hts (in_M _) hown hK hP k hU.o rfl 7 (by decide) (hts (.fieldLink R_M 19 "DebtRowsModel" "state" "[I") (List.mem_cons_of_mem _ mB_421)) (fun _ h9 => h9) rfl d_M_appeal_20 ?_
    refine lv_iload_n hx hb d_M_appeal_23 rfl (lv_at hl 1 rfl) ?_
    refine va_iald hx hb hK hP (k + 4) 0 hU.a3 rfl (in_b hw0 (ok_of c_472)) d_M_appeal_24 ?_
    refine lv_topi (fun v_474 ev_474 => ?_)
    have ev_474 : v_474 = (e0_state (b).toNatClampNeg) := ev_474
    subst ev_474
    refine lv_iconst (v := 1) hx hb d_M_appeal_25 (by decide) ?_
    refine lv_icmp_eq (tgt := 41) hx hb d_M_appeal_26 (by decide) (fun c_475 => ?_) (fun c_475 => ?_)
    · refine lv_aload_n hx hb d_M_appeal_41 rfl (lv_at hl 0 rfl) ?_
      refine va_get (D := D) (ci := 3) (v := .ref (ma 3)) (C := R_M) (T := F_M) (N := 23) hx hb hts (in_M _) hown hK hP k hU.o rfl 7 (by decide) (hts (.fieldLink R_M 19 "DebtRowsModel" "state" "[I") (List.mem_cons_of_mem _ mB_421)) (fun _ h9 => h9) rfl d_M_appeal_42 ?_
      refine lv_iload_n hx hb d_M_appeal_45 rfl (lv_at hl 1 rfl) ?_
      refine va_iald hx hb hK hP (k + 4) 0 hU.a3 rfl (in_b hw0 (ok_of c_472)) d_M_appeal_46 ?_
      refine lv_topi (fun v_476 ev_476 => ?_)
      have ev_476 : v_476 = (e0_state (b).toNatClampNeg) := ev_476
      subst ev_476
      refine lv_iconst (v := 1) hx hb d_M_appeal_47 (by decide) ?_
      refine lv_icmp_ne (tgt := 56) hx hb d_M_appeal_48 (by decide) (fun c_477 => ?_) (fun c_477 => ?_)
      · exact absurd (c_475) c_477
      · refine lv_aload_n hx hb d_M_appeal_51 rfl (lv_at hl 0 rfl) ?_
        refine lv_iload_n hx hb d_M_appeal_52 rfl (lv_at hl 1 rfl) ?_
        refine va_callv (va_runV (As := [.int (b)]) (rest := []) ⟨hx, hb, hml, hown, hts⟩ (c_M_fix l D A w_473 cI cL cD k h0 ma ((0), e0_today, e0_rates, e0_from, e0_up, e0_down, e0_debts, e0_state, e0_born, e0_dueDay, e0_cents, e0_open, e0_lost, e0_fixed, e0_runsFrom, e0_interestPaid, e0_parts, e0_deferredOn, e0_deferred, e0_debtors, e0_debtor, e0_paidBy, e0_credit) (b) hU.1 hw (ok_of c_472)) (cwV 1 hts (gV _ mB_505 mB_506 mB_8 mB_17 mB_507) rfl rfl rfl (by decide +kernel) ⟨(Nat.le_of_ble_eq_true rfl), (Nat.le_of_ble_eq_true rfl)⟩) ⟨mPc_bl, va_recv hK hP (ci := 3) (q0 := k) rfl hU.o, mPc_pr hP hK hD⟩ rfl rfl hl.1 rfl (lv_room (Nat.le_of_ble_eq_true rfl)) d_M_appeal_53 ⟨Nat.zero_le _, Nat.zero_le _⟩) hS (fun _ _ h => h) (fun _ h => h) (fun u9 t H locs ht hvm ev_478 hB hz1 hk1 hS => ?_)
        obtain ⟨w_479, hP, hD, hU1⟩ := hB
        rw [ht] at hP
        have hU := hU.tr hU1
        refine lv_aload_n hx hb d_M_appeal_56 rfl (lv_at hl 0 rfl) ?_
        generalize hge_480 : (g_fix ((0), e0_today, e0_rates, e0_from, e0_up, e0_down, e0_debts, e0_state, e0_born, e0_dueDay, e0_cents, e0_open, e0_lost, e0_fixed, e0_runsFrom, e0_interestPaid, e0_parts, e0_deferredOn, e0_deferred, e0_debtors, e0_debtor, e0_paidBy, e0_credit) (b)) = yq at hU
        have hw : wfM (g_fix ((0), e0_today, e0_rates, e0_from, e0_up, e0_down, e0_debts, e0_state, e0_born, e0_dueDay, e0_cents, e0_open, e0_lost, e0_fixed, e0_runsFrom, e0_interestPaid, e0_parts, e0_deferredOn, e0_deferred, e0_debtors, e0_debtor, e0_paidBy, e0_credit) (b)) := wk_fix hw
        rw [hge_480] at hw
        obtain ⟨e_480_thrown, e_480_today, e_480_rates, e_480_from, e_480_up, e_480_down, e_480_debts, e_480_state, e_480_born, e_480_dueDay, e_480_cents, e_480_open, e_480_lost, e_480_fixed, e_480_runsFrom, e_480_interestPaid, e_480_parts, e_480_deferredOn, e_480_deferred, e_480_debtors, e_480_debtor, e_480_paidBy, e_480_credit⟩ := yq
        refine va_get (D := D) (ci := 3) (v := .ref (ma 3)) (C := R_M) (T := F_M) (N := 23) hx hb hts (in_M _) hown hK hP k hU.o rfl 7 (by decide) (hts (.fieldLink R_M 19 "DebtRowsModel" "state" "[I") (List.mem_cons_of_mem _ mB_421)) (fun _ h9 => h9) rfl d_M_appeal_57 ?_
        refine lv_iload_n hx hb d_M_appeal_60 rfl (lv_at hl 1 rfl) ?_
        refine lv_iconst (v := 3) hx hb d_M_appeal_61 (by decide) ?_
        refine va_iast hx hb hK hP hD hS (k + 4) 0 hU.a3 rfl (in_b hw0 (ok_of c_472)) d_M_appeal_62 (fun H locs hP hD hS => ?_)
        have hU : mUpd w (w_479.set (k + 4) (ma 3, aI cI 41 (upd (e_480_state) (b).toNatClampNeg (3)))) k cI cL h0 ma (e_480_thrown, e_480_today, e_480_rates, e_480_from, e_480_up, e_480_down, e_480_debts, (upd (e_480_state) (b).toNatClampNeg (3)), e_480_born, e_480_dueDay, e_480_cents, e_480_open, e_480_lost, e_480_fixed, e_480_runsFrom, e_480_interestPaid, e_480_parts, e_480_deferredOn, e_480_deferred, e_480_debtors, e_480_debtor, e_480_paidBy, e_480_credit) := hU.s_state (upd (e_480_state) (b).toNatClampNeg (3))
        have hP : va_P D vwCl (w_479.set (k + 4) (ma 3, aI cI 41 (upd (e_480_state) (b).toNatClampNeg (3)))) H := hP
        have hD : va_D A (w_479.set (k + 4) (ma 3, aI cI 41 (upd (e_480_state) (b).toNatClampNeg (3)))) := hD
        generalize w_479.set (k + 4) (ma 3, aI cI 41 (upd (e_480_state) (b).toNatClampNeg (3))) = w_481 at hP hD hU
        refine lv_iconst (v := 1) hx hb d_M_appeal_63 (by decide) ?_
        exact W.iret (v := 1) hx hb hr (fun t ht hW => ⟨⟨_, (), rfl, by rw [g_appeal, if_neg c_472, if_pos c_475, hge_480], w_481, by rw [ht]; exact hP, hD, by rw [g_appeal, if_neg c_472, if_pos c_475, hge_480]; exact hU⟩, hS.F ht⟩) hS.2.2 d_M_appeal_64
    · refine lv_aload_n hx hb d_M_appeal_29 rfl (lv_at hl 0 rfl) ?_
      refine va_get (D := D) (ci := 3) (v := .ref (ma 3)) (C := R_M) (T := F_M) (N := 23) hx hb hts (in_M _) hown hK hP k hU.o rfl 7 (by decide) (hts (.fieldLink R_M 19 "DebtRowsModel" "state" "[I") (List.mem_cons_of_mem _ mB_421)) (fun _ h9 => h9) rfl d_M_appeal_30 ?_
      refine lv_iload_n hx hb d_M_appeal_33 rfl (lv_at hl 1 rfl) ?_
      refine va_iald hx hb hK hP (k + 4) 0 hU.a3 rfl (in_b hw0 (ok_of c_472)) d_M_appeal_34 ?_
      refine lv_topi (fun v_482 ev_482 => ?_)
      have ev_482 : v_482 = (e0_state (b).toNatClampNeg) := ev_482
      subst ev_482
      refine lv_iconst (v := 2) hx hb d_M_appeal_35 (by decide) ?_
      refine lv_icmp_eq (tgt := 41) hx hb d_M_appeal_36 (by decide) (fun c_483 => ?_) (fun c_483 => ?_)
      · refine lv_aload_n hx hb d_M_appeal_41 rfl (lv_at hl 0 rfl) ?_
        refine va_get (D := D) (ci := 3) (v := .ref (ma 3)) (C := R_M) (T := F_M) (N := 23) hx hb hts (in_M _) hown hK hP k hU.o rfl 7 (by decide) (hts (.fieldLink R_M 19 "DebtRowsModel" "state" "[I") (List.mem_cons_of_mem _ mB_421)) (fun _ h9 => h9) rfl d_M_appeal_42 ?_
        refine lv_iload_n hx hb d_M_appeal_45 rfl (lv_at hl 1 rfl) ?_
        refine va_iald hx hb hK hP (k + 4) 0 hU.a3 rfl (in_b hw0 (ok_of c_472)) d_M_appeal_46 ?_
        refine lv_topi (fun v_484 ev_484 => ?_)
        have ev_484 : v_484 = (e0_state (b).toNatClampNeg) := ev_484
        subst ev_484
        refine lv_iconst (v := 1) hx hb d_M_appeal_47 (by decide) ?_
        refine lv_icmp_ne (tgt := 56) hx hb d_M_appeal_48 (by decide) (fun c_485 => ?_) (fun c_485 => ?_)
        · refine lv_aload_n hx hb d_M_appeal_56 rfl (lv_at hl 0 rfl) ?_
          refine va_get (D := D) (ci := 3) (v := .ref (ma 3)) (C := R_M) (T := F_M) (N := 23) hx hb hts (in_M _) hown hK hP k hU.o rfl 7 (by decide) (hts (.fieldLink R_M 19 "DebtRowsModel" "state" "[I") (List.mem_cons_of_mem _ mB_421)) (fun _ h9 => h9) rfl d_M_appeal_57 ?_
          refine lv_iload_n hx hb d_M_appeal_60 rfl (lv_at hl 1 rfl) ?_
          refine lv_iconst (v := 3) hx hb d_M_appeal_61 (by decide) ?_
          refine va_iast hx hb hK hP hD hS (k + 4) 0 hU.a3 rfl (in_b hw0 (ok_of c_472)) d_M_appeal_62 (fun H locs hP hD hS => ?_)
          have hU : mUpd w (w_473.set (k + 4) (ma 3, aI cI 41 (upd (e0_state) (b).toNatClampNeg (3)))) k cI cL h0 ma ((0), e0_today, e0_rates, e0_from, e0_up, e0_down, e0_debts, (upd (e0_state) (b).toNatClampNeg (3)), e0_born, e0_dueDay, e0_cents, e0_open, e0_lost, e0_fixed, e0_runsFrom, e0_interestPaid, e0_parts, e0_deferredOn, e0_deferred, e0_debtors, e0_debtor, e0_paidBy, e0_credit) := hU.s_state (upd (e0_state) (b).toNatClampNeg (3))
          have hP : va_P D vwCl (w_473.set (k + 4) (ma 3, aI cI 41 (upd (e0_state) (b).toNatClampNeg (3)))) H := hP
          have hD : va_D A (w_473.set (k + 4) (ma 3, aI cI 41 (upd (e0_state) (b).toNatClampNeg (3)))) := hD
          generalize w_473.set (k + 4) (ma 3, aI cI 41 (upd (e0_state) (b).toNatClampNeg (3))) = w_486 at hP hD hU
          refine lv_iconst (v := 1) hx hb d_M_appeal_63 (by decide) ?_
          exact W.iret (v := 1) hx hb hr (fun t ht hW => ⟨⟨_, (), rfl, by rw [g_appeal, if_neg c_472, if_neg c_475, if_pos c_483], w_486, by rw [ht]; exact hP, hD, by rw [g_appeal, if_neg c_472, if_neg c_475, if_pos c_483]; exact hU⟩, hS.F ht⟩) hS.2.2 d_M_appeal_64
        · exact absurd c_485 (c_475)
      · refine lv_iconst (v := 0) hx hb d_M_appeal_39 (by decide) ?_
        exact W.iret (v := 0) hx hb hr (fun t ht hW => ⟨⟨_, (), rfl, by rw [g_appeal, if_neg c_472, if_neg c_475, if_neg c_483], w_473, by rw [ht]; exact hP, hD, by rw [g_appeal, if_neg c_472, if_neg c_475, if_neg c_483]; exact hU⟩, hS.F ht⟩) hS.2.2 d_M_appeal_40
  · refine lv_aload_n hx hb d_M_appeal_8 rfl (lv_at hl 0 rfl) ?_
    refine lv_iconst (v := 1) hx hb d_M_appeal_9 (by decide) ?_
    refine va_calli (va_runV (As := [.int (1)]) (rest := []) ⟨hx, hb, hml, hown, hts⟩ (c_M_fails l D A w cI cL cD k h0 ma (e0_thrown, e0_today, e0_rates, e0_from, e0_up, e0_down, e0_debts, e0_state, e0_born, e0_dueDay, e0_cents, e0_open, e0_lost, e0_fixed, e0_runsFrom, e0_interestPaid, e0_parts, e0_deferredOn, e0_deferred, e0_debtors, e0_debtor, e0_paidBy, e0_credit) (1) hU.1) (cwV 1 hts (gV _ mB_469 mB_470 mB_4 mB_17 mB_471) rfl rfl rfl (by decide +kernel) ⟨(Nat.le_of_ble_eq_true rfl), (Nat.le_of_ble_eq_true rfl)⟩) ⟨mPc_bl, va_recv hK hP (ci := 3) (q0 := k) rfl hU.o, mPc_pr hP hK hD⟩ rfl rfl hl.1 rfl (lv_room (Nat.le_of_ble_eq_true rfl)) d_M_appeal_10 ⟨Nat.zero_le _, Nat.zero_le _⟩) hS (fun _ _ h => h) (fun _ h => h) (fun v_487 u9 t H locs ht hvm ev_487 hB hz1 hk1 hS => ?_)
    obtain ⟨w_488, hP, hD, hU1⟩ := hB
    rw [ht] at hP
    have hU := hU.tr hU1
    subst ev_487
    exact W.iret (v := (g_fails (e0_thrown, e0_today, e0_rates, e0_from, e0_up, e0_down, e0_debts, e0_state, e0_born, e0_dueDay, e0_cents, e0_open, e0_lost, e0_fixed, e0_runsFrom, e0_interestPaid, e0_parts, e0_deferredOn, e0_deferred, e0_debtors, e0_debtor, e0_paidBy, e0_credit) (1)).1) hx hb hr (fun t ht hW => ⟨⟨_, (), rfl, by rw [g_appeal, if_pos c_472], w_488, by rw [ht]; exact hP, hD, by rw [g_appeal, if_pos c_472]; exact hU⟩, hS.F ht⟩) hS.2.2 d_M_appeal_13
def g_again (y : MT) (b : Int32) (day : Int32) : MT :=
  (n_runsFrom (n_state y (upd ((m_state y)) (b).toNatClampNeg (1))) (upd ((m_runsFrom y)) (b).toNatClampNeg ((if ((m_dueDay y) (b).toNatClampNeg) ≤ day then day else ((m_dueDay y) (b).toNatClampNeg)))))
set_option maxHeartbeats 4000000 in
set_option maxRecDepth 100000 in
theorem c_M_again (l : Launch) (D : va_G) (A : Nat → Prop) (w : va_W) (cI cL cD : ClassId) (k h0 : Nat) (ma : Nat → Nat) (y : MT) (b : Int32) (day : Int32) (hU0 : mA w k cI cL h0 ma y) (hw : wfM y) (hok : okM y b) : Met l y_M_again w_M_again ({ frames := 0, cells := 0, slots := 0, locals := 0 }) (mPc D w (tyL cI cL cD) A [.ref h0, .int (b), .int (day)]) (va_Qv (fun _ : Unit => True) (fun (_ : Unit) t => ∃ w9 : va_W, va_P D vwCl w9 t.heap ∧ va_D A w9 ∧ mUpd w w9 k cI cL h0 ma (g_again y b day)) A) 0 0 A := by
  refine Met.ofW (cc := b_M_again) (maxL := 3) (ret := none) (by decide) rfl ?_
  intro p e s m args below meth c s₁ B hml hv
  obtain ⟨rfl, hP, hK, hD⟩ := hv
  have hx := B.exec
  have hb := B.bytes
  have hr := B.returns
  have hts := atoms_spec (ws := w_M_again) B.pre
  have hown : s.vm.findClass R_M = some m.cls := findClass_of_methodNamed B.named
  have hlocks := B.notSynchronized
  have hS : va_S A s.heap s.heap [] := va_S.rf
  have hU : mUpd w w k cI cL h0 ma y := mUpd.rf hU0
  have hl := lv_entry ([.ref h0, .int (b), .int (day)]) (n := 3) (Nat.le_of_ble_eq_true rfl)
  rw [lg_entry_eq]
  generalize (lg_sl ([.ref h0, .int (b), .int (day)]) ++ List.replicate (3 - (lg_sl ([.ref h0, .int (b), .int (day)])).length) Slot.unset).toArray = ls at hl ⊢
  have hl : lv_has ls 3 [(0, .ref h0), (1, .int (b)), (2, .int (day))] := hl
  have hw0 := hw
  obtain ⟨e0_thrown, e0_today, e0_rates, e0_from, e0_up, e0_down, e0_debts, e0_state, e0_born, e0_dueDay, e0_cents, e0_open, e0_lost, e0_fixed, e0_runsFrom, e0_interestPaid, e0_parts, e0_deferredOn, e0_deferred, e0_debtors, e0_debtor, e0_paidBy, e0_credit⟩ := y
  refine lv_aload_n hx hb d_M_again_0 rfl (lv_at hl 0 rfl) ?_
  refine va_get (D := D) (ci := 3) (v := .ref (ma 3)) (C := R_M) (T := F_M) (N := 23) hx hb hts (in_M _) hown hK hP k hU.o rfl 7 (by decide) (hts (.fieldLink R_M 19 "DebtRowsModel" "state" "[I") (List.mem_cons_of_mem _ mB_421)) (fun _ h9 => h9) rfl d_M_again_1 ?_
  refine lv_iload_n hx hb d_M_again_4 rfl (lv_at hl 1 rfl) ?_
  refine lv_iconst (v := 1) hx hb d_M_again_5 (by decide) ?_
  refine va_iast hx hb hK hP hD hS (k + 4) 0 hU.a3 rfl (in_b hw0 hok) d_M_again_6 (fun H locs hP hD hS => ?_)
  have hU : mUpd w (w.set (k + 4) (ma 3, aI cI 41 (upd (e0_state) (b).toNatClampNeg (1)))) k cI cL h0 ma (e0_thrown, e0_today, e0_rates, e0_from, e0_up, e0_down, e0_debts, (upd (e0_state) (b).toNatClampNeg (1)), e0_born, e0_dueDay, e0_cents, e0_open, e0_lost, e0_fixed, e0_runsFrom, e0_interestPaid, e0_parts, e0_deferredOn, e0_deferred, e0_debtors, e0_debtor, e0_paidBy, e0_credit) := hU.s_state (upd (e0_state) (b).toNatClampNeg (1))
  have hP : va_P D vwCl (w.set (k + 4) (ma 3, aI cI 41 (upd (e0_state) (b).toNatClampNeg (1)))) H := hP
  have hD : va_D A (w.set (k + 4) (ma 3, aI cI 41 (upd (e0_state) (b).toNatClampNeg (1)))) := hD
  generalize w.set (k + 4) (ma 3, aI cI 41 (upd (e0_state) (b).toNatClampNeg (1))) = w_489 at hP hD hU
  refine lv_aload_n hx hb d_M_again_7 rfl (lv_at hl 0 rfl) ?_
  refine va_get (D := D) (ci := 3) (v := .ref (ma 10)) (C := R_M) (T := F_M) (N := 23) hx hb hts (in_M _) hown hK hP k hU.o rfl 14 (by decide) (hts (.fieldLink R_M 41 "DebtRowsModel" "runsFrom" "[I") (List.mem_cons_of_mem _ mB_428)) (fun _ h9 => h9) rfl d_M_again_8 ?_
  refine lv_iload_n hx hb d_M_again_11 rfl (lv_at hl 1 rfl) ?_
  refine lv_aload_n hx hb d_M_again_12 rfl (lv_at hl 0 rfl) ?_
  refine va_get (D := D) (ci := 3) (v := .ref (ma 5)) (C := R_M) (T := F_M) (N := 23) hx hb hts (in_M _) hown hK hP k hU.o rfl 9 (by decide) (hts (.fieldLink R_M 25 "DebtRowsModel" "dueDay" "[I") (List.mem_cons_of_mem _ mB_423)) (fun _ h9 => h9) rfl d_M_again_13 ?_
  refine lv_iload_n hx hb d_M_again_16 rfl (lv_at hl 1 rfl) ?_
  refine va_iald hx hb hK hP (k + 6) 0 hU.a5 rfl (in_b hw0 hok) d_M_again_17 ?_
  refine lv_topi (fun v_490 ev_490 => ?_)
  have ev_490 : v_490 = (e0_dueDay (b).toNatClampNeg) := ev_490
  subst ev_490
  refine lv_iload_n hx hb d_M_again_18 rfl (lv_at hl 2 rfl) ?_
  have kont_c_491 : ∀ v9 : Int32, v9 = (if (e0_dueDay (b).toNatClampNeg) ≤ day then day else (e0_dueDay (b).toNatClampNeg)) → W p l e (headSpec w_M_again ({ frames := 0, cells := 0, slots := 0, locals := 0 })).room s m [.ref h0, .int (b), .int (day)].toArray below meth c H locs 0 0 (MQ below (va_Qv (fun _ : Unit => True) (fun (_ : Unit) t => ∃ w9 : va_W, va_P D vwCl w9 t.heap ∧ va_D A w9 ∧ mUpd w w9 k cI cL h0 ma (g_again (e0_thrown, e0_today, e0_rates, e0_from, e0_up, e0_down, e0_debts, e0_state, e0_born, e0_dueDay, e0_cents, e0_open, e0_lost, e0_fixed, e0_runsFrom, e0_interestPaid, e0_parts, e0_deferredOn, e0_deferred, e0_debtors, e0_debtor, e0_paidBy, e0_credit) b day)) A) [.ref h0, .int (b), .int (day)].toArray s 0 0 A) (F0 m 32 ls (.int v9 :: .int (b) :: .ref (ma 10) :: [])) := by
    intro v9 ev9
    subst ev9
    refine va_iast hx hb hK hP hD hS (k + 11) 0 hU.a10 rfl (in_b hw0 hok) d_M_again_32 (fun H locs hP hD hS => ?_)
    have hU : mUpd w (w_489.set (k + 11) (ma 10, aI cI 41 (upd (e0_runsFrom) (b).toNatClampNeg ((if (e0_dueDay (b).toNatClampNeg) ≤ day then day else (e0_dueDay (b).toNatClampNeg)))))) k cI cL h0 ma (e0_thrown, e0_today, e0_rates, e0_from, e0_up, e0_down, e0_debts, (upd (e0_state) (b).toNatClampNeg (1)), e0_born, e0_dueDay, e0_cents, e0_open, e0_lost, e0_fixed, (upd (e0_runsFrom) (b).toNatClampNeg ((if (e0_dueDay (b).toNatClampNeg) ≤ day then day else (e0_dueDay (b).toNatClampNeg)))), e0_interestPaid, e0_parts, e0_deferredOn, e0_deferred, e0_debtors, e0_debtor, e0_paidBy, e0_credit) := hU.s_runsFrom (upd (e0_runsFrom) (b).toNatClampNeg ((if (e0_dueDay (b).toNatClampNeg) ≤ day then day else (e0_dueDay (b).toNatClampNeg))))
    have hP : va_P D vwCl (w_489.set (k + 11) (ma 10, aI cI 41 (upd (e0_runsFrom) (b).toNatClampNeg ((if (e0_dueDay (b).toNatClampNeg) ≤ day then day else (e0_dueDay (b).toNatClampNeg)))))) H := hP
    have hD : va_D A (w_489.set (k + 11) (ma 10, aI cI 41 (upd (e0_runsFrom) (b).toNatClampNeg ((if (e0_dueDay (b).toNatClampNeg) ≤ day then day else (e0_dueDay (b).toNatClampNeg)))))) := hD
    generalize w_489.set (k + 11) (ma 10, aI cI 41 (upd (e0_runsFrom) (b).toNatClampNeg ((if (e0_dueDay (b).toNatClampNeg) ≤ day then day else (e0_dueDay (b).toNatClampNeg))))) = w_493 at hP hD hU
    exact W.vret hx hb hr (fun t ht hW => ⟨⟨(), rfl, trivial, w_493, by rw [ht]; exact hP, hD, by rw [g_again]; exact hU⟩, hS.F ht⟩) hS.2.2 d_M_again_33
  refine lv_icmp_le (tgt := 31) hx hb d_M_again_19 (by decide) (fun c_491 => ?_) (fun c_491 => ?_)
  · refine lv_iload_n hx hb d_M_again_31 rfl (lv_at hl 2 rfl) ?_
    exact kont_c_491 _ (by rw [if_pos c_491])
  · refine lv_aload_n hx hb d_M_again_22 rfl (lv_at hl 0 rfl) ?_
    refine va_get (D := D) (ci := 3) (v := .ref (ma 5)) (C := R_M) (T := F_M) (N := 23) hx hb hts (in_M _) hown hK hP k hU.o rfl 9 (by decide) (hts (.fieldLink R_M 25 "DebtRowsModel" "dueDay" "[I") (List.mem_cons_of_mem _ mB_423)) (fun _ h9 => h9) rfl d_M_again_23 ?_
    refine lv_iload_n hx hb d_M_again_26 rfl (lv_at hl 1 rfl) ?_
    refine va_iald hx hb hK hP (k + 6) 0 hU.a5 rfl (in_b hw0 hok) d_M_again_27 ?_
    refine lv_topi (fun v_492 ev_492 => ?_)
    have ev_492 : v_492 = (e0_dueDay (b).toNatClampNeg) := ev_492
    subst ev_492
    refine lv_goto (tgt := 32) hx hb d_M_again_28 (by decide) ?_
    exact kont_c_491 _ (by rw [if_neg c_491])
def g_decide (y : MT) (b : Int32) (fd : Int32) : Int64 × MT :=
  if (g_isDebt y (b)) = 0 then (((g_fails y (1)).1 : Int32).toInt64, (g_fails y (1)).2)
  else if ((m_state y) (b).toNatClampNeg) = 3 then (if fd = 0 then (0, (g_again (n_thrown y (0)) (b) ((m_today y))))
      else ((g_lose (n_thrown y (0)) (b) (5)).1, (g_lose (n_thrown y (0)) (b) (5)).2))
    else (-1, (n_thrown y (0)))
set_option maxHeartbeats 4000000 in
set_option maxRecDepth 100000 in
theorem c_M_decide (l : Launch) (D : va_G) (A : Nat → Prop) (w : va_W) (cI cL cD : ClassId) (k h0 : Nat) (ma : Nat → Nat) (y : MT) (b : Int32) (fd : Int32) (hU0 : mA w k cI cL h0 ma y) (hw : wfM y) : Met l y_M_decide w_M_decide ({ frames := 1, cells := 0, slots := 0, locals := 24 }) (mPc D w (tyL cI cL cD) A [.ref h0, .int (b), .int (fd)]) (va_Ql (fun z9 (_ : Unit) => z9 = (g_decide y b fd).1) (fun (_ : Unit) t => ∃ w9 : va_W, va_P D vwCl w9 t.heap ∧ va_D A w9 ∧ mUpd w w9 k cI cL h0 ma ((g_decide y b fd).2)) A) 0 0 A := by
  refine Met.ofW (cc := b_M_decide) (maxL := 3) (ret := (some .long)) (by decide) rfl ?_
  intro p e s m args below meth c s₁ B hml hv
  obtain ⟨rfl, hP, hK, hD⟩ := hv
  have hx := B.exec
  have hb := B.bytes
  have hr := B.returns
  have hts := atoms_spec (ws := w_M_decide) B.pre
  have hown : s.vm.findClass R_M = some m.cls := findClass_of_methodNamed B.named
  have hlocks := B.notSynchronized
  have hS : va_S A s.heap s.heap [] := va_S.rf
  have hU : mUpd w w k cI cL h0 ma y := mUpd.rf hU0
  have hl := lv_entry ([.ref h0, .int (b), .int (fd)]) (n := 3) (Nat.le_of_ble_eq_true rfl)
  rw [lg_entry_eq]
  generalize (lg_sl ([.ref h0, .int (b), .int (fd)]) ++ List.replicate (3 - (lg_sl ([.ref h0, .int (b), .int (fd)])).length) Slot.unset).toArray = ls at hl ⊢
  have hl : lv_has ls 3 [(0, .ref h0), (1, .int (b)), (2, .int (fd))] := hl
  have hw0 := hw
  obtain ⟨e0_thrown, e0_today, e0_rates, e0_from, e0_up, e0_down, e0_debts, e0_state, e0_born, e0_dueDay, e0_cents, e0_open, e0_lost, e0_fixed, e0_runsFrom, e0_interestPaid, e0_parts, e0_deferredOn, e0_deferred, e0_debtors, e0_debtor, e0_paidBy, e0_credit⟩ := y
  refine lv_aload_n hx hb d_M_decide_0 rfl (lv_at hl 0 rfl) ?_
  refine lv_iload_n hx hb d_M_decide_1 rfl (lv_at hl 1 rfl) ?_
  refine vp_callSi (W.runV (As := [.int (b)]) (rest := []) ⟨hx, hb, hml, hown, hts⟩ (c_M_isDebt l D A w cI cL cD k h0 ma (e0_thrown, e0_today, e0_rates, e0_from, e0_up, e0_down, e0_debts, e0_state, e0_born, e0_dueDay, e0_cents, e0_open, e0_lost, e0_fixed, e0_runsFrom, e0_interestPaid, e0_parts, e0_deferredOn, e0_deferred, e0_debtors, e0_debtor, e0_paidBy, e0_credit) (b) hU.1) (cwV 1 hts (gV _ mB_488 mB_489 mB_5 mB_17 mB_490) rfl rfl rfl (by decide +kernel) ⟨(Nat.le_of_ble_eq_true rfl), (Nat.le_of_ble_eq_true rfl)⟩) ⟨mPc_bl, va_recv hK hP (ci := 3) (q0 := k) rfl hU.o, mPc_pr hP hK hD⟩ rfl rfl hl.1 rfl (lv_room (Nat.le_of_ble_eq_true rfl)) d_M_decide_2 ⟨Nat.zero_le _, Nat.zero_le _⟩) (fun v_494 ev_494 => ?_)
  subst ev_494
  refine lv_if_ne (tgt := 15) hx hb d_M_decide_5 (by decide) (fun c_495 => ?_) (fun c_495 => ?_)
  · refine lv_aload_n hx hb d_M_decide_15 rfl (lv_at hl 0 rfl) ?_
    refine lv_iconst (v := 0) hx hb d_M_decide_16 (by decide) ?_
    refine va_put (D := D) (ci := 3) (v := .int (0)) (ty := .int) (C := R_M) (T := F_M) (N := 23) hx hb hts (in_M _) t_M to_M nn_M hown hK hP hD hS k hU.o rfl 0 (by decide) (hts (.fieldLink R_M 68 "DebtRowsModel" "thrown" "I") (List.mem_cons_of_mem _ mB_414)) (fun _ h9 => h9) rfl (by decide +kernel) rfl rfl (Nat.le_of_ble_eq_true rfl) d_M_decide_17 (fun H locs hP hD hS => ?_)
    have hU : mUpd w (w.set k (h0, mE ma (0, e0_today, e0_rates, e0_from, e0_up, e0_down, e0_debts, e0_state, e0_born, e0_dueDay, e0_cents, e0_open, e0_lost, e0_fixed, e0_runsFrom, e0_interestPaid, e0_parts, e0_deferredOn, e0_deferred, e0_debtors, e0_debtor, e0_paidBy, e0_credit))) k cI cL h0 ma ((0), e0_today, e0_rates, e0_from, e0_up, e0_down, e0_debts, e0_state, e0_born, e0_dueDay, e0_cents, e0_open, e0_lost, e0_fixed, e0_runsFrom, e0_interestPaid, e0_parts, e0_deferredOn, e0_deferred, e0_debtors, e0_debtor, e0_paidBy, e0_credit) := hU.s_thrown (0)
    have hP : va_P D vwCl (w.set k (h0, mE ma (0, e0_today, e0_rates, e0_from, e0_up, e0_down, e0_debts, e0_state, e0_born, e0_dueDay, e0_cents, e0_open, e0_lost, e0_fixed, e0_runsFrom, e0_interestPaid, e0_parts, e0_deferredOn, e0_deferred, e0_debtors, e0_debtor, e0_paidBy, e0_credit))) H := hP
    have hD : va_D A (w.set k (h0, mE ma (0, e0_today, e0_rates, e0_from, e0_up, e0_down, e0_debts, e0_state, e0_born, e0_dueDay, e0_cents, e0_open, e0_lost, e0_fixed, e0_runsFrom, e0_interestPaid, e0_parts, e0_deferredOn, e0_deferred, e0_debtors, e0_debtor, e0_paidBy, e0_credit))) := hD
    generalize w.set k (h0, mE ma (0, e0_today, e0_rates, e0_from, e0_up, e0_down, e0_debts, e0_state, e0_born, e0_dueDay, e0_cents, e0_open, e0_lost, e0_fixed, e0_runsFrom, e0_interestPaid, e0_parts, e0_deferredOn, e0_deferred, e0_debtors, e0_debtor, e0_paidBy, e0_credit)) = w_496 at hP hD hU
    refine lv_aload_n hx hb d_M_decide_20 rfl (lv_at hl 0 rfl) ?_
    refine va_get (D := D) (ci := 3) (v := .ref (ma 3)) (C := R_M) (T := F_M) (N := 23) hx hb hts (in_M _) hown hK hP k hU.o rfl 7 (by decide) (hts (.fieldLink R_M 19 "DebtRowsModel" "state" "[I") (List.mem_cons_of_mem _ mB_421)) (fun _ h9 => h9) rfl d_M_decide_21 ?_
    refine lv_iload_n hx hb d_M_decide_24 rfl (lv_at hl 1 rfl) ?_
    refine va_iald hx hb hK hP (k + 4) 0 hU.a3 rfl (in_b hw0 (ok_of c_495)) d_M_decide_25 ?_
    refine lv_topi (fun v_497 ev_497 => ?_)
    have ev_497 : v_497 = (e0_state (b).toNatClampNeg) := ev_497
    subst ev_497
    refine lv_iconst (v := 3) hx hb d_M_decide_26 (by decide) ?_
    refine lv_icmp_eq (tgt := 34) hx hb d_M_decide_27 (by decide) (fun c_498 => ?_) (fun c_498 => ?_)
    · refine lv_iload_n hx hb d_M_decide_34 rfl (lv_at hl 2 rfl) ?_
      refine lv_if_eq (tgt := 45) hx hb d_M_decide_35 (by decide) (fun c_499 => ?_) (fun c_499 => ?_)
      · refine lv_aload_n hx hb d_M_decide_45 rfl (lv_at hl 0 rfl) ?_
        refine lv_iload_n hx hb d_M_decide_46 rfl (lv_at hl 1 rfl) ?_
        refine lv_aload_n hx hb d_M_decide_47 rfl (lv_at hl 0 rfl) ?_
        refine va_get (D := D) (ci := 3) (v := .int (e0_today)) (C := R_M) (T := F_M) (N := 23) hx hb hts (in_M _) hown hK hP k hU.o rfl 1 (by decide) (hts (.fieldLink R_M 79 "DebtRowsModel" "today" "I") (List.mem_cons_of_mem _ mB_415)) (fun _ h9 => h9) rfl d_M_decide_48 ?_
        refine va_callv (va_runV (As := [.int (b), .int (e0_today)]) (rest := []) ⟨hx, hb, hml, hown, hts⟩ (c_M_again l D A w_496 cI cL cD k h0 ma ((0), e0_today, e0_rates, e0_from, e0_up, e0_down, e0_debts, e0_state, e0_born, e0_dueDay, e0_cents, e0_open, e0_lost, e0_fixed, e0_runsFrom, e0_interestPaid, e0_parts, e0_deferredOn, e0_deferred, e0_debtors, e0_debtor, e0_paidBy, e0_credit) (b) (e0_today) hU.1 hw (ok_of c_495)) (cwV 2 hts (gV _ mB_534 mB_535 mB_12 mB_17 mB_536) rfl rfl rfl (by decide +kernel) ⟨(Nat.le_of_ble_eq_true rfl), (Nat.le_of_ble_eq_true rfl)⟩) ⟨mPc_bl, va_recv hK hP (ci := 3) (q0 := k) rfl hU.o, mPc_pr hP hK hD⟩ rfl rfl hl.1 rfl (lv_room (Nat.le_of_ble_eq_true rfl)) d_M_decide_51 ⟨Nat.zero_le _, Nat.zero_le _⟩) hS (fun _ _ h => h) (fun _ h => h) (fun u9 t H locs ht hvm ev_500 hB hz1 hk1 hS => ?_)
        obtain ⟨w_501, hP, hD, hU1⟩ := hB
        rw [ht] at hP
        have hU := hU.tr hU1
        refine lv_lconst (v := 0) hx hb d_M_decide_54 (by decide) ?_
        exact W.lret (v := 0) hx hb hr (fun t ht hW => ⟨⟨_, (), rfl, by rw [g_decide, if_neg c_495, if_pos c_498, if_pos c_499], w_501, by rw [ht]; exact hP, hD, by rw [g_decide, if_neg c_495, if_pos c_498, if_pos c_499]; exact hU⟩, hS.F ht⟩) hS.2.2 d_M_decide_55
      · refine lv_aload_n hx hb d_M_decide_38 rfl (lv_at hl 0 rfl) ?_
        refine lv_iload_n hx hb d_M_decide_39 rfl (lv_at hl 1 rfl) ?_
        refine lv_iconst (v := 5) hx hb d_M_decide_40 (by decide) ?_
        refine va_calll (va_runV (As := [.int (b), .int (5)]) (rest := []) ⟨hx, hb, hml, hown, hts⟩ (c_M_lose l D A w_496 cI cL cD k h0 ma ((0), e0_today, e0_rates, e0_from, e0_up, e0_down, e0_debts, e0_state, e0_born, e0_dueDay, e0_cents, e0_open, e0_lost, e0_fixed, e0_runsFrom, e0_interestPaid, e0_parts, e0_deferredOn, e0_deferred, e0_debtors, e0_debtor, e0_paidBy, e0_credit) (b) (5) hU.1 hw (ok_of c_495)) (cwV 2 hts (gV _ mB_516 mB_517 mB_11 mB_17 mB_518) rfl rfl rfl (by decide +kernel) ⟨(Nat.le_of_ble_eq_true rfl), (Nat.le_of_ble_eq_true rfl)⟩) ⟨mPc_bl, va_recv hK hP (ci := 3) (q0 := k) rfl hU.o, mPc_pr hP hK hD⟩ rfl rfl hl.1 rfl (lv_room (Nat.le_of_ble_eq_true rfl)) d_M_decide_41 ⟨Nat.zero_le _, Nat.zero_le _⟩) hS (fun _ _ h => h) (fun _ h => h) (fun v_502 u9 t H locs ht hvm ev_502 hB hz1 hk1 hS => ?_)
        obtain ⟨w_503, hP, hD, hU1⟩ := hB
        rw [ht] at hP
        have hU := hU.tr hU1
        subst ev_502
        exact W.lret (v := (g_lose ((0), e0_today, e0_rates, e0_from, e0_up, e0_down, e0_debts, e0_state, e0_born, e0_dueDay, e0_cents, e0_open, e0_lost, e0_fixed, e0_runsFrom, e0_interestPaid, e0_parts, e0_deferredOn, e0_deferred, e0_debtors, e0_debtor, e0_paidBy, e0_credit) (b) (5)).1) hx hb hr (fun t ht hW => ⟨⟨_, (), rfl, by rw [g_decide, if_neg c_495, if_pos c_498, if_neg c_499], w_503, by rw [ht]; exact hP, hD, by rw [g_decide, if_neg c_495, if_pos c_498, if_neg c_499]; exact hU⟩, hS.F ht⟩) hS.2.2 d_M_decide_44
    · refine lv_ldc2 (own := R_M) (index := 131) (v := -1) hx hb hown (hts (.constantLong R_M 131 (-1)) (List.mem_cons_of_mem _ mB_533)) d_M_decide_30 ?_
      exact W.lret (v := -1) hx hb hr (fun t ht hW => ⟨⟨_, (), rfl, by rw [g_decide, if_neg c_495, if_neg c_498], w_496, by rw [ht]; exact hP, hD, by rw [g_decide, if_neg c_495, if_neg c_498]; exact hU⟩, hS.F ht⟩) hS.2.2 d_M_decide_33
  · refine lv_aload_n hx hb d_M_decide_8 rfl (lv_at hl 0 rfl) ?_
    refine lv_iconst (v := 1) hx hb d_M_decide_9 (by decide) ?_
    refine va_calli (va_runV (As := [.int (1)]) (rest := []) ⟨hx, hb, hml, hown, hts⟩ (c_M_fails l D A w cI cL cD k h0 ma (e0_thrown, e0_today, e0_rates, e0_from, e0_up, e0_down, e0_debts, e0_state, e0_born, e0_dueDay, e0_cents, e0_open, e0_lost, e0_fixed, e0_runsFrom, e0_interestPaid, e0_parts, e0_deferredOn, e0_deferred, e0_debtors, e0_debtor, e0_paidBy, e0_credit) (1) hU.1) (cwV 1 hts (gV _ mB_469 mB_470 mB_4 mB_17 mB_471) rfl rfl rfl (by decide +kernel) ⟨(Nat.le_of_ble_eq_true rfl), (Nat.le_of_ble_eq_true rfl)⟩) ⟨mPc_bl, va_recv hK hP (ci := 3) (q0 := k) rfl hU.o, mPc_pr hP hK hD⟩ rfl rfl hl.1 rfl (lv_room (Nat.le_of_ble_eq_true rfl)) d_M_decide_10 ⟨Nat.zero_le _, Nat.zero_le _⟩) hS (fun _ _ h => h) (fun _ h => h) (fun v_504 u9 t H locs ht hvm ev_504 hB hz1 hk1 hS => ?_)
    obtain ⟨w_505, hP, hD, hU1⟩ := hB
    rw [ht] at hP
    have hU := hU.tr hU1
    subst ev_504
    refine lv_i2l hx hb d_M_decide_13 rfl ?_
    exact W.lret (v := ((g_fails (e0_thrown, e0_today, e0_rates, e0_from, e0_up, e0_down, e0_debts, e0_state, e0_born, e0_dueDay, e0_cents, e0_open, e0_lost, e0_fixed, e0_runsFrom, e0_interestPaid, e0_parts, e0_deferredOn, e0_deferred, e0_debtors, e0_debtor, e0_paidBy, e0_credit) (1)).1 : Int32).toInt64) hx hb hr (fun t ht hW => ⟨⟨_, (), rfl, by rw [g_decide, if_pos c_495], w_505, by rw [ht]; exact hP, hD, by rw [g_decide, if_pos c_495]; exact hU⟩, hS.F ht⟩) hS.2.2 d_M_decide_14
