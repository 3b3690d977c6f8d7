def g_look (y : MT) (b : Int32) (wh : Int32) : Int32 × MT :=
  if (g_isDebt y (b)) = 0 then ((g_fails y (1)).1, (g_fails y (1)).2)
  else if wh < 0 then ((g_fails y (1)).1, (g_fails y (1)).2)
    else if wh ≤ (3 + ((m_debtors y) (b).toNatClampNeg)) then (if wh = 0 then (((m_state y) (b).toNatClampNeg), (n_thrown y (0)))
        else if wh = 1 then (((m_born y) (b).toNatClampNeg), (n_thrown y (0)))
          else if wh = 2 then (((m_dueDay y) (b).toNatClampNeg), (n_thrown y (0)))
            else if wh = 3 then (((m_debtors y) (b).toNatClampNeg), (n_thrown y (0)))
              else (((m_debtor y) ((((4 * b) + wh) - 4)).toNatClampNeg), (n_thrown y (0))))
      else ((g_fails y (1)).1, (g_fails y (1)).2)
set_option maxHeartbeats 4000000 in
set_option maxRecDepth 100000 in
theorem c_M_look (l : Launch) (D : va_G) (A : Nat → Prop) (w : va_W) (cI cL cD : ClassId) (k h0 : Nat) (ma : Nat → Nat) (y : MT) (b : Int32) (wh : Int32) (hU0 : mA w k cI cL h0 ma y) (hw : wfM y) : Met l y_M_look w_M_look ({ frames := 1, cells := 0, slots := 0, locals := 21 }) (mPc D w (tyL cI cL cD) A [.ref h0, .int (b), .int (wh)]) (va_Qi (fun z9 (_ : Unit) => z9 = (g_look y b wh).1) (fun (_ : Unit) t => ∃ w9 : va_W, va_P D vwCl w9 t.heap ∧ va_D A w9 ∧ mUpd w w9 k cI cL h0 ma ((g_look y b wh).2)) A) 0 0 A := by
  refine Met.ofW (cc := b_M_look) (maxL := 3) (ret := (some .int)) (by decide) rfl ?_
  intro p e s m args below meth c s₁ B hml hv
  obtain ⟨rfl, hP, hK, hD⟩ := hv
  have hx := B.exec
  have hb := B.bytes
  have hr := B.returns
  have hts := atoms_spec (ws := w_M_look) B.pre
  have hown : s.vm.findClass R_M = some m.cls := findClass_of_methodNamed B.named
  have hlocks := B.notSynchronized
  have hS : va_S A s.heap s.heap [] := va_S.rf
  have hU : mUpd w w k cI cL h0 ma y := mUpd.rf hU0
  have hl := lv_entry ([.ref h0, .int (b), .int (wh)]) (n := 3) (Nat.le_of_ble_eq_true rfl)
  rw [lg_entry_eq]
  generalize (lg_sl ([.ref h0, .int (b), .int (wh)]) ++ List.replicate (3 - (lg_sl ([.ref h0, .int (b), .int (wh)])).length) Slot.unset).toArray = ls at hl ⊢
  have hl : lv_has ls 3 [(0, .ref h0), (1, .int (b)), (2, .int (wh))] := hl
  have hw0 := hw
  obtain ⟨e0_thrown, e0_today, e0_rates, e0_from, e0_up, e0_down, e0_debts, e0_state, e0_born, e0_dueDay, e0_cents, e0_open, e0_lost, e0_fixed, e0_runsFrom, e0_interestPaid, e0_parts, e0_deferredOn, e0_deferred, e0_debtors, e0_debtor, e0_paidBy, e0_credit⟩ := y
  refine lv_aload_n hx hb d_M_look_0 rfl (lv_at hl 0 rfl) ?_
  refine lv_iload_n hx hb d_M_look_1 rfl (lv_at hl 1 rfl) ?_
  refine vp_callSi (W.runV (As := [.int (b)]) (rest := []) ⟨hx, hb, hml, hown, hts⟩ (c_M_isDebt l D A w cI cL cD k h0 ma (e0_thrown, e0_today, e0_rates, e0_from, e0_up, e0_down, e0_debts, e0_state, e0_born, e0_dueDay, e0_cents, e0_open, e0_lost, e0_fixed, e0_runsFrom, e0_interestPaid, e0_parts, e0_deferredOn, e0_deferred, e0_debtors, e0_debtor, e0_paidBy, e0_credit) (b) hU.1) (cwV 1 hts (gV _ mB_488 mB_489 mB_5 mB_17 mB_490) rfl rfl rfl (by decide +kernel) ⟨(Nat.le_of_ble_eq_true rfl), (Nat.le_of_ble_eq_true rfl)⟩) ⟨mPc_bl, va_recv hK hP (ci := 3) (q0 := k) rfl hU.o, mPc_pr hP hK hD⟩ rfl rfl hl.1 rfl (lv_room (Nat.le_of_ble_eq_true rfl)) d_M_look_2 ⟨Nat.zero_le _, Nat.zero_le _⟩) (fun v_551 ev_551 => ?_)
  subst ev_551
  refine lv_if_eq (tgt := 36) hx hb d_M_look_5 (by decide) (fun c_552 => ?_) (fun c_552 => ?_)
  · refine lv_aload_n hx hb d_M_look_36 rfl (lv_at hl 0 rfl) ?_
    refine lv_iconst (v := 1) hx hb d_M_look_37 (by decide) ?_
    refine va_calli (va_runV (As := [.int (1)]) (rest := []) ⟨hx, hb, hml, hown, hts⟩ (c_M_fails l D A w cI cL cD k h0 ma (e0_thrown, e0_today, e0_rates, e0_from, e0_up, e0_down, e0_debts, e0_state, e0_born, e0_dueDay, e0_cents, e0_open, e0_lost, e0_fixed, e0_runsFrom, e0_interestPaid, e0_parts, e0_deferredOn, e0_deferred, e0_debtors, e0_debtor, e0_paidBy, e0_credit) (1) hU.1) (cwV 1 hts (gV _ mB_469 mB_470 mB_4 mB_17 mB_471) rfl rfl rfl (by decide +kernel) ⟨(Nat.le_of_ble_eq_true rfl), (Nat.le_of_ble_eq_true rfl)⟩) ⟨mPc_bl, va_recv hK hP (ci := 3) (q0 := k) rfl hU.o, mPc_pr hP hK hD⟩ rfl rfl hl.1 rfl (lv_room (Nat.le_of_ble_eq_true rfl)) d_M_look_38 ⟨Nat.zero_le _, Nat.zero_le _⟩) hS (fun _ _ h => h) (fun _ h => h) (fun v_553 u9 t H locs ht hvm ev_553 hB hz1 hk1 hS => ?_)
    obtain ⟨w_554, hP, hD, hU1⟩ := hB
    rw [ht] at hP
    have hU := hU.tr hU1
    subst ev_553
    exact W.iret (v := (g_fails (e0_thrown, e0_today, e0_rates, e0_from, e0_up, e0_down, e0_debts, e0_state, e0_born, e0_dueDay, e0_cents, e0_open, e0_lost, e0_fixed, e0_runsFrom, e0_interestPaid, e0_parts, e0_deferredOn, e0_deferred, e0_debtors, e0_debtor, e0_paidBy, e0_credit) (1)).1) hx hb hr (fun t ht hW => ⟨⟨_, (), rfl, by rw [g_look, if_pos c_552], w_554, by rw [ht]; exact hP, hD, by rw [g_look, if_pos c_552]; exact hU⟩, hS.F ht⟩) hS.2.2 d_M_look_41
  · refine lv_iload_n hx hb d_M_look_8 rfl (lv_at hl 2 rfl) ?_
    refine lv_if_lt (tgt := 36) hx hb d_M_look_9 (by decide) (fun c_555 => ?_) (fun c_555 => ?_)
    · refine lv_aload_n hx hb d_M_look_36 rfl (lv_at hl 0 rfl) ?_
      refine lv_iconst (v := 1) hx hb d_M_look_37 (by decide) ?_
      refine va_calli (va_runV (As := [.int (1)]) (rest := []) ⟨hx, hb, hml, hown, hts⟩ (c_M_fails l D A w cI cL cD k h0 ma (e0_thrown, e0_today, e0_rates, e0_from, e0_up, e0_down, e0_debts, e0_state, e0_born, e0_dueDay, e0_cents, e0_open, e0_lost, e0_fixed, e0_runsFrom, e0_interestPaid, e0_parts, e0_deferredOn, e0_deferred, e0_debtors, e0_debtor, e0_paidBy, e0_credit) (1) hU.1) (cwV 1 hts (gV _ mB_469 mB_470 mB_4 mB_17 mB_471) rfl rfl rfl (by decide +kernel) ⟨(Nat.le_of_ble_eq_true rfl), (Nat.le_of_ble_eq_true rfl)⟩) ⟨mPc_bl, va_recv hK hP (ci := 3) (q0 := k) rfl hU.o, mPc_pr hP hK hD⟩ rfl rfl hl.1 rfl (lv_room (Nat.le_of_ble_eq_true rfl)) d_M_look_38 ⟨Nat.zero_le _, Nat.zero_le _⟩) hS (fun _ _ h => h) (fun _ h => h) (fun v_556 u9 t H locs ht hvm ev_556 hB hz1 hk1 hS => ?_)
      obtain ⟨w_557, hP, hD, hU1⟩ := hB
      rw [ht] at hP
      have hU := hU.tr hU1
      subst ev_556
      exact W.iret (v := (g_fails (e0_thrown, e0_today, e0_rates, e0_from, e0_up, e0_down, e0_debts, e0_state, e0_born, e0_dueDay, e0_cents, e0_open, e0_lost, e0_fixed, e0_runsFrom, e0_interestPaid, e0_parts, e0_deferredOn, e0_deferred, e0_debtors, e0_debtor, e0_paidBy, e0_credit) (1)).1) hx hb hr (fun t ht hW => ⟨⟨_, (), rfl, by rw [g_look, if_neg c_552, if_pos c_555], w_557, by rw [ht]; exact hP, hD, by rw [g_look, if_neg c_552, if_pos c_555]; exact hU⟩, hS.F ht⟩) hS.2.2 d_M_look_41
    · refine lv_iload_n hx hb d_M_look_12 rfl (lv_at hl 2 rfl) ?_
      refine lv_iconst (v := 3) hx hb d_M_look_13 (by decide) ?_
      refine lv_aload_n hx hb d_M_look_14 rfl (lv_at hl 0 rfl) ?_
      refine va_get (D := D) (ci := 3) (v := .ref (ma 15)) (C := R_M) (T := F_M) (N := 23) hx hb hts (in_M _) hown hK hP k hU.o rfl 19 (by decide) (hts (.fieldLink R_M 56 "DebtRowsModel" "debtors" "[I") (List.mem_cons_of_mem _ mB_433)) (fun _ h9 => h9) rfl d_M_look_15 ?_
      refine lv_aload_n hx hb d_M_look_18 rfl (lv_at hl 0 rfl) ?_
      refine lv_iload_n hx hb d_M_look_19 rfl (lv_at hl 1 rfl) ?_
      refine vp_callSi (W.runV (As := [.int (b)]) (rest := [.ref (ma 15), .int (3), .int (wh)]) ⟨hx, hb, hml, hown, hts⟩ (c_M_isDebt l D A w cI cL cD k h0 ma (e0_thrown, e0_today, e0_rates, e0_from, e0_up, e0_down, e0_debts, e0_state, e0_born, e0_dueDay, e0_cents, e0_open, e0_lost, e0_fixed, e0_runsFrom, e0_interestPaid, e0_parts, e0_deferredOn, e0_deferred, e0_debtors, e0_debtor, e0_paidBy, e0_credit) (b) hU.1) (cwV 1 hts (gV _ mB_488 mB_489 mB_5 mB_17 mB_490) rfl rfl rfl (by decide +kernel) ⟨(Nat.le_of_ble_eq_true rfl), (Nat.le_of_ble_eq_true rfl)⟩) ⟨mPc_bl, va_recv hK hP (ci := 3) (q0 := k) rfl hU.o, mPc_pr hP hK hD⟩ rfl rfl hl.1 rfl (lv_room (Nat.le_of_ble_eq_true rfl)) d_M_look_20 ⟨Nat.zero_le _, Nat.zero_le _⟩) (fun v_558 ev_558 => ?_)
      subst ev_558
      refine lv_if_eq (tgt := 30) hx hb d_M_look_23 (by decide) (fun c_559 => ?_) (fun c_559 => ?_)
      · exact absurd c_559 (c_552)
      · refine lv_iload_n hx hb d_M_look_26 rfl (lv_at hl 1 rfl) ?_
        refine lv_goto (tgt := 31) hx hb d_M_look_27 (by decide) ?_
        refine va_iald hx hb hK hP (k + 16) 0 hU.a15 rfl (in_b hw (ok_of c_552)) d_M_look_31 ?_
        refine lv_topi (fun v_560 ev_560 => ?_)
        have ev_560 : v_560 = (e0_debtors (b).toNatClampNeg) := ev_560
        subst ev_560
        refine lv_iadd hx hb d_M_look_32 ?_
        refine lv_icmp_le (tgt := 42) hx hb d_M_look_33 (by decide) (fun c_561 => ?_) (fun c_561 => ?_)
        · refine lv_aload_n hx hb d_M_look_42 rfl (lv_at hl 0 rfl) ?_
          refine lv_iconst (v := 0) hx hb d_M_look_43 (by decide) ?_
          refine va_put (D := D) (ci := 3) (v := .int (0)) (ty := .int) (C := R_M) (T := F_M) (N := 23) hx hb hts (in_M _) t_M to_M nn_M hown hK hP hD hS k hU.o rfl 0 (by decide) (hts (.fieldLink R_M 68 "DebtRowsModel" "thrown" "I") (List.mem_cons_of_mem _ mB_414)) (fun _ h9 => h9) rfl (by decide +kernel) rfl rfl (Nat.le_of_ble_eq_true rfl) d_M_look_44 (fun H locs hP hD hS => ?_)
          have hU : mUpd w (w.set k (h0, mE ma (0, e0_today, e0_rates, e0_from, e0_up, e0_down, e0_debts, e0_state, e0_born, e0_dueDay, e0_cents, e0_open, e0_lost, e0_fixed, e0_runsFrom, e0_interestPaid, e0_parts, e0_deferredOn, e0_deferred, e0_debtors, e0_debtor, e0_paidBy, e0_credit))) k cI cL h0 ma ((0), e0_today, e0_rates, e0_from, e0_up, e0_down, e0_debts, e0_state, e0_born, e0_dueDay, e0_cents, e0_open, e0_lost, e0_fixed, e0_runsFrom, e0_interestPaid, e0_parts, e0_deferredOn, e0_deferred, e0_debtors, e0_debtor, e0_paidBy, e0_credit) := hU.s_thrown (0)
          have hP : va_P D vwCl (w.set k (h0, mE ma (0, e0_today, e0_rates, e0_from, e0_up, e0_down, e0_debts, e0_state, e0_born, e0_dueDay, e0_cents, e0_open, e0_lost, e0_fixed, e0_runsFrom, e0_interestPaid, e0_parts, e0_deferredOn, e0_deferred, e0_debtors, e0_debtor, e0_paidBy, e0_credit))) H := hP
          have hD : va_D A (w.set k (h0, mE ma (0, e0_today, e0_rates, e0_from, e0_up, e0_down, e0_debts, e0_state, e0_born, e0_dueDay, e0_cents, e0_open, e0_lost, e0_fixed, e0_runsFrom, e0_interestPaid, e0_parts, e0_deferredOn, e0_deferred, e0_debtors, e0_debtor, e0_paidBy, e0_credit))) := hD
          generalize w.set k (h0, mE ma (0, e0_today, e0_rates, e0_from, e0_up, e0_down, e0_debts, e0_state, e0_born, e0_dueDay, e0_cents, e0_open, e0_lost, e0_fixed, e0_runsFrom, e0_interestPaid, e0_parts, e0_deferredOn, e0_deferred, e0_debtors, e0_debtor, e0_paidBy, e0_credit)) = w_562 at hP hD hU
          refine lv_iload_n hx hb d_M_look_47 rfl (lv_at hl 2 rfl) ?_
          rcases Decidable.em (wh = (0 : Int32)) with c_563 | c_563
          · refine lv_tableIn (tgt := 80) hx hb d_M_look_48 (by rw [c_563]; decide) (by rw [c_563]; decide) (by rw [c_563]; rfl) (by decide) ?_
            refine lv_aload_n hx hb d_M_look_80 rfl (lv_at hl 0 rfl) ?_
            refine va_get (D := D) (ci := 3) (v := .ref (ma 3)) (C := R_M) (T := F_M) (N := 23) hx hb hts (in_M _) hown hK hP k hU.o rfl 7 (by decide) (hts (.fieldLink R_M 19 "DebtRowsModel" "state" "[I") (List.mem_cons_of_mem _ mB_421)) (fun _ h9 => h9) rfl d_M_look_81 ?_
            refine lv_iload_n hx hb d_M_look_84 rfl (lv_at hl 1 rfl) ?_
            refine va_iald hx hb hK hP (k + 4) 0 hU.a3 rfl (in_b hw (ok_of c_552)) d_M_look_85 ?_
            refine lv_topi (fun v_564 ev_564 => ?_)
            have ev_564 : v_564 = (e0_state (b).toNatClampNeg) := ev_564
            subst ev_564
            exact W.iret (v := (e0_state (b).toNatClampNeg)) hx hb hr (fun t ht hW => ⟨⟨_, (), rfl, by rw [g_look, if_neg c_552, if_neg c_555, if_pos c_561, if_pos c_563], w_562, by rw [ht]; exact hP, hD, by rw [g_look, if_neg c_552, if_neg c_555, if_pos c_561, if_pos c_563]; exact hU⟩, hS.F ht⟩) hS.2.2 d_M_look_86
          · rcases Decidable.em (wh = (1 : Int32)) with c_565 | c_565
            · refine lv_tableIn (tgt := 87) hx hb d_M_look_48 (by rw [c_565]; decide) (by rw [c_565]; decide) (by rw [c_565]; rfl) (by decide) ?_
              refine lv_aload_n hx hb d_M_look_87 rfl (lv_at hl 0 rfl) ?_
              refine va_get (D := D) (ci := 3) (v := .ref (ma 4)) (C := R_M) (T := F_M) (N := 23) hx hb hts (in_M _) hown hK hP k hU.o rfl 8 (by decide) (hts (.fieldLink R_M 22 "DebtRowsModel" "born" "[I") (List.mem_cons_of_mem _ mB_422)) (fun _ h9 => h9) rfl d_M_look_88 ?_
              refine lv_iload_n hx hb d_M_look_91 rfl (lv_at hl 1 rfl) ?_
              refine va_iald hx hb hK hP (k + 5) 0 hU.a4 rfl (in_b hw (ok_of c_552)) d_M_look_92 ?_
              refine lv_topi (fun v_566 ev_566 => ?_)
              have ev_566 : v_566 = (e0_born (b).toNatClampNeg) := ev_566
              subst ev_566
              exact W.iret (v := (e0_born (b).toNatClampNeg)) hx hb hr (fun t ht hW => ⟨⟨_, (), rfl, by rw [g_look, if_neg c_552, if_neg c_555, if_pos c_561, if_neg c_563, if_pos c_565], w_562, by rw [ht]; exact hP, hD, by rw [g_look, if_neg c_552, if_neg c_555, if_pos c_561, if_neg c_563, if_pos c_565]; exact hU⟩, hS.F ht⟩) hS.2.2 d_M_look_93
            · rcases Decidable.em (wh = (2 : Int32)) with c_567 | c_567
              · refine lv_tableIn (tgt := 94) hx hb d_M_look_48 (by rw [c_567]; decide) (by rw [c_567]; decide) (by rw [c_567]; rfl) (by decide) ?_
                refine lv_aload_n hx hb d_M_look_94 rfl (lv_at hl 0 rfl) ?_
                refine va_get (D := D) (ci := 3) (v := .ref (ma 5)) (C := R_M) (T := F_M) (N := 23) hx hb hts (in_M _) hown hK hP k hU.o rfl 9 (by decide) (hts (.fieldLink R_M 25 "DebtRowsModel" "dueDay" "[I") (List.mem_cons_of_mem _ mB_423)) (fun _ h9 => h9) rfl d_M_look_95 ?_
                refine lv_iload_n hx hb d_M_look_98 rfl (lv_at hl 1 rfl) ?_
                refine va_iald hx hb hK hP (k + 6) 0 hU.a5 rfl (in_b hw (ok_of c_552)) d_M_look_99 ?_
                refine lv_topi (fun v_568 ev_568 => ?_)
                have ev_568 : v_568 = (e0_dueDay (b).toNatClampNeg) := ev_568
                subst ev_568
                exact W.iret (v := (e0_dueDay (b).toNatClampNeg)) hx hb hr (fun t ht hW => ⟨⟨_, (), rfl, by rw [g_look, if_neg c_552, if_neg c_555, if_pos c_561, if_neg c_563, if_neg c_565, if_pos c_567], w_562, by rw [ht]; exact hP, hD, by rw [g_look, if_neg c_552, if_neg c_555, if_pos c_561, if_neg c_563, if_neg c_565, if_pos c_567]; exact hU⟩, hS.F ht⟩) hS.2.2 d_M_look_100
              · rcases Decidable.em (wh = (3 : Int32)) with c_569 | c_569
                · refine lv_tableIn (tgt := 101) hx hb d_M_look_48 (by rw [c_569]; decide) (by rw [c_569]; decide) (by rw [c_569]; rfl) (by decide) ?_
                  refine lv_aload_n hx hb d_M_look_101 rfl (lv_at hl 0 rfl) ?_
                  refine va_get (D := D) (ci := 3) (v := .ref (ma 15)) (C := R_M) (T := F_M) (N := 23) hx hb hts (in_M _) hown hK hP k hU.o rfl 19 (by decide) (hts (.fieldLink R_M 56 "DebtRowsModel" "debtors" "[I") (List.mem_cons_of_mem _ mB_433)) (fun _ h9 => h9) rfl d_M_look_102 ?_
                  refine lv_iload_n hx hb d_M_look_105 rfl (lv_at hl 1 rfl) ?_
                  refine va_iald hx hb hK hP (k + 16) 0 hU.a15 rfl (in_b hw (ok_of c_552)) d_M_look_106 ?_
                  refine lv_topi (fun v_570 ev_570 => ?_)
                  have ev_570 : v_570 = (e0_debtors (b).toNatClampNeg) := ev_570
                  subst ev_570
                  exact W.iret (v := (e0_debtors (b).toNatClampNeg)) hx hb hr (fun t ht hW => ⟨⟨_, (), rfl, by rw [g_look, if_neg c_552, if_neg c_555, if_pos c_561, if_neg c_563, if_neg c_565, if_neg c_567, if_pos c_569], w_562, by rw [ht]; exact hP, hD, by rw [g_look, if_neg c_552, if_neg c_555, if_pos c_561, if_neg c_563, if_neg c_565, if_neg c_567, if_pos c_569]; exact hU⟩, hS.F ht⟩) hS.2.2 d_M_look_107
                · refine lv_tableOut (tgt := 108) hx hb d_M_look_48 (tsw4 c_563 c_565 c_567 c_569) (by decide) ?_
                  refine lv_aload_n hx hb d_M_look_108 rfl (lv_at hl 0 rfl) ?_
                  refine va_get (D := D) (ci := 3) (v := .ref (ma 16)) (C := R_M) (T := F_M) (N := 23) hx hb hts (in_M _) hown hK hP k hU.o rfl 20 (by decide) (hts (.fieldLink R_M 59 "DebtRowsModel" "debtor" "[I") (List.mem_cons_of_mem _ mB_434)) (fun _ h9 => h9) rfl d_M_look_109 ?_
                  refine lv_iconst (v := 4) hx hb d_M_look_112 (by decide) ?_
                  refine lv_iload_n hx hb d_M_look_113 rfl (lv_at hl 1 rfl) ?_
                  refine lv_imul hx hb d_M_look_114 ?_
                  refine lv_iload_n hx hb d_M_look_115 rfl (lv_at hl 2 rfl) ?_
                  refine lv_iadd hx hb d_M_look_116 ?_
                  refine lv_iconst (v := 4) hx hb d_M_look_117 (by decide) ?_
                  refine lv_isub hx hb d_M_look_118 ?_
                  refine va_iald hx hb hK hP (k + 17) 0 hU.a16 rfl (in_look hw (ok_of c_552) c_555 c_561 c_563 c_565 c_567 c_569) d_M_look_119 ?_
                  refine lv_topi (fun v_571 ev_571 => ?_)
                  have ev_571 : v_571 = (e0_debtor ((((4 * b) + wh) - 4)).toNatClampNeg) := ev_571
                  subst ev_571
                  exact W.iret (v := (e0_debtor ((((4 * b) + wh) - 4)).toNatClampNeg)) hx hb hr (fun t ht hW => ⟨⟨_, (), rfl, by rw [g_look, if_neg c_552, if_neg c_555, if_pos c_561, if_neg c_563, if_neg c_565, if_neg c_567, if_neg c_569], w_562, by rw [ht]; exact hP, hD, by rw [g_look, if_neg c_552, if_neg c_555, if_pos c_561, if_neg c_563, if_neg c_565, if_neg c_567, if_neg c_569]; exact hU⟩, hS.F ht⟩) hS.2.2 d_M_look_120
        · refine lv_aload_n hx hb d_M_look_36 rfl (lv_at hl 0 rfl) ?_
          refine lv_iconst (v := 1) hx hb d_M_look_37 (by decide) ?_
          refine va_calli (va_runV (As := [.int (1)]) (rest := []) ⟨hx, hb, hml, hown, hts⟩ (c_M_fails l D A w cI cL cD k h0 ma (e0_thrown, e0_today, e0_rates, e0_from, e0_up, e0_down, e0_debts, e0_state, e0_born, e0_dueDay, e0_cents, e0_open, e0_lost, e0_fixed, e0_runsFrom, e0_interestPaid, e0_parts, e0_deferredOn, e0_deferred, e0_debtors, e0_debtor, e0_paidBy, e0_credit) (1) hU.1) (cwV 1 hts (gV _ mB_469 mB_470 mB_4 mB_17 mB_471) rfl rfl rfl (by decide +kernel) ⟨(Nat.le_of_ble_eq_true rfl), (Nat.le_of_ble_eq_true rfl)⟩) ⟨mPc_bl, va_recv hK hP (ci := 3) (q0 := k) rfl hU.o, mPc_pr hP hK hD⟩ rfl rfl hl.1 rfl (lv_room (Nat.le_of_ble_eq_true rfl)) d_M_look_38 ⟨Nat.zero_le _, Nat.zero_le _⟩) hS (fun _ _ h => h) (fun _ h => h) (fun v_572 u9 t H locs ht hvm ev_572 hB hz1 hk1 hS => ?_)
          obtain ⟨w_573, hP, hD, hU1⟩ := hB
          rw [ht] at hP
          have hU := hU.tr hU1
          subst ev_572
          exact W.iret (v := (g_fails (e0_thrown, e0_today, e0_rates, e0_from, e0_up, e0_down, e0_debts, e0_state, e0_born, e0_dueDay, e0_cents, e0_open, e0_lost, e0_fixed, e0_runsFrom, e0_interestPaid, e0_parts, e0_deferredOn, e0_deferred, e0_debtors, e0_debtor, e0_paidBy, e0_credit) (1)).1) hx hb hr (fun t ht hW => ⟨⟨_, (), rfl, by rw [g_look, if_neg c_552, if_neg c_555, if_neg c_561], w_573, by rw [ht]; exact hP, hD, by rw [g_look, if_neg c_552, if_neg c_555, if_neg c_561]; exact hU⟩, hS.F ht⟩) hS.2.2 d_M_look_41
