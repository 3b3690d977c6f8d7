def pmL (who : Int32) : Nat → Nat → Int32 → Int64 → MT → Int32 × Int64 × MT
  | _, 0, t, l, y => (t, l, y)
  | i, n + 1, t, l, y => if l ≤ 0 then pmL who (i + 1) n t l y
    else if (g_debtorOf y (nI (i + 1)) (who)) < 0 then pmL who (i + 1) n t l y
    else if ((m_state y) (nI (i + 1)).toNatClampNeg) = 1 then pmL who (i + 1) n (t + 1) (g_payOf y (nI (i + 1)) (who) (l)).1 (g_payOf y (nI (i + 1)) (who) (l)).2
    else if ((m_state y) (nI (i + 1)).toNatClampNeg) = 2 then pmL who (i + 1) n (t + 1) (g_payOf y (nI (i + 1)) (who) (l)).1 (g_payOf y (nI (i + 1)) (who) (l)).2
    else pmL who (i + 1) n t l y
def g_pay (y : MT) (who : Int32) (cn : Int64) : Int32 × MT :=
  if (g_isPerson (who)) = 0 then ((g_fails y (1)).1, (g_fails y (1)).2)
  else if (g_in (cn) (1) (1000000000)) = 0 then ((g_fails y (1)).1, (g_fails y (1)).2)
    else ((pmL who 0 (m_debts y).toNatClampNeg 0 cn (n_thrown y (0))).1, n_credit (pmL who 0 (m_debts y).toNatClampNeg 0 cn (n_thrown y (0))).2.2 (vp_updL (m_credit (pmL who 0 (m_debts y).toNatClampNeg 0 cn (n_thrown y (0))).2.2) (who).toNatClampNeg (((m_credit (pmL who 0 (m_debts y).toNatClampNeg 0 cn (n_thrown y (0))).2.2) (who).toNatClampNeg) + (pmL who 0 (m_debts y).toNatClampNeg 0 cn (n_thrown y (0))).2.1)))
set_option maxHeartbeats 4000000 in
set_option maxRecDepth 100000 in
theorem c_M_pay (l : Launch) (D : va_G) (A : Nat → Prop) (w : va_W) (cI cL cD : ClassId) (k h0 : Nat) (ma : Nat → Nat) (y : MT) (who : Int32) (cn : Int64) (hU0 : mA w k cI cL h0 ma y) (hw : wfM y) : Met l y_M_pay w_M_pay ({ frames := 4, cells := 0, slots := 0, locals := 100 }) (mPc D w (tyL cI cL cD) A [.ref h0, .int (who), .long (cn)]) (va_Qi (fun z9 (_ : Unit) => z9 = (g_pay y who cn).1) (fun (_ : Unit) t => ∃ w9 : va_W, va_P D vwCl w9 t.heap ∧ va_D A w9 ∧ mUpd w w9 k cI cL h0 ma ((g_pay y who cn).2)) A) 0 0 A := by
  refine Met.ofW (cc := b_M_pay) (maxL := 8) (ret := (some .int)) (by decide) rfl ?_
  intro p e s m args below meth c s₁ B hml hv
  obtain ⟨rfl, hP, hK, hD⟩ := hv
  have hx := B.exec
  have hb := B.bytes
  have hr := B.returns
  have hts := atoms_spec (ws := w_M_pay) B.pre
  have hown : s.vm.findClass R_M = some m.cls := findClass_of_methodNamed B.named
  have hlocks := B.notSynchronized
  have hS : va_S A s.heap s.heap [] := va_S.rf
  have hU : mUpd w w k cI cL h0 ma y := mUpd.rf hU0
  have hl := lv_entry ([.ref h0, .int (who), .long (cn)]) (n := 8) (Nat.le_of_ble_eq_true rfl)
  rw [lg_entry_eq]
  generalize (lg_sl ([.ref h0, .int (who), .long (cn)]) ++ List.replicate (8 - (lg_sl ([.ref h0, .int (who), .long (cn)])).length) Slot.unset).toArray = ls at hl ⊢
  have hl : lv_has ls 8 [(0, .ref h0), (1, .int (who)), (2, .long (cn))] := hl
  refine lv_iload_n hx hb d_M_pay_0 rfl (lv_at hl 1 rfl) ?_
  refine vp_callSi (W.runS (As := [.int (who)]) (rest := []) ⟨hx, hb, hml, hown, hts⟩ (c_M_isPerson l (who)) (cwS 1 hts (gS _ mB_481 mB_482 mB_17 mB_483) rfl rfl rfl (by decide +kernel) ⟨(Nat.le_of_ble_eq_true rfl), (Nat.le_of_ble_eq_true rfl)⟩) ⟨fun _ _ _ _ q => q, fun U _ _ => ⟨rfl, trivial⟩⟩ rfl rfl hl.1 rfl (lv_room (Nat.le_of_ble_eq_true rfl)) d_M_pay_1 ⟨Nat.zero_le _, Nat.zero_le _⟩) (fun v_598 ev_598 => ?_)
  subst ev_598
  refine lv_if_eq (tgt := 18) hx hb d_M_pay_4 (by decide) (fun c_599 => ?_) (fun c_599 => ?_)
  · refine lv_aload_n hx hb d_M_pay_18 rfl (lv_at hl 0 rfl) ?_
    refine lv_iconst (v := 1) hx hb d_M_pay_19 (by decide) ?_
    refine va_calli (va_runV (As := [.int (1)]) (rest := []) ⟨hx, hb, hml, hown, hts⟩ (c_M_fails l D A w cI cL cD k h0 ma y (1) hU.1) (cwV 1 hts (gV _ mB_469 mB_470 mB_4 mB_17 mB_471) rfl rfl rfl (by decide +kernel) ⟨(Nat.le_of_ble_eq_true rfl), (Nat.le_of_ble_eq_true rfl)⟩) ⟨mPc_bl, va_recv hK hP (ci := 3) (q0 := k) rfl hU.o, mPc_pr hP hK hD⟩ rfl rfl hl.1 rfl (lv_room (Nat.le_of_ble_eq_true rfl)) d_M_pay_20 ⟨Nat.zero_le _, Nat.zero_le _⟩) hS (fun _ _ h => h) (fun _ h => h) (fun v_600 u9 t H locs ht hvm ev_600 hB hz1 hk1 hS => ?_)
    obtain ⟨w_601, hP, hD, hU1⟩ := hB
    rw [ht] at hP
    have hU := hU.tr hU1
    subst ev_600
    exact W.iret (v := (g_fails y (1)).1) hx hb hr (fun t ht hW => ⟨⟨_, (), rfl, by rw [g_pay, if_pos c_599], w_601, by rw [ht]; exact hP, hD, by rw [g_pay, if_pos c_599]; exact hU⟩, hS.F ht⟩) hS.2.2 d_M_pay_23
  · refine lv_lload_n hx hb d_M_pay_7 rfl (lv_at hl 2 rfl) ?_
    refine lv_lconst (v := 1) hx hb d_M_pay_8 (by decide) ?_
    refine lv_ldc2 (own := R_M) (index := 86) (v := 1000000000) hx hb hown (hts (.constantLong R_M 86 (1000000000)) (List.mem_cons_of_mem _ mB_477)) d_M_pay_9 ?_
    refine vp_callSi (W.runS (As := [.long (cn), .long (1), .long (1000000000)]) (rest := []) ⟨hx, hb, hml, hown, hts⟩ (c_M_in l (cn) (1) (1000000000)) (cwS 3 hts (gS _ mB_478 mB_479 mB_17 mB_480) rfl rfl rfl (by decide +kernel) ⟨(Nat.le_of_ble_eq_true rfl), (Nat.le_of_ble_eq_true rfl)⟩) ⟨fun _ _ _ _ q => q, fun U _ _ => ⟨rfl, trivial⟩⟩ rfl rfl hl.1 rfl (lv_room (Nat.le_of_ble_eq_true rfl)) d_M_pay_12 ⟨Nat.zero_le _, Nat.zero_le _⟩) (fun v_602 ev_602 => ?_)
    subst ev_602
    refine lv_if_ne (tgt := 24) hx hb d_M_pay_15 (by decide) (fun c_603 => ?_) (fun c_603 => ?_)
    · refine lv_aload_n hx hb d_M_pay_24 rfl (lv_at hl 0 rfl) ?_
      refine lv_iconst (v := 0) hx hb d_M_pay_25 (by decide) ?_
      refine va_put (D := D) (ci := 3) (v := .int (0)) (ty := .int) (C := R_M) (T := F_M) (N := 23) hx hb hts (in_M _) t_M to_M nn_M hown hK hP hD hS k hU.o rfl 0 (by decide) (hts (.fieldLink R_M 68 "DebtRowsModel" "thrown" "I") (List.mem_cons_of_mem _ mB_414)) (fun _ h9 => h9) rfl (by decide +kernel) rfl rfl (Nat.le_of_ble_eq_true rfl) d_M_pay_26 (fun H locs hP hD hS => ?_)
      have hU := hU.s_thrown (0)
      have hP : va_P D vwCl (w.set k (h0, mE ma (n_thrown y (0)))) H := hP
      have hD : va_D A (w.set k (h0, mE ma (n_thrown y (0)))) := hD
      generalize w.set k (h0, mE ma (n_thrown y (0))) = w_604 at hP hD hU
      refine lv_lload_n hx hb d_M_pay_29 rfl (lv_at hl 2 rfl) ?_
      refine lv_lstore (lv' := [(4, .long (cn)), (0, .ref h0), (1, .int (who)), (2, .long (cn))]) hx hb d_M_pay_30 hl (by decide) rfl (fun ls hl => ?_)
      refine lv_iconst (v := 0) hx hb d_M_pay_32 (by decide) ?_
      refine lv_istore (lv' := [(6, .int (0)), (4, .long (cn)), (0, .ref h0), (1, .int (who)), (2, .long (cn))]) hx hb d_M_pay_33 hl (by decide) rfl (fun ls hl => ?_)
      refine lv_iconst (v := 1) hx hb d_M_pay_35 (by decide) ?_
      refine lv_istore (lv' := [(7, .int (1)), (6, .int (0)), (4, .long (cn)), (0, .ref h0), (1, .int (who)), (2, .long (cn))]) hx hb d_M_pay_36 hl (by decide) rfl (fun ls hl => ?_)
      obtain ⟨nn, hnn, en0⟩ := hw.1
      have loop : ∀ (n i : Nat) (t0 : Int32) (l0 : Int64) (y1 : MT), i + n = nn → pmL who i n t0 l0 y1 = pmL who 0 nn 0 cn (n_thrown y (0)) → wfM y1 → m_debts y1 = nI nn → ∀ (H : Heap) (locs : List Loc) (w1 : va_W) (ls : Array Slot), va_P D vwCl w1 H → va_D A w1 → va_S A s.heap H locs → mUpd w w1 k cI cL h0 ma y1 → lv_has ls 8 [(7, .int (nI (i + 1))), (6, .int (t0)), (4, .long (l0)), (0, .ref h0), (1, .int (who)), (2, .long (cn))] → W p l e (headSpec w_M_pay ({ frames := 4, cells := 0, slots := 0, locals := 100 })).room s m [.ref h0, .int (who), .long (cn)].toArray below meth c H locs 0 0 (MQ below (va_Qi (fun z9 (_ : Unit) => z9 = (g_pay y who cn).1) (fun (_ : Unit) t => ∃ w9 : va_W, va_P D vwCl w9 t.heap ∧ va_D A w9 ∧ mUpd w w9 k cI cL h0 ma ((g_pay y who cn).2)) A) [.ref h0, .int (who), .long (cn)].toArray s 0 0 A) (F0 m 38 ls []) := by
        intro n
        induction n with
        | zero =>
          intro i t0 l0 y1 hin hv hw en H locs w1 ls hP hD hS hU hl
          refine lv_iload hx hb d_M_pay_38 (lv_at hl 0 rfl) ?_
          refine lv_aload_n hx hb d_M_pay_40 rfl (lv_at hl 3 rfl) ?_
          refine va_get (D := D) (ci := 3) (v := .int (m_debts y1)) (C := R_M) (T := F_M) (N := 23) hx hb hts (in_M _) hown hK hP k hU.o rfl 6 (by decide) (hts (.fieldLink R_M 72 "DebtRowsModel" "debts" "I") (List.mem_cons_of_mem _ mB_420)) (fun _ h9 => h9) rfl d_M_pay_41 ?_
          refine lv_icmp_gt (tgt := 106) hx hb d_M_pay_44 (by decide) (fun c_605 => ?_) (fun c_605 => ?_)
          · refine lv_aload_n hx hb d_M_pay_106 rfl (lv_at hl 3 rfl) ?_
            refine va_get (D := D) (ci := 3) (v := .ref (ma 18)) (C := R_M) (T := F_M) (N := 23) hx hb hts (in_M _) hown hK hP k hU.o rfl 22 (by decide) (hts (.fieldLink R_M 65 "DebtRowsModel" "credit" "[J") (List.mem_cons_of_mem _ mB_436)) (fun _ h9 => h9) rfl d_M_pay_107 ?_
            refine lv_iload_n hx hb d_M_pay_110 rfl (lv_at hl 4 rfl) ?_
            refine lv_dup2_11 hx hb d_M_pay_111 rfl rfl ?_
            refine va_lald hx hb hK hP (k + 19) 1 hU.a18 rfl (in_pp c_599) d_M_pay_112 ?_
            refine lv_lload hx hb d_M_pay_113 (lv_at hl 2 rfl) ?_
            refine lv_ladd hx hb d_M_pay_115 ?_
            refine va_last hx hb hK hP hD hS (k + 19) 1 hU.a18 rfl (in_pp c_599) d_M_pay_116 (fun H locs hP hD hS => ?_)
            have hU := hU.s_credit (vp_updL (m_credit y1) (who).toNatClampNeg ((((m_credit y1) (who).toNatClampNeg) + l0)))
            have hP : va_P D vwCl (w1.set (k + 19) (ma 18, aL cL 16 (vp_updL (m_credit y1) (who).toNatClampNeg ((((m_credit y1) (who).toNatClampNeg) + l0))))) H := hP
            have hD : va_D A (w1.set (k + 19) (ma 18, aL cL 16 (vp_updL (m_credit y1) (who).toNatClampNeg ((((m_credit y1) (who).toNatClampNeg) + l0))))) := hD
            generalize w1.set (k + 19) (ma 18, aL cL 16 (vp_updL (m_credit y1) (who).toNatClampNeg ((((m_credit y1) (who).toNatClampNeg) + l0)))) = w_606 at hP hD hU
            refine lv_iload hx hb d_M_pay_117 (lv_at hl 1 rfl) ?_
            exact W.iret (v := t0) hx hb hr (fun t ht hW => ⟨⟨_, (), rfl, by rw [g_pay, if_neg c_599, if_neg c_603, en0, nI_clamp (by omega), ← hv]; rfl, w_606, by rw [ht]; exact hP, hD, by rw [g_pay, if_neg c_599, if_neg c_603, en0, nI_clamp (by omega), ← hv]; exact hU⟩, hS.F ht⟩) hS.2.2 d_M_pay_119
          · exact absurd (by rw [en]; exact nI_lt (by omega) (by omega)) c_605
        | succ n ih =>
          intro i t0 l0 y1 hin hv hw en H locs w1 ls hP hD hS hU hl
          refine lv_iload hx hb d_M_pay_38 (lv_at hl 0 rfl) ?_
          refine lv_aload_n hx hb d_M_pay_40 rfl (lv_at hl 3 rfl) ?_
          refine va_get (D := D) (ci := 3) (v := .int (m_debts y1)) (C := R_M) (T := F_M) (N := 23) hx hb hts (in_M _) hown hK hP k hU.o rfl 6 (by decide) (hts (.fieldLink R_M 72 "DebtRowsModel" "debts" "I") (List.mem_cons_of_mem _ mB_420)) (fun _ h9 => h9) rfl d_M_pay_41 ?_
          refine lv_icmp_gt (tgt := 106) hx hb d_M_pay_44 (by decide) (fun c_607 => ?_) (fun c_607 => ?_)
          · exact absurd c_607 (by rw [en]; exact nI_nlt (by omega) (by omega))
          · refine lv_lload hx hb d_M_pay_47 (lv_at hl 2 rfl) ?_
            refine lv_lconst (v := 0) hx hb d_M_pay_49 (by decide) ?_
            refine W.lcmp hx hb d_M_pay_50 ?_
            refine lv_if_le (tgt := 100) hx hb d_M_pay_51 (by decide) (fun c_608 => ?_) (fun c_608 => ?_)
            · have c_608 : l0 ≤ 0 := (lg_cmp_le _ _).mp c_608
              refine lv_iinc (v := nI (i + 1 + 1)) (lv' := [(7, .int (nI (i + 1 + 1))), (6, .int (t0)), (4, .long (l0)), (0, .ref h0), (1, .int (who)), (2, .long (cn))]) hx hb d_M_pay_100 hl (k := 0) rfl (by first | exact nI_inc (i + 1) | rfl) (by decide) rfl (fun ls hl => ?_)
              refine lv_goto (tgt := 38) hx hb d_M_pay_103 (by decide) ?_
              exact ih (i + 1) (t0) (l0) y1 (by omega) (by rw [← hv, pmL, if_pos c_608]) (hw) (en) _ _ w1 ls hP hD hS hU (lv_sub hl [0, 1, 2, 3, 4, 5] rfl)
            · have c_608 : ¬ l0 ≤ 0 := fun h9 => c_608 ((lg_cmp_le _ _).mpr h9)
              refine lv_aload_n hx hb d_M_pay_54 rfl (lv_at hl 3 rfl) ?_
              refine lv_iload hx hb d_M_pay_55 (lv_at hl 0 rfl) ?_
              refine lv_iload_n hx hb d_M_pay_57 rfl (lv_at hl 4 rfl) ?_
              refine vp_callSi (W.runV (As := [.int (nI (i + 1)), .int (who)]) (rest := []) ⟨hx, hb, hml, hown, hts⟩ (c_M_debtorOf l D A w1 cI cL cD k h0 ma y1 (nI (i + 1)) (who) hU.1 hw (okM_nI en hnn (by omega))) (cwV 2 hts (gV _ mB_491 mB_492 mB_6 mB_17 mB_493) rfl rfl rfl (by decide +kernel) ⟨(Nat.le_of_ble_eq_true rfl), (Nat.le_of_ble_eq_true rfl)⟩) ⟨mPc_bl, va_recv hK hP (ci := 3) (q0 := k) rfl hU.o, mPc_pr hP hK hD⟩ rfl rfl hl.1 rfl (lv_room (Nat.le_of_ble_eq_true rfl)) d_M_pay_58 ⟨Nat.zero_le _, Nat.zero_le _⟩) (fun v_609 ev_609 => ?_)
              subst ev_609
              refine lv_if_lt (tgt := 100) hx hb d_M_pay_61 (by decide) (fun c_610 => ?_) (fun c_610 => ?_)
              · refine lv_iinc (v := nI (i + 1 + 1)) (lv' := [(7, .int (nI (i + 1 + 1))), (6, .int (t0)), (4, .long (l0)), (0, .ref h0), (1, .int (who)), (2, .long (cn))]) hx hb d_M_pay_100 hl (k := 0) rfl (by first | exact nI_inc (i + 1) | rfl) (by decide) rfl (fun ls hl => ?_)
                refine lv_goto (tgt := 38) hx hb d_M_pay_103 (by decide) ?_
                exact ih (i + 1) (t0) (l0) y1 (by omega) (by rw [← hv, pmL, if_neg c_608, if_pos c_610]) (hw) (en) _ _ w1 ls hP hD hS hU (lv_sub hl [0, 1, 2, 3, 4, 5] rfl)
              · refine lv_aload_n hx hb d_M_pay_64 rfl (lv_at hl 3 rfl) ?_
                refine va_get (D := D) (ci := 3) (v := .ref (ma 3)) (C := R_M) (T := F_M) (N := 23) hx hb hts (in_M _) hown hK hP k hU.o rfl 7 (by decide) (hts (.fieldLink R_M 19 "DebtRowsModel" "state" "[I") (List.mem_cons_of_mem _ mB_421)) (fun _ h9 => h9) rfl d_M_pay_65 ?_
                refine lv_iload hx hb d_M_pay_68 (lv_at hl 0 rfl) ?_
                refine va_iald hx hb hK hP (k + 4) 0 hU.a3 rfl (in_b hw (okM_nI en hnn (by omega))) d_M_pay_70 ?_
                refine lv_iconst (v := 1) hx hb d_M_pay_71 (by decide) ?_
                refine lv_icmp_eq (tgt := 86) hx hb d_M_pay_72 (by decide) (fun c_611 => ?_) (fun c_611 => ?_)
                · refine lv_aload_n hx hb d_M_pay_86 rfl (lv_at hl 3 rfl) ?_
                  refine lv_iload hx hb d_M_pay_87 (lv_at hl 0 rfl) ?_
                  refine lv_iload_n hx hb d_M_pay_89 rfl (lv_at hl 4 rfl) ?_
                  refine lv_lload hx hb d_M_pay_90 (lv_at hl 2 rfl) ?_
                  refine va_calll (va_runV (As := [.int (nI (i + 1)), .int (who), .long (l0)]) (rest := []) ⟨hx, hb, hml, hown, hts⟩ (c_M_payOf l D A w1 cI cL cD k h0 ma y1 (nI (i + 1)) (who) (l0) hU.1 hw (okM_nI en hnn (by omega)) c_610) (cwV 3 hts (gV _ mB_502 mB_503 mB_7 mB_17 mB_504) rfl rfl rfl (by decide +kernel) ⟨(Nat.le_of_ble_eq_true rfl), (Nat.le_of_ble_eq_true rfl)⟩) ⟨mPc_bl, va_recv hK hP (ci := 3) (q0 := k) rfl hU.o, mPc_pr hP hK hD⟩ rfl rfl hl.1 rfl (lv_room (Nat.le_of_ble_eq_true rfl)) d_M_pay_92 ⟨Nat.zero_le _, Nat.zero_le _⟩) hS (fun _ _ h => h) (fun _ h => h) (fun v_612 u9 t H locs ht hvm ev_612 hB hz1 hk1 hS => ?_)
                  obtain ⟨w_613, hP, hD, hU1⟩ := hB
                  rw [ht] at hP
                  have hU := hU.tr hU1
                  subst ev_612
                  refine lv_lstore (lv' := [(4, .long ((g_payOf y1 (nI (i + 1)) (who) (l0)).1)), (7, .int (nI (i + 1))), (6, .int (t0)), (0, .ref h0), (1, .int (who)), (2, .long (cn))]) hx hb d_M_pay_95 hl (by decide) rfl (fun ls hl => ?_)
                  refine lv_iinc (v := t0 + 1) (lv' := [(6, .int (t0 + 1)), (4, .long ((g_payOf y1 (nI (i + 1)) (who) (l0)).1)), (7, .int (nI (i + 1))), (0, .ref h0), (1, .int (who)), (2, .long (cn))]) hx hb d_M_pay_97 hl (k := 2) rfl (by first | exact nI_inc (i + 1) | rfl) (by decide) rfl (fun ls hl => ?_)
                  refine lv_iinc (v := nI (i + 1 + 1)) (lv' := [(7, .int (nI (i + 1 + 1))), (6, .int (t0 + 1)), (4, .long ((g_payOf y1 (nI (i + 1)) (who) (l0)).1)), (0, .ref h0), (1, .int (who)), (2, .long (cn))]) hx hb d_M_pay_100 hl (k := 2) rfl (by first | exact nI_inc (i + 1) | rfl) (by decide) rfl (fun ls hl => ?_)
                  refine lv_goto (tgt := 38) hx hb d_M_pay_103 (by decide) ?_
                  exact ih (i + 1) (t0 + 1) ((g_payOf y1 (nI (i + 1)) (who) (l0)).1) (g_payOf y1 (nI (i + 1)) (who) (l0)).2 (by omega) (by rw [← hv, pmL, if_neg c_608, if_neg c_610, if_pos c_611]) (wk_payOf hw) (nb_payOf.trans en) _ _ w_613 ls hP hD hS hU (lv_sub hl [0, 1, 2, 3, 4, 5] rfl)
                · refine lv_aload_n hx hb d_M_pay_75 rfl (lv_at hl 3 rfl) ?_
                  refine va_get (D := D) (ci := 3) (v := .ref (ma 3)) (C := R_M) (T := F_M) (N := 23) hx hb hts (in_M _) hown hK hP k hU.o rfl 7 (by decide) (hts (.fieldLink R_M 19 "DebtRowsModel" "state" "[I") (List.mem_cons_of_mem _ mB_421)) (fun _ h9 => h9) rfl d_M_pay_76 ?_
                  refine lv_iload hx hb d_M_pay_79 (lv_at hl 0 rfl) ?_
                  refine va_iald hx hb hK hP (k + 4) 0 hU.a3 rfl (in_b hw (okM_nI en hnn (by omega))) d_M_pay_81 ?_
                  refine lv_iconst (v := 2) hx hb d_M_pay_82 (by decide) ?_
                  refine lv_icmp_ne (tgt := 100) hx hb d_M_pay_83 (by decide) (fun c_614 => ?_) (fun c_614 => ?_)
                  · refine lv_iinc (v := nI (i + 1 + 1)) (lv' := [(7, .int (nI (i + 1 + 1))), (6, .int (t0)), (4, .long (l0)), (0, .ref h0), (1, .int (who)), (2, .long (cn))]) hx hb d_M_pay_100 hl (k := 0) rfl (by first | exact nI_inc (i + 1) | rfl) (by decide) rfl (fun ls hl => ?_)
                    refine lv_goto (tgt := 38) hx hb d_M_pay_103 (by decide) ?_
                    exact ih (i + 1) (t0) (l0) y1 (by omega) (by rw [← hv, pmL, if_neg c_608, if_neg c_610, if_neg c_611, if_neg c_614]) (hw) (en) _ _ w1 ls hP hD hS hU (lv_sub hl [0, 1, 2, 3, 4, 5] rfl)
                  · refine lv_aload_n hx hb d_M_pay_86 rfl (lv_at hl 3 rfl) ?_
                    refine lv_iload hx hb d_M_pay_87 (lv_at hl 0 rfl) ?_
                    refine lv_iload_n hx hb d_M_pay_89 rfl (lv_at hl 4 rfl) ?_
                    refine lv_lload hx hb d_M_pay_90 (lv_at hl 2 rfl) ?_
                    refine va_calll (va_runV (As := [.int (nI (i + 1)), .int (who), .long (l0)]) (rest := []) ⟨hx, hb, hml, hown, hts⟩ (c_M_payOf l D A w1 cI cL cD k h0 ma y1 (nI (i + 1)) (who) (l0) hU.1 hw (okM_nI en hnn (by omega)) c_610) (cwV 3 hts (gV _ mB_502 mB_503 mB_7 mB_17 mB_504) rfl rfl rfl (by decide +kernel) ⟨(Nat.le_of_ble_eq_true rfl), (Nat.le_of_ble_eq_true rfl)⟩) ⟨mPc_bl, va_recv hK hP (ci := 3) (q0 := k) rfl hU.o, mPc_pr hP hK hD⟩ rfl rfl hl.1 rfl (lv_room (Nat.le_of_ble_eq_true rfl)) d_M_pay_92 ⟨Nat.zero_le _, Nat.zero_le _⟩) hS (fun _ _ h => h) (fun _ h => h) (fun v_615 u9 t H locs ht hvm ev_615 hB hz1 hk1 hS => ?_)
                    obtain ⟨w_616, hP, hD, hU1⟩ := hB
                    rw [ht] at hP
                    have hU := hU.tr hU1
                    subst ev_615
                    refine lv_lstore (lv' := [(4, .long ((g_payOf y1 (nI (i + 1)) (who) (l0)).1)), (7, .int (nI (i + 1))), (6, .int (t0)), (0, .ref h0), (1, .int (who)), (2, .long (cn))]) hx hb d_M_pay_95 hl (by decide) rfl (fun ls hl => ?_)
                    refine lv_iinc (v := t0 + 1) (lv' := [(6, .int (t0 + 1)), (4, .long ((g_payOf y1 (nI (i + 1)) (who) (l0)).1)), (7, .int (nI (i + 1))), (0, .ref h0), (1, .int (who)), (2, .long (cn))]) hx hb d_M_pay_97 hl (k := 2) rfl (by first | exact nI_inc (i + 1) | rfl) (by decide) rfl (fun ls hl => ?_)
                    refine lv_iinc (v := nI (i + 1 + 1)) (lv' := [(7, .int (nI (i + 1 + 1))), (6, .int (t0 + 1)), (4, .long ((g_payOf y1 (nI (i + 1)) (who) (l0)).1)), (0, .ref h0), (1, .int (who)), (2, .long (cn))]) hx hb d_M_pay_100 hl (k := 2) rfl (by first | exact nI_inc (i + 1) | rfl) (by decide) rfl (fun ls hl => ?_)
                    refine lv_goto (tgt := 38) hx hb d_M_pay_103 (by decide) ?_
                    exact ih (i + 1) (t0 + 1) ((g_payOf y1 (nI (i + 1)) (who) (l0)).1) (g_payOf y1 (nI (i + 1)) (who) (l0)).2 (by omega) (by rw [← hv, pmL, if_neg c_608, if_neg c_610, if_neg c_611, if_pos c_614]) (wk_payOf hw) (nb_payOf.trans en) _ _ w_616 ls hP hD hS hU (lv_sub hl [0, 1, 2, 3, 4, 5] rfl)
      exact loop nn 0 0 cn (n_thrown y (0)) (by omega) rfl hw en0 _ _ w_604 ls hP hD hS hU hl
    · refine lv_aload_n hx hb d_M_pay_18 rfl (lv_at hl 0 rfl) ?_
      refine lv_iconst (v := 1) hx hb d_M_pay_19 (by decide) ?_
      refine va_calli (va_runV (As := [.int (1)]) (rest := []) ⟨hx, hb, hml, hown, hts⟩ (c_M_fails l D A w cI cL cD k h0 ma y (1) hU.1) (cwV 1 hts (gV _ mB_469 mB_470 mB_4 mB_17 mB_471) rfl rfl rfl (by decide +kernel) ⟨(Nat.le_of_ble_eq_true rfl), (Nat.le_of_ble_eq_true rfl)⟩) ⟨mPc_bl, va_recv hK hP (ci := 3) (q0 := k) rfl hU.o, mPc_pr hP hK hD⟩ rfl rfl hl.1 rfl (lv_room (Nat.le_of_ble_eq_true rfl)) d_M_pay_20 ⟨Nat.zero_le _, Nat.zero_le _⟩) hS (fun _ _ h => h) (fun _ h => h) (fun v_617 u9 t H locs ht hvm ev_617 hB hz1 hk1 hS => ?_)
      obtain ⟨w_618, hP, hD, hU1⟩ := hB
      rw [ht] at hP
      have hU := hU.tr hU1
      subst ev_617
      exact W.iret (v := (g_fails y (1)).1) hx hb hr (fun t ht hW => ⟨⟨_, (), rfl, by rw [g_pay, if_neg c_599, if_pos c_603], w_618, by rw [ht]; exact hP, hD, by rw [g_pay, if_neg c_599, if_pos c_603]; exact hU⟩, hS.F ht⟩) hS.2.2 d_M_pay_23
