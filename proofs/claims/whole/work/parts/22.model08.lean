theorem wk_again {y : MT} {b c : Int32} (h : wfM y) : wfM (g_again y b c) := h
theorem wk_payOf {y : MT} {b who : Int32} {n : Int64} (h : wfM y) : wfM (g_payOf y b who n).2 := by
  unfold g_payOf
  split
  · split
    · exact h
    · split
      · exact h
      · exact h
  · exact h
theorem nb_again {y : MT} {b c : Int32} : m_debts (g_again y b c) = m_debts y := rfl
theorem nb_lose {y : MT} {b c : Int32} : m_debts (g_lose y b c).2 = m_debts y := rfl
theorem nb_payOf {y : MT} {b who : Int32} {n : Int64} : m_debts (g_payOf y b who n).2 = m_debts y := by
  unfold g_payOf
  split
  · split
    · rfl
    · split
      · rfl
      · rfl
  · rfl
def tmL (day : Int32) : Nat → Nat → Int32 → MT → Int32 × MT
  | _, 0, t, y => (t, y)
  | i, n + 1, t, y => if ((m_state y) (nI (i + 1)).toNatClampNeg) = 0 then
      (if day ≤ (((m_born y) (nI (i + 1)).toNatClampNeg) + 1095) then
        (if ((m_state y) (nI (i + 1)).toNatClampNeg) = 2 then (if day < (g_missedOn y (nI (i + 1))) then tmL day (i + 1) n t y else tmL day (i + 1) n (t + 1) (g_again y (nI (i + 1)) ((g_missedOn y (nI (i + 1)))))) else tmL day (i + 1) n t y)
      else tmL day (i + 1) n (t + 1) (g_lose y (nI (i + 1)) (6)).2)
    else if ((m_state y) (nI (i + 1)).toNatClampNeg) = 2 then (if day < (g_missedOn y (nI (i + 1))) then tmL day (i + 1) n t y else tmL day (i + 1) n (t + 1) (g_again y (nI (i + 1)) ((g_missedOn y (nI (i + 1)))))) else tmL day (i + 1) n t y
def g_tick (y : MT) (day : Int32) : Int32 × MT :=
  if (g_in ((day : Int32).toInt64) ((m_today y : Int32).toInt64) (100000)) = 0 then ((g_fails y (1)).1, (g_fails y (1)).2)
  else ((tmL day 0 (m_debts y).toNatClampNeg 0 (n_thrown y (0))).1, n_today (tmL day 0 (m_debts y).toNatClampNeg 0 (n_thrown y (0))).2 (day))
set_option maxHeartbeats 4000000 in
set_option maxRecDepth 100000 in
theorem c_M_tick (l : Launch) (D : va_G) (A : Nat → Prop) (w : va_W) (cI cL cD : ClassId) (k h0 : Nat) (ma : Nat → Nat) (y : MT) (day : Int32) (hU0 : mA w k cI cL h0 ma y) (hw : wfM y) : Met l y_M_tick w_M_tick ({ frames := 1, cells := 0, slots := 0, locals := 25 }) (mPc D w (tyL cI cL cD) A [.ref h0, .int (day)]) (va_Qi (fun z9 (_ : Unit) => z9 = (g_tick y day).1) (fun (_ : Unit) t => ∃ w9 : va_W, va_P D vwCl w9 t.heap ∧ va_D A w9 ∧ mUpd w w9 k cI cL h0 ma ((g_tick y day).2)) A) 0 0 A := by
  refine Met.ofW (cc := b_M_tick) (maxL := 6) (ret := (some .int)) (by decide) rfl ?_
  intro p e s m args below meth c s₁ B hml hv
  obtain ⟨rfl, hP, hK, hD⟩ := hv
  have hx := B.exec
  have hb := B.bytes
  have hr := B.returns
  have hts := atoms_spec (ws := w_M_tick) B.pre
  have hown : s.vm.findClass R_M = some m.cls := findClass_of_methodNamed B.named
  have hlocks := B.notSynchronized
  have hS : va_S A s.heap s.heap [] := va_S.rf
  have hU : mUpd w w k cI cL h0 ma y := mUpd.rf hU0
  have hl := lv_entry ([.ref h0, .int (day)]) (n := 6) (Nat.le_of_ble_eq_true rfl)
  rw [lg_entry_eq]
  generalize (lg_sl ([.ref h0, .int (day)]) ++ List.replicate (6 - (lg_sl ([.ref h0, .int (day)])).length) Slot.unset).toArray = ls at hl ⊢
  have hl : lv_has ls 6 [(0, .ref h0), (1, .int (day))] := hl
  refine lv_iload_n hx hb d_M_tick_0 rfl (lv_at hl 1 rfl) ?_
  refine lv_i2l hx hb d_M_tick_1 rfl ?_
  refine lv_aload_n hx hb d_M_tick_2 rfl (lv_at hl 0 rfl) ?_
  refine va_get (D := D) (ci := 3) (v := .int (m_today y)) (C := R_M) (T := F_M) (N := 23) hx hb hts (in_M _) hown hK hP k hU.o rfl 1 (by decide) (hts (.fieldLink R_M 79 "DebtRowsModel" "today" "I") (List.mem_cons_of_mem _ mB_415)) (fun _ h9 => h9) rfl d_M_tick_3 ?_
  refine lv_i2l hx hb d_M_tick_6 rfl ?_
  refine lv_ldc2 (own := R_M) (index := 138) (v := 100000) hx hb hown (hts (.constantLong R_M 138 (100000)) (List.mem_cons_of_mem _ mB_541)) d_M_tick_7 ?_
  refine vp_callSi (W.runS (As := [.long ((day : Int32).toInt64), .long ((m_today y : Int32).toInt64), .long (100000)]) (rest := []) ⟨hx, hb, hml, hown, hts⟩ (c_M_in l ((day : Int32).toInt64) ((m_today y : Int32).toInt64) (100000)) (cwS 3 hts (gS _ mB_478 mB_479 mB_17 mB_480) rfl rfl rfl (by decide +kernel) ⟨(Nat.le_of_ble_eq_true rfl), (Nat.le_of_ble_eq_true rfl)⟩) ⟨fun _ _ _ _ q => q, fun U _ _ => ⟨rfl, trivial⟩⟩ rfl rfl hl.1 rfl (lv_room (Nat.le_of_ble_eq_true rfl)) d_M_tick_10 ⟨Nat.zero_le _, Nat.zero_le _⟩) (fun v_574 ev_574 => ?_)
  subst ev_574
  refine lv_if_ne (tgt := 22) hx hb d_M_tick_13 (by decide) (fun c_575 => ?_) (fun c_575 => ?_)
  · refine lv_aload_n hx hb d_M_tick_22 rfl (lv_at hl 0 rfl) ?_
    refine lv_iconst (v := 0) hx hb d_M_tick_23 (by decide) ?_
    refine va_put (D := D) (ci := 3) (v := .int (0)) (ty := .int) (C := R_M) (T := F_M) (N := 23) hx hb hts (in_M _) t_M to_M nn_M hown hK hP hD hS k hU.o rfl 0 (by decide) (hts (.fieldLink R_M 68 "DebtRowsModel" "thrown" "I") (List.mem_cons_of_mem _ mB_414)) (fun _ h9 => h9) rfl (by decide +kernel) rfl rfl (Nat.le_of_ble_eq_true rfl) d_M_tick_24 (fun H locs hP hD hS => ?_)
    have hU := hU.s_thrown (0)
    have hP : va_P D vwCl (w.set k (h0, mE ma (n_thrown y (0)))) H := hP
    have hD : va_D A (w.set k (h0, mE ma (n_thrown y (0)))) := hD
    generalize w.set k (h0, mE ma (n_thrown y (0))) = w_576 at hP hD hU
    refine lv_iconst (v := 0) hx hb d_M_tick_27 (by decide) ?_
    refine lv_istore_n (lv' := [(2, .int (0)), (0, .ref h0), (1, .int (day))]) hx hb d_M_tick_28 rfl hl (by decide) rfl (fun ls hl => ?_)
    refine lv_iconst (v := 1) hx hb d_M_tick_29 (by decide) ?_
    refine lv_istore_n (lv' := [(3, .int (1)), (2, .int (0)), (0, .ref h0), (1, .int (day))]) hx hb d_M_tick_30 rfl hl (by decide) rfl (fun ls hl => ?_)
    obtain ⟨nn, hnn, en0⟩ := hw.1
    have loop : ∀ (n i : Nat) (t0 : Int32) (y1 : MT), i + n = nn → tmL day i n t0 y1 = tmL day 0 nn 0 (n_thrown y (0)) → wfM y1 → m_debts y1 = nI nn → ∀ (H : Heap) (locs : List Loc) (w1 : va_W) (ls : Array Slot), va_P D vwCl w1 H → va_D A w1 → va_S A s.heap H locs → mUpd w w1 k cI cL h0 ma y1 → lv_has ls 6 [(3, .int (nI (i + 1))), (2, .int (t0)), (0, .ref h0), (1, .int (day))] → W p l e (headSpec w_M_tick ({ frames := 1, cells := 0, slots := 0, locals := 25 })).room s m [.ref h0, .int (day)].toArray below meth c H locs 0 0 (MQ below (va_Qi (fun z9 (_ : Unit) => z9 = (g_tick y day).1) (fun (_ : Unit) t => ∃ w9 : va_W, va_P D vwCl w9 t.heap ∧ va_D A w9 ∧ mUpd w w9 k cI cL h0 ma ((g_tick y day).2)) A) [.ref h0, .int (day)].toArray s 0 0 A) (F0 m 31 ls []) := by
      intro n
      induction n with
      | zero =>
        intro i t0 y1 hin hv hw en H locs w1 ls hP hD hS hU hl
        refine lv_iload_n hx hb d_M_tick_31 rfl (lv_at hl 0 rfl) ?_
        refine lv_aload_n hx hb d_M_tick_32 rfl (lv_at hl 2 rfl) ?_
        refine va_get (D := D) (ci := 3) (v := .int (m_debts y1)) (C := R_M) (T := F_M) (N := 23) hx hb hts (in_M _) hown hK hP k hU.o rfl 6 (by decide) (hts (.fieldLink R_M 72 "DebtRowsModel" "debts" "I") (List.mem_cons_of_mem _ mB_420)) (fun _ h9 => h9) rfl d_M_tick_33 ?_
        refine lv_icmp_gt (tgt := 115) hx hb d_M_tick_36 (by decide) (fun c_577 => ?_) (fun c_577 => ?_)
        · refine lv_aload_n hx hb d_M_tick_115 rfl (lv_at hl 2 rfl) ?_
          refine lv_iload_n hx hb d_M_tick_116 rfl (lv_at hl 3 rfl) ?_
          refine va_put (D := D) (ci := 3) (v := .int (day)) (ty := .int) (C := R_M) (T := F_M) (N := 23) hx hb hts (in_M _) t_M to_M nn_M hown hK hP hD hS k hU.o rfl 1 (by decide) (hts (.fieldLink R_M 79 "DebtRowsModel" "today" "I") (List.mem_cons_of_mem _ mB_415)) (fun _ h9 => h9) rfl (by decide +kernel) rfl rfl (Nat.le_of_ble_eq_true rfl) d_M_tick_117 (fun H locs hP hD hS => ?_)
          have hU := hU.s_today (day)
          have hP : va_P D vwCl (w1.set k (h0, mE ma (n_today y1 (day)))) H := hP
          have hD : va_D A (w1.set k (h0, mE ma (n_today y1 (day)))) := hD
          generalize w1.set k (h0, mE ma (n_today y1 (day))) = w_578 at hP hD hU
          refine lv_iload_n hx hb d_M_tick_120 rfl (lv_at hl 1 rfl) ?_
          exact W.iret (v := t0) hx hb hr (fun t ht hW => ⟨⟨_, (), rfl, by rw [g_tick, if_neg c_575, en0, nI_clamp (by omega), ← hv]; rfl, w_578, by rw [ht]; exact hP, hD, by rw [g_tick, if_neg c_575, en0, nI_clamp (by omega), ← hv]; exact hU⟩, hS.F ht⟩) hS.2.2 d_M_tick_121
        · exact absurd (by rw [en]; exact nI_lt (by omega) (by omega)) c_577
      | succ n ih =>
        intro i t0 y1 hin hv hw en H locs w1 ls hP hD hS hU hl
        refine lv_iload_n hx hb d_M_tick_31 rfl (lv_at hl 0 rfl) ?_
        refine lv_aload_n hx hb d_M_tick_32 rfl (lv_at hl 2 rfl) ?_
        refine va_get (D := D) (ci := 3) (v := .int (m_debts y1)) (C := R_M) (T := F_M) (N := 23) hx hb hts (in_M _) hown hK hP k hU.o rfl 6 (by decide) (hts (.fieldLink R_M 72 "DebtRowsModel" "debts" "I") (List.mem_cons_of_mem _ mB_420)) (fun _ h9 => h9) rfl d_M_tick_33 ?_
        refine lv_icmp_gt (tgt := 115) hx hb d_M_tick_36 (by decide) (fun c_579 => ?_) (fun c_579 => ?_)
        · exact absurd c_579 (by rw [en]; exact nI_nlt (by omega) (by omega))
        · refine lv_aload_n hx hb d_M_tick_39 rfl (lv_at hl 2 rfl) ?_
          refine va_get (D := D) (ci := 3) (v := .ref (ma 3)) (C := R_M) (T := F_M) (N := 23) hx hb hts (in_M _) hown hK hP k hU.o rfl 7 (by decide) (hts (.fieldLink R_M 19 "DebtRowsModel" "state" "[I") (List.mem_cons_of_mem _ mB_421)) (fun _ h9 => h9) rfl d_M_tick_40 ?_
          refine lv_iload_n hx hb d_M_tick_43 rfl (lv_at hl 0 rfl) ?_
          refine va_iald hx hb hK hP (k + 4) 0 hU.a3 rfl (in_b hw (okM_nI en hnn (by omega))) d_M_tick_44 ?_
          refine lv_if_ne (tgt := 77) hx hb d_M_tick_45 (by decide) (fun c_580 => ?_) (fun c_580 => ?_)
          · refine lv_aload_n hx hb d_M_tick_77 rfl (lv_at hl 2 rfl) ?_
            refine va_get (D := D) (ci := 3) (v := .ref (ma 3)) (C := R_M) (T := F_M) (N := 23) hx hb hts (in_M _) hown hK hP k hU.o rfl 7 (by decide) (hts (.fieldLink R_M 19 "DebtRowsModel" "state" "[I") (List.mem_cons_of_mem _ mB_421)) (fun _ h9 => h9) rfl d_M_tick_78 ?_
            refine lv_iload_n hx hb d_M_tick_81 rfl (lv_at hl 0 rfl) ?_
            refine va_iald hx hb hK hP (k + 4) 0 hU.a3 rfl (in_b hw (okM_nI en hnn (by omega))) d_M_tick_82 ?_
            refine lv_iconst (v := 2) hx hb d_M_tick_83 (by decide) ?_
            refine lv_icmp_ne (tgt := 109) hx hb d_M_tick_84 (by decide) (fun c_581 => ?_) (fun c_581 => ?_)
            · refine lv_iinc (v := nI (i + 1 + 1)) (lv' := [(3, .int (nI (i + 1 + 1))), (2, .int (t0)), (0, .ref h0), (1, .int (day))]) hx hb d_M_tick_109 hl (k := 0) rfl (by first | exact nI_inc (i + 1) | rfl) (by decide) rfl (fun ls hl => ?_)
              refine lv_goto (tgt := 31) hx hb d_M_tick_112 (by decide) ?_
              exact ih (i + 1) (t0) y1 (by omega) (by rw [← hv, tmL, if_neg c_580, if_neg c_581]) (hw) (en) _ _ w1 ls hP hD hS hU (lv_sub hl [0, 1, 2, 3] rfl)
            · refine lv_aload_n hx hb d_M_tick_87 rfl (lv_at hl 2 rfl) ?_
              refine lv_iload_n hx hb d_M_tick_88 rfl (lv_at hl 0 rfl) ?_
              refine vp_callSi (W.runV (As := [.int (nI (i + 1))]) (rest := []) ⟨hx, hb, hml, hown, hts⟩ (c_M_missedOn l D A w1 cI cL cD k h0 ma y1 (nI (i + 1)) hU.1 hw (okM_nI en hnn (by omega))) (cwV 1 hts (gV _ mB_542 mB_543 mB_13 mB_17 mB_544) rfl rfl rfl (by decide +kernel) ⟨(Nat.le_of_ble_eq_true rfl), (Nat.le_of_ble_eq_true rfl)⟩) ⟨mPc_bl, va_recv hK hP (ci := 3) (q0 := k) rfl hU.o, mPc_pr hP hK hD⟩ rfl rfl hl.1 rfl (lv_room (Nat.le_of_ble_eq_true rfl)) d_M_tick_89 ⟨Nat.zero_le _, Nat.zero_le _⟩) (fun v_582 ev_582 => ?_)
              subst ev_582
              refine lv_iload_n hx hb d_M_tick_92 rfl (lv_at hl 3 rfl) ?_
              refine lv_icmp_gt (tgt := 109) hx hb d_M_tick_93 (by decide) (fun c_583 => ?_) (fun c_583 => ?_)
              · refine lv_iinc (v := nI (i + 1 + 1)) (lv' := [(3, .int (nI (i + 1 + 1))), (2, .int (t0)), (0, .ref h0), (1, .int (day))]) hx hb d_M_tick_109 hl (k := 0) rfl (by first | exact nI_inc (i + 1) | rfl) (by decide) rfl (fun ls hl => ?_)
                refine lv_goto (tgt := 31) hx hb d_M_tick_112 (by decide) ?_
                exact ih (i + 1) (t0) y1 (by omega) (by rw [← hv, tmL, if_neg c_580, if_pos c_581, if_pos c_583]) (hw) (en) _ _ w1 ls hP hD hS hU (lv_sub hl [0, 1, 2, 3] rfl)
              · refine lv_aload_n hx hb d_M_tick_96 rfl (lv_at hl 2 rfl) ?_
                refine lv_iload_n hx hb d_M_tick_97 rfl (lv_at hl 0 rfl) ?_
                refine lv_aload_n hx hb d_M_tick_98 rfl (lv_at hl 2 rfl) ?_
                refine lv_iload_n hx hb d_M_tick_99 rfl (lv_at hl 0 rfl) ?_
                refine vp_callSi (W.runV (As := [.int (nI (i + 1))]) (rest := [.int (nI (i + 1)), .ref h0]) ⟨hx, hb, hml, hown, hts⟩ (c_M_missedOn l D A w1 cI cL cD k h0 ma y1 (nI (i + 1)) hU.1 hw (okM_nI en hnn (by omega))) (cwV 1 hts (gV _ mB_542 mB_543 mB_13 mB_17 mB_544) rfl rfl rfl (by decide +kernel) ⟨(Nat.le_of_ble_eq_true rfl), (Nat.le_of_ble_eq_true rfl)⟩) ⟨mPc_bl, va_recv hK hP (ci := 3) (q0 := k) rfl hU.o, mPc_pr hP hK hD⟩ rfl rfl hl.1 rfl (lv_room (Nat.le_of_ble_eq_true rfl)) d_M_tick_100 ⟨Nat.zero_le _, Nat.zero_le _⟩) (fun v_584 ev_584 => ?_)
                subst ev_584
                refine va_callv (va_runV (As := [.int (nI (i + 1)), .int ((g_missedOn y1 (nI (i + 1))))]) (rest := []) ⟨hx, hb, hml, hown, hts⟩ (c_M_again l D A w1 cI cL cD k h0 ma y1 (nI (i + 1)) ((g_missedOn y1 (nI (i + 1)))) hU.1 hw (okM_nI en hnn (by omega))) (cwV 2 hts (gV _ mB_534 mB_535 mB_12 mB_17 mB_536) rfl rfl rfl (by decide +kernel) ⟨(Nat.le_of_ble_eq_true rfl), (Nat.le_of_ble_eq_true rfl)⟩) ⟨mPc_bl, va_recv hK hP (ci := 3) (q0 := k) rfl hU.o, mPc_pr hP hK hD⟩ rfl rfl hl.1 rfl (lv_room (Nat.le_of_ble_eq_true rfl)) d_M_tick_103 ⟨Nat.zero_le _, Nat.zero_le _⟩) hS (fun _ _ h => h) (fun _ h => h) (fun u9 t H locs ht hvm ev_585 hB hz1 hk1 hS => ?_)
                obtain ⟨w_586, hP, hD, hU1⟩ := hB
                rw [ht] at hP
                have hU := hU.tr hU1
                refine lv_iinc (v := t0 + 1) (lv' := [(2, .int (t0 + 1)), (3, .int (nI (i + 1))), (0, .ref h0), (1, .int (day))]) hx hb d_M_tick_106 hl (k := 1) rfl (by first | exact nI_inc (i + 1) | rfl) (by decide) rfl (fun ls hl => ?_)
                refine lv_iinc (v := nI (i + 1 + 1)) (lv' := [(3, .int (nI (i + 1 + 1))), (2, .int (t0 + 1)), (0, .ref h0), (1, .int (day))]) hx hb d_M_tick_109 hl (k := 1) rfl (by first | exact nI_inc (i + 1) | rfl) (by decide) rfl (fun ls hl => ?_)
                refine lv_goto (tgt := 31) hx hb d_M_tick_112 (by decide) ?_
                exact ih (i + 1) (t0 + 1) (g_again y1 (nI (i + 1)) ((g_missedOn y1 (nI (i + 1))))) (by omega) (by rw [← hv, tmL, if_neg c_580, if_pos c_581, if_neg c_583]) (wk_again hw) (nb_again.trans en) _ _ w_586 ls hP hD hS hU (lv_sub hl [0, 1, 2, 3] rfl)
          · refine lv_iload_n hx hb d_M_tick_48 rfl (lv_at hl 3 rfl) ?_
            refine lv_aload_n hx hb d_M_tick_49 rfl (lv_at hl 2 rfl) ?_
            refine va_get (D := D) (ci := 3) (v := .ref (ma 4)) (C := R_M) (T := F_M) (N := 23) hx hb hts (in_M _) hown hK hP k hU.o rfl 8 (by decide) (hts (.fieldLink R_M 22 "DebtRowsModel" "born" "[I") (List.mem_cons_of_mem _ mB_422)) (fun _ h9 => h9) rfl d_M_tick_50 ?_
            refine lv_iload_n hx hb d_M_tick_53 rfl (lv_at hl 0 rfl) ?_
            refine va_iald hx hb hK hP (k + 5) 0 hU.a4 rfl (in_b hw (okM_nI en hnn (by omega))) d_M_tick_54 ?_
            refine lv_sipush (v := 1095) hx hb d_M_tick_55 (by decide) ?_
            refine lv_iadd hx hb d_M_tick_58 ?_
            refine lv_icmp_le (tgt := 77) hx hb d_M_tick_59 (by decide) (fun c_587 => ?_) (fun c_587 => ?_)
            · refine lv_aload_n hx hb d_M_tick_77 rfl (lv_at hl 2 rfl) ?_
              refine va_get (D := D) (ci := 3) (v := .ref (ma 3)) (C := R_M) (T := F_M) (N := 23) hx hb hts (in_M _) hown hK hP k hU.o rfl 7 (by decide) (hts (.fieldLink R_M 19 "DebtRowsModel" "state" "[I") (List.mem_cons_of_mem _ mB_421)) (fun _ h9 => h9) rfl d_M_tick_78 ?_
              refine lv_iload_n hx hb d_M_tick_81 rfl (lv_at hl 0 rfl) ?_
              refine va_iald hx hb hK hP (k + 4) 0 hU.a3 rfl (in_b hw (okM_nI en hnn (by omega))) d_M_tick_82 ?_
              refine lv_iconst (v := 2) hx hb d_M_tick_83 (by decide) ?_
              refine lv_icmp_ne (tgt := 109) hx hb d_M_tick_84 (by decide) (fun c_588 => ?_) (fun c_588 => ?_)
              · refine lv_iinc (v := nI (i + 1 + 1)) (lv' := [(3, .int (nI (i + 1 + 1))), (2, .int (t0)), (0, .ref h0), (1, .int (day))]) hx hb d_M_tick_109 hl (k := 0) rfl (by first | exact nI_inc (i + 1) | rfl) (by decide) rfl (fun ls hl => ?_)
                refine lv_goto (tgt := 31) hx hb d_M_tick_112 (by decide) ?_
                exact ih (i + 1) (t0) y1 (by omega) (by rw [← hv, tmL, if_pos c_580, if_pos c_587, if_neg c_588]) (hw) (en) _ _ w1 ls hP hD hS hU (lv_sub hl [0, 1, 2, 3] rfl)
              · refine lv_aload_n hx hb d_M_tick_87 rfl (lv_at hl 2 rfl) ?_
                refine lv_iload_n hx hb d_M_tick_88 rfl (lv_at hl 0 rfl) ?_
                refine vp_callSi (W.runV (As := [.int (nI (i + 1))]) (rest := []) ⟨hx, hb, hml, hown, hts⟩ (c_M_missedOn l D A w1 cI cL cD k h0 ma y1 (nI (i + 1)) hU.1 hw (okM_nI en hnn (by omega))) (cwV 1 hts (gV _ mB_542 mB_543 mB_13 mB_17 mB_544) rfl rfl rfl (by decide +kernel) ⟨(Nat.le_of_ble_eq_true rfl), (Nat.le_of_ble_eq_true rfl)⟩) ⟨mPc_bl, va_recv hK hP (ci := 3) (q0 := k) rfl hU.o, mPc_pr hP hK hD⟩ rfl rfl hl.1 rfl (lv_room (Nat.le_of_ble_eq_true rfl)) d_M_tick_89 ⟨Nat.zero_le _, Nat.zero_le _⟩) (fun v_589 ev_589 => ?_)
                subst ev_589
                refine lv_iload_n hx hb d_M_tick_92 rfl (lv_at hl 3 rfl) ?_
                refine lv_icmp_gt (tgt := 109) hx hb d_M_tick_93 (by decide) (fun c_590 => ?_) (fun c_590 => ?_)
                · refine lv_iinc (v := nI (i + 1 + 1)) (lv' := [(3, .int (nI (i + 1 + 1))), (2, .int (t0)), (0, .ref h0), (1, .int (day))]) hx hb d_M_tick_109 hl (k := 0) rfl (by first | exact nI_inc (i + 1) | rfl) (by decide) rfl (fun ls hl => ?_)
                  refine lv_goto (tgt := 31) hx hb d_M_tick_112 (by decide) ?_
                  exact ih (i + 1) (t0) y1 (by omega) (by rw [← hv, tmL, if_pos c_580, if_pos c_587, if_pos c_588, if_pos c_590]) (hw) (en) _ _ w1 ls hP hD hS hU (lv_sub hl [0, 1, 2, 3] rfl)
                · refine lv_aload_n hx hb d_M_tick_96 rfl (lv_at hl 2 rfl) ?_
                  refine lv_iload_n hx hb d_M_tick_97 rfl (lv_at hl 0 rfl) ?_
                  refine lv_aload_n hx hb d_M_tick_98 rfl (lv_at hl 2 rfl) ?_
                  refine lv_iload_n hx hb d_M_tick_99 rfl (lv_at hl 0 rfl) ?_
                  refine vp_callSi (W.runV (As := [.int (nI (i + 1))]) (rest := [.int (nI (i + 1)), .ref h0]) ⟨hx, hb, hml, hown, hts⟩ (c_M_missedOn l D A w1 cI cL cD k h0 ma y1 (nI (i + 1)) hU.1 hw (okM_nI en hnn (by omega))) (cwV 1 hts (gV _ mB_542 mB_543 mB_13 mB_17 mB_544) rfl rfl rfl (by decide +kernel) ⟨(Nat.le_of_ble_eq_true rfl), (Nat.le_of_ble_eq_true rfl)⟩) ⟨mPc_bl, va_recv hK hP (ci := 3) (q0 := k) rfl hU.o, mPc_pr hP hK hD⟩ rfl rfl hl.1 rfl (lv_room (Nat.le_of_ble_eq_true rfl)) d_M_tick_100 ⟨Nat.zero_le _, Nat.zero_le _⟩) (fun v_591 ev_591 => ?_)
                  subst ev_591
                  refine va_callv (va_runV (As := [.int (nI (i + 1)), .int ((g_missedOn y1 (nI (i + 1))))]) (rest := []) ⟨hx, hb, hml, hown, hts⟩ (c_M_again l D A w1 cI cL cD k h0 ma y1 (nI (i + 1)) ((g_missedOn y1 (nI (i + 1)))) hU.1 hw (okM_nI en hnn (by omega))) (cwV 2 hts (gV _ mB_534 mB_535 mB_12 mB_17 mB_536) rfl rfl rfl (by decide +kernel) ⟨(Nat.le_of_ble_eq_true rfl), (Nat.le_of_ble_eq_true rfl)⟩) ⟨mPc_bl, va_recv hK hP (ci := 3) (q0 := k) rfl hU.o, mPc_pr hP hK hD⟩ rfl rfl hl.1 rfl (lv_room (Nat.le_of_ble_eq_true rfl)) d_M_tick_103 ⟨Nat.zero_le _, Nat.zero_le _⟩) hS (fun _ _ h => h) (fun _ h => h) (fun u9 t H locs ht hvm ev_592 hB hz1 hk1 hS => ?_)
                  obtain ⟨w_593, hP, hD, hU1⟩ := hB
                  rw [ht] at hP
                  have hU := hU.tr hU1
                  refine lv_iinc (v := t0 + 1) (lv' := [(2, .int (t0 + 1)), (3, .int (nI (i + 1))), (0, .ref h0), (1, .int (day))]) hx hb d_M_tick_106 hl (k := 1) rfl (by first | exact nI_inc (i + 1) | rfl) (by decide) rfl (fun ls hl => ?_)
                  refine lv_iinc (v := nI (i + 1 + 1)) (lv' := [(3, .int (nI (i + 1 + 1))), (2, .int (t0 + 1)), (0, .ref h0), (1, .int (day))]) hx hb d_M_tick_109 hl (k := 1) rfl (by first | exact nI_inc (i + 1) | rfl) (by decide) rfl (fun ls hl => ?_)
                  refine lv_goto (tgt := 31) hx hb d_M_tick_112 (by decide) ?_
                  exact ih (i + 1) (t0 + 1) (g_again y1 (nI (i + 1)) ((g_missedOn y1 (nI (i + 1))))) (by omega) (by rw [← hv, tmL, if_pos c_580, if_pos c_587, if_pos c_588, if_neg c_590]) (wk_again hw) (nb_again.trans en) _ _ w_593 ls hP hD hS hU (lv_sub hl [0, 1, 2, 3] rfl)
            · refine lv_aload_n hx hb d_M_tick_62 rfl (lv_at hl 2 rfl) ?_
              refine lv_iload_n hx hb d_M_tick_63 rfl (lv_at hl 0 rfl) ?_
              refine lv_bipush (v := 6) hx hb d_M_tick_64 (by decide) ?_
              refine va_calll (va_runV (As := [.int (nI (i + 1)), .int (6)]) (rest := []) ⟨hx, hb, hml, hown, hts⟩ (c_M_lose l D A w1 cI cL cD k h0 ma y1 (nI (i + 1)) (6) hU.1 hw (okM_nI en hnn (by omega))) (cwV 2 hts (gV _ mB_516 mB_517 mB_11 mB_17 mB_518) rfl rfl rfl (by decide +kernel) ⟨(Nat.le_of_ble_eq_true rfl), (Nat.le_of_ble_eq_true rfl)⟩) ⟨mPc_bl, va_recv hK hP (ci := 3) (q0 := k) rfl hU.o, mPc_pr hP hK hD⟩ rfl rfl hl.1 rfl (lv_room (Nat.le_of_ble_eq_true rfl)) d_M_tick_66 ⟨Nat.zero_le _, Nat.zero_le _⟩) hS (fun _ _ h => h) (fun _ h => h) (fun v_594 u9 t H locs ht hvm ev_594 hB hz1 hk1 hS => ?_)
              obtain ⟨w_595, hP, hD, hU1⟩ := hB
              rw [ht] at hP
              have hU := hU.tr hU1
              subst ev_594
              refine lv_lstore (lv' := [(4, .long ((g_lose y1 (nI (i + 1)) (6)).1)), (3, .int (nI (i + 1))), (2, .int (t0)), (0, .ref h0), (1, .int (day))]) hx hb d_M_tick_69 hl (by decide) rfl (fun ls hl => ?_)
              refine lv_iinc (v := t0 + 1) (lv' := [(2, .int (t0 + 1)), (4, .long ((g_lose y1 (nI (i + 1)) (6)).1)), (3, .int (nI (i + 1))), (0, .ref h0), (1, .int (day))]) hx hb d_M_tick_71 hl (k := 2) rfl (by first | exact nI_inc (i + 1) | rfl) (by decide) rfl (fun ls hl => ?_)
              refine lv_goto (tgt := 109) hx hb d_M_tick_74 (by decide) ?_
              refine lv_iinc (v := nI (i + 1 + 1)) (lv' := [(3, .int (nI (i + 1 + 1))), (2, .int (t0 + 1)), (4, .long ((g_lose y1 (nI (i + 1)) (6)).1)), (0, .ref h0), (1, .int (day))]) hx hb d_M_tick_109 hl (k := 2) rfl (by first | exact nI_inc (i + 1) | rfl) (by decide) rfl (fun ls hl => ?_)
              refine lv_goto (tgt := 31) hx hb d_M_tick_112 (by decide) ?_
              exact ih (i + 1) (t0 + 1) (g_lose y1 (nI (i + 1)) (6)).2 (by omega) (by rw [← hv, tmL, if_pos c_580, if_neg c_587]) (wk_lose hw) (nb_lose.trans en) _ _ w_595 ls hP hD hS hU (lv_sub hl [0, 1, 3, 4] rfl)
    exact loop nn 0 0 (n_thrown y (0)) (by omega) rfl hw en0 _ _ w_576 ls hP hD hS hU hl
  · refine lv_aload_n hx hb d_M_tick_16 rfl (lv_at hl 0 rfl) ?_
    refine lv_iconst (v := 1) hx hb d_M_tick_17 (by decide) ?_
    refine va_calli (va_runV (As := [.int (1)]) (rest := []) ⟨hx, hb, hml, hown, hts⟩ (c_M_fails l D A w cI cL cD k h0 ma y (1) hU.1) (cwV 1 hts (gV _ mB_469 mB_470 mB_4 mB_17 mB_471) rfl rfl rfl (by decide +kernel) ⟨(Nat.le_of_ble_eq_true rfl), (Nat.le_of_ble_eq_true rfl)⟩) ⟨mPc_bl, va_recv hK hP (ci := 3) (q0 := k) rfl hU.o, mPc_pr hP hK hD⟩ rfl rfl hl.1 rfl (lv_room (Nat.le_of_ble_eq_true rfl)) d_M_tick_18 ⟨Nat.zero_le _, Nat.zero_le _⟩) hS (fun _ _ h => h) (fun _ h => h) (fun v_596 u9 t H locs ht hvm ev_596 hB hz1 hk1 hS => ?_)
    obtain ⟨w_597, hP, hD, hU1⟩ := hB
    rw [ht] at hP
    have hU := hU.tr hU1
    subst ev_596
    exact W.iret (v := (g_fails y (1)).1) hx hb hr (fun t ht hW => ⟨⟨_, (), rfl, by rw [g_tick, if_pos c_575], w_597, by rw [ht]; exact hP, hD, by rw [g_tick, if_pos c_575]; exact hU⟩, hS.F ht⟩) hS.2.2 d_M_tick_21
