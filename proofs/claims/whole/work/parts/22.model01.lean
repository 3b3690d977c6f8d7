def g_rate (y : MT) (day : Int32) (ra : Int32) (rb : Int32) : Int32 × MT :=
  if rb = 0 then ((g_fails y (1)).1, (g_fails y (1)).2)
  else if day ≤ m_today y then ((g_fails y (2)).1, (g_fails y (2)).2)
    else if 100000 < day then ((g_fails y (2)).1, (g_fails y (2)).2)
      else if m_rates y ≤ 0 then (if rb < 0 then ((g_fails y (2)).1, (g_fails y (2)).2)
          else if 1000 < rb then ((g_fails y (2)).1, (g_fails y (2)).2)
            else if ra < 0 then ((g_fails y (2)).1, (g_fails y (2)).2)
              else if ra ≤ rb then (if m_rates y = 20 then ((g_fails y (3)).1, (g_fails y (3)).2)
                  else ((m_rates y + 1), (n_rates (n_down (n_up (n_from (n_thrown y (0)) (upd (m_from y) (m_rates y).toNatClampNeg (day))) (upd (m_up y) (m_rates y).toNatClampNeg (ra))) (upd (m_down y) (m_rates y).toNatClampNeg (rb))) ((m_rates y + 1)))))
                else ((g_fails y (2)).1, (g_fails y (2)).2))
        else if day < ((m_from y) ((m_rates y - 1)).toNatClampNeg) then ((g_fails y (2)).1, (g_fails y (2)).2)
          else if rb < 0 then ((g_fails y (2)).1, (g_fails y (2)).2)
            else if 1000 < rb then ((g_fails y (2)).1, (g_fails y (2)).2)
              else if ra < 0 then ((g_fails y (2)).1, (g_fails y (2)).2)
                else if ra ≤ rb then (if m_rates y = 20 then ((g_fails y (3)).1, (g_fails y (3)).2)
                    else ((m_rates y + 1), (n_rates (n_down (n_up (n_from (n_thrown y (0)) (upd (m_from y) (m_rates y).toNatClampNeg (day))) (upd (m_up y) (m_rates y).toNatClampNeg (ra))) (upd (m_down y) (m_rates y).toNatClampNeg (rb))) ((m_rates y + 1)))))
                  else ((g_fails y (2)).1, (g_fails y (2)).2)
set_option maxHeartbeats 4000000 in
set_option maxRecDepth 100000 in
theorem c_M_rate (l : Launch) (D : va_G) (A : Nat → Prop) (w : va_W) (cI cL cD : ClassId) (k h0 : Nat) (ma : Nat → Nat) (y : MT) (day : Int32) (ra : Int32) (rb : Int32) (hU0 : mA w k cI cL h0 ma y) (hw : wfM y) : Met l y_M_rate w_M_rate ({ frames := 1, cells := 0, slots := 0, locals := 21 }) (mPc D w (tyL cI cL cD) A [.ref h0, .int (day), .int (ra), .int (rb)]) (va_Qi (fun z9 (_ : Unit) => z9 = (g_rate y day ra rb).1) (fun (_ : Unit) t => ∃ w9 : va_W, va_P D vwCl w9 t.heap ∧ va_D A w9 ∧ mUpd w w9 k cI cL h0 ma ((g_rate y day ra rb).2)) A) 0 0 A := by
  refine Met.ofW (cc := b_M_rate) (maxL := 4) (ret := (some .int)) (by decide) rfl ?_
  intro p e s m args below meth c s₁ B hml hv
  obtain ⟨rfl, hP, hK, hD⟩ := hv
  have hx := B.exec
  have hb := B.bytes
  have hr := B.returns
  have hts := atoms_spec (ws := w_M_rate) B.pre
  have hown : s.vm.findClass R_M = some m.cls := findClass_of_methodNamed B.named
  have hlocks := B.notSynchronized
  have hS : va_S A s.heap s.heap [] := va_S.rf
  have hU : mUpd w w k cI cL h0 ma y := mUpd.rf hU0
  have hl := lv_entry ([.ref h0, .int (day), .int (ra), .int (rb)]) (n := 4) (Nat.le_of_ble_eq_true rfl)
  rw [lg_entry_eq]
  generalize (lg_sl ([.ref h0, .int (day), .int (ra), .int (rb)]) ++ List.replicate (4 - (lg_sl ([.ref h0, .int (day), .int (ra), .int (rb)])).length) Slot.unset).toArray = ls at hl ⊢
  have hl : lv_has ls 4 [(0, .ref h0), (1, .int (day)), (2, .int (ra)), (3, .int (rb))] := hl
  refine lv_iload_n hx hb d_M_rate_0 rfl (lv_at hl 3 rfl) ?_
  refine lv_if_ne (tgt := 10) hx hb d_M_rate_1 (by decide) (fun c_312 => ?_) (fun c_312 => ?_)
  · refine lv_iload_n hx hb d_M_rate_10 rfl (lv_at hl 1 rfl) ?_
    refine lv_aload_n hx hb d_M_rate_11 rfl (lv_at hl 0 rfl) ?_
    refine va_get (D := D) (ci := 3) (v := .int (m_today y)) (C := R_M) (T := F_M) (N := 23) hx hb hts (in_M _) hown hK hP k hU.o rfl 1 (by decide) (hts (.fieldLink R_M 79 "DebtRowsModel" "today" "I") (List.mem_cons_of_mem _ mB_415)) (fun _ h9 => h9) rfl d_M_rate_12 ?_
    refine lv_icmp_le (tgt := 77) hx hb d_M_rate_15 (by decide) (fun c_313 => ?_) (fun c_313 => ?_)
    · refine lv_aload_n hx hb d_M_rate_77 rfl (lv_at hl 0 rfl) ?_
      refine lv_iconst (v := 2) hx hb d_M_rate_78 (by decide) ?_
      refine va_calli (va_runV (As := [.int (2)]) (rest := []) ⟨hx, hb, hml, hown, hts⟩ (c_M_fails l D A w cI cL cD k h0 ma y (2) hU.1) (cwV 1 hts (gV _ mB_469 mB_470 mB_4 mB_17 mB_471) rfl rfl rfl (by decide +kernel) ⟨(Nat.le_of_ble_eq_true rfl), (Nat.le_of_ble_eq_true rfl)⟩) ⟨mPc_bl, va_recv hK hP (ci := 3) (q0 := k) rfl hU.o, mPc_pr hP hK hD⟩ rfl rfl hl.1 rfl (lv_room (Nat.le_of_ble_eq_true rfl)) d_M_rate_79 ⟨Nat.zero_le _, Nat.zero_le _⟩) hS (fun _ _ h => h) (fun _ h => h) (fun v_314 u9 t H locs ht hvm ev_314 hB hz1 hk1 hS => ?_)
      obtain ⟨w_315, hP, hD, hU1⟩ := hB
      rw [ht] at hP
      have hU := hU.tr hU1
      subst ev_314
      exact W.iret (v := (g_fails y (2)).1) hx hb hr (fun t ht hW => ⟨⟨_, (), rfl, by rw [g_rate, if_neg c_312, if_pos c_313], w_315, by rw [ht]; exact hP, hD, by rw [g_rate, if_neg c_312, if_pos c_313]; exact hU⟩, hS.F ht⟩) hS.2.2 d_M_rate_82
    · refine lv_iload_n hx hb d_M_rate_18 rfl (lv_at hl 1 rfl) ?_
      refine lv_ldc (own := R_M) (index := 82) (v := 100000) hx hb hown (hts (.constant R_M 82 (100000)) (List.mem_cons_of_mem _ mB_472)) d_M_rate_19 ?_
      refine lv_icmp_gt (tgt := 77) hx hb d_M_rate_21 (by decide) (fun c_316 => ?_) (fun c_316 => ?_)
      · refine lv_aload_n hx hb d_M_rate_77 rfl (lv_at hl 0 rfl) ?_
        refine lv_iconst (v := 2) hx hb d_M_rate_78 (by decide) ?_
        refine va_calli (va_runV (As := [.int (2)]) (rest := []) ⟨hx, hb, hml, hown, hts⟩ (c_M_fails l D A w cI cL cD k h0 ma y (2) hU.1) (cwV 1 hts (gV _ mB_469 mB_470 mB_4 mB_17 mB_471) rfl rfl rfl (by decide +kernel) ⟨(Nat.le_of_ble_eq_true rfl), (Nat.le_of_ble_eq_true rfl)⟩) ⟨mPc_bl, va_recv hK hP (ci := 3) (q0 := k) rfl hU.o, mPc_pr hP hK hD⟩ rfl rfl hl.1 rfl (lv_room (Nat.le_of_ble_eq_true rfl)) d_M_rate_79 ⟨Nat.zero_le _, Nat.zero_le _⟩) hS (fun _ _ h => h) (fun _ h => h) (fun v_317 u9 t H locs ht hvm ev_317 hB hz1 hk1 hS => ?_)
        obtain ⟨w_318, hP, hD, hU1⟩ := hB
        rw [ht] at hP
        have hU := hU.tr hU1
        subst ev_317
        exact W.iret (v := (g_fails y (2)).1) hx hb hr (fun t ht hW => ⟨⟨_, (), rfl, by rw [g_rate, if_neg c_312, if_neg c_313, if_pos c_316], w_318, by rw [ht]; exact hP, hD, by rw [g_rate, if_neg c_312, if_neg c_313, if_pos c_316]; exact hU⟩, hS.F ht⟩) hS.2.2 d_M_rate_82
      · refine lv_aload_n hx hb d_M_rate_24 rfl (lv_at hl 0 rfl) ?_
        refine va_get (D := D) (ci := 3) (v := .int (m_rates y)) (C := R_M) (T := F_M) (N := 23) hx hb hts (in_M _) hown hK hP k hU.o rfl 2 (by decide) (hts (.fieldLink R_M 83 "DebtRowsModel" "rates" "I") (List.mem_cons_of_mem _ mB_416)) (fun _ h9 => h9) rfl d_M_rate_25 ?_
        refine lv_if_le (tgt := 57) hx hb d_M_rate_28 (by decide) (fun c_319 => ?_) (fun c_319 => ?_)
        · refine lv_iload_n hx hb d_M_rate_57 rfl (lv_at hl 3 rfl) ?_
          refine lv_if_lt (tgt := 77) hx hb d_M_rate_58 (by decide) (fun c_320 => ?_) (fun c_320 => ?_)
          · refine lv_aload_n hx hb d_M_rate_77 rfl (lv_at hl 0 rfl) ?_
            refine lv_iconst (v := 2) hx hb d_M_rate_78 (by decide) ?_
            refine va_calli (va_runV (As := [.int (2)]) (rest := []) ⟨hx, hb, hml, hown, hts⟩ (c_M_fails l D A w cI cL cD k h0 ma y (2) hU.1) (cwV 1 hts (gV _ mB_469 mB_470 mB_4 mB_17 mB_471) rfl rfl rfl (by decide +kernel) ⟨(Nat.le_of_ble_eq_true rfl), (Nat.le_of_ble_eq_true rfl)⟩) ⟨mPc_bl, va_recv hK hP (ci := 3) (q0 := k) rfl hU.o, mPc_pr hP hK hD⟩ rfl rfl hl.1 rfl (lv_room (Nat.le_of_ble_eq_true rfl)) d_M_rate_79 ⟨Nat.zero_le _, Nat.zero_le _⟩) hS (fun _ _ h => h) (fun _ h => h) (fun v_321 u9 t H locs ht hvm ev_321 hB hz1 hk1 hS => ?_)
            obtain ⟨w_322, hP, hD, hU1⟩ := hB
            rw [ht] at hP
            have hU := hU.tr hU1
            subst ev_321
            exact W.iret (v := (g_fails y (2)).1) hx hb hr (fun t ht hW => ⟨⟨_, (), rfl, by rw [g_rate, if_neg c_312, if_neg c_313, if_neg c_316, if_pos c_319, if_pos c_320], w_322, by rw [ht]; exact hP, hD, by rw [g_rate, if_neg c_312, if_neg c_313, if_neg c_316, if_pos c_319, if_pos c_320]; exact hU⟩, hS.F ht⟩) hS.2.2 d_M_rate_82
          · refine lv_iload_n hx hb d_M_rate_61 rfl (lv_at hl 3 rfl) ?_
            refine lv_sipush (v := 1000) hx hb d_M_rate_62 (by decide) ?_
            refine lv_icmp_gt (tgt := 77) hx hb d_M_rate_65 (by decide) (fun c_323 => ?_) (fun c_323 => ?_)
            · refine lv_aload_n hx hb d_M_rate_77 rfl (lv_at hl 0 rfl) ?_
              refine lv_iconst (v := 2) hx hb d_M_rate_78 (by decide) ?_
              refine va_calli (va_runV (As := [.int (2)]) (rest := []) ⟨hx, hb, hml, hown, hts⟩ (c_M_fails l D A w cI cL cD k h0 ma y (2) hU.1) (cwV 1 hts (gV _ mB_469 mB_470 mB_4 mB_17 mB_471) rfl rfl rfl (by decide +kernel) ⟨(Nat.le_of_ble_eq_true rfl), (Nat.le_of_ble_eq_true rfl)⟩) ⟨mPc_bl, va_recv hK hP (ci := 3) (q0 := k) rfl hU.o, mPc_pr hP hK hD⟩ rfl rfl hl.1 rfl (lv_room (Nat.le_of_ble_eq_true rfl)) d_M_rate_79 ⟨Nat.zero_le _, Nat.zero_le _⟩) hS (fun _ _ h => h) (fun _ h => h) (fun v_324 u9 t H locs ht hvm ev_324 hB hz1 hk1 hS => ?_)
              obtain ⟨w_325, hP, hD, hU1⟩ := hB
              rw [ht] at hP
              have hU := hU.tr hU1
              subst ev_324
              exact W.iret (v := (g_fails y (2)).1) hx hb hr (fun t ht hW => ⟨⟨_, (), rfl, by rw [g_rate, if_neg c_312, if_neg c_313, if_neg c_316, if_pos c_319, if_neg c_320, if_pos c_323], w_325, by rw [ht]; exact hP, hD, by rw [g_rate, if_neg c_312, if_neg c_313, if_neg c_316, if_pos c_319, if_neg c_320, if_pos c_323]; exact hU⟩, hS.F ht⟩) hS.2.2 d_M_rate_82
            · refine lv_iload_n hx hb d_M_rate_68 rfl (lv_at hl 2 rfl) ?_
              refine lv_if_lt (tgt := 77) hx hb d_M_rate_69 (by decide) (fun c_326 => ?_) (fun c_326 => ?_)
              · refine lv_aload_n hx hb d_M_rate_77 rfl (lv_at hl 0 rfl) ?_
                refine lv_iconst (v := 2) hx hb d_M_rate_78 (by decide) ?_
                refine va_calli (va_runV (As := [.int (2)]) (rest := []) ⟨hx, hb, hml, hown, hts⟩ (c_M_fails l D A w cI cL cD k h0 ma y (2) hU.1) (cwV 1 hts (gV _ mB_469 mB_470 mB_4 mB_17 mB_471) rfl rfl rfl (by decide +kernel) ⟨(Nat.le_of_ble_eq_true rfl), (Nat.le_of_ble_eq_true rfl)⟩) ⟨mPc_bl, va_recv hK hP (ci := 3) (q0 := k) rfl hU.o, mPc_pr hP hK hD⟩ rfl rfl hl.1 rfl (lv_room (Nat.le_of_ble_eq_true rfl)) d_M_rate_79 ⟨Nat.zero_le _, Nat.zero_le _⟩) hS (fun _ _ h => h) (fun _ h => h) (fun v_327 u9 t H locs ht hvm ev_327 hB hz1 hk1 hS => ?_)
                obtain ⟨w_328, hP, hD, hU1⟩ := hB
                rw [ht] at hP
                have hU := hU.tr hU1
                subst ev_327
                exact W.iret (v := (g_fails y (2)).1) hx hb hr (fun t ht hW => ⟨⟨_, (), rfl, by rw [g_rate, if_neg c_312, if_neg c_313, if_neg c_316, if_pos c_319, if_neg c_320, if_neg c_323, if_pos c_326], w_328, by rw [ht]; exact hP, hD, by rw [g_rate, if_neg c_312, if_neg c_313, if_neg c_316, if_pos c_319, if_neg c_320, if_neg c_323, if_pos c_326]; exact hU⟩, hS.F ht⟩) hS.2.2 d_M_rate_82
              · refine lv_iload_n hx hb d_M_rate_72 rfl (lv_at hl 2 rfl) ?_
                refine lv_iload_n hx hb d_M_rate_73 rfl (lv_at hl 3 rfl) ?_
                refine lv_icmp_le (tgt := 83) hx hb d_M_rate_74 (by decide) (fun c_329 => ?_) (fun c_329 => ?_)
                · refine lv_aload_n hx hb d_M_rate_83 rfl (lv_at hl 0 rfl) ?_
                  refine va_get (D := D) (ci := 3) (v := .int (m_rates y)) (C := R_M) (T := F_M) (N := 23) hx hb hts (in_M _) hown hK hP k hU.o rfl 2 (by decide) (hts (.fieldLink R_M 83 "DebtRowsModel" "rates" "I") (List.mem_cons_of_mem _ mB_416)) (fun _ h9 => h9) rfl d_M_rate_84 ?_
                  refine lv_bipush (v := 20) hx hb d_M_rate_87 (by decide) ?_
                  refine lv_icmp_ne (tgt := 98) hx hb d_M_rate_89 (by decide) (fun c_330 => ?_) (fun c_330 => ?_)
                  · refine lv_aload_n hx hb d_M_rate_98 rfl (lv_at hl 0 rfl) ?_
                    refine lv_iconst (v := 0) hx hb d_M_rate_99 (by decide) ?_
                    refine va_put (D := D) (ci := 3) (v := .int (0)) (ty := .int) (C := R_M) (T := F_M) (N := 23) hx hb hts (in_M _) t_M to_M nn_M hown hK hP hD hS k hU.o rfl 0 (by decide) (hts (.fieldLink R_M 68 "DebtRowsModel" "thrown" "I") (List.mem_cons_of_mem _ mB_414)) (fun _ h9 => h9) rfl (by decide +kernel) rfl rfl (Nat.le_of_ble_eq_true rfl) d_M_rate_100 (fun H locs hP hD hS => ?_)
                    have hU := hU.s_thrown (0)
                    have hP : va_P D vwCl (w.set k (h0, mE ma (n_thrown y (0)))) H := hP
                    have hD : va_D A (w.set k (h0, mE ma (n_thrown y (0)))) := hD
                    generalize w.set k (h0, mE ma (n_thrown y (0))) = w_331 at hP hD hU
                    refine lv_aload_n hx hb d_M_rate_103 rfl (lv_at hl 0 rfl) ?_
                    refine va_get (D := D) (ci := 3) (v := .ref (ma 0)) (C := R_M) (T := F_M) (N := 23) hx hb hts (in_M _) hown hK hP k hU.o rfl 3 (by decide) (hts (.fieldLink R_M 7 "DebtRowsModel" "from" "[I") (List.mem_cons_of_mem _ mB_417)) (fun _ h9 => h9) rfl d_M_rate_104 ?_
                    refine lv_aload_n hx hb d_M_rate_107 rfl (lv_at hl 0 rfl) ?_
                    refine va_get (D := D) (ci := 3) (v := .int (m_rates y)) (C := R_M) (T := F_M) (N := 23) hx hb hts (in_M _) hown hK hP k hU.o rfl 2 (by decide) (hts (.fieldLink R_M 83 "DebtRowsModel" "rates" "I") (List.mem_cons_of_mem _ mB_416)) (fun _ h9 => h9) rfl d_M_rate_108 ?_
                    refine lv_iload_n hx hb d_M_rate_111 rfl (lv_at hl 1 rfl) ?_
                    refine va_iast hx hb hK hP hD hS (k + 1) 0 hU.a0 rfl (in_r hw c_330) d_M_rate_112 (fun H locs hP hD hS => ?_)
                    have hU := hU.s_from (upd (m_from y) (m_rates y).toNatClampNeg (day))
                    have hP : va_P D vwCl (w_331.set (k + 1) (ma 0, aI cI 20 (upd (m_from y) (m_rates y).toNatClampNeg (day)))) H := hP
                    have hD : va_D A (w_331.set (k + 1) (ma 0, aI cI 20 (upd (m_from y) (m_rates y).toNatClampNeg (day)))) := hD
                    generalize w_331.set (k + 1) (ma 0, aI cI 20 (upd (m_from y) (m_rates y).toNatClampNeg (day))) = w_332 at hP hD hU
                    refine lv_aload_n hx hb d_M_rate_113 rfl (lv_at hl 0 rfl) ?_
                    refine va_get (D := D) (ci := 3) (v := .ref (ma 1)) (C := R_M) (T := F_M) (N := 23) hx hb hts (in_M _) hown hK hP k hU.o rfl 4 (by decide) (hts (.fieldLink R_M 13 "DebtRowsModel" "up" "[I") (List.mem_cons_of_mem _ mB_418)) (fun _ h9 => h9) rfl d_M_rate_114 ?_
                    refine lv_aload_n hx hb d_M_rate_117 rfl (lv_at hl 0 rfl) ?_
                    refine va_get (D := D) (ci := 3) (v := .int (m_rates y)) (C := R_M) (T := F_M) (N := 23) hx hb hts (in_M _) hown hK hP k hU.o rfl 2 (by decide) (hts (.fieldLink R_M 83 "DebtRowsModel" "rates" "I") (List.mem_cons_of_mem _ mB_416)) (fun _ h9 => h9) rfl d_M_rate_118 ?_
                    refine lv_iload_n hx hb d_M_rate_121 rfl (lv_at hl 2 rfl) ?_
                    refine va_iast hx hb hK hP hD hS (k + 2) 0 hU.a1 rfl (in_r hw c_330) d_M_rate_122 (fun H locs hP hD hS => ?_)
                    have hU := hU.s_up (upd (m_up y) (m_rates y).toNatClampNeg (ra))
                    have hP : va_P D vwCl (w_332.set (k + 2) (ma 1, aI cI 20 (upd (m_up y) (m_rates y).toNatClampNeg (ra)))) H := hP
                    have hD : va_D A (w_332.set (k + 2) (ma 1, aI cI 20 (upd (m_up y) (m_rates y).toNatClampNeg (ra)))) := hD
                    generalize w_332.set (k + 2) (ma 1, aI cI 20 (upd (m_up y) (m_rates y).toNatClampNeg (ra))) = w_333 at hP hD hU
                    refine lv_aload_n hx hb d_M_rate_123 rfl (lv_at hl 0 rfl) ?_
                    refine va_get (D := D) (ci := 3) (v := .ref (ma 2)) (C := R_M) (T := F_M) (N := 23) hx hb hts (in_M _) hown hK hP k hU.o rfl 5 (by decide) (hts (.fieldLink R_M 16 "DebtRowsModel" "down" "[I") (List.mem_cons_of_mem _ mB_419)) (fun _ h9 => h9) rfl d_M_rate_124 ?_
                    refine lv_aload_n hx hb d_M_rate_127 rfl (lv_at hl 0 rfl) ?_
                    refine va_get (D := D) (ci := 3) (v := .int (m_rates y)) (C := R_M) (T := F_M) (N := 23) hx hb hts (in_M _) hown hK hP k hU.o rfl 2 (by decide) (hts (.fieldLink R_M 83 "DebtRowsModel" "rates" "I") (List.mem_cons_of_mem _ mB_416)) (fun _ h9 => h9) rfl d_M_rate_128 ?_
                    refine lv_iload_n hx hb d_M_rate_131 rfl (lv_at hl 3 rfl) ?_
                    refine va_iast hx hb hK hP hD hS (k + 3) 0 hU.a2 rfl (in_r hw c_330) d_M_rate_132 (fun H locs hP hD hS => ?_)
                    have hU := hU.s_down (upd (m_down y) (m_rates y).toNatClampNeg (rb))
                    have hP : va_P D vwCl (w_333.set (k + 3) (ma 2, aI cI 20 (upd (m_down y) (m_rates y).toNatClampNeg (rb)))) H := hP
                    have hD : va_D A (w_333.set (k + 3) (ma 2, aI cI 20 (upd (m_down y) (m_rates y).toNatClampNeg (rb)))) := hD
                    generalize w_333.set (k + 3) (ma 2, aI cI 20 (upd (m_down y) (m_rates y).toNatClampNeg (rb))) = w_334 at hP hD hU
                    refine lv_aload_n hx hb d_M_rate_133 rfl (lv_at hl 0 rfl) ?_
                    refine lv_dup hx hb d_M_rate_134 rfl ?_
                    refine va_get (D := D) (ci := 3) (v := .int (m_rates y)) (C := R_M) (T := F_M) (N := 23) hx hb hts (in_M _) hown hK hP k hU.o rfl 2 (by decide) (hts (.fieldLink R_M 83 "DebtRowsModel" "rates" "I") (List.mem_cons_of_mem _ mB_416)) (fun _ h9 => h9) rfl d_M_rate_135 ?_
                    refine lv_iconst (v := 1) hx hb d_M_rate_138 (by decide) ?_
                    refine lv_iadd hx hb d_M_rate_139 ?_
                    refine va_put (D := D) (ci := 3) (v := .int ((m_rates y + 1))) (ty := .int) (C := R_M) (T := F_M) (N := 23) hx hb hts (in_M _) t_M to_M nn_M hown hK hP hD hS k hU.o rfl 2 (by decide) (hts (.fieldLink R_M 83 "DebtRowsModel" "rates" "I") (List.mem_cons_of_mem _ mB_416)) (fun _ h9 => h9) rfl (by decide +kernel) rfl rfl (Nat.le_of_ble_eq_true rfl) d_M_rate_140 (fun H locs hP hD hS => ?_)
                    have hU := hU.s_rates ((m_rates y + 1))
                    have hP : va_P D vwCl (w_334.set k (h0, mE ma (n_rates (n_down (n_up (n_from (n_thrown y (0)) (upd (m_from y) (m_rates y).toNatClampNeg (day))) (upd (m_up y) (m_rates y).toNatClampNeg (ra))) (upd (m_down y) (m_rates y).toNatClampNeg (rb))) ((m_rates y + 1))))) H := hP
                    have hD : va_D A (w_334.set k (h0, mE ma (n_rates (n_down (n_up (n_from (n_thrown y (0)) (upd (m_from y) (m_rates y).toNatClampNeg (day))) (upd (m_up y) (m_rates y).toNatClampNeg (ra))) (upd (m_down y) (m_rates y).toNatClampNeg (rb))) ((m_rates y + 1))))) := hD
                    generalize w_334.set k (h0, mE ma (n_rates (n_down (n_up (n_from (n_thrown y (0)) (upd (m_from y) (m_rates y).toNatClampNeg (day))) (upd (m_up y) (m_rates y).toNatClampNeg (ra))) (upd (m_down y) (m_rates y).toNatClampNeg (rb))) ((m_rates y + 1)))) = w_335 at hP hD hU
                    refine lv_aload_n hx hb d_M_rate_143 rfl (lv_at hl 0 rfl) ?_
                    refine va_get (D := D) (ci := 3) (v := .int ((m_rates y + 1))) (C := R_M) (T := F_M) (N := 23) hx hb hts (in_M _) hown hK hP k hU.o rfl 2 (by decide) (hts (.fieldLink R_M 83 "DebtRowsModel" "rates" "I") (List.mem_cons_of_mem _ mB_416)) (fun _ h9 => h9) rfl d_M_rate_144 ?_
                    exact W.iret (v := (m_rates y + 1)) hx hb hr (fun t ht hW => ⟨⟨_, (), rfl, by rw [g_rate, if_neg c_312, if_neg c_313, if_neg c_316, if_pos c_319, if_neg c_320, if_neg c_323, if_neg c_326, if_pos c_329, if_neg c_330], w_335, by rw [ht]; exact hP, hD, by rw [g_rate, if_neg c_312, if_neg c_313, if_neg c_316, if_pos c_319, if_neg c_320, if_neg c_323, if_neg c_326, if_pos c_329, if_neg c_330]; exact hU⟩, hS.F ht⟩) hS.2.2 d_M_rate_147
                  · refine lv_aload_n hx hb d_M_rate_92 rfl (lv_at hl 0 rfl) ?_
                    refine lv_iconst (v := 3) hx hb d_M_rate_93 (by decide) ?_
                    refine va_calli (va_runV (As := [.int (3)]) (rest := []) ⟨hx, hb, hml, hown, hts⟩ (c_M_fails l D A w cI cL cD k h0 ma y (3) hU.1) (cwV 1 hts (gV _ mB_469 mB_470 mB_4 mB_17 mB_471) rfl rfl rfl (by decide +kernel) ⟨(Nat.le_of_ble_eq_true rfl), (Nat.le_of_ble_eq_true rfl)⟩) ⟨mPc_bl, va_recv hK hP (ci := 3) (q0 := k) rfl hU.o, mPc_pr hP hK hD⟩ rfl rfl hl.1 rfl (lv_room (Nat.le_of_ble_eq_true rfl)) d_M_rate_94 ⟨Nat.zero_le _, Nat.zero_le _⟩) hS (fun _ _ h => h) (fun _ h => h) (fun v_336 u9 t H locs ht hvm ev_336 hB hz1 hk1 hS => ?_)
                    obtain ⟨w_337, hP, hD, hU1⟩ := hB
                    rw [ht] at hP
                    have hU := hU.tr hU1
                    subst ev_336
                    exact W.iret (v := (g_fails y (3)).1) hx hb hr (fun t ht hW => ⟨⟨_, (), rfl, by rw [g_rate, if_neg c_312, if_neg c_313, if_neg c_316, if_pos c_319, if_neg c_320, if_neg c_323, if_neg c_326, if_pos c_329, if_pos c_330], w_337, by rw [ht]; exact hP, hD, by rw [g_rate, if_neg c_312, if_neg c_313, if_neg c_316, if_pos c_319, if_neg c_320, if_neg c_323, if_neg c_326, if_pos c_329, if_pos c_330]; exact hU⟩, hS.F ht⟩) hS.2.2 d_M_rate_97
                · refine lv_aload_n hx hb d_M_rate_77 rfl (lv_at hl 0 rfl) ?_
                  refine lv_iconst (v := 2) hx hb d_M_rate_78 (by decide) ?_
                  refine va_calli (va_runV (As := [.int (2)]) (rest := []) ⟨hx, hb, hml, hown, hts⟩ (c_M_fails l D A w cI cL cD k h0 ma y (2) hU.1) (cwV 1 hts (gV _ mB_469 mB_470 mB_4 mB_17 mB_471) rfl rfl rfl (by decide +kernel) ⟨(Nat.le_of_ble_eq_true rfl), (Nat.le_of_ble_eq_true rfl)⟩) ⟨mPc_bl, va_recv hK hP (ci := 3) (q0 := k) rfl hU.o, mPc_pr hP hK hD⟩ rfl rfl hl.1 rfl (lv_room (Nat.le_of_ble_eq_true rfl)) d_M_rate_79 ⟨Nat.zero_le _, Nat.zero_le _⟩) hS (fun _ _ h => h) (fun _ h => h) (fun v_338 u9 t H locs ht hvm ev_338 hB hz1 hk1 hS => ?_)
                  obtain ⟨w_339, hP, hD, hU1⟩ := hB
                  rw [ht] at hP
                  have hU := hU.tr hU1
                  subst ev_338
                  exact W.iret (v := (g_fails y (2)).1) hx hb hr (fun t ht hW => ⟨⟨_, (), rfl, by rw [g_rate, if_neg c_312, if_neg c_313, if_neg c_316, if_pos c_319, if_neg c_320, if_neg c_323, if_neg c_326, if_neg c_329], w_339, by rw [ht]; exact hP, hD, by rw [g_rate, if_neg c_312, if_neg c_313, if_neg c_316, if_pos c_319, if_neg c_320, if_neg c_323, if_neg c_326, if_neg c_329]; exact hU⟩, hS.F ht⟩) hS.2.2 d_M_rate_82
        · refine lv_iload_n hx hb d_M_rate_31 rfl (lv_at hl 1 rfl) ?_
          refine lv_aload_n hx hb d_M_rate_32 rfl (lv_at hl 0 rfl) ?_
          refine va_get (D := D) (ci := 3) (v := .ref (ma 0)) (C := R_M) (T := F_M) (N := 23) hx hb hts (in_M _) hown hK hP k hU.o rfl 3 (by decide) (hts (.fieldLink R_M 7 "DebtRowsModel" "from" "[I") (List.mem_cons_of_mem _ mB_417)) (fun _ h9 => h9) rfl d_M_rate_33 ?_
          refine lv_aload_n hx hb d_M_rate_36 rfl (lv_at hl 0 rfl) ?_
          refine va_get (D := D) (ci := 3) (v := .int (m_rates y)) (C := R_M) (T := F_M) (N := 23) hx hb hts (in_M _) hown hK hP k hU.o rfl 2 (by decide) (hts (.fieldLink R_M 83 "DebtRowsModel" "rates" "I") (List.mem_cons_of_mem _ mB_416)) (fun _ h9 => h9) rfl d_M_rate_37 ?_
          refine lv_if_le (tgt := 52) hx hb d_M_rate_40 (by decide) (fun c_340 => ?_) (fun c_340 => ?_)
          · exact absurd c_340 (c_319)
          · refine lv_aload_n hx hb d_M_rate_43 rfl (lv_at hl 0 rfl) ?_
            refine va_get (D := D) (ci := 3) (v := .int (m_rates y)) (C := R_M) (T := F_M) (N := 23) hx hb hts (in_M _) hown hK hP k hU.o rfl 2 (by decide) (hts (.fieldLink R_M 83 "DebtRowsModel" "rates" "I") (List.mem_cons_of_mem _ mB_416)) (fun _ h9 => h9) rfl d_M_rate_44 ?_
            refine lv_iconst (v := 1) hx hb d_M_rate_47 (by decide) ?_
            refine lv_isub hx hb d_M_rate_48 ?_
            refine lv_goto (tgt := 53) hx hb d_M_rate_49 (by decide) ?_
            refine va_iald hx hb hK hP (k + 1) 0 hU.a0 rfl (in_r1 hw c_319) d_M_rate_53 ?_
            refine lv_icmp_lt (tgt := 77) hx hb d_M_rate_54 (by decide) (fun c_341 => ?_) (fun c_341 => ?_)
            · refine lv_aload_n hx hb d_M_rate_77 rfl (lv_at hl 0 rfl) ?_
              refine lv_iconst (v := 2) hx hb d_M_rate_78 (by decide) ?_
              refine va_calli (va_runV (As := [.int (2)]) (rest := []) ⟨hx, hb, hml, hown, hts⟩ (c_M_fails l D A w cI cL cD k h0 ma y (2) hU.1) (cwV 1 hts (gV _ mB_469 mB_470 mB_4 mB_17 mB_471) rfl rfl rfl (by decide +kernel) ⟨(Nat.le_of_ble_eq_true rfl), (Nat.le_of_ble_eq_true rfl)⟩) ⟨mPc_bl, va_recv hK hP (ci := 3) (q0 := k) rfl hU.o, mPc_pr hP hK hD⟩ rfl rfl hl.1 rfl (lv_room (Nat.le_of_ble_eq_true rfl)) d_M_rate_79 ⟨Nat.zero_le _, Nat.zero_le _⟩) hS (fun _ _ h => h) (fun _ h => h) (fun v_342 u9 t H locs ht hvm ev_342 hB hz1 hk1 hS => ?_)
              obtain ⟨w_343, hP, hD, hU1⟩ := hB
              rw [ht] at hP
              have hU := hU.tr hU1
              subst ev_342
              exact W.iret (v := (g_fails y (2)).1) hx hb hr (fun t ht hW => ⟨⟨_, (), rfl, by rw [g_rate, if_neg c_312, if_neg c_313, if_neg c_316, if_neg c_319, if_pos c_341], w_343, by rw [ht]; exact hP, hD, by rw [g_rate, if_neg c_312, if_neg c_313, if_neg c_316, if_neg c_319, if_pos c_341]; exact hU⟩, hS.F ht⟩) hS.2.2 d_M_rate_82
            · refine lv_iload_n hx hb d_M_rate_57 rfl (lv_at hl 3 rfl) ?_
              refine lv_if_lt (tgt := 77) hx hb d_M_rate_58 (by decide) (fun c_344 => ?_) (fun c_344 => ?_)
              · refine lv_aload_n hx hb d_M_rate_77 rfl (lv_at hl 0 rfl) ?_
                refine lv_iconst (v := 2) hx hb d_M_rate_78 (by decide) ?_
                refine va_calli (va_runV (As := [.int (2)]) (rest := []) ⟨hx, hb, hml, hown, hts⟩ (c_M_fails l D A w cI cL cD k h0 ma y (2) hU.1) (cwV 1 hts (gV _ mB_469 mB_470 mB_4 mB_17 mB_471) rfl rfl rfl (by decide +kernel) ⟨(Nat.le_of_ble_eq_true rfl), (Nat.le_of_ble_eq_true rfl)⟩) ⟨mPc_bl, va_recv hK hP (ci := 3) (q0 := k) rfl hU.o, mPc_pr hP hK hD⟩ rfl rfl hl.1 rfl (lv_room (Nat.le_of_ble_eq_true rfl)) d_M_rate_79 ⟨Nat.zero_le _, Nat.zero_le _⟩) hS (fun _ _ h => h) (fun _ h => h) (fun v_345 u9 t H locs ht hvm ev_345 hB hz1 hk1 hS => ?_)
                obtain ⟨w_346, hP, hD, hU1⟩ := hB
                rw [ht] at hP
                have hU := hU.tr hU1
                subst ev_345
                exact W.iret (v := (g_fails y (2)).1) hx hb hr (fun t ht hW => ⟨⟨_, (), rfl, by rw [g_rate, if_neg c_312, if_neg c_313, if_neg c_316, if_neg c_319, if_neg c_341, if_pos c_344], w_346, by rw [ht]; exact hP, hD, by rw [g_rate, if_neg c_312, if_neg c_313, if_neg c_316, if_neg c_319, if_neg c_341, if_pos c_344]; exact hU⟩, hS.F ht⟩) hS.2.2 d_M_rate_82
              · refine lv_iload_n hx hb d_M_rate_61 rfl (lv_at hl 3 rfl) ?_
                refine lv_sipush (v := 1000) hx hb d_M_rate_62 (by decide) ?_
                refine lv_icmp_gt (tgt := 77) hx hb d_M_rate_65 (by decide) (fun c_347 => ?_) (fun c_347 => ?_)
                · refine lv_aload_n hx hb d_M_rate_77 rfl (lv_at hl 0 rfl) ?_
                  refine lv_iconst (v := 2) hx hb d_M_rate_78 (by decide) ?_
                  refine va_calli (va_runV (As := [.int (2)]) (rest := []) ⟨hx, hb, hml, hown, hts⟩ (c_M_fails l D A w cI cL cD k h0 ma y (2) hU.1) (cwV 1 hts (gV _ mB_469 mB_470 mB_4 mB_17 mB_471) rfl rfl rfl (by decide +kernel) ⟨(Nat.le_of_ble_eq_true rfl), (Nat.le_of_ble_eq_true rfl)⟩) ⟨mPc_bl, va_recv hK hP (ci := 3) (q0 := k) rfl hU.o, mPc_pr hP hK hD⟩ rfl rfl hl.1 rfl (lv_room (Nat.le_of_ble_eq_true rfl)) d_M_rate_79 ⟨Nat.zero_le _, Nat.zero_le _⟩) hS (fun _ _ h => h) (fun _ h => h) (fun v_348 u9 t H locs ht hvm ev_348 hB hz1 hk1 hS => ?_)
                  obtain ⟨w_349, hP, hD, hU1⟩ := hB
                  rw [ht] at hP
                  have hU := hU.tr hU1
                  subst ev_348
                  exact W.iret (v := (g_fails y (2)).1) hx hb hr (fun t ht hW => ⟨⟨_, (), rfl, by rw [g_rate, if_neg c_312, if_neg c_313, if_neg c_316, if_neg c_319, if_neg c_341, if_neg c_344, if_pos c_347], w_349, by rw [ht]; exact hP, hD, by rw [g_rate, if_neg c_312, if_neg c_313, if_neg c_316, if_neg c_319, if_neg c_341, if_neg c_344, if_pos c_347]; exact hU⟩, hS.F ht⟩) hS.2.2 d_M_rate_82
                · refine lv_iload_n hx hb d_M_rate_68 rfl (lv_at hl 2 rfl) ?_
                  refine lv_if_lt (tgt := 77) hx hb d_M_rate_69 (by decide) (fun c_350 => ?_) (fun c_350 => ?_)
                  · refine lv_aload_n hx hb d_M_rate_77 rfl (lv_at hl 0 rfl) ?_
                    refine lv_iconst (v := 2) hx hb d_M_rate_78 (by decide) ?_
                    refine va_calli (va_runV (As := [.int (2)]) (rest := []) ⟨hx, hb, hml, hown, hts⟩ (c_M_fails l D A w cI cL cD k h0 ma y (2) hU.1) (cwV 1 hts (gV _ mB_469 mB_470 mB_4 mB_17 mB_471) rfl rfl rfl (by decide +kernel) ⟨(Nat.le_of_ble_eq_true rfl), (Nat.le_of_ble_eq_true rfl)⟩) ⟨mPc_bl, va_recv hK hP (ci := 3) (q0 := k) rfl hU.o, mPc_pr hP hK hD⟩ rfl rfl hl.1 rfl (lv_room (Nat.le_of_ble_eq_true rfl)) d_M_rate_79 ⟨Nat.zero_le _, Nat.zero_le _⟩) hS (fun _ _ h => h) (fun _ h => h) (fun v_351 u9 t H locs ht hvm ev_351 hB hz1 hk1 hS => ?_)
                    obtain ⟨w_352, hP, hD, hU1⟩ := hB
                    rw [ht] at hP
                    have hU := hU.tr hU1
                    subst ev_351
                    exact W.iret (v := (g_fails y (2)).1) hx hb hr (fun t ht hW => ⟨⟨_, (), rfl, by rw [g_rate, if_neg c_312, if_neg c_313, if_neg c_316, if_neg c_319, if_neg c_341, if_neg c_344, if_neg c_347, if_pos c_350], w_352, by rw [ht]; exact hP, hD, by rw [g_rate, if_neg c_312, if_neg c_313, if_neg c_316, if_neg c_319, if_neg c_341, if_neg c_344, if_neg c_347, if_pos c_350]; exact hU⟩, hS.F ht⟩) hS.2.2 d_M_rate_82
                  · refine lv_iload_n hx hb d_M_rate_72 rfl (lv_at hl 2 rfl) ?_
                    refine lv_iload_n hx hb d_M_rate_73 rfl (lv_at hl 3 rfl) ?_
                    refine lv_icmp_le (tgt := 83) hx hb d_M_rate_74 (by decide) (fun c_353 => ?_) (fun c_353 => ?_)
                    · refine lv_aload_n hx hb d_M_rate_83 rfl (lv_at hl 0 rfl) ?_
                      refine va_get (D := D) (ci := 3) (v := .int (m_rates y)) (C := R_M) (T := F_M) (N := 23) hx hb hts (in_M _) hown hK hP k hU.o rfl 2 (by decide) (hts (.fieldLink R_M 83 "DebtRowsModel" "rates" "I") (List.mem_cons_of_mem _ mB_416)) (fun _ h9 => h9) rfl d_M_rate_84 ?_
                      refine lv_bipush (v := 20) hx hb d_M_rate_87 (by decide) ?_
                      refine lv_icmp_ne (tgt := 98) hx hb d_M_rate_89 (by decide) (fun c_354 => ?_) (fun c_354 => ?_)
                      · refine lv_aload_n hx hb d_M_rate_98 rfl (lv_at hl 0 rfl) ?_
                        refine lv_iconst (v := 0) hx hb d_M_rate_99 (by decide) ?_
                        refine va_put (D := D) (ci := 3) (v := .int (0)) (ty := .int) (C := R_M) (T := F_M) (N := 23) hx hb hts (in_M _) t_M to_M nn_M hown hK hP hD hS k hU.o rfl 0 (by decide) (hts (.fieldLink R_M 68 "DebtRowsModel" "thrown" "I") (List.mem_cons_of_mem _ mB_414)) (fun _ h9 => h9) rfl (by decide +kernel) rfl rfl (Nat.le_of_ble_eq_true rfl) d_M_rate_100 (fun H locs hP hD hS => ?_)
                        have hU := hU.s_thrown (0)
                        have hP : va_P D vwCl (w.set k (h0, mE ma (n_thrown y (0)))) H := hP
                        have hD : va_D A (w.set k (h0, mE ma (n_thrown y (0)))) := hD
                        generalize w.set k (h0, mE ma (n_thrown y (0))) = w_355 at hP hD hU
                        refine lv_aload_n hx hb d_M_rate_103 rfl (lv_at hl 0 rfl) ?_
                        refine va_get (D := D) (ci := 3) (v := .ref (ma 0)) (C := R_M) (T := F_M) (N := 23) hx hb hts (in_M _) hown hK hP k hU.o rfl 3 (by decide) (hts (.fieldLink R_M 7 "DebtRowsModel" "from" "[I") (List.mem_cons_of_mem _ mB_417)) (fun _ h9 => h9) rfl d_M_rate_104 ?_
                        refine lv_aload_n hx hb d_M_rate_107 rfl (lv_at hl 0 rfl) ?_
                        refine va_get (D := D) (ci := 3) (v := .int (m_rates y)) (C := R_M) (T := F_M) (N := 23) hx hb hts (in_M _) hown hK hP k hU.o rfl 2 (by decide) (hts (.fieldLink R_M 83 "DebtRowsModel" "rates" "I") (List.mem_cons_of_mem _ mB_416)) (fun _ h9 => h9) rfl d_M_rate_108 ?_
                        refine lv_iload_n hx hb d_M_rate_111 rfl (lv_at hl 1 rfl) ?_
                        refine va_iast hx hb hK hP hD hS (k + 1) 0 hU.a0 rfl (in_r hw c_354) d_M_rate_112 (fun H locs hP hD hS => ?_)
                        have hU := hU.s_from (upd (m_from y) (m_rates y).toNatClampNeg (day))
                        have hP : va_P D vwCl (w_355.set (k + 1) (ma 0, aI cI 20 (upd (m_from y) (m_rates y).toNatClampNeg (day)))) H := hP
                        have hD : va_D A (w_355.set (k + 1) (ma 0, aI cI 20 (upd (m_from y) (m_rates y).toNatClampNeg (day)))) := hD
                        generalize w_355.set (k + 1) (ma 0, aI cI 20 (upd (m_from y) (m_rates y).toNatClampNeg (day))) = w_356 at hP hD hU
                        refine lv_aload_n hx hb d_M_rate_113 rfl (lv_at hl 0 rfl) ?_
                        refine va_get (D := D) (ci := 3) (v := .ref (ma 1)) (C := R_M) (T := F_M) (N := 23) hx hb hts (in_M _) hown hK hP k hU.o rfl 4 (by decide) (hts (.fieldLink R_M 13 "DebtRowsModel" "up" "[I") (List.mem_cons_of_mem _ mB_418)) (fun _ h9 => h9) rfl d_M_rate_114 ?_
                        refine lv_aload_n hx hb d_M_rate_117 rfl (lv_at hl 0 rfl) ?_
                        refine va_get (D := D) (ci := 3) (v := .int (m_rates y)) (C := R_M) (T := F_M) (N := 23) hx hb hts (in_M _) hown hK hP k hU.o rfl 2 (by decide) (hts (.fieldLink R_M 83 "DebtRowsModel" "rates" "I") (List.mem_cons_of_mem _ mB_416)) (fun _ h9 => h9) rfl d_M_rate_118 ?_
                        refine lv_iload_n hx hb d_M_rate_121 rfl (lv_at hl 2 rfl) ?_
                        refine va_iast hx hb hK hP hD hS (k + 2) 0 hU.a1 rfl (in_r hw c_354) d_M_rate_122 (fun H locs hP hD hS => ?_)
                        have hU := hU.s_up (upd (m_up y) (m_rates y).toNatClampNeg (ra))
                        have hP : va_P D vwCl (w_356.set (k + 2) (ma 1, aI cI 20 (upd (m_up y) (m_rates y).toNatClampNeg (ra)))) H := hP
                        have hD : va_D A (w_356.set (k + 2) (ma 1, aI cI 20 (upd (m_up y) (m_rates y).toNatClampNeg (ra)))) := hD
                        generalize w_356.set (k + 2) (ma 1, aI cI 20 (upd (m_up y) (m_rates y).toNatClampNeg (ra))) = w_357 at hP hD hU
                        refine lv_aload_n hx hb d_M_rate_123 rfl (lv_at hl 0 rfl) ?_
                        refine va_get (D := D) (ci := 3) (v := .ref (ma 2)) (C := R_M) (T := F_M) (N := 23) hx hb hts (in_M _) hown hK hP k hU.o rfl 5 (by decide) (hts (.fieldLink R_M 16 "DebtRowsModel" "down" "[I") (List.mem_cons_of_mem _ mB_419)) (fun _ h9 => h9) rfl d_M_rate_124 ?_
                        refine lv_aload_n hx hb d_M_rate_127 rfl (lv_at hl 0 rfl) ?_
                        refine va_get (D := D) (ci := 3) (v := .int (m_rates y)) (C := R_M) (T := F_M) (N := 23) hx hb hts (in_M _) hown hK hP k hU.o rfl 2 (by decide) (hts (.fieldLink R_M 83 "DebtRowsModel" "rates" "I") (List.mem_cons_of_mem _ mB_416)) (fun _ h9 => h9) rfl d_M_rate_128 ?_
                        refine lv_iload_n hx hb d_M_rate_131 rfl (lv_at hl 3 rfl) ?_
                        refine va_iast hx hb hK hP hD hS (k + 3) 0 hU.a2 rfl (in_r hw c_354) d_M_rate_132 (fun H locs hP hD hS => ?_)
                        have hU := hU.s_down (upd (m_down y) (m_rates y).toNatClampNeg (rb))
                        have hP : va_P D vwCl (w_357.set (k + 3) (ma 2, aI cI 20 (upd (m_down y) (m_rates y).toNatClampNeg (rb)))) H := hP
                        have hD : va_D A (w_357.set (k + 3) (ma 2, aI cI 20 (upd (m_down y) (m_rates y).toNatClampNeg (rb)))) := hD
                        generalize w_357.set (k + 3) (ma 2, aI cI 20 (upd (m_down y) (m_rates y).toNatClampNeg (rb))) = w_358 at hP hD hU
                        refine lv_aload_n hx hb d_M_rate_133 rfl (lv_at hl 0 rfl) ?_
                        refine lv_dup hx hb d_M_rate_134 rfl ?_
                        refine va_get (D := D) (ci := 3) (v := .int (m_rates y)) (C := R_M) (T := F_M) (N := 23) hx hb hts (in_M _) hown hK hP k hU.o rfl 2 (by decide) (hts (.fieldLink R_M 83 "DebtRowsModel" "rates" "I") (List.mem_cons_of_mem _ mB_416)) (fun _ h9 => h9) rfl d_M_rate_135 ?_
                        refine lv_iconst (v := 1) hx hb d_M_rate_138 (by decide) ?_
                        refine lv_iadd hx hb d_M_rate_139 ?_
                        refine va_put (D := D) (ci := 3) (v := .int ((m_rates y + 1))) (ty := .int) (C := R_M) (T := F_M) (N := 23) hx hb hts (in_M _) t_M to_M nn_M hown hK hP hD hS k hU.o rfl 2 (by decide) (hts (.fieldLink R_M 83 "DebtRowsModel" "rates" "I") (List.mem_cons_of_mem _ mB_416)) (fun _ h9 => h9) rfl (by decide +kernel) rfl rfl (Nat.le_of_ble_eq_true rfl) d_M_rate_140 (fun H locs hP hD hS => ?_)
                        have hU := hU.s_rates ((m_rates y + 1))
                        have hP : va_P D vwCl (w_358.set k (h0, mE ma (n_rates (n_down (n_up (n_from (n_thrown y (0)) (upd (m_from y) (m_rates y).toNatClampNeg (day))) (upd (m_up y) (m_rates y).toNatClampNeg (ra))) (upd (m_down y) (m_rates y).toNatClampNeg (rb))) ((m_rates y + 1))))) H := hP
                        have hD : va_D A (w_358.set k (h0, mE ma (n_rates (n_down (n_up (n_from (n_thrown y (0)) (upd (m_from y) (m_rates y).toNatClampNeg (day))) (upd (m_up y) (m_rates y).toNatClampNeg (ra))) (upd (m_down y) (m_rates y).toNatClampNeg (rb))) ((m_rates y + 1))))) := hD
                        generalize w_358.set k (h0, mE ma (n_rates (n_down (n_up (n_from (n_thrown y (0)) (upd (m_from y) (m_rates y).toNatClampNeg (day))) (upd (m_up y) (m_rates y).toNatClampNeg (ra))) (upd (m_down y) (m_rates y).toNatClampNeg (rb))) ((m_rates y + 1)))) = w_359 at hP hD hU
                        refine lv_aload_n hx hb d_M_rate_143 rfl (lv_at hl 0 rfl) ?_
                        refine va_get (D := D) (ci := 3) (v := .int ((m_rates y + 1))) (C := R_M) (T := F_M) (N := 23) hx hb hts (in_M _) hown hK hP k hU.o rfl 2 (by decide) (hts (.fieldLink R_M 83 "DebtRowsModel" "rates" "I") (List.mem_cons_of_mem _ mB_416)) (fun _ h9 => h9) rfl d_M_rate_144 ?_
                        exact W.iret (v := (m_rates y + 1)) hx hb hr (fun t ht hW => ⟨⟨_, (), rfl, by rw [g_rate, if_neg c_312, if_neg c_313, if_neg c_316, if_neg c_319, if_neg c_341, if_neg c_344, if_neg c_347, if_neg c_350, if_pos c_353, if_neg c_354], w_359, by rw [ht]; exact hP, hD, by rw [g_rate, if_neg c_312, if_neg c_313, if_neg c_316, if_neg c_319, if_neg c_341, if_neg c_344, if_neg c_347, if_neg c_350, if_pos c_353, if_neg c_354]; exact hU⟩, hS.F ht⟩) hS.2.2 d_M_rate_147
                      · refine lv_aload_n hx hb d_M_rate_92 rfl (lv_at hl 0 rfl) ?_
                        refine lv_iconst (v := 3) hx hb d_M_rate_93 (by decide) ?_
                        refine va_calli (va_runV (As := [.int (3)]) (rest := []) ⟨hx, hb, hml, hown, hts⟩ (c_M_fails l D A w cI cL cD k h0 ma y (3) hU.1) (cwV 1 hts (gV _ mB_469 mB_470 mB_4 mB_17 mB_471) rfl rfl rfl (by decide +kernel) ⟨(Nat.le_of_ble_eq_true rfl), (Nat.le_of_ble_eq_true rfl)⟩) ⟨mPc_bl, va_recv hK hP (ci := 3) (q0 := k) rfl hU.o, mPc_pr hP hK hD⟩ rfl rfl hl.1 rfl (lv_room (Nat.le_of_ble_eq_true rfl)) d_M_rate_94 ⟨Nat.zero_le _, Nat.zero_le _⟩) hS (fun _ _ h => h) (fun _ h => h) (fun v_360 u9 t H locs ht hvm ev_360 hB hz1 hk1 hS => ?_)
                        obtain ⟨w_361, hP, hD, hU1⟩ := hB
                        rw [ht] at hP
                        have hU := hU.tr hU1
                        subst ev_360
                        exact W.iret (v := (g_fails y (3)).1) hx hb hr (fun t ht hW => ⟨⟨_, (), rfl, by rw [g_rate, if_neg c_312, if_neg c_313, if_neg c_316, if_neg c_319, if_neg c_341, if_neg c_344, if_neg c_347, if_neg c_350, if_pos c_353, if_pos c_354], w_361, by rw [ht]; exact hP, hD, by rw [g_rate, if_neg c_312, if_neg c_313, if_neg c_316, if_neg c_319, if_neg c_341, if_neg c_344, if_neg c_347, if_neg c_350, if_pos c_353, if_pos c_354]; exact hU⟩, hS.F ht⟩) hS.2.2 d_M_rate_97
                    · refine lv_aload_n hx hb d_M_rate_77 rfl (lv_at hl 0 rfl) ?_
                      refine lv_iconst (v := 2) hx hb d_M_rate_78 (by decide) ?_
                      refine va_calli (va_runV (As := [.int (2)]) (rest := []) ⟨hx, hb, hml, hown, hts⟩ (c_M_fails l D A w cI cL cD k h0 ma y (2) hU.1) (cwV 1 hts (gV _ mB_469 mB_470 mB_4 mB_17 mB_471) rfl rfl rfl (by decide +kernel) ⟨(Nat.le_of_ble_eq_true rfl), (Nat.le_of_ble_eq_true rfl)⟩) ⟨mPc_bl, va_recv hK hP (ci := 3) (q0 := k) rfl hU.o, mPc_pr hP hK hD⟩ rfl rfl hl.1 rfl (lv_room (Nat.le_of_ble_eq_true rfl)) d_M_rate_79 ⟨Nat.zero_le _, Nat.zero_le _⟩) hS (fun _ _ h => h) (fun _ h => h) (fun v_362 u9 t H locs ht hvm ev_362 hB hz1 hk1 hS => ?_)
                      obtain ⟨w_363, hP, hD, hU1⟩ := hB
                      rw [ht] at hP
                      have hU := hU.tr hU1
                      subst ev_362
                      exact W.iret (v := (g_fails y (2)).1) hx hb hr (fun t ht hW => ⟨⟨_, (), rfl, by rw [g_rate, if_neg c_312, if_neg c_313, if_neg c_316, if_neg c_319, if_neg c_341, if_neg c_344, if_neg c_347, if_neg c_350, if_neg c_353], w_363, by rw [ht]; exact hP, hD, by rw [g_rate, if_neg c_312, if_neg c_313, if_neg c_316, if_neg c_319, if_neg c_341, if_neg c_344, if_neg c_347, if_neg c_350, if_neg c_353]; exact hU⟩, hS.F ht⟩) hS.2.2 d_M_rate_82
  · refine lv_aload_n hx hb d_M_rate_4 rfl (lv_at hl 0 rfl) ?_
    refine lv_iconst (v := 1) hx hb d_M_rate_5 (by decide) ?_
    refine va_calli (va_runV (As := [.int (1)]) (rest := []) ⟨hx, hb, hml, hown, hts⟩ (c_M_fails l D A w cI cL cD k h0 ma y (1) hU.1) (cwV 1 hts (gV _ mB_469 mB_470 mB_4 mB_17 mB_471) rfl rfl rfl (by decide +kernel) ⟨(Nat.le_of_ble_eq_true rfl), (Nat.le_of_ble_eq_true rfl)⟩) ⟨mPc_bl, va_recv hK hP (ci := 3) (q0 := k) rfl hU.o, mPc_pr hP hK hD⟩ rfl rfl hl.1 rfl (lv_room (Nat.le_of_ble_eq_true rfl)) d_M_rate_6 ⟨Nat.zero_le _, Nat.zero_le _⟩) hS (fun _ _ h => h) (fun _ h => h) (fun v_364 u9 t H locs ht hvm ev_364 hB hz1 hk1 hS => ?_)
    obtain ⟨w_365, hP, hD, hU1⟩ := hB
    rw [ht] at hP
    have hU := hU.tr hU1
    subst ev_364
    exact W.iret (v := (g_fails y (1)).1) hx hb hr (fun t ht hW => ⟨⟨_, (), rfl, by rw [g_rate, if_pos c_312], w_365, by rw [ht]; exact hP, hD, by rw [g_rate, if_pos c_312]; exact hU⟩, hS.F ht⟩) hS.2.2 d_M_rate_9
def g_debt (y : MT) (n : Int64) (who : Int32) : Int32 × MT :=
  if (g_in (n) (1) (1000000000)) = 0 then ((g_fails y (1)).1, (g_fails y (1)).2)
  else if (g_isPerson (who)) = 0 then ((g_fails y (1)).1, (g_fails y (1)).2)
    else if m_debts y = 40 then ((g_fails y (2)).1, (g_fails y (2)).2)
      else ((m_debts y + 1), (n_debtor (n_debtors (n_dueDay (n_born (n_open (n_cents (n_debts (n_thrown y (0)) ((m_debts y + 1))) (vp_updL (m_cents y) ((m_debts y + 1)).toNatClampNeg (n))) (vp_updL (m_open y) ((m_debts y + 1)).toNatClampNeg (n))) (upd (m_born y) ((m_debts y + 1)).toNatClampNeg (m_today y))) (upd (m_dueDay y) ((m_debts y + 1)).toNatClampNeg (-1))) (upd (m_debtors y) ((m_debts y + 1)).toNatClampNeg (1))) (upd (m_debtor y) ((4 * (m_debts y + 1))).toNatClampNeg (who))))
set_option maxHeartbeats 4000000 in
set_option maxRecDepth 100000 in
theorem c_M_debt (l : Launch) (D : va_G) (A : Nat → Prop) (w : va_W) (cI cL cD : ClassId) (k h0 : Nat) (ma : Nat → Nat) (y : MT) (n : Int64) (who : Int32) (hU0 : mA w k cI cL h0 ma y) (hw : wfM y) : Met l y_M_debt w_M_debt ({ frames := 1, cells := 0, slots := 0, locals := 25 }) (mPc D w (tyL cI cL cD) A [.ref h0, .long (n), .int (who)]) (va_Qi (fun z9 (_ : Unit) => z9 = (g_debt y n who).1) (fun (_ : Unit) t => ∃ w9 : va_W, va_P D vwCl w9 t.heap ∧ va_D A w9 ∧ mUpd w w9 k cI cL h0 ma ((g_debt y n who).2)) A) 0 0 A := by
  refine Met.ofW (cc := b_M_debt) (maxL := 4) (ret := (some .int)) (by decide) rfl ?_
  intro p e s m args below meth c s₁ B hml hv
  obtain ⟨rfl, hP, hK, hD⟩ := hv
  have hx := B.exec
  have hb := B.bytes
  have hr := B.returns
  have hts := atoms_spec (ws := w_M_debt) B.pre
  have hown : s.vm.findClass R_M = some m.cls := findClass_of_methodNamed B.named
  have hlocks := B.notSynchronized
  have hS : va_S A s.heap s.heap [] := va_S.rf
  have hU : mUpd w w k cI cL h0 ma y := mUpd.rf hU0
  have hl := lv_entry ([.ref h0, .long (n), .int (who)]) (n := 4) (Nat.le_of_ble_eq_true rfl)
  rw [lg_entry_eq]
  generalize (lg_sl ([.ref h0, .long (n), .int (who)]) ++ List.replicate (4 - (lg_sl ([.ref h0, .long (n), .int (who)])).length) Slot.unset).toArray = ls at hl ⊢
  have hl : lv_has ls 4 [(0, .ref h0), (1, .long (n)), (3, .int (who))] := hl
  refine lv_lload_n hx hb d_M_debt_0 rfl (lv_at hl 1 rfl) ?_
  refine lv_lconst (v := 1) hx hb d_M_debt_1 (by decide) ?_
  refine lv_ldc2 (own := R_M) (index := 86) (v := 1000000000) hx hb hown (hts (.constantLong R_M 86 (1000000000)) (List.mem_cons_of_mem _ mB_477)) d_M_debt_2 ?_
  refine vp_callSi (W.runS (As := [.long (n), .long (1), .long (1000000000)]) (rest := []) ⟨hx, hb, hml, hown, hts⟩ (c_M_in l (n) (1) (1000000000)) (cwS 3 hts (gS _ mB_478 mB_479 mB_17 mB_480) rfl rfl rfl (by decide +kernel) ⟨(Nat.le_of_ble_eq_true rfl), (Nat.le_of_ble_eq_true rfl)⟩) ⟨fun _ _ _ _ q => q, fun U _ _ => ⟨rfl, trivial⟩⟩ rfl rfl hl.1 rfl (lv_room (Nat.le_of_ble_eq_true rfl)) d_M_debt_5 ⟨Nat.zero_le _, Nat.zero_le _⟩) (fun v_366 ev_366 => ?_)
  subst ev_366
  refine lv_if_eq (tgt := 18) hx hb d_M_debt_8 (by decide) (fun c_367 => ?_) (fun c_367 => ?_)
  · refine lv_aload_n hx hb d_M_debt_18 rfl (lv_at hl 0 rfl) ?_
    refine lv_iconst (v := 1) hx hb d_M_debt_19 (by decide) ?_
    refine va_calli (va_runV (As := [.int (1)]) (rest := []) ⟨hx, hb, hml, hown, hts⟩ (c_M_fails l D A w cI cL cD k h0 ma y (1) hU.1) (cwV 1 hts (gV _ mB_469 mB_470 mB_4 mB_17 mB_471) rfl rfl rfl (by decide +kernel) ⟨(Nat.le_of_ble_eq_true rfl), (Nat.le_of_ble_eq_true rfl)⟩) ⟨mPc_bl, va_recv hK hP (ci := 3) (q0 := k) rfl hU.o, mPc_pr hP hK hD⟩ rfl rfl hl.1 rfl (lv_room (Nat.le_of_ble_eq_true rfl)) d_M_debt_20 ⟨Nat.zero_le _, Nat.zero_le _⟩) hS (fun _ _ h => h) (fun _ h => h) (fun v_368 u9 t H locs ht hvm ev_368 hB hz1 hk1 hS => ?_)
    obtain ⟨w_369, hP, hD, hU1⟩ := hB
    rw [ht] at hP
    have hU := hU.tr hU1
    subst ev_368
    exact W.iret (v := (g_fails y (1)).1) hx hb hr (fun t ht hW => ⟨⟨_, (), rfl, by rw [g_debt, if_pos c_367], w_369, by rw [ht]; exact hP, hD, by rw [g_debt, if_pos c_367]; exact hU⟩, hS.F ht⟩) hS.2.2 d_M_debt_23
  · refine lv_iload_n hx hb d_M_debt_11 rfl (lv_at hl 2 rfl) ?_
    refine vp_callSi (W.runS (As := [.int (who)]) (rest := []) ⟨hx, hb, hml, hown, hts⟩ (c_M_isPerson l (who)) (cwS 1 hts (gS _ mB_481 mB_482 mB_17 mB_483) rfl rfl rfl (by decide +kernel) ⟨(Nat.le_of_ble_eq_true rfl), (Nat.le_of_ble_eq_true rfl)⟩) ⟨fun _ _ _ _ q => q, fun U _ _ => ⟨rfl, trivial⟩⟩ rfl rfl hl.1 rfl (lv_room (Nat.le_of_ble_eq_true rfl)) d_M_debt_12 ⟨Nat.zero_le _, Nat.zero_le _⟩) (fun v_370 ev_370 => ?_)
    subst ev_370
    refine lv_if_ne (tgt := 24) hx hb d_M_debt_15 (by decide) (fun c_371 => ?_) (fun c_371 => ?_)
    · refine lv_aload_n hx hb d_M_debt_24 rfl (lv_at hl 0 rfl) ?_
      refine va_get (D := D) (ci := 3) (v := .int (m_debts y)) (C := R_M) (T := F_M) (N := 23) hx hb hts (in_M _) hown hK hP k hU.o rfl 6 (by decide) (hts (.fieldLink R_M 72 "DebtRowsModel" "debts" "I") (List.mem_cons_of_mem _ mB_420)) (fun _ h9 => h9) rfl d_M_debt_25 ?_
      refine lv_bipush (v := 40) hx hb d_M_debt_28 (by decide) ?_
      refine lv_icmp_ne (tgt := 39) hx hb d_M_debt_30 (by decide) (fun c_372 => ?_) (fun c_372 => ?_)
      · refine lv_aload_n hx hb d_M_debt_39 rfl (lv_at hl 0 rfl) ?_
        refine lv_iconst (v := 0) hx hb d_M_debt_40 (by decide) ?_
        refine va_put (D := D) (ci := 3) (v := .int (0)) (ty := .int) (C := R_M) (T := F_M) (N := 23) hx hb hts (in_M _) t_M to_M nn_M hown hK hP hD hS k hU.o rfl 0 (by decide) (hts (.fieldLink R_M 68 "DebtRowsModel" "thrown" "I") (List.mem_cons_of_mem _ mB_414)) (fun _ h9 => h9) rfl (by decide +kernel) rfl rfl (Nat.le_of_ble_eq_true rfl) d_M_debt_41 (fun H locs hP hD hS => ?_)
        have hU := hU.s_thrown (0)
        have hP : va_P D vwCl (w.set k (h0, mE ma (n_thrown y (0)))) H := hP
        have hD : va_D A (w.set k (h0, mE ma (n_thrown y (0)))) := hD
        generalize w.set k (h0, mE ma (n_thrown y (0))) = w_373 at hP hD hU
        refine lv_aload_n hx hb d_M_debt_44 rfl (lv_at hl 0 rfl) ?_
        refine lv_dup hx hb d_M_debt_45 rfl ?_
        refine va_get (D := D) (ci := 3) (v := .int (m_debts y)) (C := R_M) (T := F_M) (N := 23) hx hb hts (in_M _) hown hK hP k hU.o rfl 6 (by decide) (hts (.fieldLink R_M 72 "DebtRowsModel" "debts" "I") (List.mem_cons_of_mem _ mB_420)) (fun _ h9 => h9) rfl d_M_debt_46 ?_
        refine lv_iconst (v := 1) hx hb d_M_debt_49 (by decide) ?_
        refine lv_iadd hx hb d_M_debt_50 ?_
        refine va_put (D := D) (ci := 3) (v := .int ((m_debts y + 1))) (ty := .int) (C := R_M) (T := F_M) (N := 23) hx hb hts (in_M _) t_M to_M nn_M hown hK hP hD hS k hU.o rfl 6 (by decide) (hts (.fieldLink R_M 72 "DebtRowsModel" "debts" "I") (List.mem_cons_of_mem _ mB_420)) (fun _ h9 => h9) rfl (by decide +kernel) rfl rfl (Nat.le_of_ble_eq_true rfl) d_M_debt_51 (fun H locs hP hD hS => ?_)
        have hU := hU.s_debts ((m_debts y + 1))
        have hP : va_P D vwCl (w_373.set k (h0, mE ma (n_debts (n_thrown y (0)) ((m_debts y + 1))))) H := hP
        have hD : va_D A (w_373.set k (h0, mE ma (n_debts (n_thrown y (0)) ((m_debts y + 1))))) := hD
        generalize w_373.set k (h0, mE ma (n_debts (n_thrown y (0)) ((m_debts y + 1)))) = w_374 at hP hD hU
        refine lv_aload_n hx hb d_M_debt_54 rfl (lv_at hl 0 rfl) ?_
        refine va_get (D := D) (ci := 3) (v := .ref (ma 6)) (C := R_M) (T := F_M) (N := 23) hx hb hts (in_M _) hown hK hP k hU.o rfl 10 (by decide) (hts (.fieldLink R_M 28 "DebtRowsModel" "cents" "[J") (List.mem_cons_of_mem _ mB_424)) (fun _ h9 => h9) rfl d_M_debt_55 ?_
        refine lv_aload_n hx hb d_M_debt_58 rfl (lv_at hl 0 rfl) ?_
        refine va_get (D := D) (ci := 3) (v := .int ((m_debts y + 1))) (C := R_M) (T := F_M) (N := 23) hx hb hts (in_M _) hown hK hP k hU.o rfl 6 (by decide) (hts (.fieldLink R_M 72 "DebtRowsModel" "debts" "I") (List.mem_cons_of_mem _ mB_420)) (fun _ h9 => h9) rfl d_M_debt_59 ?_
        refine lv_lload_n hx hb d_M_debt_62 rfl (lv_at hl 1 rfl) ?_
        refine va_last hx hb hK hP hD hS (k + 7) 1 hU.a6 rfl ((in_nd hw c_372).1) d_M_debt_63 (fun H locs hP hD hS => ?_)
        have hU := hU.s_cents (vp_updL (m_cents y) ((m_debts y + 1)).toNatClampNeg (n))
        have hP : va_P D vwCl (w_374.set (k + 7) (ma 6, aL cL 41 (vp_updL (m_cents y) ((m_debts y + 1)).toNatClampNeg (n)))) H := hP
        have hD : va_D A (w_374.set (k + 7) (ma 6, aL cL 41 (vp_updL (m_cents y) ((m_debts y + 1)).toNatClampNeg (n)))) := hD
        generalize w_374.set (k + 7) (ma 6, aL cL 41 (vp_updL (m_cents y) ((m_debts y + 1)).toNatClampNeg (n))) = w_375 at hP hD hU
        refine lv_aload_n hx hb d_M_debt_64 rfl (lv_at hl 0 rfl) ?_
        refine va_get (D := D) (ci := 3) (v := .ref (ma 7)) (C := R_M) (T := F_M) (N := 23) hx hb hts (in_M _) hown hK hP k hU.o rfl 11 (by decide) (hts (.fieldLink R_M 32 "DebtRowsModel" "open" "[J") (List.mem_cons_of_mem _ mB_425)) (fun _ h9 => h9) rfl d_M_debt_65 ?_
        refine lv_aload_n hx hb d_M_debt_68 rfl (lv_at hl 0 rfl) ?_
        refine va_get (D := D) (ci := 3) (v := .int ((m_debts y + 1))) (C := R_M) (T := F_M) (N := 23) hx hb hts (in_M _) hown hK hP k hU.o rfl 6 (by decide) (hts (.fieldLink R_M 72 "DebtRowsModel" "debts" "I") (List.mem_cons_of_mem _ mB_420)) (fun _ h9 => h9) rfl d_M_debt_69 ?_
        refine lv_lload_n hx hb d_M_debt_72 rfl (lv_at hl 1 rfl) ?_
        refine va_last hx hb hK hP hD hS (k + 8) 1 hU.a7 rfl ((in_nd hw c_372).1) d_M_debt_73 (fun H locs hP hD hS => ?_)
        have hU := hU.s_open (vp_updL (m_open y) ((m_debts y + 1)).toNatClampNeg (n))
        have hP : va_P D vwCl (w_375.set (k + 8) (ma 7, aL cL 41 (vp_updL (m_open y) ((m_debts y + 1)).toNatClampNeg (n)))) H := hP
        have hD : va_D A (w_375.set (k + 8) (ma 7, aL cL 41 (vp_updL (m_open y) ((m_debts y + 1)).toNatClampNeg (n)))) := hD
        generalize w_375.set (k + 8) (ma 7, aL cL 41 (vp_updL (m_open y) ((m_debts y + 1)).toNatClampNeg (n))) = w_376 at hP hD hU
        refine lv_aload_n hx hb d_M_debt_74 rfl (lv_at hl 0 rfl) ?_
        refine va_get (D := D) (ci := 3) (v := .ref (ma 4)) (C := R_M) (T := F_M) (N := 23) hx hb hts (in_M _) hown hK hP k hU.o rfl 8 (by decide) (hts (.fieldLink R_M 22 "DebtRowsModel" "born" "[I") (List.mem_cons_of_mem _ mB_422)) (fun _ h9 => h9) rfl d_M_debt_75 ?_
        refine lv_aload_n hx hb d_M_debt_78 rfl (lv_at hl 0 rfl) ?_
        refine va_get (D := D) (ci := 3) (v := .int ((m_debts y + 1))) (C := R_M) (T := F_M) (N := 23) hx hb hts (in_M _) hown hK hP k hU.o rfl 6 (by decide) (hts (.fieldLink R_M 72 "DebtRowsModel" "debts" "I") (List.mem_cons_of_mem _ mB_420)) (fun _ h9 => h9) rfl d_M_debt_79 ?_
        refine lv_aload_n hx hb d_M_debt_82 rfl (lv_at hl 0 rfl) ?_
        refine va_get (D := D) (ci := 3) (v := .int (m_today y)) (C := R_M) (T := F_M) (N := 23) hx hb hts (in_M _) hown hK hP k hU.o rfl 1 (by decide) (hts (.fieldLink R_M 79 "DebtRowsModel" "today" "I") (List.mem_cons_of_mem _ mB_415)) (fun _ h9 => h9) rfl d_M_debt_83 ?_
        refine va_iast hx hb hK hP hD hS (k + 5) 0 hU.a4 rfl ((in_nd hw c_372).1) d_M_debt_86 (fun H locs hP hD hS => ?_)
        have hU := hU.s_born (upd (m_born y) ((m_debts y + 1)).toNatClampNeg (m_today y))
        have hP : va_P D vwCl (w_376.set (k + 5) (ma 4, aI cI 41 (upd (m_born y) ((m_debts y + 1)).toNatClampNeg (m_today y)))) H := hP
        have hD : va_D A (w_376.set (k + 5) (ma 4, aI cI 41 (upd (m_born y) ((m_debts y + 1)).toNatClampNeg (m_today y)))) := hD
        generalize w_376.set (k + 5) (ma 4, aI cI 41 (upd (m_born y) ((m_debts y + 1)).toNatClampNeg (m_today y))) = w_377 at hP hD hU
        refine lv_aload_n hx hb d_M_debt_87 rfl (lv_at hl 0 rfl) ?_
        refine va_get (D := D) (ci := 3) (v := .ref (ma 5)) (C := R_M) (T := F_M) (N := 23) hx hb hts (in_M _) hown hK hP k hU.o rfl 9 (by decide) (hts (.fieldLink R_M 25 "DebtRowsModel" "dueDay" "[I") (List.mem_cons_of_mem _ mB_423)) (fun _ h9 => h9) rfl d_M_debt_88 ?_
        refine lv_aload_n hx hb d_M_debt_91 rfl (lv_at hl 0 rfl) ?_
        refine va_get (D := D) (ci := 3) (v := .int ((m_debts y + 1))) (C := R_M) (T := F_M) (N := 23) hx hb hts (in_M _) hown hK hP k hU.o rfl 6 (by decide) (hts (.fieldLink R_M 72 "DebtRowsModel" "debts" "I") (List.mem_cons_of_mem _ mB_420)) (fun _ h9 => h9) rfl d_M_debt_92 ?_
        refine lv_iconst (v := -1) hx hb d_M_debt_95 (by decide) ?_
        refine va_iast hx hb hK hP hD hS (k + 6) 0 hU.a5 rfl ((in_nd hw c_372).1) d_M_debt_96 (fun H locs hP hD hS => ?_)
        have hU := hU.s_dueDay (upd (m_dueDay y) ((m_debts y + 1)).toNatClampNeg (-1))
        have hP : va_P D vwCl (w_377.set (k + 6) (ma 5, aI cI 41 (upd (m_dueDay y) ((m_debts y + 1)).toNatClampNeg (-1)))) H := hP
        have hD : va_D A (w_377.set (k + 6) (ma 5, aI cI 41 (upd (m_dueDay y) ((m_debts y + 1)).toNatClampNeg (-1)))) := hD
        generalize w_377.set (k + 6) (ma 5, aI cI 41 (upd (m_dueDay y) ((m_debts y + 1)).toNatClampNeg (-1))) = w_378 at hP hD hU
        refine lv_aload_n hx hb d_M_debt_97 rfl (lv_at hl 0 rfl) ?_
        refine va_get (D := D) (ci := 3) (v := .ref (ma 15)) (C := R_M) (T := F_M) (N := 23) hx hb hts (in_M _) hown hK hP k hU.o rfl 19 (by decide) (hts (.fieldLink R_M 56 "DebtRowsModel" "debtors" "[I") (List.mem_cons_of_mem _ mB_433)) (fun _ h9 => h9) rfl d_M_debt_98 ?_
        refine lv_aload_n hx hb d_M_debt_101 rfl (lv_at hl 0 rfl) ?_
        refine va_get (D := D) (ci := 3) (v := .int ((m_debts y + 1))) (C := R_M) (T := F_M) (N := 23) hx hb hts (in_M _) hown hK hP k hU.o rfl 6 (by decide) (hts (.fieldLink R_M 72 "DebtRowsModel" "debts" "I") (List.mem_cons_of_mem _ mB_420)) (fun _ h9 => h9) rfl d_M_debt_102 ?_
        refine lv_iconst (v := 1) hx hb d_M_debt_105 (by decide) ?_
        refine va_iast hx hb hK hP hD hS (k + 16) 0 hU.a15 rfl ((in_nd hw c_372).1) d_M_debt_106 (fun H locs hP hD hS => ?_)
        have hU := hU.s_debtors (upd (m_debtors y) ((m_debts y + 1)).toNatClampNeg (1))
        have hP : va_P D vwCl (w_378.set (k + 16) (ma 15, aI cI 41 (upd (m_debtors y) ((m_debts y + 1)).toNatClampNeg (1)))) H := hP
        have hD : va_D A (w_378.set (k + 16) (ma 15, aI cI 41 (upd (m_debtors y) ((m_debts y + 1)).toNatClampNeg (1)))) := hD
        generalize w_378.set (k + 16) (ma 15, aI cI 41 (upd (m_debtors y) ((m_debts y + 1)).toNatClampNeg (1))) = w_379 at hP hD hU
        refine lv_aload_n hx hb d_M_debt_107 rfl (lv_at hl 0 rfl) ?_
        refine va_get (D := D) (ci := 3) (v := .ref (ma 16)) (C := R_M) (T := F_M) (N := 23) hx hb hts (in_M _) hown hK hP k hU.o rfl 20 (by decide) (hts (.fieldLink R_M 59 "DebtRowsModel" "debtor" "[I") (List.mem_cons_of_mem _ mB_434)) (fun _ h9 => h9) rfl d_M_debt_108 ?_
        refine lv_iconst (v := 4) hx hb d_M_debt_111 (by decide) ?_
        refine lv_aload_n hx hb d_M_debt_112 rfl (lv_at hl 0 rfl) ?_
        refine va_get (D := D) (ci := 3) (v := .int ((m_debts y + 1))) (C := R_M) (T := F_M) (N := 23) hx hb hts (in_M _) hown hK hP k hU.o rfl 6 (by decide) (hts (.fieldLink R_M 72 "DebtRowsModel" "debts" "I") (List.mem_cons_of_mem _ mB_420)) (fun _ h9 => h9) rfl d_M_debt_113 ?_
        refine lv_imul hx hb d_M_debt_116 ?_
        refine lv_iload_n hx hb d_M_debt_117 rfl (lv_at hl 2 rfl) ?_
        refine va_iast hx hb hK hP hD hS (k + 17) 0 hU.a16 rfl ((in_nd hw c_372).2) d_M_debt_118 (fun H locs hP hD hS => ?_)
        have hU := hU.s_debtor (upd (m_debtor y) ((4 * (m_debts y + 1))).toNatClampNeg (who))
        have hP : va_P D vwCl (w_379.set (k + 17) (ma 16, aI cI 164 (upd (m_debtor y) ((4 * (m_debts y + 1))).toNatClampNeg (who)))) H := hP
        have hD : va_D A (w_379.set (k + 17) (ma 16, aI cI 164 (upd (m_debtor y) ((4 * (m_debts y + 1))).toNatClampNeg (who)))) := hD
        generalize w_379.set (k + 17) (ma 16, aI cI 164 (upd (m_debtor y) ((4 * (m_debts y + 1))).toNatClampNeg (who))) = w_380 at hP hD hU
        refine lv_aload_n hx hb d_M_debt_119 rfl (lv_at hl 0 rfl) ?_
        refine va_get (D := D) (ci := 3) (v := .int ((m_debts y + 1))) (C := R_M) (T := F_M) (N := 23) hx hb hts (in_M _) hown hK hP k hU.o rfl 6 (by decide) (hts (.fieldLink R_M 72 "DebtRowsModel" "debts" "I") (List.mem_cons_of_mem _ mB_420)) (fun _ h9 => h9) rfl d_M_debt_120 ?_
        exact W.iret (v := (m_debts y + 1)) hx hb hr (fun t ht hW => ⟨⟨_, (), rfl, by rw [g_debt, if_neg c_367, if_neg c_371, if_neg c_372], w_380, by rw [ht]; exact hP, hD, by rw [g_debt, if_neg c_367, if_neg c_371, if_neg c_372]; exact hU⟩, hS.F ht⟩) hS.2.2 d_M_debt_123
      · refine lv_aload_n hx hb d_M_debt_33 rfl (lv_at hl 0 rfl) ?_
        refine lv_iconst (v := 2) hx hb d_M_debt_34 (by decide) ?_
        refine va_calli (va_runV (As := [.int (2)]) (rest := []) ⟨hx, hb, hml, hown, hts⟩ (c_M_fails l D A w cI cL cD k h0 ma y (2) hU.1) (cwV 1 hts (gV _ mB_469 mB_470 mB_4 mB_17 mB_471) rfl rfl rfl (by decide +kernel) ⟨(Nat.le_of_ble_eq_true rfl), (Nat.le_of_ble_eq_true rfl)⟩) ⟨mPc_bl, va_recv hK hP (ci := 3) (q0 := k) rfl hU.o, mPc_pr hP hK hD⟩ rfl rfl hl.1 rfl (lv_room (Nat.le_of_ble_eq_true rfl)) d_M_debt_35 ⟨Nat.zero_le _, Nat.zero_le _⟩) hS (fun _ _ h => h) (fun _ h => h) (fun v_381 u9 t H locs ht hvm ev_381 hB hz1 hk1 hS => ?_)
        obtain ⟨w_382, hP, hD, hU1⟩ := hB
        rw [ht] at hP
        have hU := hU.tr hU1
        subst ev_381
        exact W.iret (v := (g_fails y (2)).1) hx hb hr (fun t ht hW => ⟨⟨_, (), rfl, by rw [g_debt, if_neg c_367, if_neg c_371, if_pos c_372], w_382, by rw [ht]; exact hP, hD, by rw [g_debt, if_neg c_367, if_neg c_371, if_pos c_372]; exact hU⟩, hS.F ht⟩) hS.2.2 d_M_debt_38
    · refine lv_aload_n hx hb d_M_debt_18 rfl (lv_at hl 0 rfl) ?_
      refine lv_iconst (v := 1) hx hb d_M_debt_19 (by decide) ?_
      refine va_calli (va_runV (As := [.int (1)]) (rest := []) ⟨hx, hb, hml, hown, hts⟩ (c_M_fails l D A w cI cL cD k h0 ma y (1) hU.1) (cwV 1 hts (gV _ mB_469 mB_470 mB_4 mB_17 mB_471) rfl rfl rfl (by decide +kernel) ⟨(Nat.le_of_ble_eq_true rfl), (Nat.le_of_ble_eq_true rfl)⟩) ⟨mPc_bl, va_recv hK hP (ci := 3) (q0 := k) rfl hU.o, mPc_pr hP hK hD⟩ rfl rfl hl.1 rfl (lv_room (Nat.le_of_ble_eq_true rfl)) d_M_debt_20 ⟨Nat.zero_le _, Nat.zero_le _⟩) hS (fun _ _ h => h) (fun _ h => h) (fun v_383 u9 t H locs ht hvm ev_383 hB hz1 hk1 hS => ?_)
      obtain ⟨w_384, hP, hD, hU1⟩ := hB
      rw [ht] at hP
      have hU := hU.tr hU1
      subst ev_383
      exact W.iret (v := (g_fails y (1)).1) hx hb hr (fun t ht hW => ⟨⟨_, (), rfl, by rw [g_debt, if_neg c_367, if_pos c_371], w_384, by rw [ht]; exact hP, hD, by rw [g_debt, if_neg c_367, if_pos c_371]; exact hU⟩, hS.F ht⟩) hS.2.2 d_M_debt_23
