def g_daysOf (y : MT) (row : Int32) (be : Int32) (ut : Int32) : Int64 :=
  if m_rates y ≤ (row + 1) then (if (if ((m_from y) (row).toNatClampNeg) ≤ (be + 1) then (be + 1) else ((m_from y) (row).toNatClampNeg)) ≤ ut then (((ut - (if ((m_from y) (row).toNatClampNeg) ≤ (be + 1) then (be + 1) else ((m_from y) (row).toNatClampNeg))) + 1) : Int32).toInt64
    else 0)
  else if ut ≤ (((m_from y) ((row + 1)).toNatClampNeg) - 1) then (if (if ((m_from y) (row).toNatClampNeg) ≤ (be + 1) then (be + 1) else ((m_from y) (row).toNatClampNeg)) ≤ ut then (((ut - (if ((m_from y) (row).toNatClampNeg) ≤ (be + 1) then (be + 1) else ((m_from y) (row).toNatClampNeg))) + 1) : Int32).toInt64
      else 0)
    else if (if ((m_from y) (row).toNatClampNeg) ≤ (be + 1) then (be + 1) else ((m_from y) (row).toNatClampNeg)) ≤ (((m_from y) ((row + 1)).toNatClampNeg) - 1) then ((((((m_from y) ((row + 1)).toNatClampNeg) - 1) - (if ((m_from y) (row).toNatClampNeg) ≤ (be + 1) then (be + 1) else ((m_from y) (row).toNatClampNeg))) + 1) : Int32).toInt64
      else 0
set_option maxHeartbeats 4000000 in
set_option maxRecDepth 100000 in
theorem c_M_daysOf (l : Launch) (D : va_G) (A : Nat → Prop) (w : va_W) (cI cL cD : ClassId) (k h0 : Nat) (ma : Nat → Nat) (y : MT) (row : Int32) (be : Int32) (ut : Int32) (hU0 : mA w k cI cL h0 ma y) (hr1 : vp_in row 20) (hr2 : ¬ m_rates y ≤ (row + 1) → vp_in (row + 1) 20) : Met l y_M_daysOf w_M_daysOf ({ frames := 0, cells := 0, slots := 0, locals := 0 }) (mPc D w (tyL cI cL cD) A [.ref h0, .int (row), .int (be), .int (ut)]) (vp_Sl (fun z9 => z9 = g_daysOf y row be ut)) 0 0 (fun _ => False) := by
  refine Met.ofW (cc := b_M_daysOf) (maxL := 6) (ret := (some .long)) (by decide) rfl ?_
  intro p e s m args below meth c s₁ B hml hv
  obtain ⟨rfl, hP, hK, hD⟩ := hv
  have hx := B.exec
  have hb := B.bytes
  have hr := B.returns
  have hts := atoms_spec (ws := w_M_daysOf) B.pre
  have hown : s.vm.findClass R_M = some m.cls := findClass_of_methodNamed B.named
  have hlocks := B.notSynchronized
  have hS : va_S A s.heap s.heap [] := va_S.rf
  have hU : mUpd w w k cI cL h0 ma y := mUpd.rf hU0
  have hl := lv_entry ([.ref h0, .int (row), .int (be), .int (ut)]) (n := 6) (Nat.le_of_ble_eq_true rfl)
  rw [lg_entry_eq]
  generalize (lg_sl ([.ref h0, .int (row), .int (be), .int (ut)]) ++ List.replicate (6 - (lg_sl ([.ref h0, .int (row), .int (be), .int (ut)])).length) Slot.unset).toArray = ls at hl ⊢
  have hl : lv_has ls 6 [(0, .ref h0), (1, .int (row)), (2, .int (be)), (3, .int (ut))] := hl
  refine lv_aload_n hx hb d_M_daysOf_0 rfl (lv_at hl 0 rfl) ?_
  refine va_get (D := D) (ci := 3) (v := .ref (ma 0)) (C := R_M) (T := F_M) (N := 23) hx hb hts (in_M _) hown hK hP k hU.o rfl 3 (by decide) (hts (.fieldLink R_M 7 "DebtRowsModel" "from" "[I") (List.mem_cons_of_mem _ mB_417)) (fun _ h9 => h9) rfl d_M_daysOf_1 ?_
  refine lv_iload_n hx hb d_M_daysOf_4 rfl (lv_at hl 1 rfl) ?_
  refine va_iald hx hb hK hP (k + 1) 0 hU.a0 rfl (hr1) d_M_daysOf_5 ?_
  refine lv_iload_n hx hb d_M_daysOf_6 rfl (lv_at hl 2 rfl) ?_
  refine lv_iconst (v := 1) hx hb d_M_daysOf_7 (by decide) ?_
  refine lv_iadd hx hb d_M_daysOf_8 ?_
  have kont_c_411 : ∀ v9 : Int32, v9 = (if ((m_from y) (row).toNatClampNeg) ≤ (be + 1) then (be + 1) else ((m_from y) (row).toNatClampNeg)) → W p l e (headSpec w_M_daysOf ({ frames := 0, cells := 0, slots := 0, locals := 0 })).room s m [.ref h0, .int (row), .int (be), .int (ut)].toArray below meth c s.heap [] 0 0 (MQ below (vp_Sl (fun z9 => z9 = g_daysOf y row be ut)) [.ref h0, .int (row), .int (be), .int (ut)].toArray s 0 0 (fun _ => False)) (F0 m 24 ls (.int v9 :: [])) := by
    intro v9 ev9
    subst ev9
    refine lv_istore (lv' := [(4, .int ((if ((m_from y) (row).toNatClampNeg) ≤ (be + 1) then (be + 1) else ((m_from y) (row).toNatClampNeg)))), (0, .ref h0), (1, .int (row)), (2, .int (be)), (3, .int (ut))]) hx hb d_M_daysOf_24 hl (by decide) rfl (fun ls hl => ?_)
    refine lv_iload_n hx hb d_M_daysOf_26 rfl (lv_at hl 2 rfl) ?_
    refine lv_iconst (v := 1) hx hb d_M_daysOf_27 (by decide) ?_
    refine lv_iadd hx hb d_M_daysOf_28 ?_
    refine lv_aload_n hx hb d_M_daysOf_29 rfl (lv_at hl 1 rfl) ?_
    refine va_get (D := D) (ci := 3) (v := .int (m_rates y)) (C := R_M) (T := F_M) (N := 23) hx hb hts (in_M _) hown hK hP k hU.o rfl 2 (by decide) (hts (.fieldLink R_M 83 "DebtRowsModel" "rates" "I") (List.mem_cons_of_mem _ mB_416)) (fun _ h9 => h9) rfl d_M_daysOf_30 ?_
    refine lv_icmp_ge (tgt := 63) hx hb d_M_daysOf_33 (by decide) (fun c_412 => ?_) (fun c_412 => ?_)
    · refine lv_iload_n hx hb d_M_daysOf_63 rfl (lv_at hl 4 rfl) ?_
      refine lv_istore (lv' := [(5, .int (ut)), (4, .int ((if ((m_from y) (row).toNatClampNeg) ≤ (be + 1) then (be + 1) else ((m_from y) (row).toNatClampNeg)))), (0, .ref h0), (1, .int (row)), (2, .int (be)), (3, .int (ut))]) hx hb d_M_daysOf_64 hl (by decide) rfl (fun ls hl => ?_)
      refine lv_iload hx hb d_M_daysOf_66 (lv_at hl 0 rfl) ?_
      refine lv_iload hx hb d_M_daysOf_68 (lv_at hl 1 rfl) ?_
      refine lv_icmp_ge (tgt := 77) hx hb d_M_daysOf_70 (by decide) (fun c_413 => ?_) (fun c_413 => ?_)
      · refine lv_iload hx hb d_M_daysOf_77 (lv_at hl 0 rfl) ?_
        refine lv_iload hx hb d_M_daysOf_79 (lv_at hl 1 rfl) ?_
        refine lv_isub hx hb d_M_daysOf_81 ?_
        refine lv_iconst (v := 1) hx hb d_M_daysOf_82 (by decide) ?_
        refine lv_iadd hx hb d_M_daysOf_83 ?_
        refine lv_i2l hx hb d_M_daysOf_84 rfl ?_
        exact W.lret (v := (((ut - (if ((m_from y) (row).toNatClampNeg) ≤ (be + 1) then (be + 1) else ((m_from y) (row).toNatClampNeg))) + 1) : Int32).toInt64) hx hb hr (fun t ht hW => ⟨_, rfl, by rw [g_daysOf, if_pos c_412, if_pos c_413], ht⟩) t_nil d_M_daysOf_85
      · refine lv_lconst (v := 0) hx hb d_M_daysOf_73 (by decide) ?_
        refine lv_goto (tgt := 85) hx hb d_M_daysOf_74 (by decide) ?_
        exact W.lret (v := 0) hx hb hr (fun t ht hW => ⟨_, rfl, by rw [g_daysOf, if_pos c_412, if_neg c_413], ht⟩) t_nil d_M_daysOf_85
    · refine lv_aload_n hx hb d_M_daysOf_36 rfl (lv_at hl 1 rfl) ?_
      refine va_get (D := D) (ci := 3) (v := .ref (ma 0)) (C := R_M) (T := F_M) (N := 23) hx hb hts (in_M _) hown hK hP k hU.o rfl 3 (by decide) (hts (.fieldLink R_M 7 "DebtRowsModel" "from" "[I") (List.mem_cons_of_mem _ mB_417)) (fun _ h9 => h9) rfl d_M_daysOf_37 ?_
      refine lv_iload_n hx hb d_M_daysOf_40 rfl (lv_at hl 2 rfl) ?_
      refine lv_iconst (v := 1) hx hb d_M_daysOf_41 (by decide) ?_
      refine lv_iadd hx hb d_M_daysOf_42 ?_
      refine va_iald hx hb hK hP (k + 1) 0 hU.a0 rfl (hr2 c_412) d_M_daysOf_43 ?_
      refine lv_iconst (v := 1) hx hb d_M_daysOf_44 (by decide) ?_
      refine lv_isub hx hb d_M_daysOf_45 ?_
      refine lv_iload_n hx hb d_M_daysOf_46 rfl (lv_at hl 4 rfl) ?_
      refine lv_icmp_ge (tgt := 63) hx hb d_M_daysOf_47 (by decide) (fun c_414 => ?_) (fun c_414 => ?_)
      · refine lv_iload_n hx hb d_M_daysOf_63 rfl (lv_at hl 4 rfl) ?_
        refine lv_istore (lv' := [(5, .int (ut)), (4, .int ((if ((m_from y) (row).toNatClampNeg) ≤ (be + 1) then (be + 1) else ((m_from y) (row).toNatClampNeg)))), (0, .ref h0), (1, .int (row)), (2, .int (be)), (3, .int (ut))]) hx hb d_M_daysOf_64 hl (by decide) rfl (fun ls hl => ?_)
        refine lv_iload hx hb d_M_daysOf_66 (lv_at hl 0 rfl) ?_
        refine lv_iload hx hb d_M_daysOf_68 (lv_at hl 1 rfl) ?_
        refine lv_icmp_ge (tgt := 77) hx hb d_M_daysOf_70 (by decide) (fun c_415 => ?_) (fun c_415 => ?_)
        · refine lv_iload hx hb d_M_daysOf_77 (lv_at hl 0 rfl) ?_
          refine lv_iload hx hb d_M_daysOf_79 (lv_at hl 1 rfl) ?_
          refine lv_isub hx hb d_M_daysOf_81 ?_
          refine lv_iconst (v := 1) hx hb d_M_daysOf_82 (by decide) ?_
          refine lv_iadd hx hb d_M_daysOf_83 ?_
          refine lv_i2l hx hb d_M_daysOf_84 rfl ?_
          exact W.lret (v := (((ut - (if ((m_from y) (row).toNatClampNeg) ≤ (be + 1) then (be + 1) else ((m_from y) (row).toNatClampNeg))) + 1) : Int32).toInt64) hx hb hr (fun t ht hW => ⟨_, rfl, by rw [g_daysOf, if_neg c_412, if_pos c_414, if_pos c_415], ht⟩) t_nil d_M_daysOf_85
        · refine lv_lconst (v := 0) hx hb d_M_daysOf_73 (by decide) ?_
          refine lv_goto (tgt := 85) hx hb d_M_daysOf_74 (by decide) ?_
          exact W.lret (v := 0) hx hb hr (fun t ht hW => ⟨_, rfl, by rw [g_daysOf, if_neg c_412, if_pos c_414, if_neg c_415], ht⟩) t_nil d_M_daysOf_85
      · refine lv_aload_n hx hb d_M_daysOf_50 rfl (lv_at hl 1 rfl) ?_
        refine va_get (D := D) (ci := 3) (v := .ref (ma 0)) (C := R_M) (T := F_M) (N := 23) hx hb hts (in_M _) hown hK hP k hU.o rfl 3 (by decide) (hts (.fieldLink R_M 7 "DebtRowsModel" "from" "[I") (List.mem_cons_of_mem _ mB_417)) (fun _ h9 => h9) rfl d_M_daysOf_51 ?_
        refine lv_iload_n hx hb d_M_daysOf_54 rfl (lv_at hl 2 rfl) ?_
        refine lv_iconst (v := 1) hx hb d_M_daysOf_55 (by decide) ?_
        refine lv_iadd hx hb d_M_daysOf_56 ?_
        refine va_iald hx hb hK hP (k + 1) 0 hU.a0 rfl (hr2 c_412) d_M_daysOf_57 ?_
        refine lv_iconst (v := 1) hx hb d_M_daysOf_58 (by decide) ?_
        refine lv_isub hx hb d_M_daysOf_59 ?_
        refine lv_goto (tgt := 64) hx hb d_M_daysOf_60 (by decide) ?_
        refine lv_istore (lv' := [(5, .int ((((m_from y) ((row + 1)).toNatClampNeg) - 1))), (4, .int ((if ((m_from y) (row).toNatClampNeg) ≤ (be + 1) then (be + 1) else ((m_from y) (row).toNatClampNeg)))), (0, .ref h0), (1, .int (row)), (2, .int (be)), (3, .int (ut))]) hx hb d_M_daysOf_64 hl (by decide) rfl (fun ls hl => ?_)
        refine lv_iload hx hb d_M_daysOf_66 (lv_at hl 0 rfl) ?_
        refine lv_iload hx hb d_M_daysOf_68 (lv_at hl 1 rfl) ?_
        refine lv_icmp_ge (tgt := 77) hx hb d_M_daysOf_70 (by decide) (fun c_416 => ?_) (fun c_416 => ?_)
        · refine lv_iload hx hb d_M_daysOf_77 (lv_at hl 0 rfl) ?_
          refine lv_iload hx hb d_M_daysOf_79 (lv_at hl 1 rfl) ?_
          refine lv_isub hx hb d_M_daysOf_81 ?_
          refine lv_iconst (v := 1) hx hb d_M_daysOf_82 (by decide) ?_
          refine lv_iadd hx hb d_M_daysOf_83 ?_
          refine lv_i2l hx hb d_M_daysOf_84 rfl ?_
          exact W.lret (v := ((((((m_from y) ((row + 1)).toNatClampNeg) - 1) - (if ((m_from y) (row).toNatClampNeg) ≤ (be + 1) then (be + 1) else ((m_from y) (row).toNatClampNeg))) + 1) : Int32).toInt64) hx hb hr (fun t ht hW => ⟨_, rfl, by rw [g_daysOf, if_neg c_412, if_neg c_414, if_pos c_416], ht⟩) t_nil d_M_daysOf_85
        · refine lv_lconst (v := 0) hx hb d_M_daysOf_73 (by decide) ?_
          refine lv_goto (tgt := 85) hx hb d_M_daysOf_74 (by decide) ?_
          exact W.lret (v := 0) hx hb hr (fun t ht hW => ⟨_, rfl, by rw [g_daysOf, if_neg c_412, if_neg c_414, if_neg c_416], ht⟩) t_nil d_M_daysOf_85
  refine lv_icmp_le (tgt := 21) hx hb d_M_daysOf_9 (by decide) (fun c_411 => ?_) (fun c_411 => ?_)
  · refine lv_iload_n hx hb d_M_daysOf_21 rfl (lv_at hl 2 rfl) ?_
    refine lv_iconst (v := 1) hx hb d_M_daysOf_22 (by decide) ?_
    refine lv_iadd hx hb d_M_daysOf_23 ?_
    exact kont_c_411 _ (by rw [if_pos c_411])
  · refine lv_aload_n hx hb d_M_daysOf_12 rfl (lv_at hl 0 rfl) ?_
    refine va_get (D := D) (ci := 3) (v := .ref (ma 0)) (C := R_M) (T := F_M) (N := 23) hx hb hts (in_M _) hown hK hP k hU.o rfl 3 (by decide) (hts (.fieldLink R_M 7 "DebtRowsModel" "from" "[I") (List.mem_cons_of_mem _ mB_417)) (fun _ h9 => h9) rfl d_M_daysOf_13 ?_
    refine lv_iload_n hx hb d_M_daysOf_16 rfl (lv_at hl 1 rfl) ?_
    refine va_iald hx hb hK hP (k + 1) 0 hU.a0 rfl (hr1) d_M_daysOf_17 ?_
    refine lv_goto (tgt := 24) hx hb d_M_daysOf_18 (by decide) ?_
    exact kont_c_411 _ (by rw [if_neg c_411])
def rnL (y : MT) (b : Int32) : Nat → Nat → Int64 → Int64
  | _, 0, t => t
  | i, n + 1, t => rnL y b (i + 1) n ((t + (((((m_open y) (b).toNatClampNeg) * (g_daysOf y (nI i) (((m_runsFrom y) (b).toNatClampNeg)) (m_today y))) * (((m_up y) i) : Int32).toInt64) / ((((m_down y) i) : Int32).toInt64 * 365))))
def g_running (y : MT) (b : Int32) : Int64 := if ((m_state y) (b).toNatClampNeg) = 1 then rnL y b 0 (m_rates y).toNatClampNeg 0 else 0
set_option maxHeartbeats 4000000 in
set_option maxRecDepth 100000 in
theorem c_M_running (l : Launch) (D : va_G) (A : Nat → Prop) (w : va_W) (cI cL cD : ClassId) (k h0 : Nat) (ma : Nat → Nat) (y : MT) (b : Int32) (hU0 : mA w k cI cL h0 ma y) (hw : wfM y) (hok : okM y b) : Met l y_M_running w_M_running ({ frames := 1, cells := 0, slots := 0, locals := 25 }) (mPc D w (tyL cI cL cD) A [.ref h0, .int (b)]) (vp_Sl (fun z9 => z9 = g_running y b)) 0 0 (fun _ => False) := by
  refine Met.ofW (cc := b_M_running) (maxL := 5) (ret := (some .long)) (by decide) rfl ?_
  intro p e s m args below meth c s₁ B hml hv
  obtain ⟨rfl, hP, hK, hD⟩ := hv
  have hx := B.exec
  have hb := B.bytes
  have hr := B.returns
  have hts := atoms_spec (ws := w_M_running) B.pre
  have hown : s.vm.findClass R_M = some m.cls := findClass_of_methodNamed B.named
  have hlocks := B.notSynchronized
  have hS : va_S A s.heap s.heap [] := va_S.rf
  have hU : mUpd w w k cI cL h0 ma y := mUpd.rf hU0
  have hl := lv_entry ([.ref h0, .int (b)]) (n := 5) (Nat.le_of_ble_eq_true rfl)
  rw [lg_entry_eq]
  generalize (lg_sl ([.ref h0, .int (b)]) ++ List.replicate (5 - (lg_sl ([.ref h0, .int (b)])).length) Slot.unset).toArray = ls at hl ⊢
  have hl : lv_has ls 5 [(0, .ref h0), (1, .int (b))] := hl
  refine lv_lconst (v := 0) hx hb d_M_running_0 (by decide) ?_
  refine lv_lstore_n (lv' := [(2, .long (0)), (0, .ref h0), (1, .int (b))]) hx hb d_M_running_1 rfl hl (by decide) rfl (fun ls hl => ?_)
  refine lv_iconst (v := 0) hx hb d_M_running_2 (by decide) ?_
  refine lv_istore (lv' := [(4, .int (0)), (2, .long (0)), (0, .ref h0), (1, .int (b))]) hx hb d_M_running_3 hl (by decide) rfl (fun ls hl => ?_)
  obtain ⟨mm, hmm, em, hdn⟩ := hw.2.1
  rcases Decidable.em (((m_state y) (b).toNatClampNeg) = 1) with hs | hs
  · have loop : ∀ (n i : Nat) (t0 : Int64), i + n = mm → rnL y b i n t0 = g_running y b → ∀ (ls : Array Slot), lv_has ls 5 [(4, .int (nI i)), (2, .long (t0)), (0, .ref h0), (1, .int (b))] → W p l e (headSpec w_M_running ({ frames := 1, cells := 0, slots := 0, locals := 25 })).room s m [.ref h0, .int (b)].toArray below meth c s.heap [] 0 0 (MQ below (vp_Sl (fun z9 => z9 = g_running y b)) [.ref h0, .int (b)].toArray s 0 0 (fun _ => False)) (F0 m 5 ls []) := by
      intro n
      induction n with
      | zero =>
        intro i t0 hin hv ls hl
        refine lv_iload hx hb d_M_running_5 (lv_at hl 0 rfl) ?_
        refine lv_aload_n hx hb d_M_running_7 rfl (lv_at hl 2 rfl) ?_
        refine va_get (D := D) (ci := 3) (v := .int (m_rates y)) (C := R_M) (T := F_M) (N := 23) hx hb hts (in_M _) hown hK hP k hU.o rfl 2 (by decide) (hts (.fieldLink R_M 83 "DebtRowsModel" "rates" "I") (List.mem_cons_of_mem _ mB_416)) (fun _ h9 => h9) rfl d_M_running_8 ?_
        refine lv_icmp_ge (tgt := 78) hx hb d_M_running_11 (by decide) (fun c_417 => ?_) (fun c_417 => ?_)
        · refine lv_lload_n hx hb d_M_running_78 rfl (lv_at hl 1 rfl) ?_
          exact W.lret (v := t0) hx hb hr (fun t ht hW => ⟨_, rfl, by rw [← hv]; rfl, ht⟩) t_nil d_M_running_79
        · exact absurd (by rw [em]; exact nI_le (by omega) (by omega)) c_417
      | succ n ih =>
        intro i t0 hin hv ls hl
        refine lv_iload hx hb d_M_running_5 (lv_at hl 0 rfl) ?_
        refine lv_aload_n hx hb d_M_running_7 rfl (lv_at hl 2 rfl) ?_
        refine va_get (D := D) (ci := 3) (v := .int (m_rates y)) (C := R_M) (T := F_M) (N := 23) hx hb hts (in_M _) hown hK hP k hU.o rfl 2 (by decide) (hts (.fieldLink R_M 83 "DebtRowsModel" "rates" "I") (List.mem_cons_of_mem _ mB_416)) (fun _ h9 => h9) rfl d_M_running_8 ?_
        refine lv_icmp_ge (tgt := 78) hx hb d_M_running_11 (by decide) (fun c_418 => ?_) (fun c_418 => ?_)
        · exact absurd c_418 (by rw [em]; exact nI_ge (by omega) (by omega))
        · refine lv_aload_n hx hb d_M_running_14 rfl (lv_at hl 2 rfl) ?_
          refine va_get (D := D) (ci := 3) (v := .ref (ma 3)) (C := R_M) (T := F_M) (N := 23) hx hb hts (in_M _) hown hK hP k hU.o rfl 7 (by decide) (hts (.fieldLink R_M 19 "DebtRowsModel" "state" "[I") (List.mem_cons_of_mem _ mB_421)) (fun _ h9 => h9) rfl d_M_running_15 ?_
          refine lv_iload_n hx hb d_M_running_18 rfl (lv_at hl 3 rfl) ?_
          refine va_iald hx hb hK hP (k + 4) 0 hU.a3 rfl (in_b hw hok) d_M_running_19 ?_
          refine lv_iconst (v := 1) hx hb d_M_running_20 (by decide) ?_
          refine lv_icmp_ne (tgt := 78) hx hb d_M_running_21 (by decide) (fun c_419 => ?_) (fun c_419 => ?_)
          · exact absurd (hs) c_419
          · refine lv_lload_n hx hb d_M_running_24 rfl (lv_at hl 1 rfl) ?_
            refine lv_aload_n hx hb d_M_running_25 rfl (lv_at hl 2 rfl) ?_
            refine va_get (D := D) (ci := 3) (v := .ref (ma 7)) (C := R_M) (T := F_M) (N := 23) hx hb hts (in_M _) hown hK hP k hU.o rfl 11 (by decide) (hts (.fieldLink R_M 32 "DebtRowsModel" "open" "[J") (List.mem_cons_of_mem _ mB_425)) (fun _ h9 => h9) rfl d_M_running_26 ?_
            refine lv_iload_n hx hb d_M_running_29 rfl (lv_at hl 3 rfl) ?_
            refine va_lald hx hb hK hP (k + 8) 1 hU.a7 rfl (in_b hw hok) d_M_running_30 ?_
            refine lv_aload_n hx hb d_M_running_31 rfl (lv_at hl 2 rfl) ?_
            refine lv_iload hx hb d_M_running_32 (lv_at hl 0 rfl) ?_
            refine lv_aload_n hx hb d_M_running_34 rfl (lv_at hl 2 rfl) ?_
            refine va_get (D := D) (ci := 3) (v := .ref (ma 10)) (C := R_M) (T := F_M) (N := 23) hx hb hts (in_M _) hown hK hP k hU.o rfl 14 (by decide) (hts (.fieldLink R_M 41 "DebtRowsModel" "runsFrom" "[I") (List.mem_cons_of_mem _ mB_428)) (fun _ h9 => h9) rfl d_M_running_35 ?_
            refine lv_iload_n hx hb d_M_running_38 rfl (lv_at hl 3 rfl) ?_
            refine va_iald hx hb hK hP (k + 11) 0 hU.a10 rfl (in_b hw hok) d_M_running_39 ?_
            refine lv_aload_n hx hb d_M_running_40 rfl (lv_at hl 2 rfl) ?_
            refine va_get (D := D) (ci := 3) (v := .int (m_today y)) (C := R_M) (T := F_M) (N := 23) hx hb hts (in_M _) hown hK hP k hU.o rfl 1 (by decide) (hts (.fieldLink R_M 79 "DebtRowsModel" "today" "I") (List.mem_cons_of_mem _ mB_415)) (fun _ h9 => h9) rfl d_M_running_41 ?_
            refine vp_callSl (W.runV (As := [.int (nI i), .int (((m_runsFrom y) (b).toNatClampNeg)), .int (m_today y)]) (rest := [.long (((m_open y) (b).toNatClampNeg)), .long (t0)]) ⟨hx, hb, hml, hown, hts⟩ (c_M_daysOf l D A w cI cL cD k h0 ma y (nI i) (((m_runsFrom y) (b).toNatClampNeg)) (m_today y) hU.1 (vp_in_nI (by omega) (by decide)) (in_row em hmm (by omega))) (cwV 3 hts (gV _ mB_511 mB_512 mB_10 mB_17 mB_513) rfl rfl rfl (by decide +kernel) ⟨(Nat.le_of_ble_eq_true rfl), (Nat.le_of_ble_eq_true rfl)⟩) ⟨mPc_bl, va_recv hK hP (ci := 3) (q0 := k) rfl hU.o, mPc_pr hP hK hD⟩ rfl rfl hl.1 rfl (lv_room (Nat.le_of_ble_eq_true rfl)) d_M_running_44 ⟨Nat.zero_le _, Nat.zero_le _⟩) (fun v_420 ev_420 => ?_)
            subst ev_420
            refine lv_lmul hx hb d_M_running_47 ?_
            refine lv_aload_n hx hb d_M_running_48 rfl (lv_at hl 2 rfl) ?_
            refine va_get (D := D) (ci := 3) (v := .ref (ma 1)) (C := R_M) (T := F_M) (N := 23) hx hb hts (in_M _) hown hK hP k hU.o rfl 4 (by decide) (hts (.fieldLink R_M 13 "DebtRowsModel" "up" "[I") (List.mem_cons_of_mem _ mB_418)) (fun _ h9 => h9) rfl d_M_running_49 ?_
            refine lv_iload hx hb d_M_running_52 (lv_at hl 0 rfl) ?_
            refine va_iald hx hb hK hP (k + 2) 0 hU.a1 rfl (vp_in_nI (by omega) (by decide)) d_M_running_54 ?_
            rw [nI_clamp (by omega)]
            refine lv_i2l hx hb d_M_running_55 rfl ?_
            refine lv_lmul hx hb d_M_running_56 ?_
            refine lv_aload_n hx hb d_M_running_57 rfl (lv_at hl 2 rfl) ?_
            refine va_get (D := D) (ci := 3) (v := .ref (ma 2)) (C := R_M) (T := F_M) (N := 23) hx hb hts (in_M _) hown hK hP k hU.o rfl 5 (by decide) (hts (.fieldLink R_M 16 "DebtRowsModel" "down" "[I") (List.mem_cons_of_mem _ mB_419)) (fun _ h9 => h9) rfl d_M_running_58 ?_
            refine lv_iload hx hb d_M_running_61 (lv_at hl 0 rfl) ?_
            refine va_iald hx hb hK hP (k + 3) 0 hU.a2 rfl (vp_in_nI (by omega) (by decide)) d_M_running_63 ?_
            rw [nI_clamp (by omega)]
            refine lv_i2l hx hb d_M_running_64 rfl ?_
            refine lv_ldc2 (own := R_M) (index := 107) (v := 365) hx hb hown (hts (.constantLong R_M 107 (365)) (List.mem_cons_of_mem _ mB_514)) d_M_running_65 ?_
            refine lv_lmul hx hb d_M_running_68 ?_
            refine lv_ldiv hx hb d_M_running_69 (n365 (hdn i (by omega))) ?_
            refine lv_ladd hx hb d_M_running_70 ?_
            refine lv_lstore_n (lv' := [(2, .long ((t0 + (((((m_open y) (b).toNatClampNeg) * (g_daysOf y (nI i) (((m_runsFrom y) (b).toNatClampNeg)) (m_today y))) * (((m_up y) i) : Int32).toInt64) / ((((m_down y) i) : Int32).toInt64 * 365))))), (4, .int (nI i)), (0, .ref h0), (1, .int (b))]) hx hb d_M_running_71 rfl hl (by decide) rfl (fun ls hl => ?_)
            refine lv_iinc (v := nI (i + 1)) (lv' := [(4, .int (nI (i + 1))), (2, .long ((t0 + (((((m_open y) (b).toNatClampNeg) * (g_daysOf y (nI i) (((m_runsFrom y) (b).toNatClampNeg)) (m_today y))) * (((m_up y) i) : Int32).toInt64) / ((((m_down y) i) : Int32).toInt64 * 365))))), (0, .ref h0), (1, .int (b))]) hx hb d_M_running_72 hl (k := 1) rfl (by first | exact nI_inc i | exact nI_inc (i + 1) | rfl) (by decide) rfl (fun ls hl => ?_)
            refine lv_goto (tgt := 5) hx hb d_M_running_75 (by decide) ?_
            exact ih (i + 1) ((t0 + (((((m_open y) (b).toNatClampNeg) * (g_daysOf y (nI i) (((m_runsFrom y) (b).toNatClampNeg)) (m_today y))) * (((m_up y) i) : Int32).toInt64) / ((((m_down y) i) : Int32).toInt64 * 365)))) (by omega) (by rw [← hv, rnL]) ls (lv_sub hl [0, 1, 2, 3] rfl)
    exact loop mm 0 0 (by omega) (by rw [g_running, if_pos hs, em, nI_clamp (by omega)]) ls hl
  · refine lv_iload hx hb d_M_running_5 (lv_at hl 0 rfl) ?_
    refine lv_aload_n hx hb d_M_running_7 rfl (lv_at hl 2 rfl) ?_
    refine va_get (D := D) (ci := 3) (v := .int (m_rates y)) (C := R_M) (T := F_M) (N := 23) hx hb hts (in_M _) hown hK hP k hU.o rfl 2 (by decide) (hts (.fieldLink R_M 83 "DebtRowsModel" "rates" "I") (List.mem_cons_of_mem _ mB_416)) (fun _ h9 => h9) rfl d_M_running_8 ?_
    refine lv_icmp_ge (tgt := 78) hx hb d_M_running_11 (by decide) (fun c_421 => ?_) (fun c_421 => ?_)
    · refine lv_lload_n hx hb d_M_running_78 rfl (lv_at hl 1 rfl) ?_
      exact W.lret (v := 0) hx hb hr (fun t ht hW => ⟨_, rfl, by rw [g_running, if_neg hs], ht⟩) t_nil d_M_running_79
    · refine lv_aload_n hx hb d_M_running_14 rfl (lv_at hl 2 rfl) ?_
      refine va_get (D := D) (ci := 3) (v := .ref (ma 3)) (C := R_M) (T := F_M) (N := 23) hx hb hts (in_M _) hown hK hP k hU.o rfl 7 (by decide) (hts (.fieldLink R_M 19 "DebtRowsModel" "state" "[I") (List.mem_cons_of_mem _ mB_421)) (fun _ h9 => h9) rfl d_M_running_15 ?_
      refine lv_iload_n hx hb d_M_running_18 rfl (lv_at hl 3 rfl) ?_
      refine va_iald hx hb hK hP (k + 4) 0 hU.a3 rfl (in_b hw hok) d_M_running_19 ?_
      refine lv_iconst (v := 1) hx hb d_M_running_20 (by decide) ?_
      refine lv_icmp_ne (tgt := 78) hx hb d_M_running_21 (by decide) (fun c_422 => ?_) (fun c_422 => ?_)
      · refine lv_lload_n hx hb d_M_running_78 rfl (lv_at hl 1 rfl) ?_
        exact W.lret (v := 0) hx hb hr (fun t ht hW => ⟨_, rfl, by rw [g_running, if_neg hs], ht⟩) t_nil d_M_running_79
      · exact absurd c_422 (hs)
def g_fix (y : MT) (b : Int32) : MT :=
  (n_runsFrom (n_fixed y (vp_updL (m_fixed y) (b).toNatClampNeg ((((m_fixed y) (b).toNatClampNeg) + (g_running y (b)))))) (upd (m_runsFrom y) (b).toNatClampNeg ((if ((m_runsFrom y) (b).toNatClampNeg) ≤ m_today y then m_today y else ((m_runsFrom y) (b).toNatClampNeg)))))
set_option maxHeartbeats 4000000 in
set_option maxRecDepth 100000 in
theorem c_M_fix (l : Launch) (D : va_G) (A : Nat → Prop) (w : va_W) (cI cL cD : ClassId) (k h0 : Nat) (ma : Nat → Nat) (y : MT) (b : Int32) (hU0 : mA w k cI cL h0 ma y) (hw : wfM y) (hok : okM y b) : Met l y_M_fix w_M_fix ({ frames := 2, cells := 0, slots := 0, locals := 49 }) (mPc D w (tyL cI cL cD) A [.ref h0, .int (b)]) (va_Qv (fun _ : Unit => True) (fun (_ : Unit) t => ∃ w9 : va_W, va_P D vwCl w9 t.heap ∧ va_D A w9 ∧ mUpd w w9 k cI cL h0 ma (g_fix y b)) A) 0 0 A := by
  refine Met.ofW (cc := b_M_fix) (maxL := 2) (ret := none) (by decide) rfl ?_
  intro p e s m args below meth c s₁ B hml hv
  obtain ⟨rfl, hP, hK, hD⟩ := hv
  have hx := B.exec
  have hb := B.bytes
  have hr := B.returns
  have hts := atoms_spec (ws := w_M_fix) B.pre
  have hown : s.vm.findClass R_M = some m.cls := findClass_of_methodNamed B.named
  have hlocks := B.notSynchronized
  have hS : va_S A s.heap s.heap [] := va_S.rf
  have hU : mUpd w w k cI cL h0 ma y := mUpd.rf hU0
  have hl := lv_entry ([.ref h0, .int (b)]) (n := 2) (Nat.le_of_ble_eq_true rfl)
  rw [lg_entry_eq]
  generalize (lg_sl ([.ref h0, .int (b)]) ++ List.replicate (2 - (lg_sl ([.ref h0, .int (b)])).length) Slot.unset).toArray = ls at hl ⊢
  have hl : lv_has ls 2 [(0, .ref h0), (1, .int (b))] := hl
  refine lv_aload_n hx hb d_M_fix_0 rfl (lv_at hl 0 rfl) ?_
  refine va_get (D := D) (ci := 3) (v := .ref (ma 9)) (C := R_M) (T := F_M) (N := 23) hx hb hts (in_M _) hown hK hP k hU.o rfl 13 (by decide) (hts (.fieldLink R_M 38 "DebtRowsModel" "fixed" "[J") (List.mem_cons_of_mem _ mB_427)) (fun _ h9 => h9) rfl d_M_fix_1 ?_
  refine lv_iload_n hx hb d_M_fix_4 rfl (lv_at hl 1 rfl) ?_
  refine lv_dup2_11 hx hb d_M_fix_5 rfl rfl ?_
  refine va_lald hx hb hK hP (k + 10) 1 hU.a9 rfl (in_b hw hok) d_M_fix_6 ?_
  refine lv_aload_n hx hb d_M_fix_7 rfl (lv_at hl 0 rfl) ?_
  refine lv_iload_n hx hb d_M_fix_8 rfl (lv_at hl 1 rfl) ?_
  refine vp_callSl (W.runV (As := [.int (b)]) (rest := [.long (((m_fixed y) (b).toNatClampNeg)), .int (b), .ref (ma 9)]) ⟨hx, hb, hml, hown, hts⟩ (c_M_running l D A w cI cL cD k h0 ma y (b) hU.1 hw hok) (cwV 1 hts (gV _ mB_508 mB_509 mB_9 mB_17 mB_510) rfl rfl rfl (by decide +kernel) ⟨(Nat.le_of_ble_eq_true rfl), (Nat.le_of_ble_eq_true rfl)⟩) ⟨mPc_bl, va_recv hK hP (ci := 3) (q0 := k) rfl hU.o, mPc_pr hP hK hD⟩ rfl rfl hl.1 rfl (lv_room (Nat.le_of_ble_eq_true rfl)) d_M_fix_9 ⟨Nat.zero_le _, Nat.zero_le _⟩) (fun v_423 ev_423 => ?_)
  subst ev_423
  refine lv_ladd hx hb d_M_fix_12 ?_
  refine va_last hx hb hK hP hD hS (k + 10) 1 hU.a9 rfl (in_b hw hok) d_M_fix_13 (fun H locs hP hD hS => ?_)
  have hU := hU.s_fixed (vp_updL (m_fixed y) (b).toNatClampNeg ((((m_fixed y) (b).toNatClampNeg) + (g_running y (b)))))
  have hP : va_P D vwCl (w.set (k + 10) (ma 9, aL cL 41 (vp_updL (m_fixed y) (b).toNatClampNeg ((((m_fixed y) (b).toNatClampNeg) + (g_running y (b))))))) H := hP
  have hD : va_D A (w.set (k + 10) (ma 9, aL cL 41 (vp_updL (m_fixed y) (b).toNatClampNeg ((((m_fixed y) (b).toNatClampNeg) + (g_running y (b))))))) := hD
  generalize w.set (k + 10) (ma 9, aL cL 41 (vp_updL (m_fixed y) (b).toNatClampNeg ((((m_fixed y) (b).toNatClampNeg) + (g_running y (b)))))) = w_424 at hP hD hU
  refine lv_aload_n hx hb d_M_fix_14 rfl (lv_at hl 0 rfl) ?_
  refine va_get (D := D) (ci := 3) (v := .ref (ma 10)) (C := R_M) (T := F_M) (N := 23) hx hb hts (in_M _) hown hK hP k hU.o rfl 14 (by decide) (hts (.fieldLink R_M 41 "DebtRowsModel" "runsFrom" "[I") (List.mem_cons_of_mem _ mB_428)) (fun _ h9 => h9) rfl d_M_fix_15 ?_
  refine lv_iload_n hx hb d_M_fix_18 rfl (lv_at hl 1 rfl) ?_
  refine lv_aload_n hx hb d_M_fix_19 rfl (lv_at hl 0 rfl) ?_
  refine va_get (D := D) (ci := 3) (v := .ref (ma 10)) (C := R_M) (T := F_M) (N := 23) hx hb hts (in_M _) hown hK hP k hU.o rfl 14 (by decide) (hts (.fieldLink R_M 41 "DebtRowsModel" "runsFrom" "[I") (List.mem_cons_of_mem _ mB_428)) (fun _ h9 => h9) rfl d_M_fix_20 ?_
  refine lv_iload_n hx hb d_M_fix_23 rfl (lv_at hl 1 rfl) ?_
  refine va_iald hx hb hK hP (k + 11) 0 hU.a10 rfl (in_b hw hok) d_M_fix_24 ?_
  refine lv_aload_n hx hb d_M_fix_25 rfl (lv_at hl 0 rfl) ?_
  refine va_get (D := D) (ci := 3) (v := .int (m_today y)) (C := R_M) (T := F_M) (N := 23) hx hb hts (in_M _) hown hK hP k hU.o rfl 1 (by decide) (hts (.fieldLink R_M 79 "DebtRowsModel" "today" "I") (List.mem_cons_of_mem _ mB_415)) (fun _ h9 => h9) rfl d_M_fix_26 ?_
  have kont_c_425 : ∀ v9 : Int32, v9 = (if ((m_runsFrom y) (b).toNatClampNeg) ≤ m_today y then m_today y else ((m_runsFrom y) (b).toNatClampNeg)) → W p l e (headSpec w_M_fix ({ frames := 2, cells := 0, slots := 0, locals := 49 })).room s m [.ref h0, .int (b)].toArray below meth c H locs 0 0 (MQ below (va_Qv (fun _ : Unit => True) (fun (_ : Unit) t => ∃ w9 : va_W, va_P D vwCl w9 t.heap ∧ va_D A w9 ∧ mUpd w w9 k cI cL h0 ma (g_fix y b)) A) [.ref h0, .int (b)].toArray s 0 0 A) (F0 m 45 ls (.int v9 :: .int (b) :: .ref (ma 10) :: [])) := by
    intro v9 ev9
    subst ev9
    refine va_iast hx hb hK hP hD hS (k + 11) 0 hU.a10 rfl (in_b hw hok) d_M_fix_45 (fun H locs hP hD hS => ?_)
    have hU := hU.s_runsFrom (upd (m_runsFrom y) (b).toNatClampNeg ((if ((m_runsFrom y) (b).toNatClampNeg) ≤ m_today y then m_today y else ((m_runsFrom y) (b).toNatClampNeg))))
    have hP : va_P D vwCl (w_424.set (k + 11) (ma 10, aI cI 41 (upd (m_runsFrom y) (b).toNatClampNeg ((if ((m_runsFrom y) (b).toNatClampNeg) ≤ m_today y then m_today y else ((m_runsFrom y) (b).toNatClampNeg)))))) H := hP
    have hD : va_D A (w_424.set (k + 11) (ma 10, aI cI 41 (upd (m_runsFrom y) (b).toNatClampNeg ((if ((m_runsFrom y) (b).toNatClampNeg) ≤ m_today y then m_today y else ((m_runsFrom y) (b).toNatClampNeg)))))) := hD
    generalize w_424.set (k + 11) (ma 10, aI cI 41 (upd (m_runsFrom y) (b).toNatClampNeg ((if ((m_runsFrom y) (b).toNatClampNeg) ≤ m_today y then m_today y else ((m_runsFrom y) (b).toNatClampNeg))))) = w_426 at hP hD hU
    exact W.vret hx hb hr (fun t ht hW => ⟨⟨(), rfl, trivial, w_426, by rw [ht]; exact hP, hD, by rw [g_fix]; exact hU⟩, hS.F ht⟩) hS.2.2 d_M_fix_46
  refine lv_icmp_le (tgt := 41) hx hb d_M_fix_29 (by decide) (fun c_425 => ?_) (fun c_425 => ?_)
  · refine lv_aload_n hx hb d_M_fix_41 rfl (lv_at hl 0 rfl) ?_
    refine va_get (D := D) (ci := 3) (v := .int (m_today y)) (C := R_M) (T := F_M) (N := 23) hx hb hts (in_M _) hown hK hP k hU.o rfl 1 (by decide) (hts (.fieldLink R_M 79 "DebtRowsModel" "today" "I") (List.mem_cons_of_mem _ mB_415)) (fun _ h9 => h9) rfl d_M_fix_42 ?_
    exact kont_c_425 _ (by rw [if_pos c_425])
  · refine lv_aload_n hx hb d_M_fix_32 rfl (lv_at hl 0 rfl) ?_
    refine va_get (D := D) (ci := 3) (v := .ref (ma 10)) (C := R_M) (T := F_M) (N := 23) hx hb hts (in_M _) hown hK hP k hU.o rfl 14 (by decide) (hts (.fieldLink R_M 41 "DebtRowsModel" "runsFrom" "[I") (List.mem_cons_of_mem _ mB_428)) (fun _ h9 => h9) rfl d_M_fix_33 ?_
    refine lv_iload_n hx hb d_M_fix_36 rfl (lv_at hl 1 rfl) ?_
    refine va_iald hx hb hK hP (k + 11) 0 hU.a10 rfl (in_b hw hok) d_M_fix_37 ?_
    refine lv_goto (tgt := 45) hx hb d_M_fix_38 (by decide) ?_
    exact kont_c_425 _ (by rw [if_neg c_425])
def g_lose (y : MT) (b : Int32) (why : Int32) : Int64 × MT :=
  (((m_open y) (b).toNatClampNeg), (n_state (n_open (n_lost y (vp_updL (m_lost y) (b).toNatClampNeg (((m_open y) (b).toNatClampNeg)))) (vp_updL (m_open y) (b).toNatClampNeg (0))) (upd (m_state y) (b).toNatClampNeg (why))))
set_option maxHeartbeats 4000000 in
set_option maxRecDepth 100000 in
theorem c_M_lose (l : Launch) (D : va_G) (A : Nat → Prop) (w : va_W) (cI cL cD : ClassId) (k h0 : Nat) (ma : Nat → Nat) (y : MT) (b : Int32) (why : Int32) (hU0 : mA w k cI cL h0 ma y) (hw : wfM y) (hok : okM y b) : Met l y_M_lose w_M_lose ({ frames := 0, cells := 0, slots := 0, locals := 0 }) (mPc D w (tyL cI cL cD) A [.ref h0, .int (b), .int (why)]) (va_Ql (fun z9 (_ : Unit) => z9 = (g_lose y b why).1) (fun (_ : Unit) t => ∃ w9 : va_W, va_P D vwCl w9 t.heap ∧ va_D A w9 ∧ mUpd w w9 k cI cL h0 ma ((g_lose y b why).2)) A) 0 0 A := by
  refine Met.ofW (cc := b_M_lose) (maxL := 5) (ret := (some .long)) (by decide) rfl ?_
  intro p e s m args below meth c s₁ B hml hv
  obtain ⟨rfl, hP, hK, hD⟩ := hv
  have hx := B.exec
  have hb := B.bytes
  have hr := B.returns
  have hts := atoms_spec (ws := w_M_lose) B.pre
  have hown : s.vm.findClass R_M = some m.cls := findClass_of_methodNamed B.named
  have hlocks := B.notSynchronized
  have hS : va_S A s.heap s.heap [] := va_S.rf
  have hU : mUpd w w k cI cL h0 ma y := mUpd.rf hU0
  have hl := lv_entry ([.ref h0, .int (b), .int (why)]) (n := 5) (Nat.le_of_ble_eq_true rfl)
  rw [lg_entry_eq]
  generalize (lg_sl ([.ref h0, .int (b), .int (why)]) ++ List.replicate (5 - (lg_sl ([.ref h0, .int (b), .int (why)])).length) Slot.unset).toArray = ls at hl ⊢
  have hl : lv_has ls 5 [(0, .ref h0), (1, .int (b)), (2, .int (why))] := hl
  refine lv_aload_n hx hb d_M_lose_0 rfl (lv_at hl 0 rfl) ?_
  refine va_get (D := D) (ci := 3) (v := .ref (ma 7)) (C := R_M) (T := F_M) (N := 23) hx hb hts (in_M _) hown hK hP k hU.o rfl 11 (by decide) (hts (.fieldLink R_M 32 "DebtRowsModel" "open" "[J") (List.mem_cons_of_mem _ mB_425)) (fun _ h9 => h9) rfl d_M_lose_1 ?_
  refine lv_iload_n hx hb d_M_lose_4 rfl (lv_at hl 1 rfl) ?_
  refine va_lald hx hb hK hP (k + 8) 1 hU.a7 rfl (in_b hw hok) d_M_lose_5 ?_
  refine lv_lstore_n (lv' := [(3, .long (((m_open y) (b).toNatClampNeg))), (0, .ref h0), (1, .int (b)), (2, .int (why))]) hx hb d_M_lose_6 rfl hl (by decide) rfl (fun ls hl => ?_)
  refine lv_aload_n hx hb d_M_lose_7 rfl (lv_at hl 1 rfl) ?_
  refine va_get (D := D) (ci := 3) (v := .ref (ma 8)) (C := R_M) (T := F_M) (N := 23) hx hb hts (in_M _) hown hK hP k hU.o rfl 12 (by decide) (hts (.fieldLink R_M 35 "DebtRowsModel" "lost" "[J") (List.mem_cons_of_mem _ mB_426)) (fun _ h9 => h9) rfl d_M_lose_8 ?_
  refine lv_iload_n hx hb d_M_lose_11 rfl (lv_at hl 2 rfl) ?_
  refine lv_lload_n hx hb d_M_lose_12 rfl (lv_at hl 0 rfl) ?_
  refine va_last hx hb hK hP hD hS (k + 9) 1 hU.a8 rfl (in_b hw hok) d_M_lose_13 (fun H locs hP hD hS => ?_)
  have hU := hU.s_lost (vp_updL (m_lost y) (b).toNatClampNeg (((m_open y) (b).toNatClampNeg)))
  have hP : va_P D vwCl (w.set (k + 9) (ma 8, aL cL 41 (vp_updL (m_lost y) (b).toNatClampNeg (((m_open y) (b).toNatClampNeg))))) H := hP
  have hD : va_D A (w.set (k + 9) (ma 8, aL cL 41 (vp_updL (m_lost y) (b).toNatClampNeg (((m_open y) (b).toNatClampNeg))))) := hD
  generalize w.set (k + 9) (ma 8, aL cL 41 (vp_updL (m_lost y) (b).toNatClampNeg (((m_open y) (b).toNatClampNeg)))) = w_427 at hP hD hU
  refine lv_aload_n hx hb d_M_lose_14 rfl (lv_at hl 1 rfl) ?_
  refine va_get (D := D) (ci := 3) (v := .ref (ma 7)) (C := R_M) (T := F_M) (N := 23) hx hb hts (in_M _) hown hK hP k hU.o rfl 11 (by decide) (hts (.fieldLink R_M 32 "DebtRowsModel" "open" "[J") (List.mem_cons_of_mem _ mB_425)) (fun _ h9 => h9) rfl d_M_lose_15 ?_
  refine lv_iload_n hx hb d_M_lose_18 rfl (lv_at hl 2 rfl) ?_
  refine lv_lconst (v := 0) hx hb d_M_lose_19 (by decide) ?_
  refine va_last hx hb hK hP hD hS (k + 8) 1 hU.a7 rfl (in_b hw hok) d_M_lose_20 (fun H locs hP hD hS => ?_)
  have hU := hU.s_open (vp_updL (m_open y) (b).toNatClampNeg (0))
  have hP : va_P D vwCl (w_427.set (k + 8) (ma 7, aL cL 41 (vp_updL (m_open y) (b).toNatClampNeg (0)))) H := hP
  have hD : va_D A (w_427.set (k + 8) (ma 7, aL cL 41 (vp_updL (m_open y) (b).toNatClampNeg (0)))) := hD
  generalize w_427.set (k + 8) (ma 7, aL cL 41 (vp_updL (m_open y) (b).toNatClampNeg (0))) = w_428 at hP hD hU
  refine lv_aload_n hx hb d_M_lose_21 rfl (lv_at hl 1 rfl) ?_
  refine va_get (D := D) (ci := 3) (v := .ref (ma 3)) (C := R_M) (T := F_M) (N := 23) hx hb hts (in_M _) hown hK hP k hU.o rfl 7 (by decide) (hts (.fieldLink R_M 19 "DebtRowsModel" "state" "[I") (List.mem_cons_of_mem _ mB_421)) (fun _ h9 => h9) rfl d_M_lose_22 ?_
  refine lv_iload_n hx hb d_M_lose_25 rfl (lv_at hl 2 rfl) ?_
  refine lv_iload_n hx hb d_M_lose_26 rfl (lv_at hl 3 rfl) ?_
  refine va_iast hx hb hK hP hD hS (k + 4) 0 hU.a3 rfl (in_b hw hok) d_M_lose_27 (fun H locs hP hD hS => ?_)
  have hU := hU.s_state (upd (m_state y) (b).toNatClampNeg (why))
  have hP : va_P D vwCl (w_428.set (k + 4) (ma 3, aI cI 41 (upd (m_state y) (b).toNatClampNeg (why)))) H := hP
  have hD : va_D A (w_428.set (k + 4) (ma 3, aI cI 41 (upd (m_state y) (b).toNatClampNeg (why)))) := hD
  generalize w_428.set (k + 4) (ma 3, aI cI 41 (upd (m_state y) (b).toNatClampNeg (why))) = w_429 at hP hD hU
  refine lv_lload_n hx hb d_M_lose_28 rfl (lv_at hl 0 rfl) ?_
  exact W.lret (v := ((m_open y) (b).toNatClampNeg)) hx hb hr (fun t ht hW => ⟨⟨_, (), rfl, by rw [g_lose], w_429, by rw [ht]; exact hP, hD, by rw [g_lose]; exact hU⟩, hS.F ht⟩) hS.2.2 d_M_lose_29
