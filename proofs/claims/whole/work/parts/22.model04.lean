def g_payOf (y : MT) (b : Int32) (who : Int32) (n : Int64) : Int64 × MT :=
  if ((((m_fixed (g_fix y (b))) (b).toNatClampNeg) - (mnL (n) (((m_fixed (g_fix y (b))) (b).toNatClampNeg))))) = 0 then (if ((((m_open (g_fix y (b))) (b).toNatClampNeg) - (mnL ((n - (mnL (n) (((m_fixed (g_fix y (b))) (b).toNatClampNeg))))) (((m_open (g_fix y (b))) (b).toNatClampNeg))))) = 0 then (((n - (mnL (n) (((m_fixed (g_fix y (b))) (b).toNatClampNeg)))) - (mnL ((n - (mnL (n) (((m_fixed (g_fix y (b))) (b).toNatClampNeg))))) (((m_open (g_fix y (b))) (b).toNatClampNeg)))), (n_state (n_paidBy (n_open (n_interestPaid (n_fixed (g_fix y (b)) (vp_updL (m_fixed (g_fix y (b))) (b).toNatClampNeg ((((m_fixed (g_fix y (b))) (b).toNatClampNeg) - (mnL (n) (((m_fixed (g_fix y (b))) (b).toNatClampNeg))))))) (vp_updL (m_interestPaid (g_fix y (b))) (b).toNatClampNeg ((((m_interestPaid (g_fix y (b))) (b).toNatClampNeg) + (mnL (n) (((m_fixed (g_fix y (b))) (b).toNatClampNeg))))))) (vp_updL (m_open (g_fix y (b))) (b).toNatClampNeg ((((m_open (g_fix y (b))) (b).toNatClampNeg) - (mnL ((n - (mnL (n) (((m_fixed (g_fix y (b))) (b).toNatClampNeg))))) (((m_open (g_fix y (b))) (b).toNatClampNeg))))))) (vp_updL (m_paidBy (g_fix y (b))) (((4 * b) + (g_debtorOf y (b) (who)))).toNatClampNeg ((((m_paidBy (g_fix y (b))) (((4 * b) + (g_debtorOf y (b) (who)))).toNatClampNeg) + (mnL ((n - (mnL (n) (((m_fixed (g_fix y (b))) (b).toNatClampNeg))))) (((m_open (g_fix y (b))) (b).toNatClampNeg))))))) (upd (m_state (g_fix y (b))) (b).toNatClampNeg (4))))
    else if 10 < ((((m_open (g_fix y (b))) (b).toNatClampNeg) - (mnL ((n - (mnL (n) (((m_fixed (g_fix y (b))) (b).toNatClampNeg))))) (((m_open (g_fix y (b))) (b).toNatClampNeg))))) then (((n - (mnL (n) (((m_fixed (g_fix y (b))) (b).toNatClampNeg)))) - (mnL ((n - (mnL (n) (((m_fixed (g_fix y (b))) (b).toNatClampNeg))))) (((m_open (g_fix y (b))) (b).toNatClampNeg)))), (n_paidBy (n_open (n_interestPaid (n_fixed (g_fix y (b)) (vp_updL (m_fixed (g_fix y (b))) (b).toNatClampNeg ((((m_fixed (g_fix y (b))) (b).toNatClampNeg) - (mnL (n) (((m_fixed (g_fix y (b))) (b).toNatClampNeg))))))) (vp_updL (m_interestPaid (g_fix y (b))) (b).toNatClampNeg ((((m_interestPaid (g_fix y (b))) (b).toNatClampNeg) + (mnL (n) (((m_fixed (g_fix y (b))) (b).toNatClampNeg))))))) (vp_updL (m_open (g_fix y (b))) (b).toNatClampNeg ((((m_open (g_fix y (b))) (b).toNatClampNeg) - (mnL ((n - (mnL (n) (((m_fixed (g_fix y (b))) (b).toNatClampNeg))))) (((m_open (g_fix y (b))) (b).toNatClampNeg))))))) (vp_updL (m_paidBy (g_fix y (b))) (((4 * b) + (g_debtorOf y (b) (who)))).toNatClampNeg ((((m_paidBy (g_fix y (b))) (((4 * b) + (g_debtorOf y (b) (who)))).toNatClampNeg) + (mnL ((n - (mnL (n) (((m_fixed (g_fix y (b))) (b).toNatClampNeg))))) (((m_open (g_fix y (b))) (b).toNatClampNeg))))))))
      else (((n - (mnL (n) (((m_fixed (g_fix y (b))) (b).toNatClampNeg)))) - (mnL ((n - (mnL (n) (((m_fixed (g_fix y (b))) (b).toNatClampNeg))))) (((m_open (g_fix y (b))) (b).toNatClampNeg)))), (g_lose (n_paidBy (n_open (n_interestPaid (n_fixed (g_fix y (b)) (vp_updL (m_fixed (g_fix y (b))) (b).toNatClampNeg ((((m_fixed (g_fix y (b))) (b).toNatClampNeg) - (mnL (n) (((m_fixed (g_fix y (b))) (b).toNatClampNeg))))))) (vp_updL (m_interestPaid (g_fix y (b))) (b).toNatClampNeg ((((m_interestPaid (g_fix y (b))) (b).toNatClampNeg) + (mnL (n) (((m_fixed (g_fix y (b))) (b).toNatClampNeg))))))) (vp_updL (m_open (g_fix y (b))) (b).toNatClampNeg ((((m_open (g_fix y (b))) (b).toNatClampNeg) - (mnL ((n - (mnL (n) (((m_fixed (g_fix y (b))) (b).toNatClampNeg))))) (((m_open (g_fix y (b))) (b).toNatClampNeg))))))) (vp_updL (m_paidBy (g_fix y (b))) (((4 * b) + (g_debtorOf y (b) (who)))).toNatClampNeg ((((m_paidBy (g_fix y (b))) (((4 * b) + (g_debtorOf y (b) (who)))).toNatClampNeg) + (mnL ((n - (mnL (n) (((m_fixed (g_fix y (b))) (b).toNatClampNeg))))) (((m_open (g_fix y (b))) (b).toNatClampNeg))))))) (b) (7)).2))
  else (((n - (mnL (n) (((m_fixed (g_fix y (b))) (b).toNatClampNeg)))) - (mnL ((n - (mnL (n) (((m_fixed (g_fix y (b))) (b).toNatClampNeg))))) (((m_open (g_fix y (b))) (b).toNatClampNeg)))), (n_paidBy (n_open (n_interestPaid (n_fixed (g_fix y (b)) (vp_updL (m_fixed (g_fix y (b))) (b).toNatClampNeg ((((m_fixed (g_fix y (b))) (b).toNatClampNeg) - (mnL (n) (((m_fixed (g_fix y (b))) (b).toNatClampNeg))))))) (vp_updL (m_interestPaid (g_fix y (b))) (b).toNatClampNeg ((((m_interestPaid (g_fix y (b))) (b).toNatClampNeg) + (mnL (n) (((m_fixed (g_fix y (b))) (b).toNatClampNeg))))))) (vp_updL (m_open (g_fix y (b))) (b).toNatClampNeg ((((m_open (g_fix y (b))) (b).toNatClampNeg) - (mnL ((n - (mnL (n) (((m_fixed (g_fix y (b))) (b).toNatClampNeg))))) (((m_open (g_fix y (b))) (b).toNatClampNeg))))))) (vp_updL (m_paidBy (g_fix y (b))) (((4 * b) + (g_debtorOf y (b) (who)))).toNatClampNeg ((((m_paidBy (g_fix y (b))) (((4 * b) + (g_debtorOf y (b) (who)))).toNatClampNeg) + (mnL ((n - (mnL (n) (((m_fixed (g_fix y (b))) (b).toNatClampNeg))))) (((m_open (g_fix y (b))) (b).toNatClampNeg))))))))
set_option maxHeartbeats 4000000 in
set_option maxRecDepth 100000 in
theorem c_M_payOf (l : Launch) (D : va_G) (A : Nat → Prop) (w : va_W) (cI cL cD : ClassId) (k h0 : Nat) (ma : Nat → Nat) (y : MT) (b : Int32) (who : Int32) (n : Int64) (hU0 : mA w k cI cL h0 ma y) (hw : wfM y) (hok : okM y b) (hge : ¬ g_debtorOf y b who < 0) : Met l y_M_payOf w_M_payOf ({ frames := 3, cells := 0, slots := 0, locals := 70 }) (mPc D w (tyL cI cL cD) A [.ref h0, .int (b), .int (who), .long (n)]) (va_Ql (fun z9 (_ : Unit) => z9 = (g_payOf y b who n).1) (fun (_ : Unit) t => ∃ w9 : va_W, va_P D vwCl w9 t.heap ∧ va_D A w9 ∧ mUpd w w9 k cI cL h0 ma ((g_payOf y b who n).2)) A) 0 0 A := by
  refine Met.ofW (cc := b_M_payOf) (maxL := 11) (ret := (some .long)) (by decide) rfl ?_
  intro p e s m args below meth c s₁ B hml hv
  obtain ⟨rfl, hP, hK, hD⟩ := hv
  have hx := B.exec
  have hb := B.bytes
  have hr := B.returns
  have hts := atoms_spec (ws := w_M_payOf) B.pre
  have hown : s.vm.findClass R_M = some m.cls := findClass_of_methodNamed B.named
  have hlocks := B.notSynchronized
  have hS : va_S A s.heap s.heap [] := va_S.rf
  have hU : mUpd w w k cI cL h0 ma y := mUpd.rf hU0
  have hl := lv_entry ([.ref h0, .int (b), .int (who), .long (n)]) (n := 11) (Nat.le_of_ble_eq_true rfl)
  rw [lg_entry_eq]
  generalize (lg_sl ([.ref h0, .int (b), .int (who), .long (n)]) ++ List.replicate (11 - (lg_sl ([.ref h0, .int (b), .int (who), .long (n)])).length) Slot.unset).toArray = ls at hl ⊢
  have hl : lv_has ls 11 [(0, .ref h0), (1, .int (b)), (2, .int (who)), (3, .long (n))] := hl
  refine lv_aload_n hx hb d_M_payOf_0 rfl (lv_at hl 0 rfl) ?_
  refine lv_iload_n hx hb d_M_payOf_1 rfl (lv_at hl 1 rfl) ?_
  refine va_callv (va_runV (As := [.int (b)]) (rest := []) ⟨hx, hb, hml, hown, hts⟩ (c_M_fix l D A w cI cL cD k h0 ma y (b) hU.1 hw hok) (cwV 1 hts (gV _ mB_505 mB_506 mB_8 mB_17 mB_507) rfl rfl rfl (by decide +kernel) ⟨(Nat.le_of_ble_eq_true rfl), (Nat.le_of_ble_eq_true rfl)⟩) ⟨mPc_bl, va_recv hK hP (ci := 3) (q0 := k) rfl hU.o, mPc_pr hP hK hD⟩ rfl rfl hl.1 rfl (lv_room (Nat.le_of_ble_eq_true rfl)) d_M_payOf_2 ⟨Nat.zero_le _, Nat.zero_le _⟩) hS (fun _ _ h => h) (fun _ h => h) (fun u9 t H locs ht hvm ev_430 hB hz1 hk1 hS => ?_)
  obtain ⟨w_431, hP, hD, hU1⟩ := hB
  rw [ht] at hP
  have hU := hU.tr hU1
  refine lv_lload_n hx hb d_M_payOf_5 rfl (lv_at hl 3 rfl) ?_
  refine lv_aload_n hx hb d_M_payOf_6 rfl (lv_at hl 0 rfl) ?_
  refine va_get (D := D) (ci := 3) (v := .ref (ma 9)) (C := R_M) (T := F_M) (N := 23) hx hb hts (in_M _) hown hK hP k hU.o rfl 13 (by decide) (hts (.fieldLink R_M 38 "DebtRowsModel" "fixed" "[J") (List.mem_cons_of_mem _ mB_427)) (fun _ h9 => h9) rfl d_M_payOf_7 ?_
  refine lv_iload_n hx hb d_M_payOf_10 rfl (lv_at hl 1 rfl) ?_
  refine va_lald hx hb hK hP (k + 10) 1 hU.a9 rfl (in_b hw hok) d_M_payOf_11 ?_
  refine W.lcmp hx hb d_M_payOf_12 ?_
  have kont_c_432 : ∀ v9 : Int64, v9 = (mnL (n) (((m_fixed (g_fix y (b))) (b).toNatClampNeg))) → W p l e (headSpec w_M_payOf ({ frames := 3, cells := 0, slots := 0, locals := 70 })).room s m [.ref h0, .int (b), .int (who), .long (n)].toArray below meth c H locs 0 0 (MQ below (va_Ql (fun z9 (_ : Unit) => z9 = (g_payOf y b who n).1) (fun (_ : Unit) t => ∃ w9 : va_W, va_P D vwCl w9 t.heap ∧ va_D A w9 ∧ mUpd w w9 k cI cL h0 ma ((g_payOf y b who n).2)) A) [.ref h0, .int (b), .int (who), .long (n)].toArray s 0 0 A) (F0 m 26 ls (.long v9 :: [])) := by
    intro v9 ev9
    subst ev9
    refine lv_lstore (lv' := [(5, .long ((mnL (n) (((m_fixed (g_fix y (b))) (b).toNatClampNeg))))), (0, .ref h0), (1, .int (b)), (2, .int (who)), (3, .long (n))]) hx hb d_M_payOf_26 hl (by decide) rfl (fun ls hl => ?_)
    refine lv_aload_n hx hb d_M_payOf_28 rfl (lv_at hl 1 rfl) ?_
    refine va_get (D := D) (ci := 3) (v := .ref (ma 9)) (C := R_M) (T := F_M) (N := 23) hx hb hts (in_M _) hown hK hP k hU.o rfl 13 (by decide) (hts (.fieldLink R_M 38 "DebtRowsModel" "fixed" "[J") (List.mem_cons_of_mem _ mB_427)) (fun _ h9 => h9) rfl d_M_payOf_29 ?_
    refine lv_iload_n hx hb d_M_payOf_32 rfl (lv_at hl 2 rfl) ?_
    refine lv_dup2_11 hx hb d_M_payOf_33 rfl rfl ?_
    refine va_lald hx hb hK hP (k + 10) 1 hU.a9 rfl (in_b hw hok) d_M_payOf_34 ?_
    refine lv_lload hx hb d_M_payOf_35 (lv_at hl 0 rfl) ?_
    refine lv_lsub hx hb d_M_payOf_37 ?_
    refine va_last hx hb hK hP hD hS (k + 10) 1 hU.a9 rfl (in_b hw hok) d_M_payOf_38 (fun H locs hP hD hS => ?_)
    have hU := hU.s_fixed (vp_updL (m_fixed (g_fix y (b))) (b).toNatClampNeg ((((m_fixed (g_fix y (b))) (b).toNatClampNeg) - (mnL (n) (((m_fixed (g_fix y (b))) (b).toNatClampNeg))))))
    have hP : va_P D vwCl (w_431.set (k + 10) (ma 9, aL cL 41 (vp_updL (m_fixed (g_fix y (b))) (b).toNatClampNeg ((((m_fixed (g_fix y (b))) (b).toNatClampNeg) - (mnL (n) (((m_fixed (g_fix y (b))) (b).toNatClampNeg)))))))) H := hP
    have hD : va_D A (w_431.set (k + 10) (ma 9, aL cL 41 (vp_updL (m_fixed (g_fix y (b))) (b).toNatClampNeg ((((m_fixed (g_fix y (b))) (b).toNatClampNeg) - (mnL (n) (((m_fixed (g_fix y (b))) (b).toNatClampNeg)))))))) := hD
    generalize w_431.set (k + 10) (ma 9, aL cL 41 (vp_updL (m_fixed (g_fix y (b))) (b).toNatClampNeg ((((m_fixed (g_fix y (b))) (b).toNatClampNeg) - (mnL (n) (((m_fixed (g_fix y (b))) (b).toNatClampNeg))))))) = w_433 at hP hD hU
    refine lv_aload_n hx hb d_M_payOf_39 rfl (lv_at hl 1 rfl) ?_
    refine va_get (D := D) (ci := 3) (v := .ref (ma 11)) (C := R_M) (T := F_M) (N := 23) hx hb hts (in_M _) hown hK hP k hU.o rfl 15 (by decide) (hts (.fieldLink R_M 44 "DebtRowsModel" "interestPaid" "[J") (List.mem_cons_of_mem _ mB_429)) (fun _ h9 => h9) rfl d_M_payOf_40 ?_
    refine lv_iload_n hx hb d_M_payOf_43 rfl (lv_at hl 2 rfl) ?_
    refine lv_dup2_11 hx hb d_M_payOf_44 rfl rfl ?_
    refine va_lald hx hb hK hP (k + 12) 1 hU.a11 rfl (in_b hw hok) d_M_payOf_45 ?_
    refine lv_lload hx hb d_M_payOf_46 (lv_at hl 0 rfl) ?_
    refine lv_ladd hx hb d_M_payOf_48 ?_
    refine va_last hx hb hK hP hD hS (k + 12) 1 hU.a11 rfl (in_b hw hok) d_M_payOf_49 (fun H locs hP hD hS => ?_)
    have hU := hU.s_interestPaid (vp_updL (m_interestPaid (g_fix y (b))) (b).toNatClampNeg ((((m_interestPaid (g_fix y (b))) (b).toNatClampNeg) + (mnL (n) (((m_fixed (g_fix y (b))) (b).toNatClampNeg))))))
    have hP : va_P D vwCl (w_433.set (k + 12) (ma 11, aL cL 41 (vp_updL (m_interestPaid (g_fix y (b))) (b).toNatClampNeg ((((m_interestPaid (g_fix y (b))) (b).toNatClampNeg) + (mnL (n) (((m_fixed (g_fix y (b))) (b).toNatClampNeg)))))))) H := hP
    have hD : va_D A (w_433.set (k + 12) (ma 11, aL cL 41 (vp_updL (m_interestPaid (g_fix y (b))) (b).toNatClampNeg ((((m_interestPaid (g_fix y (b))) (b).toNatClampNeg) + (mnL (n) (((m_fixed (g_fix y (b))) (b).toNatClampNeg)))))))) := hD
    generalize w_433.set (k + 12) (ma 11, aL cL 41 (vp_updL (m_interestPaid (g_fix y (b))) (b).toNatClampNeg ((((m_interestPaid (g_fix y (b))) (b).toNatClampNeg) + (mnL (n) (((m_fixed (g_fix y (b))) (b).toNatClampNeg))))))) = w_434 at hP hD hU
    refine lv_lload_n hx hb d_M_payOf_50 rfl (lv_at hl 4 rfl) ?_
    refine lv_lload hx hb d_M_payOf_51 (lv_at hl 0 rfl) ?_
    refine lv_lsub hx hb d_M_payOf_53 ?_
    refine lv_aload_n hx hb d_M_payOf_54 rfl (lv_at hl 1 rfl) ?_
    refine va_get (D := D) (ci := 3) (v := .ref (ma 7)) (C := R_M) (T := F_M) (N := 23) hx hb hts (in_M _) hown hK hP k hU.o rfl 11 (by decide) (hts (.fieldLink R_M 32 "DebtRowsModel" "open" "[J") (List.mem_cons_of_mem _ mB_425)) (fun _ h9 => h9) rfl d_M_payOf_55 ?_
    refine lv_iload_n hx hb d_M_payOf_58 rfl (lv_at hl 2 rfl) ?_
    refine va_lald hx hb hK hP (k + 8) 1 hU.a7 rfl (in_b hw hok) d_M_payOf_59 ?_
    refine W.lcmp hx hb d_M_payOf_60 ?_
    have kont_c_435 : ∀ v9 : Int64, v9 = (mnL ((n - (mnL (n) (((m_fixed (g_fix y (b))) (b).toNatClampNeg))))) (((m_open (g_fix y (b))) (b).toNatClampNeg))) → W p l e (headSpec w_M_payOf ({ frames := 3, cells := 0, slots := 0, locals := 70 })).room s m [.ref h0, .int (b), .int (who), .long (n)].toArray below meth c H locs 0 0 (MQ below (va_Ql (fun z9 (_ : Unit) => z9 = (g_payOf y b who n).1) (fun (_ : Unit) t => ∃ w9 : va_W, va_P D vwCl w9 t.heap ∧ va_D A w9 ∧ mUpd w w9 k cI cL h0 ma ((g_payOf y b who n).2)) A) [.ref h0, .int (b), .int (who), .long (n)].toArray s 0 0 A) (F0 m 77 ls (.long v9 :: [])) := by
      intro v9 ev9
      subst ev9
      refine lv_lstore (lv' := [(7, .long ((mnL ((n - (mnL (n) (((m_fixed (g_fix y (b))) (b).toNatClampNeg))))) (((m_open (g_fix y (b))) (b).toNatClampNeg))))), (5, .long ((mnL (n) (((m_fixed (g_fix y (b))) (b).toNatClampNeg))))), (0, .ref h0), (1, .int (b)), (2, .int (who)), (3, .long (n))]) hx hb d_M_payOf_77 hl (by decide) rfl (fun ls hl => ?_)
      refine lv_aload_n hx hb d_M_payOf_79 rfl (lv_at hl 2 rfl) ?_
      refine va_get (D := D) (ci := 3) (v := .ref (ma 7)) (C := R_M) (T := F_M) (N := 23) hx hb hts (in_M _) hown hK hP k hU.o rfl 11 (by decide) (hts (.fieldLink R_M 32 "DebtRowsModel" "open" "[J") (List.mem_cons_of_mem _ mB_425)) (fun _ h9 => h9) rfl d_M_payOf_80 ?_
      refine lv_iload_n hx hb d_M_payOf_83 rfl (lv_at hl 3 rfl) ?_
      refine lv_dup2_11 hx hb d_M_payOf_84 rfl rfl ?_
      refine va_lald hx hb hK hP (k + 8) 1 hU.a7 rfl (in_b hw hok) d_M_payOf_85 ?_
      refine lv_lload hx hb d_M_payOf_86 (lv_at hl 0 rfl) ?_
      refine lv_lsub hx hb d_M_payOf_88 ?_
      refine va_last hx hb hK hP hD hS (k + 8) 1 hU.a7 rfl (in_b hw hok) d_M_payOf_89 (fun H locs hP hD hS => ?_)
      have hU := hU.s_open (vp_updL (m_open (g_fix y (b))) (b).toNatClampNeg ((((m_open (g_fix y (b))) (b).toNatClampNeg) - (mnL ((n - (mnL (n) (((m_fixed (g_fix y (b))) (b).toNatClampNeg))))) (((m_open (g_fix y (b))) (b).toNatClampNeg))))))
      have hP : va_P D vwCl (w_434.set (k + 8) (ma 7, aL cL 41 (vp_updL (m_open (g_fix y (b))) (b).toNatClampNeg ((((m_open (g_fix y (b))) (b).toNatClampNeg) - (mnL ((n - (mnL (n) (((m_fixed (g_fix y (b))) (b).toNatClampNeg))))) (((m_open (g_fix y (b))) (b).toNatClampNeg)))))))) H := hP
      have hD : va_D A (w_434.set (k + 8) (ma 7, aL cL 41 (vp_updL (m_open (g_fix y (b))) (b).toNatClampNeg ((((m_open (g_fix y (b))) (b).toNatClampNeg) - (mnL ((n - (mnL (n) (((m_fixed (g_fix y (b))) (b).toNatClampNeg))))) (((m_open (g_fix y (b))) (b).toNatClampNeg)))))))) := hD
      generalize w_434.set (k + 8) (ma 7, aL cL 41 (vp_updL (m_open (g_fix y (b))) (b).toNatClampNeg ((((m_open (g_fix y (b))) (b).toNatClampNeg) - (mnL ((n - (mnL (n) (((m_fixed (g_fix y (b))) (b).toNatClampNeg))))) (((m_open (g_fix y (b))) (b).toNatClampNeg))))))) = w_436 at hP hD hU
      refine lv_aload_n hx hb d_M_payOf_90 rfl (lv_at hl 2 rfl) ?_
      refine va_get (D := D) (ci := 3) (v := .ref (ma 17)) (C := R_M) (T := F_M) (N := 23) hx hb hts (in_M _) hown hK hP k hU.o rfl 21 (by decide) (hts (.fieldLink R_M 62 "DebtRowsModel" "paidBy" "[J") (List.mem_cons_of_mem _ mB_435)) (fun _ h9 => h9) rfl d_M_payOf_91 ?_
      refine lv_iconst (v := 4) hx hb d_M_payOf_94 (by decide) ?_
      refine lv_iload_n hx hb d_M_payOf_95 rfl (lv_at hl 3 rfl) ?_
      refine lv_imul hx hb d_M_payOf_96 ?_
      refine lv_aload_n hx hb d_M_payOf_97 rfl (lv_at hl 2 rfl) ?_
      refine lv_iload_n hx hb d_M_payOf_98 rfl (lv_at hl 3 rfl) ?_
      refine lv_iload_n hx hb d_M_payOf_99 rfl (lv_at hl 4 rfl) ?_
      refine vp_callSi (W.runV (As := [.int (b), .int (who)]) (rest := [.int ((4 * b)), .ref (ma 17)]) ⟨hx, hb, hml, hown, hts⟩ (c_M_debtorOf l D A w_436 cI cL cD k h0 ma (n_open (n_interestPaid (n_fixed (g_fix y (b)) (vp_updL (m_fixed (g_fix y (b))) (b).toNatClampNeg ((((m_fixed (g_fix y (b))) (b).toNatClampNeg) - (mnL (n) (((m_fixed (g_fix y (b))) (b).toNatClampNeg))))))) (vp_updL (m_interestPaid (g_fix y (b))) (b).toNatClampNeg ((((m_interestPaid (g_fix y (b))) (b).toNatClampNeg) + (mnL (n) (((m_fixed (g_fix y (b))) (b).toNatClampNeg))))))) (vp_updL (m_open (g_fix y (b))) (b).toNatClampNeg ((((m_open (g_fix y (b))) (b).toNatClampNeg) - (mnL ((n - (mnL (n) (((m_fixed (g_fix y (b))) (b).toNatClampNeg))))) (((m_open (g_fix y (b))) (b).toNatClampNeg))))))) (b) (who) hU.1 hw hok) (cwV 2 hts (gV _ mB_491 mB_492 mB_6 mB_17 mB_493) rfl rfl rfl (by decide +kernel) ⟨(Nat.le_of_ble_eq_true rfl), (Nat.le_of_ble_eq_true rfl)⟩) ⟨mPc_bl, va_recv hK hP (ci := 3) (q0 := k) rfl hU.o, mPc_pr hP hK hD⟩ rfl rfl hl.1 rfl (lv_room (Nat.le_of_ble_eq_true rfl)) d_M_payOf_100 ⟨Nat.zero_le _, Nat.zero_le _⟩) (fun v_437 ev_437 => ?_)
      have ev_437 : v_437 = g_debtorOf y (b) (who) := ev_437
      subst ev_437
      refine lv_iadd hx hb d_M_payOf_103 ?_
      refine lv_dup2_11 hx hb d_M_payOf_104 rfl rfl ?_
      refine va_lald hx hb hK hP (k + 18) 1 hU.a17 rfl (in_4g hw hok hge) d_M_payOf_105 ?_
      refine lv_lload hx hb d_M_payOf_106 (lv_at hl 0 rfl) ?_
      refine lv_ladd hx hb d_M_payOf_108 ?_
      refine va_last hx hb hK hP hD hS (k + 18) 1 hU.a17 rfl (in_4g hw hok hge) d_M_payOf_109 (fun H locs hP hD hS => ?_)
      have hU := hU.s_paidBy (vp_updL (m_paidBy (g_fix y (b))) (((4 * b) + (g_debtorOf y (b) (who)))).toNatClampNeg ((((m_paidBy (g_fix y (b))) (((4 * b) + (g_debtorOf y (b) (who)))).toNatClampNeg) + (mnL ((n - (mnL (n) (((m_fixed (g_fix y (b))) (b).toNatClampNeg))))) (((m_open (g_fix y (b))) (b).toNatClampNeg))))))
      have hP : va_P D vwCl (w_436.set (k + 18) (ma 17, aL cL 164 (vp_updL (m_paidBy (g_fix y (b))) (((4 * b) + (g_debtorOf y (b) (who)))).toNatClampNeg ((((m_paidBy (g_fix y (b))) (((4 * b) + (g_debtorOf y (b) (who)))).toNatClampNeg) + (mnL ((n - (mnL (n) (((m_fixed (g_fix y (b))) (b).toNatClampNeg))))) (((m_open (g_fix y (b))) (b).toNatClampNeg)))))))) H := hP
      have hD : va_D A (w_436.set (k + 18) (ma 17, aL cL 164 (vp_updL (m_paidBy (g_fix y (b))) (((4 * b) + (g_debtorOf y (b) (who)))).toNatClampNeg ((((m_paidBy (g_fix y (b))) (((4 * b) + (g_debtorOf y (b) (who)))).toNatClampNeg) + (mnL ((n - (mnL (n) (((m_fixed (g_fix y (b))) (b).toNatClampNeg))))) (((m_open (g_fix y (b))) (b).toNatClampNeg)))))))) := hD
      generalize w_436.set (k + 18) (ma 17, aL cL 164 (vp_updL (m_paidBy (g_fix y (b))) (((4 * b) + (g_debtorOf y (b) (who)))).toNatClampNeg ((((m_paidBy (g_fix y (b))) (((4 * b) + (g_debtorOf y (b) (who)))).toNatClampNeg) + (mnL ((n - (mnL (n) (((m_fixed (g_fix y (b))) (b).toNatClampNeg))))) (((m_open (g_fix y (b))) (b).toNatClampNeg))))))) = w_438 at hP hD hU
      refine lv_aload_n hx hb d_M_payOf_110 rfl (lv_at hl 2 rfl) ?_
      refine va_get (D := D) (ci := 3) (v := .ref (ma 9)) (C := R_M) (T := F_M) (N := 23) hx hb hts (in_M _) hown hK hP k hU.o rfl 13 (by decide) (hts (.fieldLink R_M 38 "DebtRowsModel" "fixed" "[J") (List.mem_cons_of_mem _ mB_427)) (fun _ h9 => h9) rfl d_M_payOf_111 ?_
      refine lv_iload_n hx hb d_M_payOf_114 rfl (lv_at hl 3 rfl) ?_
      refine va_lald hx hb hK hP (k + 10) 1 hU.a9 rfl (in_b hw hok) d_M_payOf_115 ?_
      refine lv_topl (fun v_439 ev_439 => ?_)
      have ev_439 : v_439 = (((m_fixed (g_fix y (b))) (b).toNatClampNeg) - (mnL (n) (((m_fixed (g_fix y (b))) (b).toNatClampNeg)))) := ev_439.trans pk_uLs
      subst ev_439
      refine lv_lconst (v := 0) hx hb d_M_payOf_116 (by decide) ?_
      refine W.lcmp hx hb d_M_payOf_117 ?_
      refine lv_if_ne (tgt := 142) hx hb d_M_payOf_118 (by decide) (fun c_440 => ?_) (fun c_440 => ?_)
      · have c_440 : ¬ ((((m_fixed (g_fix y (b))) (b).toNatClampNeg) - (mnL (n) (((m_fixed (g_fix y (b))) (b).toNatClampNeg))))) = 0 := fun h9 => c_440 ((lg_cmp_eq _ _).mpr h9)
        refine lv_aload_n hx hb d_M_payOf_142 rfl (lv_at hl 2 rfl) ?_
        refine va_get (D := D) (ci := 3) (v := .ref (ma 9)) (C := R_M) (T := F_M) (N := 23) hx hb hts (in_M _) hown hK hP k hU.o rfl 13 (by decide) (hts (.fieldLink R_M 38 "DebtRowsModel" "fixed" "[J") (List.mem_cons_of_mem _ mB_427)) (fun _ h9 => h9) rfl d_M_payOf_143 ?_
        refine lv_iload_n hx hb d_M_payOf_146 rfl (lv_at hl 3 rfl) ?_
        refine va_lald hx hb hK hP (k + 10) 1 hU.a9 rfl (in_b hw hok) d_M_payOf_147 ?_
        refine lv_topl (fun v_441 ev_441 => ?_)
        have ev_441 : v_441 = (((m_fixed (g_fix y (b))) (b).toNatClampNeg) - (mnL (n) (((m_fixed (g_fix y (b))) (b).toNatClampNeg)))) := ev_441.trans pk_uLs
        subst ev_441
        refine lv_lconst (v := 0) hx hb d_M_payOf_148 (by decide) ?_
        refine W.lcmp hx hb d_M_payOf_149 ?_
        refine lv_if_ne (tgt := 175) hx hb d_M_payOf_150 (by decide) (fun c_442 => ?_) (fun c_442 => ?_)
        · have c_442 : ¬ ((((m_fixed (g_fix y (b))) (b).toNatClampNeg) - (mnL (n) (((m_fixed (g_fix y (b))) (b).toNatClampNeg))))) = 0 := fun h9 => c_442 ((lg_cmp_eq _ _).mpr h9)
          refine lv_lload_n hx hb d_M_payOf_175 rfl (lv_at hl 5 rfl) ?_
          refine lv_lload hx hb d_M_payOf_176 (lv_at hl 1 rfl) ?_
          refine lv_lsub hx hb d_M_payOf_178 ?_
          refine lv_lload hx hb d_M_payOf_179 (lv_at hl 0 rfl) ?_
          refine lv_lsub hx hb d_M_payOf_181 ?_
          exact W.lret (v := ((n - (mnL (n) (((m_fixed (g_fix y (b))) (b).toNatClampNeg)))) - (mnL ((n - (mnL (n) (((m_fixed (g_fix y (b))) (b).toNatClampNeg))))) (((m_open (g_fix y (b))) (b).toNatClampNeg))))) hx hb hr (fun t ht hW => ⟨⟨_, (), rfl, by rw [g_payOf, if_neg c_440], w_438, by rw [ht]; exact hP, hD, by rw [g_payOf, if_neg c_440]; exact hU⟩, hS.F ht⟩) hS.2.2 d_M_payOf_182
        · have c_442 : ((((m_fixed (g_fix y (b))) (b).toNatClampNeg) - (mnL (n) (((m_fixed (g_fix y (b))) (b).toNatClampNeg))))) = 0 := (lg_cmp_eq _ _).mp c_442
          exact absurd c_442 (c_440)
      · have c_440 : ((((m_fixed (g_fix y (b))) (b).toNatClampNeg) - (mnL (n) (((m_fixed (g_fix y (b))) (b).toNatClampNeg))))) = 0 := (lg_cmp_eq _ _).mp c_440
        refine lv_aload_n hx hb d_M_payOf_121 rfl (lv_at hl 2 rfl) ?_
        refine va_get (D := D) (ci := 3) (v := .ref (ma 7)) (C := R_M) (T := F_M) (N := 23) hx hb hts (in_M _) hown hK hP k hU.o rfl 11 (by decide) (hts (.fieldLink R_M 32 "DebtRowsModel" "open" "[J") (List.mem_cons_of_mem _ mB_425)) (fun _ h9 => h9) rfl d_M_payOf_122 ?_
        refine lv_iload_n hx hb d_M_payOf_125 rfl (lv_at hl 3 rfl) ?_
        refine va_lald hx hb hK hP (k + 8) 1 hU.a7 rfl (in_b hw hok) d_M_payOf_126 ?_
        refine lv_topl (fun v_443 ev_443 => ?_)
        have ev_443 : v_443 = (((m_open (g_fix y (b))) (b).toNatClampNeg) - (mnL ((n - (mnL (n) (((m_fixed (g_fix y (b))) (b).toNatClampNeg))))) (((m_open (g_fix y (b))) (b).toNatClampNeg)))) := ev_443.trans pk_uLs
        subst ev_443
        refine lv_lconst (v := 0) hx hb d_M_payOf_127 (by decide) ?_
        refine W.lcmp hx hb d_M_payOf_128 ?_
        refine lv_if_ne (tgt := 142) hx hb d_M_payOf_129 (by decide) (fun c_444 => ?_) (fun c_444 => ?_)
        · have c_444 : ¬ ((((m_open (g_fix y (b))) (b).toNatClampNeg) - (mnL ((n - (mnL (n) (((m_fixed (g_fix y (b))) (b).toNatClampNeg))))) (((m_open (g_fix y (b))) (b).toNatClampNeg))))) = 0 := fun h9 => c_444 ((lg_cmp_eq _ _).mpr h9)
          refine lv_aload_n hx hb d_M_payOf_142 rfl (lv_at hl 2 rfl) ?_
          refine va_get (D := D) (ci := 3) (v := .ref (ma 9)) (C := R_M) (T := F_M) (N := 23) hx hb hts (in_M _) hown hK hP k hU.o rfl 13 (by decide) (hts (.fieldLink R_M 38 "DebtRowsModel" "fixed" "[J") (List.mem_cons_of_mem _ mB_427)) (fun _ h9 => h9) rfl d_M_payOf_143 ?_
          refine lv_iload_n hx hb d_M_payOf_146 rfl (lv_at hl 3 rfl) ?_
          refine va_lald hx hb hK hP (k + 10) 1 hU.a9 rfl (in_b hw hok) d_M_payOf_147 ?_
          refine lv_topl (fun v_445 ev_445 => ?_)
          have ev_445 : v_445 = (((m_fixed (g_fix y (b))) (b).toNatClampNeg) - (mnL (n) (((m_fixed (g_fix y (b))) (b).toNatClampNeg)))) := ev_445.trans pk_uLs
          subst ev_445
          refine lv_lconst (v := 0) hx hb d_M_payOf_148 (by decide) ?_
          refine W.lcmp hx hb d_M_payOf_149 ?_
          refine lv_if_ne (tgt := 175) hx hb d_M_payOf_150 (by decide) (fun c_446 => ?_) (fun c_446 => ?_)
          · have c_446 : ¬ ((((m_fixed (g_fix y (b))) (b).toNatClampNeg) - (mnL (n) (((m_fixed (g_fix y (b))) (b).toNatClampNeg))))) = 0 := fun h9 => c_446 ((lg_cmp_eq _ _).mpr h9)
            exact absurd (c_440) c_446
          · have c_446 : ((((m_fixed (g_fix y (b))) (b).toNatClampNeg) - (mnL (n) (((m_fixed (g_fix y (b))) (b).toNatClampNeg))))) = 0 := (lg_cmp_eq _ _).mp c_446
            refine lv_aload_n hx hb d_M_payOf_153 rfl (lv_at hl 2 rfl) ?_
            refine va_get (D := D) (ci := 3) (v := .ref (ma 7)) (C := R_M) (T := F_M) (N := 23) hx hb hts (in_M _) hown hK hP k hU.o rfl 11 (by decide) (hts (.fieldLink R_M 32 "DebtRowsModel" "open" "[J") (List.mem_cons_of_mem _ mB_425)) (fun _ h9 => h9) rfl d_M_payOf_154 ?_
            refine lv_iload_n hx hb d_M_payOf_157 rfl (lv_at hl 3 rfl) ?_
            refine va_lald hx hb hK hP (k + 8) 1 hU.a7 rfl (in_b hw hok) d_M_payOf_158 ?_
            refine lv_topl (fun v_447 ev_447 => ?_)
            have ev_447 : v_447 = (((m_open (g_fix y (b))) (b).toNatClampNeg) - (mnL ((n - (mnL (n) (((m_fixed (g_fix y (b))) (b).toNatClampNeg))))) (((m_open (g_fix y (b))) (b).toNatClampNeg)))) := ev_447.trans pk_uLs
            subst ev_447
            refine lv_ldc2 (own := R_M) (index := 117) (v := 10) hx hb hown (hts (.constantLong R_M 117 (10)) (List.mem_cons_of_mem _ mB_515)) d_M_payOf_159 ?_
            refine W.lcmp hx hb d_M_payOf_162 ?_
            refine lv_if_gt (tgt := 175) hx hb d_M_payOf_163 (by decide) (fun c_448 => ?_) (fun c_448 => ?_)
            · have c_448 : 10 < ((((m_open (g_fix y (b))) (b).toNatClampNeg) - (mnL ((n - (mnL (n) (((m_fixed (g_fix y (b))) (b).toNatClampNeg))))) (((m_open (g_fix y (b))) (b).toNatClampNeg))))) := (lg_cmp_gt _ _).mp c_448
              refine lv_lload_n hx hb d_M_payOf_175 rfl (lv_at hl 5 rfl) ?_
              refine lv_lload hx hb d_M_payOf_176 (lv_at hl 1 rfl) ?_
              refine lv_lsub hx hb d_M_payOf_178 ?_
              refine lv_lload hx hb d_M_payOf_179 (lv_at hl 0 rfl) ?_
              refine lv_lsub hx hb d_M_payOf_181 ?_
              exact W.lret (v := ((n - (mnL (n) (((m_fixed (g_fix y (b))) (b).toNatClampNeg)))) - (mnL ((n - (mnL (n) (((m_fixed (g_fix y (b))) (b).toNatClampNeg))))) (((m_open (g_fix y (b))) (b).toNatClampNeg))))) hx hb hr (fun t ht hW => ⟨⟨_, (), rfl, by rw [g_payOf, if_pos c_440, if_neg c_444, if_pos c_448], w_438, by rw [ht]; exact hP, hD, by rw [g_payOf, if_pos c_440, if_neg c_444, if_pos c_448]; exact hU⟩, hS.F ht⟩) hS.2.2 d_M_payOf_182
            · have c_448 : ¬ 10 < ((((m_open (g_fix y (b))) (b).toNatClampNeg) - (mnL ((n - (mnL (n) (((m_fixed (g_fix y (b))) (b).toNatClampNeg))))) (((m_open (g_fix y (b))) (b).toNatClampNeg))))) := fun h9 => c_448 ((lg_cmp_gt _ _).mpr h9)
              refine lv_aload_n hx hb d_M_payOf_166 rfl (lv_at hl 2 rfl) ?_
              refine lv_iload_n hx hb d_M_payOf_167 rfl (lv_at hl 3 rfl) ?_
              refine lv_bipush (v := 7) hx hb d_M_payOf_168 (by decide) ?_
              refine va_calll (va_runV (As := [.int (b), .int (7)]) (rest := []) ⟨hx, hb, hml, hown, hts⟩ (c_M_lose l D A w_438 cI cL cD k h0 ma (n_paidBy (n_open (n_interestPaid (n_fixed (g_fix y (b)) (vp_updL (m_fixed (g_fix y (b))) (b).toNatClampNeg ((((m_fixed (g_fix y (b))) (b).toNatClampNeg) - (mnL (n) (((m_fixed (g_fix y (b))) (b).toNatClampNeg))))))) (vp_updL (m_interestPaid (g_fix y (b))) (b).toNatClampNeg ((((m_interestPaid (g_fix y (b))) (b).toNatClampNeg) + (mnL (n) (((m_fixed (g_fix y (b))) (b).toNatClampNeg))))))) (vp_updL (m_open (g_fix y (b))) (b).toNatClampNeg ((((m_open (g_fix y (b))) (b).toNatClampNeg) - (mnL ((n - (mnL (n) (((m_fixed (g_fix y (b))) (b).toNatClampNeg))))) (((m_open (g_fix y (b))) (b).toNatClampNeg))))))) (vp_updL (m_paidBy (g_fix y (b))) (((4 * b) + (g_debtorOf y (b) (who)))).toNatClampNeg ((((m_paidBy (g_fix y (b))) (((4 * b) + (g_debtorOf y (b) (who)))).toNatClampNeg) + (mnL ((n - (mnL (n) (((m_fixed (g_fix y (b))) (b).toNatClampNeg))))) (((m_open (g_fix y (b))) (b).toNatClampNeg))))))) (b) (7) hU.1 hw hok) (cwV 2 hts (gV _ mB_516 mB_517 mB_11 mB_17 mB_518) rfl rfl rfl (by decide +kernel) ⟨(Nat.le_of_ble_eq_true rfl), (Nat.le_of_ble_eq_true rfl)⟩) ⟨mPc_bl, va_recv hK hP (ci := 3) (q0 := k) rfl hU.o, mPc_pr hP hK hD⟩ rfl rfl hl.1 rfl (lv_room (Nat.le_of_ble_eq_true rfl)) d_M_payOf_170 ⟨Nat.zero_le _, Nat.zero_le _⟩) hS (fun _ _ h => h) (fun _ h => h) (fun v_449 u9 t H locs ht hvm ev_449 hB hz1 hk1 hS => ?_)
              obtain ⟨w_450, hP, hD, hU1⟩ := hB
              rw [ht] at hP
              have hU := hU.tr hU1
              subst ev_449
              refine lv_lstore (lv' := [(9, .long ((g_lose (n_paidBy (n_open (n_interestPaid (n_fixed (g_fix y (b)) (vp_updL (m_fixed (g_fix y (b))) (b).toNatClampNeg ((((m_fixed (g_fix y (b))) (b).toNatClampNeg) - (mnL (n) (((m_fixed (g_fix y (b))) (b).toNatClampNeg))))))) (vp_updL (m_interestPaid (g_fix y (b))) (b).toNatClampNeg ((((m_interestPaid (g_fix y (b))) (b).toNatClampNeg) + (mnL (n) (((m_fixed (g_fix y (b))) (b).toNatClampNeg))))))) (vp_updL (m_open (g_fix y (b))) (b).toNatClampNeg ((((m_open (g_fix y (b))) (b).toNatClampNeg) - (mnL ((n - (mnL (n) (((m_fixed (g_fix y (b))) (b).toNatClampNeg))))) (((m_open (g_fix y (b))) (b).toNatClampNeg))))))) (vp_updL (m_paidBy (g_fix y (b))) (((4 * b) + (g_debtorOf y (b) (who)))).toNatClampNeg ((((m_paidBy (g_fix y (b))) (((4 * b) + (g_debtorOf y (b) (who)))).toNatClampNeg) + (mnL ((n - (mnL (n) (((m_fixed (g_fix y (b))) (b).toNatClampNeg))))) (((m_open (g_fix y (b))) (b).toNatClampNeg))))))) (b) (7)).1)), (7, .long ((mnL ((n - (mnL (n) (((m_fixed (g_fix y (b))) (b).toNatClampNeg))))) (((m_open (g_fix y (b))) (b).toNatClampNeg))))), (5, .long ((mnL (n) (((m_fixed (g_fix y (b))) (b).toNatClampNeg))))), (0, .ref h0), (1, .int (b)), (2, .int (who)), (3, .long (n))]) hx hb d_M_payOf_173 hl (by decide) rfl (fun ls hl => ?_)
              refine lv_lload_n hx hb d_M_payOf_175 rfl (lv_at hl 6 rfl) ?_
              refine lv_lload hx hb d_M_payOf_176 (lv_at hl 2 rfl) ?_
              refine lv_lsub hx hb d_M_payOf_178 ?_
              refine lv_lload hx hb d_M_payOf_179 (lv_at hl 1 rfl) ?_
              refine lv_lsub hx hb d_M_payOf_181 ?_
              exact W.lret (v := ((n - (mnL (n) (((m_fixed (g_fix y (b))) (b).toNatClampNeg)))) - (mnL ((n - (mnL (n) (((m_fixed (g_fix y (b))) (b).toNatClampNeg))))) (((m_open (g_fix y (b))) (b).toNatClampNeg))))) hx hb hr (fun t ht hW => ⟨⟨_, (), rfl, by rw [g_payOf, if_pos c_440, if_neg c_444, if_neg c_448], w_450, by rw [ht]; exact hP, hD, by rw [g_payOf, if_pos c_440, if_neg c_444, if_neg c_448]; exact hU⟩, hS.F ht⟩) hS.2.2 d_M_payOf_182
        · have c_444 : ((((m_open (g_fix y (b))) (b).toNatClampNeg) - (mnL ((n - (mnL (n) (((m_fixed (g_fix y (b))) (b).toNatClampNeg))))) (((m_open (g_fix y (b))) (b).toNatClampNeg))))) = 0 := (lg_cmp_eq _ _).mp c_444
          refine lv_aload_n hx hb d_M_payOf_132 rfl (lv_at hl 2 rfl) ?_
          refine va_get (D := D) (ci := 3) (v := .ref (ma 3)) (C := R_M) (T := F_M) (N := 23) hx hb hts (in_M _) hown hK hP k hU.o rfl 7 (by decide) (hts (.fieldLink R_M 19 "DebtRowsModel" "state" "[I") (List.mem_cons_of_mem _ mB_421)) (fun _ h9 => h9) rfl d_M_payOf_133 ?_
          refine lv_iload_n hx hb d_M_payOf_136 rfl (lv_at hl 3 rfl) ?_
          refine lv_iconst (v := 4) hx hb d_M_payOf_137 (by decide) ?_
          refine va_iast hx hb hK hP hD hS (k + 4) 0 hU.a3 rfl (in_b hw hok) d_M_payOf_138 (fun H locs hP hD hS => ?_)
          have hU := hU.s_state (upd (m_state (g_fix y (b))) (b).toNatClampNeg (4))
          have hP : va_P D vwCl (w_438.set (k + 4) (ma 3, aI cI 41 (upd (m_state (g_fix y (b))) (b).toNatClampNeg (4)))) H := hP
          have hD : va_D A (w_438.set (k + 4) (ma 3, aI cI 41 (upd (m_state (g_fix y (b))) (b).toNatClampNeg (4)))) := hD
          generalize w_438.set (k + 4) (ma 3, aI cI 41 (upd (m_state (g_fix y (b))) (b).toNatClampNeg (4))) = w_451 at hP hD hU
          refine lv_goto (tgt := 175) hx hb d_M_payOf_139 (by decide) ?_
          refine lv_lload_n hx hb d_M_payOf_175 rfl (lv_at hl 5 rfl) ?_
          refine lv_lload hx hb d_M_payOf_176 (lv_at hl 1 rfl) ?_
          refine lv_lsub hx hb d_M_payOf_178 ?_
          refine lv_lload hx hb d_M_payOf_179 (lv_at hl 0 rfl) ?_
          refine lv_lsub hx hb d_M_payOf_181 ?_
          exact W.lret (v := ((n - (mnL (n) (((m_fixed (g_fix y (b))) (b).toNatClampNeg)))) - (mnL ((n - (mnL (n) (((m_fixed (g_fix y (b))) (b).toNatClampNeg))))) (((m_open (g_fix y (b))) (b).toNatClampNeg))))) hx hb hr (fun t ht hW => ⟨⟨_, (), rfl, by rw [g_payOf, if_pos c_440, if_pos c_444], w_451, by rw [ht]; exact hP, hD, by rw [g_payOf, if_pos c_440, if_pos c_444]; exact hU⟩, hS.F ht⟩) hS.2.2 d_M_payOf_182
    refine lv_if_ge (tgt := 71) hx hb d_M_payOf_61 (by decide) (fun c_435 => ?_) (fun c_435 => ?_)
    · have c_435 : ((m_open (g_fix y (b))) (b).toNatClampNeg) ≤ (n - (mnL (n) (((m_fixed (g_fix y (b))) (b).toNatClampNeg)))) := (lg_cmp_ge _ _).mp c_435
      refine lv_aload_n hx hb d_M_payOf_71 rfl (lv_at hl 1 rfl) ?_
      refine va_get (D := D) (ci := 3) (v := .ref (ma 7)) (C := R_M) (T := F_M) (N := 23) hx hb hts (in_M _) hown hK hP k hU.o rfl 11 (by decide) (hts (.fieldLink R_M 32 "DebtRowsModel" "open" "[J") (List.mem_cons_of_mem _ mB_425)) (fun _ h9 => h9) rfl d_M_payOf_72 ?_
      refine lv_iload_n hx hb d_M_payOf_75 rfl (lv_at hl 2 rfl) ?_
      refine va_lald hx hb hK hP (k + 8) 1 hU.a7 rfl (in_b hw hok) d_M_payOf_76 ?_
      exact kont_c_435 _ (mnL_p c_435)
    · have c_435 : ¬ ((m_open (g_fix y (b))) (b).toNatClampNeg) ≤ (n - (mnL (n) (((m_fixed (g_fix y (b))) (b).toNatClampNeg)))) := fun h9 => c_435 ((lg_cmp_ge _ _).mpr h9)
      refine lv_lload_n hx hb d_M_payOf_64 rfl (lv_at hl 4 rfl) ?_
      refine lv_lload hx hb d_M_payOf_65 (lv_at hl 0 rfl) ?_
      refine lv_lsub hx hb d_M_payOf_67 ?_
      refine lv_goto (tgt := 77) hx hb d_M_payOf_68 (by decide) ?_
      exact kont_c_435 _ (mnL_n c_435)
  refine lv_if_ge (tgt := 20) hx hb d_M_payOf_13 (by decide) (fun c_432 => ?_) (fun c_432 => ?_)
  · have c_432 : ((m_fixed (g_fix y (b))) (b).toNatClampNeg) ≤ n := (lg_cmp_ge _ _).mp c_432
    refine lv_aload_n hx hb d_M_payOf_20 rfl (lv_at hl 0 rfl) ?_
    refine va_get (D := D) (ci := 3) (v := .ref (ma 9)) (C := R_M) (T := F_M) (N := 23) hx hb hts (in_M _) hown hK hP k hU.o rfl 13 (by decide) (hts (.fieldLink R_M 38 "DebtRowsModel" "fixed" "[J") (List.mem_cons_of_mem _ mB_427)) (fun _ h9 => h9) rfl d_M_payOf_21 ?_
    refine lv_iload_n hx hb d_M_payOf_24 rfl (lv_at hl 1 rfl) ?_
    refine va_lald hx hb hK hP (k + 10) 1 hU.a9 rfl (in_b hw hok) d_M_payOf_25 ?_
    exact kont_c_432 _ (mnL_p c_432)
  · have c_432 : ¬ ((m_fixed (g_fix y (b))) (b).toNatClampNeg) ≤ n := fun h9 => c_432 ((lg_cmp_ge _ _).mpr h9)
    refine lv_lload_n hx hb d_M_payOf_16 rfl (lv_at hl 3 rfl) ?_
    refine lv_goto (tgt := 26) hx hb d_M_payOf_17 (by decide) ?_
    exact kont_c_432 _ (mnL_n c_432)
