theorem cA.add {w w1 : va_W} {b : Nat} {cI cL cD : ClassId} {a : AD} {z : XT} {q hp hq : Nat} {d : DT} (h : cA w b cI cL cD a z) (hn : a_n a < 40) (hl : w1.length = b + 7 + 3 * a_n a + 3) (hk : ∀ j, j < b + 7 + 3 * a_n a → w1[j]? = w[j]?) (hd : dAt w1 (b + 7 + 3 * a_n a) cI cL q hp hq d) (hw : wfD d) :
    ∃ a2 : AD, a_x a2 = a_x a ∧ cA ((w1.set (b + 5) (a_ds a, aQ cD 40 (va_up (a_g a) (a_n a) (some q)))).set b (a_x a, xE (a_r0 a) (a_ds a) (a_cr a) (y_cnt z (x_cnt z + 1)))) b cI cL cD a2 (y_cnt (y_debt z (a_n a) d) (x_cnt z + 1)) := by
  obtain ⟨⟨h1, h2, h3, h4⟩, ⟨h5, h6, h7, h8⟩, h9⟩ := h
  refine ⟨(a_x a, a_r0 a, a_fr a, a_up a, a_dn a, a_ds a, a_cr a, a_n a + 1, va_up (a_da a) (a_n a) q, va_up (a_pa a) (a_n a) hp, va_up (a_qa a) (a_n a) hq, va_up (a_g a) (a_n a) (some q)), rfl, ⟨?_, ?_, ?_, ?_⟩, ⟨?_, ?_, ?_, h8⟩, ?_⟩
  · exact ws_s (x := (a_x a, xE (a_r0 a) (a_ds a) (a_cr a) z)) (by rw [ws_n (by omega), hk _ (by omega)]; exact h1)
  · exact h2.kx (fun j _ _ => by rw [ws_n (by omega), ws_n (by omega), hk _ (by omega)])
  · rw [ws_n (by omega)]
    exact ws_s (x := (a_ds a, aQ cD 40 (a_g a))) (by rw [hk _ (by omega)]; exact h3)
  · rw [ws_n (by omega), ws_n (by omega), hk _ (by omega)]; exact h4
  · show a_n a + 1 ≤ 40
    omega
  · show x_cnt z + 1 = nI (a_n a + 1)
    rw [h6, nI_1]
  · rw [List.length_set, List.length_set, hl]
    show _ = b + 7 + 3 * (a_n a + 1)
    omega
  · intro i hi
    have hi : i < a_n a + 1 := hi
    by_cases e : i = a_n a
    · subst e
      refine ⟨?_, ?_, ?_⟩
      · show va_up (a_g a) (a_n a) (some q) (a_n a) = some (va_up (a_da a) (a_n a) q (a_n a))
        rw [va_up_self, va_up_self]
      · show dAt _ (b + 7 + 3 * a_n a) cI cL (va_up (a_da a) (a_n a) q (a_n a)) (va_up (a_pa a) (a_n a) hp (a_n a)) (va_up (a_qa a) (a_n a) hq (a_n a)) (va_up (x_debts z) (a_n a) d (a_n a))
        rw [va_up_self, va_up_self, va_up_self, va_up_self]
        exact hd.kx (fun j _ _ => by rw [ws_n (by omega), ws_n (by omega)])
      · show wfD (va_up (x_debts z) (a_n a) d (a_n a))
        rw [va_up_self]; exact hw
    · have hi2 : i < a_n a := by omega
      obtain ⟨g1, g2, g3⟩ := h9 i hi2
      refine ⟨?_, ?_, ?_⟩
      · show va_up (a_g a) (a_n a) (some q) i = some (va_up (a_da a) (a_n a) q i)
        rw [va_up_ne _ _ e, va_up_ne _ _ e]; exact g1
      · show dAt _ (b + 7 + 3 * i) cI cL (va_up (a_da a) (a_n a) q i) (va_up (a_pa a) (a_n a) hp i) (va_up (a_qa a) (a_n a) hq i) (va_up (x_debts z) (a_n a) d i)
        rw [va_up_ne _ _ e, va_up_ne _ _ e, va_up_ne _ _ e, va_up_ne _ _ e]
        exact g2.kx (fun j _ _ => by rw [ws_n (by omega), ws_n (by omega), hk _ (by omega)])
      · show wfD (va_up (x_debts z) (a_n a) d i)
        rw [va_up_ne _ _ e]; exact g3
theorem cnt_lt {x : Int32} {n : Nat} (h : x < 40) (e : x = nI n) (hn : n ≤ 40) : n < 40 := by
  rcases Nat.lt_or_ge n 40 with q | q
  · exact q
  · exact absurd h (by rw [e]; exact nI_nlt q (by omega))

def f_debt (z : XT) (cents : Int64) (who : Int32) : Int32 × Int32 × XT :=
  if (f_isSum (cents)) = 0 then (1, 0, z)
  else if (f_isPerson (who)) = 0 then (1, 0, z)
    else if x_cnt z < 40 then (0, (x_cnt z + 1), y_cnt (y_debt z (x_cnt z).toNatClampNeg (f_join (dNew cents (x_today z)) (who)).2) (x_cnt z + 1))
      else (2, 0, z)
set_option maxHeartbeats 4000000 in
set_option maxRecDepth 100000 in
theorem c_debt (l : Launch) (hl9 : l.stackTraces = false) (D : va_G) (A : Nat → Prop) (w : va_W) (cI cL cD : ClassId) (b : Nat) (a : AD) (z : XT) (cents : Int64) (who : Int32) (hC0 : cA w b cI cL cD a z) : vx_Met l y_X_debt w_X_debt ({ frames := 6, cells := 3, slots := 23, locals := 90 }) (fPc D w (tyL cI cL cD) A [.ref (a_x a), .long (cents), .int (who)]) (va_Qi (fun z9 (_ : Unit) => (f_debt z cents who).1 = 0 ∧ z9 = (f_debt z cents who).2.1) (fun (_ : Unit) t => ∃ w9 : va_W, va_P D vwCl w9 t.heap ∧ va_D A w9 ∧ cAt w9 b cI cL cD (a_x a) ((f_debt z cents who).2.2) ∧ ∀ j, j < b → w9[j]? = w[j]?) A) (vx_X (fun _ : Unit => True) (fun E9 _ t => exN ["java/lang/IllegalArgumentException", "java/lang/IllegalStateException"] (f_debt z cents who).1 E9 ∧ va_P D vwCl w t.heap) A) 3 23 A := by
  refine vx_ofW (cc := b_X_debt) (maxL := 5) (ret := (some .int)) (by decide) rfl ?_
  intro p e s m args below meth c s₁ B hml hEx hv
  obtain ⟨rfl, hP, hK, hD, hE, hA⟩ := hv
  have hx := B.exec
  have hb := B.bytes
  have hr := B.returns
  have hts := atoms_spec (ws := w_X_debt) B.pre
  have hown : s.vm.findClass R_X = some m.cls := findClass_of_methodNamed B.named
  have hlocks := B.notSynchronized
  have hS : va_S A s.heap s.heap [] := va_S.rf
  have hC : cUpd w w b cI cL cD a z := cUpd.rf hC0
  have hl := lv_entry ([.ref (a_x a), .long (cents), .int (who)]) (n := 5) (Nat.le_of_ble_eq_true rfl)
  rw [lg_entry_eq]
  generalize (lg_sl ([.ref (a_x a), .long (cents), .int (who)]) ++ List.replicate (5 - (lg_sl ([.ref (a_x a), .long (cents), .int (who)])).length) Slot.unset).toArray = ls at hl ⊢
  have hl : lv_has ls 5 [(0, .ref (a_x a)), (1, .long (cents)), (3, .int (who))] := hl
  refine lv_lload_n hx hb d_X_debt_0 rfl (lv_at hl 1 rfl) ?_
  refine vp_callSi (W.runS (As := [.long (cents)]) (rest := []) ⟨hx, hb, hml, hown, hts⟩ (c_isSum l (cents)) (cwS 1 hts (gS _ mB_199 mB_200 mB_15 mB_201) rfl rfl rfl (by decide +kernel) ⟨(Nat.le_of_ble_eq_true rfl), (Nat.le_of_ble_eq_true rfl)⟩) ⟨fun _ _ _ _ q => q, fun U _ _ => ⟨rfl, trivial⟩⟩ rfl rfl hl.1 rfl (lv_room (Nat.le_of_ble_eq_true rfl)) d_X_debt_1 ⟨(Nat.le_of_ble_eq_true rfl), (Nat.le_of_ble_eq_true rfl)⟩) (fun v_294 ev_294 => ?_)
  subst ev_294
  refine lv_if_ne (tgt := 17) hx hb d_X_debt_4 (by decide) (fun c_295 => ?_) (fun c_295 => ?_)
  · refine lv_iload_n hx hb d_X_debt_17 rfl (lv_at hl 2 rfl) ?_
    refine vp_callSi (W.runS (As := [.int (who)]) (rest := []) ⟨hx, hb, hml, hown, hts⟩ (c_isPerson l (who)) (cwS 1 hts (gS _ mB_72 mB_73 mB_15 mB_74) rfl rfl rfl (by decide +kernel) ⟨(Nat.le_of_ble_eq_true rfl), (Nat.le_of_ble_eq_true rfl)⟩) ⟨fun _ _ _ _ q => q, fun U _ _ => ⟨rfl, trivial⟩⟩ rfl rfl hl.1 rfl (lv_room (Nat.le_of_ble_eq_true rfl)) d_X_debt_18 ⟨(Nat.le_of_ble_eq_true rfl), (Nat.le_of_ble_eq_true rfl)⟩) (fun v_296 ev_296 => ?_)
    subst ev_296
    refine lv_if_ne (tgt := 34) hx hb d_X_debt_21 (by decide) (fun c_297 => ?_) (fun c_297 => ?_)
    · refine lv_aload_n hx hb d_X_debt_34 rfl (lv_at hl 0 rfl) ?_
      refine va_get (D := D) (ci := 2) (v := .int (x_cnt z)) (C := R_X) (T := F_X) (N := 5) hx hb hts (in_X _) hown hK hP b hC.1.x rfl 3 (by decide) (hts (.fieldLink R_X 26 "DebtRows" "debtCount" "I") (List.mem_cons_of_mem _ mB_56)) (fun _ h9 => h9) rfl d_X_debt_35 ?_
      refine lv_bipush (v := 40) hx hb d_X_debt_38 (by decide) ?_
      refine lv_icmp_lt (tgt := 53) hx hb d_X_debt_40 (by decide) (fun c_298 => ?_) (fun c_298 => ?_)
      · refine va_new (ci := 0) (fs := [.long 0, .int 0, .null, .null, .int 0, .int 0, .int 0, .int 0, .long 0, .long 0, .long 0, .long 0, .int 0, .int 0, .long 0]) (C := R_D) (T := F_D) (N := 15) hx hb hts (in_D _) t_D to_D hown (hts (.classLink R_X 16 R_D) (List.mem_cons_of_mem _ mB_52)) (hts (.instantiable R_D 15) (List.mem_cons_of_mem _ mB_203)) (hts (.initialized R_D) (List.mem_cons_of_mem _ mB_24)) hK hP hD hS hA rfl (fun j hj => by rcases (show j = 0 ∨ j = 1 ∨ j = 2 ∨ j = 3 ∨ j = 4 ∨ j = 5 ∨ j = 6 ∨ j = 7 ∨ j = 8 ∨ j = 9 ∨ j = 10 ∨ j = 11 ∨ j = 12 ∨ j = 13 ∨ j = 14 by omega) with rfl | rfl | rfl | rfl | rfl | rfl | rfl | rfl | rfl | rfl | rfl | rfl | rfl | rfl | rfl <;> rfl) (Nat.le_of_ble_eq_true rfl) (Nat.le_of_ble_eq_true rfl) d_X_debt_53 (fun q_299 H hP hD hS => ?_)
        have hlt : a_n a < 40 := cnt_lt c_298 hC.1.en hC.1.n
        have hw0 : w.length = (b + 7 + 3 * a_n a) := hC.1.2.1.2.2.1
        have hq0 : ((w ++ [(q_299, .inr (0, [.long 0, .int 0, .null, .null, .int 0, .int 0, .int 0, .int 0, .long 0, .long 0, .long 0, .long 0, .int 0, .int 0, .long 0]))] : va_W))[(b + 7 + 3 * a_n a)]? = some (q_299, .inr (0, [.long 0, .int 0, .null, .null, .int 0, .int 0, .int 0, .int 0, .long 0, .long 0, .long 0, .long 0, .int 0, .int 0, .long 0])) := ap_r hw0
        have hold : ∀ j, j < (b + 7 + 3 * a_n a) → ((w ++ [(q_299, .inr (0, [.long 0, .int 0, .null, .null, .int 0, .int 0, .int 0, .int 0, .long 0, .long 0, .long 0, .long 0, .int 0, .int 0, .long 0]))] : va_W))[j]? = w[j]? := fun j hj => ap_k (by omega)
        have hlen : ((w ++ [(q_299, .inr (0, [.long 0, .int 0, .null, .null, .int 0, .int 0, .int 0, .int 0, .long 0, .long 0, .long 0, .long 0, .int 0, .int 0, .long 0]))] : va_W)).length = (b + 7 + 3 * a_n a) + 1 := ap_n hw0
        have hP : va_P D vwCl ((w ++ [(q_299, .inr (0, [.long 0, .int 0, .null, .null, .int 0, .int 0, .int 0, .int 0, .long 0, .long 0, .long 0, .long 0, .int 0, .int 0, .long 0]))] : va_W)) H := hP
        have hD : va_D A ((w ++ [(q_299, .inr (0, [.long 0, .int 0, .null, .null, .int 0, .int 0, .int 0, .int 0, .long 0, .long 0, .long 0, .long 0, .int 0, .int 0, .long 0]))] : va_W)) := hD
        generalize (w ++ [(q_299, .inr (0, [.long 0, .int 0, .null, .null, .int 0, .int 0, .int 0, .int 0, .long 0, .long 0, .long 0, .long 0, .int 0, .int 0, .long 0]))] : va_W) = w_300 at hP hD hq0 hold hlen
        refine lv_dup hx hb d_X_debt_56 rfl ?_
        refine lv_lload_n hx hb d_X_debt_57 rfl (lv_at hl 1 rfl) ?_
        refine lv_aload_n hx hb d_X_debt_58 rfl (lv_at hl 0 rfl) ?_
        refine va_get (D := D) (ci := 2) (v := .int (x_today z)) (C := R_X) (T := F_X) (N := 5) hx hb hts (in_X _) hown hK hP b (by rw [hold _ (by omega)]; exact hC.1.x) rfl 4 (by decide) (hts (.fieldLink R_X 30 "DebtRows" "today" "I") (List.mem_cons_of_mem _ mB_57)) (fun _ h9 => h9) rfl d_X_debt_59 ?_
        refine va_callv (va_runI (As := [.long (cents), .int (x_today z)]) (rest := [.ref q_299]) ⟨hx, hb, hml, hown, hts⟩ (c_Dinit l D A w_300 cI cL cD (b + 7 + 3 * a_n a) q_299 (cents) (x_today z) hq0 hlen) (cwI 2 hts (gI _ mB_206) rfl rfl rfl (hts (.initialized R_D) (List.mem_cons_of_mem _ mB_24)) (hts (.methodLink R_X 78 y_D_init) (List.mem_cons_of_mem _ mB_204)) (hts (.instanceMethod y_D_init) (List.mem_cons_of_mem _ mB_205)) rfl (by decide +kernel) ⟨(Nat.le_of_ble_eq_true rfl), (Nat.le_of_ble_eq_true rfl)⟩) ⟨aPc_bl, aPc_pr hP hK hD (fun q h => hA q (Nat.le_trans hS.1 h))⟩ rfl rfl hl.1 rfl (lv_room (Nat.le_of_ble_eq_true rfl)) d_X_debt_62 ⟨(Nat.le_of_ble_eq_true rfl), (Nat.le_of_ble_eq_true rfl)⟩) hS (fun _ _ h => h) (fun _ h => h) (fun u9 t H locs ht hvm e9 hB hz1 hk1 hS => ?_)
        obtain ⟨w_301, hp, hq, hP, hD, hdA, hlen, hk9⟩ := hB
        rw [ht] at hP
        have hold : ∀ j, j < (b + 7 + 3 * a_n a) → w_301[j]? = w[j]? := fun j hj => (hk9 j hj).trans (hold j hj)
        have hU : dUpd w_301 w_301 (b + 7 + 3 * a_n a) cI cL q_299 hp hq (dNew cents (x_today z)) := dUpd.rf hdA
        have hw : wfD (dNew cents (x_today z)) := ⟨⟨0, by omega, rfl⟩, ⟨0, by omega, rfl⟩⟩
        refine lv_astore (lv' := [(4, .ref q_299), (0, .ref (a_x a)), (1, .long (cents)), (3, .int (who))]) hx hb d_X_debt_65 hl (by decide) rfl (fun ls hl => ?_)
        refine lv_aload hx hb d_X_debt_67 (lv_at hl 0 rfl) ?_
        refine lv_iload_n hx hb d_X_debt_69 rfl (lv_at hl 3 rfl) ?_
        refine va_calli (va_runV (As := [.int (who)]) (rest := []) ⟨hx, hb, hml, hown, hts⟩ (c_join l D A w_301 cI cL cD (b + 7 + 3 * a_n a) q_299 hp hq (dNew cents (x_today z)) (who) hU.1 hw) (cwV 1 hts (gV _ mB_75 mB_76 mB_77 mB_24 mB_78) rfl rfl rfl (by decide +kernel) ⟨(Nat.le_of_ble_eq_true rfl), (Nat.le_of_ble_eq_true rfl)⟩) ⟨mPc_bl, va_recv hK hP (ci := 0) (q0 := (b + 7 + 3 * a_n a)) rfl hU.o, mPc_pr hP hK hD⟩ rfl rfl hl.1 rfl (lv_room (Nat.le_of_ble_eq_true rfl)) d_X_debt_70 ⟨(Nat.le_of_ble_eq_true rfl), (Nat.le_of_ble_eq_true rfl)⟩) hS (fun _ _ h => h) (fun _ h => h) (fun v_303 u9 t H locs ht hvm ev_303 hB hz1 hk1 hS => ?_)
        obtain ⟨w_302, hP, hD, hU1⟩ := hB
        rw [ht] at hP
        have hU := hU.tr hU1
        have hw : wfD (f_join (dNew cents (x_today z)) (who)).2 := wf_join hw
        refine lv_pop hx hb d_X_debt_73 rfl ?_
        refine lv_aload_n hx hb d_X_debt_74 rfl (lv_at hl 1 rfl) ?_
        refine va_get (D := D) (ci := 2) (v := .ref (a_ds a)) (C := R_X) (T := F_X) (N := 5) hx hb hts (in_X _) hown hK hP b (hU.out (by rw [hold _ (by omega)]; exact hC.1.x) (by omega)) rfl 1 (by decide) (hts (.fieldLink R_X 18 "DebtRows" "debts" "[LDebtRows$Debt;") (List.mem_cons_of_mem _ mB_54)) (fun _ h9 => h9) rfl d_X_debt_75 ?_
        refine lv_aload_n hx hb d_X_debt_78 rfl (lv_at hl 1 rfl) ?_
        refine va_get (D := D) (ci := 2) (v := .int (x_cnt z)) (C := R_X) (T := F_X) (N := 5) hx hb hts (in_X _) hown hK hP b (hU.out (by rw [hold _ (by omega)]; exact hC.1.x) (by omega)) rfl 3 (by decide) (hts (.fieldLink R_X 26 "DebtRows" "debtCount" "I") (List.mem_cons_of_mem _ mB_56)) (fun _ h9 => h9) rfl d_X_debt_79 ?_
        refine lv_aload hx hb d_X_debt_82 (lv_at hl 0 rfl) ?_
        refine va_astq hx hb hK hP hD hS (b + 5) 2 (b + 7 + 3 * a_n a) 0 (hU.out (by rw [hold _ (by omega)]; exact hC.1.ds) (by omega)) rfl hU.o rfl (show vp_in (x_cnt z) 40 from by rw [hC.1.en]; exact vp_in_nI hlt (by decide)) d_X_debt_84 (fun H locs hP hD hS => ?_)
        rw [hC.1.en, nI_clamp (by omega)] at hP hD
        have hP : va_P D vwCl (w_302.set (b + 5) (a_ds a, aQ cD 40 (va_up (a_g a) (a_n a) (some q_299)))) H := hP
        have hD : va_D A (w_302.set (b + 5) (a_ds a, aQ cD 40 (va_up (a_g a) (a_n a) (some q_299)))) := hD
        refine lv_aload_n hx hb d_X_debt_85 rfl (lv_at hl 1 rfl) ?_
        refine lv_dup hx hb d_X_debt_86 rfl ?_
        refine va_get (D := D) (ci := 2) (v := .int (x_cnt z)) (C := R_X) (T := F_X) (N := 5) hx hb hts (in_X _) hown hK hP b (by rw [ws_n (by omega)]; exact hU.out (by rw [hold _ (by omega)]; exact hC.1.x) (by omega)) rfl 3 (by decide) (hts (.fieldLink R_X 26 "DebtRows" "debtCount" "I") (List.mem_cons_of_mem _ mB_56)) (fun _ h9 => h9) rfl d_X_debt_87 ?_
        refine lv_iconst (v := 1) hx hb d_X_debt_90 (by decide) ?_
        refine lv_iadd hx hb d_X_debt_91 ?_
        refine va_put (D := D) (ci := 2) (v := .int ((x_cnt z + 1))) (ty := .int) (C := R_X) (T := F_X) (N := 5) hx hb hts (in_X _) t_X to_X nn_X hown hK hP hD hS b (by rw [ws_n (by omega)]; exact hU.out (by rw [hold _ (by omega)]; exact hC.1.x) (by omega)) rfl 3 (by decide) (hts (.fieldLink R_X 26 "DebtRows" "debtCount" "I") (List.mem_cons_of_mem _ mB_56)) (fun _ h9 => h9) rfl (by decide +kernel) rfl rfl (Nat.le_of_ble_eq_true rfl) d_X_debt_92 (fun H locs hP hD hS => ?_)
        have hP : va_P D vwCl ((w_302.set (b + 5) (a_ds a, aQ cD 40 (va_up (a_g a) (a_n a) (some q_299)))).set b (a_x a, xE (a_r0 a) (a_ds a) (a_cr a) (y_cnt z (x_cnt z + 1)))) H := hP
        have hD : va_D A ((w_302.set (b + 5) (a_ds a, aQ cD 40 (va_up (a_g a) (a_n a) (some q_299)))).set b (a_x a, xE (a_r0 a) (a_ds a) (a_cr a) (y_cnt z (x_cnt z + 1)))) := hD
        obtain ⟨a2, ea2, hC2⟩ := hC.1.add hlt (hU.2.1.trans hlen) (fun j hj => (hU.2.2 j (by omega)).trans (hold j hj)) hU.1 hw
        have hxx : ((w_302.set (b + 5) (a_ds a, aQ cD 40 (va_up (a_g a) (a_n a) (some q_299)))).set b (a_x a, xE (a_r0 a) (a_ds a) (a_cr a) (y_cnt z (x_cnt z + 1))))[b]? = some (a_x a, xE (a_r0 a) (a_ds a) (a_cr a) (y_cnt z (x_cnt z + 1))) := ws_s (x := (a_x a, xE (a_r0 a) (a_ds a) (a_cr a) z)) (by rw [ws_n (by omega)]; exact hU.out (by rw [hold _ (by omega)]; exact hC.1.x) (by omega))
        have hb9 : ∀ j, j < b → ((w_302.set (b + 5) (a_ds a, aQ cD 40 (va_up (a_g a) (a_n a) (some q_299)))).set b (a_x a, xE (a_r0 a) (a_ds a) (a_cr a) (y_cnt z (x_cnt z + 1))))[j]? = w[j]? := fun j hj => by rw [ws_n (by omega), ws_n (by omega), hU.2.2 j (by omega), hold j (by omega)]
        generalize (w_302.set (b + 5) (a_ds a, aQ cD 40 (va_up (a_g a) (a_n a) (some q_299)))).set b (a_x a, xE (a_r0 a) (a_ds a) (a_cr a) (y_cnt z (x_cnt z + 1))) = w_304 at hP hD hC2 hxx hb9
        refine lv_aload_n hx hb d_X_debt_95 rfl (lv_at hl 1 rfl) ?_
        refine va_get (D := D) (ci := 2) (v := .int ((x_cnt z + 1))) (C := R_X) (T := F_X) (N := 5) hx hb hts (in_X _) hown hK hP b hxx rfl 3 (by decide) (hts (.fieldLink R_X 26 "DebtRows" "debtCount" "I") (List.mem_cons_of_mem _ mB_56)) (fun _ h9 => h9) rfl d_X_debt_96 ?_
        refine vx_ret (W.widen (k := 3) (n := 23) (Nat.le_of_ble_eq_true rfl) (Nat.le_of_ble_eq_true rfl) ?_)
        exact W.iret (v := (x_cnt z + 1)) hx hb hr (fun t ht hW => ⟨⟨_, (), rfl, ⟨by rw [f_debt, if_neg c_295, if_neg c_297, if_pos c_298], by rw [f_debt, if_neg c_295, if_neg c_297, if_pos c_298]⟩, w_304, by rw [ht]; exact hP, hD, by rw [f_debt, if_neg c_295, if_neg c_297, if_pos c_298, show (x_cnt z).toNatClampNeg = a_n a from by rw [hC.1.en, nI_clamp (by omega)]]; exact ⟨a2, ea2, hC2⟩, hb9⟩, hS.F ht⟩) hS.2.2 d_X_debt_99
      · obtain ⟨sa9, hz9⟩ := hE.2.2.2 (76, "no more debts") (by decide)
        exact vx_throwS (own := R_X) (cls := "java/lang/IllegalStateException") (names := ["java/lang/RuntimeException", "java/lang/Exception"]) hx hb hl9 hown (by decide +kernel) (by decide +kernel) (hts (.classLink R_X 55 "java/lang/IllegalStateException") (List.mem_cons_of_mem _ mB_175)) (hts (.initialized "java/lang/IllegalStateException") (List.mem_cons_of_mem _ mB_23)) hz9 (vx_hat (B := badL) (fun w hw => hts w ((by decide +kernel : ∀ w ∈ (vx_atS R_X 59 "java/lang/IllegalStateException" ["java/lang/RuntimeException", "java/lang/Exception"]).filter goodWord, w ∈ w_X_debt) w hw)) (by decide +kernel) (fun w hw => bad_use hw (hE.2.2.1 w hw))) (by decide +kernel) hE.1 hE.2.1 hS (hl.1.trans hml.symm) d_X_debt_43 d_X_debt_46 d_X_debt_47 d_X_debt_49 d_X_debt_52 (fun x hx => (hEx x hx).elim) (Nat.le_of_ble_eq_true rfl) (Nat.le_of_ble_eq_true rfl) (Nat.le_of_ble_eq_true rfl) (Nat.le_of_ble_eq_true rfl) hlocks (fun t ha hsz hk => ⟨(), trivial, ⟨⟨1, rfl, by rw [f_debt, if_neg c_295, if_neg c_297, if_neg c_298]; rfl⟩, hP.kept (fun k q hq => hk q.1 (hP k q hq).lt)⟩, Nat.le_trans hS.1 hsz, fun q h1 h2 => (hk q (Nat.lt_of_lt_of_le h1 hS.1)).trans (hS.2.1 q h1 h2)⟩) hS.2.2 (Nat.le_of_ble_eq_true rfl) (Nat.le_of_ble_eq_true rfl)
    · obtain ⟨sa9, hz9⟩ := hE.2.2.2 (74, "no such person") (by decide)
      exact vx_throwS (own := R_X) (cls := "java/lang/IllegalArgumentException") (names := ["java/lang/RuntimeException", "java/lang/Exception"]) hx hb hl9 hown (by decide +kernel) (by decide +kernel) (hts (.classLink R_X 45 "java/lang/IllegalArgumentException") (List.mem_cons_of_mem _ mB_161)) (hts (.initialized "java/lang/IllegalArgumentException") (List.mem_cons_of_mem _ mB_22)) hz9 (vx_hat (B := badL) (fun w hw => hts w ((by decide +kernel : ∀ w ∈ (vx_atS R_X 49 "java/lang/IllegalArgumentException" ["java/lang/RuntimeException", "java/lang/Exception"]).filter goodWord, w ∈ w_X_debt) w hw)) (by decide +kernel) (fun w hw => bad_use hw (hE.2.2.1 w hw))) (by decide +kernel) hE.1 hE.2.1 hS (hl.1.trans hml.symm) d_X_debt_24 d_X_debt_27 d_X_debt_28 d_X_debt_30 d_X_debt_33 (fun x hx => (hEx x hx).elim) (Nat.le_of_ble_eq_true rfl) (Nat.le_of_ble_eq_true rfl) (Nat.le_of_ble_eq_true rfl) (Nat.le_of_ble_eq_true rfl) hlocks (fun t ha hsz hk => ⟨(), trivial, ⟨⟨0, rfl, by rw [f_debt, if_neg c_295, if_pos c_297]; rfl⟩, hP.kept (fun k q hq => hk q.1 (hP k q hq).lt)⟩, Nat.le_trans hS.1 hsz, fun q h1 h2 => (hk q (Nat.lt_of_lt_of_le h1 hS.1)).trans (hS.2.1 q h1 h2)⟩) hS.2.2 (Nat.le_of_ble_eq_true rfl) (Nat.le_of_ble_eq_true rfl)
  · obtain ⟨sa9, hz9⟩ := hE.2.2.2 (68, "no such sum") (by decide)
    exact vx_throwS (own := R_X) (cls := "java/lang/IllegalArgumentException") (names := ["java/lang/RuntimeException", "java/lang/Exception"]) hx hb hl9 hown (by decide +kernel) (by decide +kernel) (hts (.classLink R_X 45 "java/lang/IllegalArgumentException") (List.mem_cons_of_mem _ mB_161)) (hts (.initialized "java/lang/IllegalArgumentException") (List.mem_cons_of_mem _ mB_22)) hz9 (vx_hat (B := badL) (fun w hw => hts w ((by decide +kernel : ∀ w ∈ (vx_atS R_X 49 "java/lang/IllegalArgumentException" ["java/lang/RuntimeException", "java/lang/Exception"]).filter goodWord, w ∈ w_X_debt) w hw)) (by decide +kernel) (fun w hw => bad_use hw (hE.2.2.1 w hw))) (by decide +kernel) hE.1 hE.2.1 hS (hl.1.trans hml.symm) d_X_debt_7 d_X_debt_10 d_X_debt_11 d_X_debt_13 d_X_debt_16 (fun x hx => (hEx x hx).elim) (Nat.le_of_ble_eq_true rfl) (Nat.le_of_ble_eq_true rfl) (Nat.le_of_ble_eq_true rfl) (Nat.le_of_ble_eq_true rfl) hlocks (fun t ha hsz hk => ⟨(), trivial, ⟨⟨0, rfl, by rw [f_debt, if_pos c_295]; rfl⟩, hP.kept (fun k q hq => hk q.1 (hP k q hq).lt)⟩, Nat.le_trans hS.1 hsz, fun q h1 h2 => (hk q (Nat.lt_of_lt_of_le h1 hS.1)).trans (hS.2.1 q h1 h2)⟩) hS.2.2 (Nat.le_of_ble_eq_true rfl) (Nat.le_of_ble_eq_true rfl)
