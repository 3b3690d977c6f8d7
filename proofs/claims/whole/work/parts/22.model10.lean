def psL (y : MT) (b : Int32) : Nat → Nat → Int64 → Int64
  | _, 0, t => t
  | i, n + 1, t => psL y b (i + 1) n (t + ((m_paidBy y) (((4 * b) + nI i)).toNatClampNeg))
def smL (y : MT) : Nat → Nat → Int64 → Int64 → Int64 → Int64 → Int64 → Int64 × Int64 × Int64 × Int64 × Int64
  | _, 0, a, s, p, g, t => (a, s, p, g, t)
  | i, n + 1, a, s, p, g, t => smL y (i + 1) n (a + ((m_cents y) (nI (i + 1)).toNatClampNeg)) (s + ((m_open y) (nI (i + 1)).toNatClampNeg)) (psL y (nI (i + 1)) 0 ((m_debtors y) (nI (i + 1)).toNatClampNeg).toNatClampNeg p) (g + ((m_lost y) (nI (i + 1)).toNatClampNeg)) (t + ((m_interestPaid y) (nI (i + 1)).toNatClampNeg))
def g_sum (y : MT) (wh : Int32) : Int64 × MT :=
  if wh < 20 then (if wh = 0 then ((smL y 0 (m_debts y).toNatClampNeg 0 0 0 0 0).1, (n_thrown y (0)))
    else if wh = 1 then ((smL y 0 (m_debts y).toNatClampNeg 0 0 0 0 0).2.1, (n_thrown y (0)))
      else if wh = 2 then ((smL y 0 (m_debts y).toNatClampNeg 0 0 0 0 0).2.2.1, (n_thrown y (0)))
        else if wh = 3 then ((smL y 0 (m_debts y).toNatClampNeg 0 0 0 0 0).2.2.2.1, (n_thrown y (0)))
          else if wh = 4 then ((smL y 0 (m_debts y).toNatClampNeg 0 0 0 0 0).2.2.2.2, (n_thrown y (0)))
            else if wh = 5 then ((m_debts y : Int32).toInt64, (n_thrown y (0)))
              else if wh = 6 then ((m_today y : Int32).toInt64, (n_thrown y (0)))
                else if wh = 7 then ((m_rates y : Int32).toInt64, (n_thrown y (0)))
                  else (-1, (n_thrown y (0))))
  else if (g_isPerson ((wh - 20))) = 0 then (-1, (n_thrown y (0)))
    else (((m_credit y) ((wh - 20)).toNatClampNeg), (n_thrown y (0)))
set_option maxHeartbeats 4000000 in
set_option maxRecDepth 100000 in
theorem c_M_sum (l : Launch) (D : va_G) (A : Nat → Prop) (w : va_W) (cI cL cD : ClassId) (k h0 : Nat) (ma : Nat → Nat) (y : MT) (wh : Int32) (hU0 : mA w k cI cL h0 ma y) (hw : wfM y) : Met l y_M_sum w_M_sum ({ frames := 1, cells := 0, slots := 0, locals := 20 }) (mPc D w (tyL cI cL cD) A [.ref h0, .int (wh)]) (va_Ql (fun z9 (_ : Unit) => z9 = (g_sum y wh).1) (fun (_ : Unit) t => ∃ w9 : va_W, va_P D vwCl w9 t.heap ∧ va_D A w9 ∧ mUpd w w9 k cI cL h0 ma ((g_sum y wh).2)) A) 0 0 A := by
  refine Met.ofW (cc := b_M_sum) (maxL := 14) (ret := (some .long)) (by decide) rfl ?_
  intro p e s m args below meth c s₁ B hml hv
  obtain ⟨rfl, hP, hK, hD⟩ := hv
  have hx := B.exec
  have hb := B.bytes
  have hr := B.returns
  have hts := atoms_spec (ws := w_M_sum) B.pre
  have hown : s.vm.findClass R_M = some m.cls := findClass_of_methodNamed B.named
  have hlocks := B.notSynchronized
  have hS : va_S A s.heap s.heap [] := va_S.rf
  have hU : mUpd w w k cI cL h0 ma y := mUpd.rf hU0
  have hl := lv_entry ([.ref h0, .int (wh)]) (n := 14) (Nat.le_of_ble_eq_true rfl)
  rw [lg_entry_eq]
  generalize (lg_sl ([.ref h0, .int (wh)]) ++ List.replicate (14 - (lg_sl ([.ref h0, .int (wh)])).length) Slot.unset).toArray = ls at hl ⊢
  have hl : lv_has ls 14 [(0, .ref h0), (1, .int (wh))] := hl
  refine lv_aload_n hx hb d_M_sum_0 rfl (lv_at hl 0 rfl) ?_
  refine lv_iconst (v := 0) hx hb d_M_sum_1 (by decide) ?_
  refine va_put (D := D) (ci := 3) (v := .int (0)) (ty := .int) (C := R_M) (T := F_M) (N := 23) hx hb hts (in_M _) t_M to_M nn_M hown hK hP hD hS k hU.o rfl 0 (by decide) (hts (.fieldLink R_M 68 "DebtRowsModel" "thrown" "I") (List.mem_cons_of_mem _ mB_414)) (fun _ h9 => h9) rfl (by decide +kernel) rfl rfl (Nat.le_of_ble_eq_true rfl) d_M_sum_2 (fun H locs hP hD hS => ?_)
  have hU := hU.s_thrown (0)
  have hP : va_P D vwCl (w.set k (h0, mE ma (n_thrown y (0)))) H := hP
  have hD : va_D A (w.set k (h0, mE ma (n_thrown y (0)))) := hD
  generalize w.set k (h0, mE ma (n_thrown y (0))) = w_619 at hP hD hU
  refine lv_iload_n hx hb d_M_sum_5 rfl (lv_at hl 1 rfl) ?_
  refine lv_bipush (v := 20) hx hb d_M_sum_6 (by decide) ?_
  refine lv_icmp_lt (tgt := 37) hx hb d_M_sum_8 (by decide) (fun c_620 => ?_) (fun c_620 => ?_)
  · refine lv_lconst (v := 0) hx hb d_M_sum_37 (by decide) ?_
    refine lv_lstore_n (lv' := [(2, .long (0)), (0, .ref h0), (1, .int (wh))]) hx hb d_M_sum_38 rfl hl (by decide) rfl (fun ls hl => ?_)
    refine lv_lconst (v := 0) hx hb d_M_sum_39 (by decide) ?_
    refine lv_lstore (lv' := [(4, .long (0)), (2, .long (0)), (0, .ref h0), (1, .int (wh))]) hx hb d_M_sum_40 hl (by decide) rfl (fun ls hl => ?_)
    refine lv_lconst (v := 0) hx hb d_M_sum_42 (by decide) ?_
    refine lv_lstore (lv' := [(6, .long (0)), (4, .long (0)), (2, .long (0)), (0, .ref h0), (1, .int (wh))]) hx hb d_M_sum_43 hl (by decide) rfl (fun ls hl => ?_)
    refine lv_lconst (v := 0) hx hb d_M_sum_45 (by decide) ?_
    refine lv_lstore (lv' := [(8, .long (0)), (6, .long (0)), (4, .long (0)), (2, .long (0)), (0, .ref h0), (1, .int (wh))]) hx hb d_M_sum_46 hl (by decide) rfl (fun ls hl => ?_)
    refine lv_lconst (v := 0) hx hb d_M_sum_48 (by decide) ?_
    refine lv_lstore (lv' := [(10, .long (0)), (8, .long (0)), (6, .long (0)), (4, .long (0)), (2, .long (0)), (0, .ref h0), (1, .int (wh))]) hx hb d_M_sum_49 hl (by decide) rfl (fun ls hl => ?_)
    refine lv_iconst (v := 1) hx hb d_M_sum_51 (by decide) ?_
    refine lv_istore (lv' := [(12, .int (1)), (10, .long (0)), (8, .long (0)), (6, .long (0)), (4, .long (0)), (2, .long (0)), (0, .ref h0), (1, .int (wh))]) hx hb d_M_sum_52 hl (by decide) rfl (fun ls hl => ?_)
    obtain ⟨nn, hnn, en⟩ := hw.1
    have loop : ∀ (n i : Nat) (va vs vp vg vt : Int64), i + n = nn → smL y i n va vs vp vg vt = smL y 0 nn 0 0 0 0 0 → ∀ (ls : Array Slot), lv_has ls 14 [(12, .int (nI (i + 1))), (2, .long (va)), (4, .long (vs)), (6, .long (vp)), (8, .long (vg)), (10, .long (vt)), (0, .ref h0), (1, .int (wh))] → W p l e (headSpec w_M_sum ({ frames := 1, cells := 0, slots := 0, locals := 20 })).room s m [.ref h0, .int (wh)].toArray below meth c H locs 0 0 (MQ below (va_Ql (fun z9 (_ : Unit) => z9 = (g_sum y wh).1) (fun (_ : Unit) t => ∃ w9 : va_W, va_P D vwCl w9 t.heap ∧ va_D A w9 ∧ mUpd w w9 k cI cL h0 ma ((g_sum y wh).2)) A) [.ref h0, .int (wh)].toArray s 0 0 A) (F0 m 54 ls []) := by
      intro n
      induction n with
      | zero =>
        intro i va vs vp vg vt hin hv ls hl
        refine lv_iload hx hb d_M_sum_54 (lv_at hl 0 rfl) ?_
        refine lv_aload_n hx hb d_M_sum_56 rfl (lv_at hl 6 rfl) ?_
        refine va_get (D := D) (ci := 3) (v := .int (m_debts y)) (C := R_M) (T := F_M) (N := 23) hx hb hts (in_M _) hown hK hP k hU.o rfl 6 (by decide) (hts (.fieldLink R_M 72 "DebtRowsModel" "debts" "I") (List.mem_cons_of_mem _ mB_420)) (fun _ h9 => h9) rfl d_M_sum_57 ?_
        refine lv_icmp_gt (tgt := 153) hx hb d_M_sum_60 (by decide) (fun c_621 => ?_) (fun c_621 => ?_)
        · refine lv_iload_n hx hb d_M_sum_153 rfl (lv_at hl 7 rfl) ?_
          rcases Decidable.em (wh = (0 : Int32)) with c_622 | c_622
          · refine lv_tableIn (tgt := 200) hx hb d_M_sum_154 (by rw [c_622]; decide) (by rw [c_622]; decide) (by rw [c_622]; rfl) (by decide) ?_
            refine lv_lload_n hx hb d_M_sum_200 rfl (lv_at hl 1 rfl) ?_
            exact W.lret (v := va) hx hb hr (fun t ht hW => ⟨⟨_, (), rfl, by rw [g_sum, if_pos c_620, if_pos c_622, en, nI_clamp (by omega), ← hv]; rfl, w_619, by rw [ht]; exact hP, hD, by rw [g_sum, if_pos c_620, if_pos c_622]; exact hU⟩, hS.F ht⟩) hS.2.2 d_M_sum_201
          · rcases Decidable.em (wh = (1 : Int32)) with c_623 | c_623
            · refine lv_tableIn (tgt := 202) hx hb d_M_sum_154 (by rw [c_623]; decide) (by rw [c_623]; decide) (by rw [c_623]; rfl) (by decide) ?_
              refine lv_lload hx hb d_M_sum_202 (lv_at hl 2 rfl) ?_
              exact W.lret (v := vs) hx hb hr (fun t ht hW => ⟨⟨_, (), rfl, by rw [g_sum, if_pos c_620, if_neg c_622, if_pos c_623, en, nI_clamp (by omega), ← hv]; rfl, w_619, by rw [ht]; exact hP, hD, by rw [g_sum, if_pos c_620, if_neg c_622, if_pos c_623]; exact hU⟩, hS.F ht⟩) hS.2.2 d_M_sum_204
            · rcases Decidable.em (wh = (2 : Int32)) with c_624 | c_624
              · refine lv_tableIn (tgt := 205) hx hb d_M_sum_154 (by rw [c_624]; decide) (by rw [c_624]; decide) (by rw [c_624]; rfl) (by decide) ?_
                refine lv_lload hx hb d_M_sum_205 (lv_at hl 3 rfl) ?_
                exact W.lret (v := vp) hx hb hr (fun t ht hW => ⟨⟨_, (), rfl, by rw [g_sum, if_pos c_620, if_neg c_622, if_neg c_623, if_pos c_624, en, nI_clamp (by omega), ← hv]; rfl, w_619, by rw [ht]; exact hP, hD, by rw [g_sum, if_pos c_620, if_neg c_622, if_neg c_623, if_pos c_624]; exact hU⟩, hS.F ht⟩) hS.2.2 d_M_sum_207
              · rcases Decidable.em (wh = (3 : Int32)) with c_625 | c_625
                · refine lv_tableIn (tgt := 208) hx hb d_M_sum_154 (by rw [c_625]; decide) (by rw [c_625]; decide) (by rw [c_625]; rfl) (by decide) ?_
                  refine lv_lload hx hb d_M_sum_208 (lv_at hl 4 rfl) ?_
                  exact W.lret (v := vg) hx hb hr (fun t ht hW => ⟨⟨_, (), rfl, by rw [g_sum, if_pos c_620, if_neg c_622, if_neg c_623, if_neg c_624, if_pos c_625, en, nI_clamp (by omega), ← hv]; rfl, w_619, by rw [ht]; exact hP, hD, by rw [g_sum, if_pos c_620, if_neg c_622, if_neg c_623, if_neg c_624, if_pos c_625]; exact hU⟩, hS.F ht⟩) hS.2.2 d_M_sum_210
                · rcases Decidable.em (wh = (4 : Int32)) with c_626 | c_626
                  · refine lv_tableIn (tgt := 211) hx hb d_M_sum_154 (by rw [c_626]; decide) (by rw [c_626]; decide) (by rw [c_626]; rfl) (by decide) ?_
                    refine lv_lload hx hb d_M_sum_211 (lv_at hl 5 rfl) ?_
                    exact W.lret (v := vt) hx hb hr (fun t ht hW => ⟨⟨_, (), rfl, by rw [g_sum, if_pos c_620, if_neg c_622, if_neg c_623, if_neg c_624, if_neg c_625, if_pos c_626, en, nI_clamp (by omega), ← hv]; rfl, w_619, by rw [ht]; exact hP, hD, by rw [g_sum, if_pos c_620, if_neg c_622, if_neg c_623, if_neg c_624, if_neg c_625, if_pos c_626]; exact hU⟩, hS.F ht⟩) hS.2.2 d_M_sum_213
                  · rcases Decidable.em (wh = (5 : Int32)) with c_627 | c_627
                    · refine lv_tableIn (tgt := 214) hx hb d_M_sum_154 (by rw [c_627]; decide) (by rw [c_627]; decide) (by rw [c_627]; rfl) (by decide) ?_
                      refine lv_aload_n hx hb d_M_sum_214 rfl (lv_at hl 6 rfl) ?_
                      refine va_get (D := D) (ci := 3) (v := .int (m_debts y)) (C := R_M) (T := F_M) (N := 23) hx hb hts (in_M _) hown hK hP k hU.o rfl 6 (by decide) (hts (.fieldLink R_M 72 "DebtRowsModel" "debts" "I") (List.mem_cons_of_mem _ mB_420)) (fun _ h9 => h9) rfl d_M_sum_215 ?_
                      refine lv_i2l hx hb d_M_sum_218 rfl ?_
                      exact W.lret (v := (m_debts y : Int32).toInt64) hx hb hr (fun t ht hW => ⟨⟨_, (), rfl, by rw [g_sum, if_pos c_620, if_neg c_622, if_neg c_623, if_neg c_624, if_neg c_625, if_neg c_626, if_pos c_627], w_619, by rw [ht]; exact hP, hD, by rw [g_sum, if_pos c_620, if_neg c_622, if_neg c_623, if_neg c_624, if_neg c_625, if_neg c_626, if_pos c_627]; exact hU⟩, hS.F ht⟩) hS.2.2 d_M_sum_219
                    · rcases Decidable.em (wh = (6 : Int32)) with c_628 | c_628
                      · refine lv_tableIn (tgt := 220) hx hb d_M_sum_154 (by rw [c_628]; decide) (by rw [c_628]; decide) (by rw [c_628]; rfl) (by decide) ?_
                        refine lv_aload_n hx hb d_M_sum_220 rfl (lv_at hl 6 rfl) ?_
                        refine va_get (D := D) (ci := 3) (v := .int (m_today y)) (C := R_M) (T := F_M) (N := 23) hx hb hts (in_M _) hown hK hP k hU.o rfl 1 (by decide) (hts (.fieldLink R_M 79 "DebtRowsModel" "today" "I") (List.mem_cons_of_mem _ mB_415)) (fun _ h9 => h9) rfl d_M_sum_221 ?_
                        refine lv_i2l hx hb d_M_sum_224 rfl ?_
                        exact W.lret (v := (m_today y : Int32).toInt64) hx hb hr (fun t ht hW => ⟨⟨_, (), rfl, by rw [g_sum, if_pos c_620, if_neg c_622, if_neg c_623, if_neg c_624, if_neg c_625, if_neg c_626, if_neg c_627, if_pos c_628], w_619, by rw [ht]; exact hP, hD, by rw [g_sum, if_pos c_620, if_neg c_622, if_neg c_623, if_neg c_624, if_neg c_625, if_neg c_626, if_neg c_627, if_pos c_628]; exact hU⟩, hS.F ht⟩) hS.2.2 d_M_sum_225
                      · rcases Decidable.em (wh = (7 : Int32)) with c_629 | c_629
                        · refine lv_tableIn (tgt := 226) hx hb d_M_sum_154 (by rw [c_629]; decide) (by rw [c_629]; decide) (by rw [c_629]; rfl) (by decide) ?_
                          refine lv_aload_n hx hb d_M_sum_226 rfl (lv_at hl 6 rfl) ?_
                          refine va_get (D := D) (ci := 3) (v := .int (m_rates y)) (C := R_M) (T := F_M) (N := 23) hx hb hts (in_M _) hown hK hP k hU.o rfl 2 (by decide) (hts (.fieldLink R_M 83 "DebtRowsModel" "rates" "I") (List.mem_cons_of_mem _ mB_416)) (fun _ h9 => h9) rfl d_M_sum_227 ?_
                          refine lv_i2l hx hb d_M_sum_230 rfl ?_
                          exact W.lret (v := (m_rates y : Int32).toInt64) hx hb hr (fun t ht hW => ⟨⟨_, (), rfl, by rw [g_sum, if_pos c_620, if_neg c_622, if_neg c_623, if_neg c_624, if_neg c_625, if_neg c_626, if_neg c_627, if_neg c_628, if_pos c_629], w_619, by rw [ht]; exact hP, hD, by rw [g_sum, if_pos c_620, if_neg c_622, if_neg c_623, if_neg c_624, if_neg c_625, if_neg c_626, if_neg c_627, if_neg c_628, if_pos c_629]; exact hU⟩, hS.F ht⟩) hS.2.2 d_M_sum_231
                        · refine lv_tableOut (tgt := 232) hx hb d_M_sum_154 (tsw8 c_622 c_623 c_624 c_625 c_626 c_627 c_628 c_629) (by decide) ?_
                          refine lv_ldc2 (own := R_M) (index := 131) (v := -1) hx hb hown (hts (.constantLong R_M 131 (-1)) (List.mem_cons_of_mem _ mB_533)) d_M_sum_232 ?_
                          exact W.lret (v := -1) hx hb hr (fun t ht hW => ⟨⟨_, (), rfl, by rw [g_sum, if_pos c_620, if_neg c_622, if_neg c_623, if_neg c_624, if_neg c_625, if_neg c_626, if_neg c_627, if_neg c_628, if_neg c_629], w_619, by rw [ht]; exact hP, hD, by rw [g_sum, if_pos c_620, if_neg c_622, if_neg c_623, if_neg c_624, if_neg c_625, if_neg c_626, if_neg c_627, if_neg c_628, if_neg c_629]; exact hU⟩, hS.F ht⟩) hS.2.2 d_M_sum_235
        · exact absurd (by rw [en]; exact nI_lt (by omega) (by omega)) c_621
      | succ n ih =>
        intro i va vs vp vg vt hin hv ls hl
        refine lv_iload hx hb d_M_sum_54 (lv_at hl 0 rfl) ?_
        refine lv_aload_n hx hb d_M_sum_56 rfl (lv_at hl 6 rfl) ?_
        refine va_get (D := D) (ci := 3) (v := .int (m_debts y)) (C := R_M) (T := F_M) (N := 23) hx hb hts (in_M _) hown hK hP k hU.o rfl 6 (by decide) (hts (.fieldLink R_M 72 "DebtRowsModel" "debts" "I") (List.mem_cons_of_mem _ mB_420)) (fun _ h9 => h9) rfl d_M_sum_57 ?_
        refine lv_icmp_gt (tgt := 153) hx hb d_M_sum_60 (by decide) (fun c_630 => ?_) (fun c_630 => ?_)
        · exact absurd c_630 (by rw [en]; exact nI_nlt (by omega) (by omega))
        · refine lv_lload_n hx hb d_M_sum_63 rfl (lv_at hl 1 rfl) ?_
          refine lv_aload_n hx hb d_M_sum_64 rfl (lv_at hl 6 rfl) ?_
          refine va_get (D := D) (ci := 3) (v := .ref (ma 6)) (C := R_M) (T := F_M) (N := 23) hx hb hts (in_M _) hown hK hP k hU.o rfl 10 (by decide) (hts (.fieldLink R_M 28 "DebtRowsModel" "cents" "[J") (List.mem_cons_of_mem _ mB_424)) (fun _ h9 => h9) rfl d_M_sum_65 ?_
          refine lv_iload hx hb d_M_sum_68 (lv_at hl 0 rfl) ?_
          refine va_lald hx hb hK hP (k + 7) 1 hU.a6 rfl (in_b hw (okM_nI en hnn (by omega))) d_M_sum_70 ?_
          refine lv_ladd hx hb d_M_sum_71 ?_
          refine lv_lstore_n (lv' := [(2, .long ((va + ((m_cents y) (nI (i + 1)).toNatClampNeg)))), (12, .int (nI (i + 1))), (4, .long (vs)), (6, .long (vp)), (8, .long (vg)), (10, .long (vt)), (0, .ref h0), (1, .int (wh))]) hx hb d_M_sum_72 rfl hl (by decide) rfl (fun ls hl => ?_)
          refine lv_lload hx hb d_M_sum_73 (lv_at hl 2 rfl) ?_
          refine lv_aload_n hx hb d_M_sum_75 rfl (lv_at hl 6 rfl) ?_
          refine va_get (D := D) (ci := 3) (v := .ref (ma 7)) (C := R_M) (T := F_M) (N := 23) hx hb hts (in_M _) hown hK hP k hU.o rfl 11 (by decide) (hts (.fieldLink R_M 32 "DebtRowsModel" "open" "[J") (List.mem_cons_of_mem _ mB_425)) (fun _ h9 => h9) rfl d_M_sum_76 ?_
          refine lv_iload hx hb d_M_sum_79 (lv_at hl 1 rfl) ?_
          refine va_lald hx hb hK hP (k + 8) 1 hU.a7 rfl (in_b hw (okM_nI en hnn (by omega))) d_M_sum_81 ?_
          refine lv_ladd hx hb d_M_sum_82 ?_
          refine lv_lstore (lv' := [(4, .long ((vs + ((m_open y) (nI (i + 1)).toNatClampNeg)))), (2, .long ((va + ((m_cents y) (nI (i + 1)).toNatClampNeg)))), (12, .int (nI (i + 1))), (6, .long (vp)), (8, .long (vg)), (10, .long (vt)), (0, .ref h0), (1, .int (wh))]) hx hb d_M_sum_83 hl (by decide) rfl (fun ls hl => ?_)
          refine lv_lload hx hb d_M_sum_85 (lv_at hl 4 rfl) ?_
          refine lv_aload_n hx hb d_M_sum_87 rfl (lv_at hl 6 rfl) ?_
          refine va_get (D := D) (ci := 3) (v := .ref (ma 8)) (C := R_M) (T := F_M) (N := 23) hx hb hts (in_M _) hown hK hP k hU.o rfl 12 (by decide) (hts (.fieldLink R_M 35 "DebtRowsModel" "lost" "[J") (List.mem_cons_of_mem _ mB_426)) (fun _ h9 => h9) rfl d_M_sum_88 ?_
          refine lv_iload hx hb d_M_sum_91 (lv_at hl 2 rfl) ?_
          refine va_lald hx hb hK hP (k + 9) 1 hU.a8 rfl (in_b hw (okM_nI en hnn (by omega))) d_M_sum_93 ?_
          refine lv_ladd hx hb d_M_sum_94 ?_
          refine lv_lstore (lv' := [(8, .long ((vg + ((m_lost y) (nI (i + 1)).toNatClampNeg)))), (4, .long ((vs + ((m_open y) (nI (i + 1)).toNatClampNeg)))), (2, .long ((va + ((m_cents y) (nI (i + 1)).toNatClampNeg)))), (12, .int (nI (i + 1))), (6, .long (vp)), (10, .long (vt)), (0, .ref h0), (1, .int (wh))]) hx hb d_M_sum_95 hl (by decide) rfl (fun ls hl => ?_)
          refine lv_lload hx hb d_M_sum_97 (lv_at hl 5 rfl) ?_
          refine lv_aload_n hx hb d_M_sum_99 rfl (lv_at hl 6 rfl) ?_
          refine va_get (D := D) (ci := 3) (v := .ref (ma 11)) (C := R_M) (T := F_M) (N := 23) hx hb hts (in_M _) hown hK hP k hU.o rfl 15 (by decide) (hts (.fieldLink R_M 44 "DebtRowsModel" "interestPaid" "[J") (List.mem_cons_of_mem _ mB_429)) (fun _ h9 => h9) rfl d_M_sum_100 ?_
          refine lv_iload hx hb d_M_sum_103 (lv_at hl 3 rfl) ?_
          refine va_lald hx hb hK hP (k + 12) 1 hU.a11 rfl (in_b hw (okM_nI en hnn (by omega))) d_M_sum_105 ?_
          refine lv_ladd hx hb d_M_sum_106 ?_
          refine lv_lstore (lv' := [(10, .long ((vt + ((m_interestPaid y) (nI (i + 1)).toNatClampNeg)))), (8, .long ((vg + ((m_lost y) (nI (i + 1)).toNatClampNeg)))), (4, .long ((vs + ((m_open y) (nI (i + 1)).toNatClampNeg)))), (2, .long ((va + ((m_cents y) (nI (i + 1)).toNatClampNeg)))), (12, .int (nI (i + 1))), (6, .long (vp)), (0, .ref h0), (1, .int (wh))]) hx hb d_M_sum_107 hl (by decide) rfl (fun ls hl => ?_)
          refine lv_iconst (v := 0) hx hb d_M_sum_109 (by decide) ?_
          refine lv_istore (lv' := [(13, .int (0)), (10, .long ((vt + ((m_interestPaid y) (nI (i + 1)).toNatClampNeg)))), (8, .long ((vg + ((m_lost y) (nI (i + 1)).toNatClampNeg)))), (4, .long ((vs + ((m_open y) (nI (i + 1)).toNatClampNeg)))), (2, .long ((va + ((m_cents y) (nI (i + 1)).toNatClampNeg)))), (12, .int (nI (i + 1))), (6, .long (vp)), (0, .ref h0), (1, .int (wh))]) hx hb d_M_sum_110 hl (by decide) rfl (fun ls hl => ?_)
          obtain ⟨kk, hkk, ek⟩ := hw.2.2.1 (nI (i + 1)).toNatClampNeg
          have inner : ∀ (n2 i2 : Nat) (p0 : Int64), i2 + n2 = kk → psL y (nI (i + 1)) i2 n2 p0 = psL y (nI (i + 1)) 0 ((m_debtors y) (nI (i + 1)).toNatClampNeg).toNatClampNeg vp → ∀ (ls : Array Slot), lv_has ls 14 [(13, .int (nI i2)), (12, .int (nI (i + 1))), (2, .long ((va + ((m_cents y) (nI (i + 1)).toNatClampNeg)))), (4, .long ((vs + ((m_open y) (nI (i + 1)).toNatClampNeg)))), (6, .long (p0)), (8, .long ((vg + ((m_lost y) (nI (i + 1)).toNatClampNeg)))), (10, .long ((vt + ((m_interestPaid y) (nI (i + 1)).toNatClampNeg)))), (0, .ref h0), (1, .int (wh))] → W p l e (headSpec w_M_sum ({ frames := 1, cells := 0, slots := 0, locals := 20 })).room s m [.ref h0, .int (wh)].toArray below meth c H locs 0 0 (MQ below (va_Ql (fun z9 (_ : Unit) => z9 = (g_sum y wh).1) (fun (_ : Unit) t => ∃ w9 : va_W, va_P D vwCl w9 t.heap ∧ va_D A w9 ∧ mUpd w w9 k cI cL h0 ma ((g_sum y wh).2)) A) [.ref h0, .int (wh)].toArray s 0 0 A) (F0 m 112 ls []) := by
            intro n2
            induction n2 with
            | zero =>
              intro i2 p0 hin2 hv2 ls hl
              refine lv_iload hx hb d_M_sum_112 (lv_at hl 0 rfl) ?_
              refine lv_aload_n hx hb d_M_sum_114 rfl (lv_at hl 7 rfl) ?_
              refine va_get (D := D) (ci := 3) (v := .ref (ma 15)) (C := R_M) (T := F_M) (N := 23) hx hb hts (in_M _) hown hK hP k hU.o rfl 19 (by decide) (hts (.fieldLink R_M 56 "DebtRowsModel" "debtors" "[I") (List.mem_cons_of_mem _ mB_433)) (fun _ h9 => h9) rfl d_M_sum_115 ?_
              refine lv_iload hx hb d_M_sum_118 (lv_at hl 1 rfl) ?_
              refine va_iald hx hb hK hP (k + 16) 0 hU.a15 rfl (in_b hw (okM_nI en hnn (by omega))) d_M_sum_120 ?_
              refine lv_icmp_ge (tgt := 147) hx hb d_M_sum_121 (by decide) (fun c_631 => ?_) (fun c_631 => ?_)
              · refine lv_iinc (v := nI (i + 1 + 1)) (lv' := [(12, .int (nI (i + 1 + 1))), (13, .int (nI i2)), (2, .long ((va + ((m_cents y) (nI (i + 1)).toNatClampNeg)))), (4, .long ((vs + ((m_open y) (nI (i + 1)).toNatClampNeg)))), (6, .long (p0)), (8, .long ((vg + ((m_lost y) (nI (i + 1)).toNatClampNeg)))), (10, .long ((vt + ((m_interestPaid y) (nI (i + 1)).toNatClampNeg)))), (0, .ref h0), (1, .int (wh))]) hx hb d_M_sum_147 hl (k := 1) rfl (by first | exact nI_inc (i + 1) | exact nI_inc i2 | rfl) (by decide) rfl (fun ls hl => ?_)
                refine lv_goto (tgt := 54) hx hb d_M_sum_150 (by decide) ?_
                exact ih (i + 1) ((va + ((m_cents y) (nI (i + 1)).toNatClampNeg))) ((vs + ((m_open y) (nI (i + 1)).toNatClampNeg))) (p0) ((vg + ((m_lost y) (nI (i + 1)).toNatClampNeg))) ((vt + ((m_interestPaid y) (nI (i + 1)).toNatClampNeg))) (by omega) (by rw [← hv, smL, ← hv2, psL]) ls (lv_sub hl [0, 2, 3, 4, 5, 6, 7, 8] rfl)
              · exact absurd (by rw [ek]; exact nI_le (by omega) (by omega)) c_631
            | succ n2 ih2 =>
              intro i2 p0 hin2 hv2 ls hl
              refine lv_iload hx hb d_M_sum_112 (lv_at hl 0 rfl) ?_
              refine lv_aload_n hx hb d_M_sum_114 rfl (lv_at hl 7 rfl) ?_
              refine va_get (D := D) (ci := 3) (v := .ref (ma 15)) (C := R_M) (T := F_M) (N := 23) hx hb hts (in_M _) hown hK hP k hU.o rfl 19 (by decide) (hts (.fieldLink R_M 56 "DebtRowsModel" "debtors" "[I") (List.mem_cons_of_mem _ mB_433)) (fun _ h9 => h9) rfl d_M_sum_115 ?_
              refine lv_iload hx hb d_M_sum_118 (lv_at hl 1 rfl) ?_
              refine va_iald hx hb hK hP (k + 16) 0 hU.a15 rfl (in_b hw (okM_nI en hnn (by omega))) d_M_sum_120 ?_
              refine lv_icmp_ge (tgt := 147) hx hb d_M_sum_121 (by decide) (fun c_632 => ?_) (fun c_632 => ?_)
              · exact absurd c_632 (by rw [ek]; exact nI_ge (by omega) (by omega))
              · refine lv_lload hx hb d_M_sum_124 (lv_at hl 4 rfl) ?_
                refine lv_aload_n hx hb d_M_sum_126 rfl (lv_at hl 7 rfl) ?_
                refine va_get (D := D) (ci := 3) (v := .ref (ma 17)) (C := R_M) (T := F_M) (N := 23) hx hb hts (in_M _) hown hK hP k hU.o rfl 21 (by decide) (hts (.fieldLink R_M 62 "DebtRowsModel" "paidBy" "[J") (List.mem_cons_of_mem _ mB_435)) (fun _ h9 => h9) rfl d_M_sum_127 ?_
                refine lv_iconst (v := 4) hx hb d_M_sum_130 (by decide) ?_
                refine lv_iload hx hb d_M_sum_131 (lv_at hl 1 rfl) ?_
                refine lv_imul hx hb d_M_sum_133 ?_
                refine lv_iload hx hb d_M_sum_134 (lv_at hl 0 rfl) ?_
                refine lv_iadd hx hb d_M_sum_136 ?_
                refine va_lald hx hb hK hP (k + 18) 1 hU.a17 rfl (in_4 hw (okM_nI en hnn (by omega)) (by omega)) d_M_sum_137 ?_
                refine lv_ladd hx hb d_M_sum_138 ?_
                refine lv_lstore (lv' := [(6, .long ((p0 + ((m_paidBy y) (((4 * nI (i + 1)) + nI i2)).toNatClampNeg)))), (13, .int (nI i2)), (12, .int (nI (i + 1))), (2, .long ((va + ((m_cents y) (nI (i + 1)).toNatClampNeg)))), (4, .long ((vs + ((m_open y) (nI (i + 1)).toNatClampNeg)))), (8, .long ((vg + ((m_lost y) (nI (i + 1)).toNatClampNeg)))), (10, .long ((vt + ((m_interestPaid y) (nI (i + 1)).toNatClampNeg)))), (0, .ref h0), (1, .int (wh))]) hx hb d_M_sum_139 hl (by decide) rfl (fun ls hl => ?_)
                refine lv_iinc (v := nI (i2 + 1)) (lv' := [(13, .int (nI (i2 + 1))), (6, .long ((p0 + ((m_paidBy y) (((4 * nI (i + 1)) + nI i2)).toNatClampNeg)))), (12, .int (nI (i + 1))), (2, .long ((va + ((m_cents y) (nI (i + 1)).toNatClampNeg)))), (4, .long ((vs + ((m_open y) (nI (i + 1)).toNatClampNeg)))), (8, .long ((vg + ((m_lost y) (nI (i + 1)).toNatClampNeg)))), (10, .long ((vt + ((m_interestPaid y) (nI (i + 1)).toNatClampNeg)))), (0, .ref h0), (1, .int (wh))]) hx hb d_M_sum_141 hl (k := 1) rfl (by first | exact nI_inc (i + 1) | exact nI_inc i2 | rfl) (by decide) rfl (fun ls hl => ?_)
                refine lv_goto (tgt := 112) hx hb d_M_sum_144 (by decide) ?_
                exact ih2 (i2 + 1) ((p0 + ((m_paidBy y) (((4 * nI (i + 1)) + nI i2)).toNatClampNeg))) (by omega) (by rw [← hv2, psL]) ls (lv_sub hl [0, 2, 3, 4, 1, 5, 6, 7, 8] rfl)
          exact inner kk 0 vp (by omega) (by rw [ek, nI_clamp (by omega)]) ls (lv_sub hl [0, 5, 4, 3, 6, 2, 1, 7, 8] rfl)
    exact loop nn 0 0 0 0 0 0 (by omega) rfl ls (lv_sub hl [0, 5, 4, 3, 2, 1, 6, 7] rfl)
  · refine lv_iload_n hx hb d_M_sum_11 rfl (lv_at hl 1 rfl) ?_
    refine lv_bipush (v := 20) hx hb d_M_sum_12 (by decide) ?_
    refine lv_isub hx hb d_M_sum_14 ?_
    refine vp_callSi (W.runS (As := [.int ((wh - 20))]) (rest := []) ⟨hx, hb, hml, hown, hts⟩ (c_M_isPerson l ((wh - 20))) (cwS 1 hts (gS _ mB_481 mB_482 mB_17 mB_483) rfl rfl rfl (by decide +kernel) ⟨(Nat.le_of_ble_eq_true rfl), (Nat.le_of_ble_eq_true rfl)⟩) ⟨fun _ _ _ _ q => q, fun U _ _ => ⟨rfl, trivial⟩⟩ rfl rfl hl.1 rfl (lv_room (Nat.le_of_ble_eq_true rfl)) d_M_sum_15 ⟨Nat.zero_le _, Nat.zero_le _⟩) (fun v_633 ev_633 => ?_)
    subst ev_633
    refine lv_if_eq (tgt := 33) hx hb d_M_sum_18 (by decide) (fun c_634 => ?_) (fun c_634 => ?_)
    · refine lv_ldc2 (own := R_M) (index := 131) (v := -1) hx hb hown (hts (.constantLong R_M 131 (-1)) (List.mem_cons_of_mem _ mB_533)) d_M_sum_33 ?_
      exact W.lret (v := -1) hx hb hr (fun t ht hW => ⟨⟨_, (), rfl, by rw [g_sum, if_neg c_620, if_pos c_634], w_619, by rw [ht]; exact hP, hD, by rw [g_sum, if_neg c_620, if_pos c_634]; exact hU⟩, hS.F ht⟩) hS.2.2 d_M_sum_36
    · refine lv_aload_n hx hb d_M_sum_21 rfl (lv_at hl 0 rfl) ?_
      refine va_get (D := D) (ci := 3) (v := .ref (ma 18)) (C := R_M) (T := F_M) (N := 23) hx hb hts (in_M _) hown hK hP k hU.o rfl 22 (by decide) (hts (.fieldLink R_M 65 "DebtRowsModel" "credit" "[J") (List.mem_cons_of_mem _ mB_436)) (fun _ h9 => h9) rfl d_M_sum_22 ?_
      refine lv_iload_n hx hb d_M_sum_25 rfl (lv_at hl 1 rfl) ?_
      refine lv_bipush (v := 20) hx hb d_M_sum_26 (by decide) ?_
      refine lv_isub hx hb d_M_sum_28 ?_
      refine va_lald hx hb hK hP (k + 19) 1 hU.a18 rfl (in_pp c_634) d_M_sum_29 ?_
      refine lv_goto (tgt := 36) hx hb d_M_sum_30 (by decide) ?_
      exact W.lret (v := ((m_credit y) ((wh - 20)).toNatClampNeg)) hx hb hr (fun t ht hW => ⟨⟨_, (), rfl, by rw [g_sum, if_neg c_620, if_neg c_634], w_619, by rw [ht]; exact hP, hD, by rw [g_sum, if_neg c_620, if_neg c_634]; exact hU⟩, hS.F ht⟩) hS.2.2 d_M_sum_36
