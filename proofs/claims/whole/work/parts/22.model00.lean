def g_thrown (y : MT) : Int32 :=
  m_thrown y
set_option maxHeartbeats 4000000 in
set_option maxRecDepth 100000 in
theorem c_M_thrown (l : Launch) (D : va_G) (A : Nat → Prop) (w : va_W) (cI cL cD : ClassId) (k h0 : Nat) (ma : Nat → Nat) (y : MT)  (hU0 : mA w k cI cL h0 ma y) : Met l y_M_thrown w_M_thrown ({ frames := 0, cells := 0, slots := 0, locals := 0 }) (mPc D w (tyL cI cL cD) A [.ref h0]) (vp_Si (fun z9 => z9 = g_thrown y)) 0 0 (fun _ => False) := by
  refine Met.ofW (cc := b_M_thrown) (maxL := 1) (ret := (some .int)) (by decide) rfl ?_
  intro p e s m args below meth c s₁ B hml hv
  obtain ⟨rfl, hP, hK, hD⟩ := hv
  have hx := B.exec
  have hb := B.bytes
  have hr := B.returns
  have hts := atoms_spec (ws := w_M_thrown) B.pre
  have hown : s.vm.findClass R_M = some m.cls := findClass_of_methodNamed B.named
  have hlocks := B.notSynchronized
  have hS : va_S A s.heap s.heap [] := va_S.rf
  have hU : mUpd w w k cI cL h0 ma y := mUpd.rf hU0
  have hl := lv_entry ([.ref h0]) (n := 1) (Nat.le_of_ble_eq_true rfl)
  rw [lg_entry_eq]
  generalize (lg_sl ([.ref h0]) ++ List.replicate (1 - (lg_sl ([.ref h0])).length) Slot.unset).toArray = ls at hl ⊢
  have hl : lv_has ls 1 [(0, .ref h0)] := hl
  refine lv_aload_n hx hb d_M_thrown_0 rfl (lv_at hl 0 rfl) ?_
  refine va_get (D := D) (ci := 3) (v := .int (m_thrown y)) (C := R_M) (T := F_M) (N := 23) hx hb hts (in_M _) hown hK hP k hU.o rfl 0 (by decide) (hts (.fieldLink R_M 68 "DebtRowsModel" "thrown" "I") (List.mem_cons_of_mem _ mB_414)) (fun _ h9 => h9) rfl d_M_thrown_1 ?_
  exact W.iret (v := m_thrown y) hx hb hr (fun t ht hW => ⟨_, rfl, by rw [g_thrown], ht⟩) t_nil d_M_thrown_4
def g_fails (y : MT) (why : Int32) : Int32 × MT :=
  (0, (n_thrown y (why)))
set_option maxHeartbeats 4000000 in
set_option maxRecDepth 100000 in
theorem c_M_fails (l : Launch) (D : va_G) (A : Nat → Prop) (w : va_W) (cI cL cD : ClassId) (k h0 : Nat) (ma : Nat → Nat) (y : MT) (why : Int32) (hU0 : mA w k cI cL h0 ma y) : Met l y_M_fails w_M_fails ({ frames := 0, cells := 0, slots := 0, locals := 0 }) (mPc D w (tyL cI cL cD) A [.ref h0, .int (why)]) (va_Qi (fun z9 (_ : Unit) => z9 = (g_fails y why).1) (fun (_ : Unit) t => ∃ w9 : va_W, va_P D vwCl w9 t.heap ∧ va_D A w9 ∧ mUpd w w9 k cI cL h0 ma ((g_fails y why).2)) A) 0 0 A := by
  refine Met.ofW (cc := b_M_fails) (maxL := 2) (ret := (some .int)) (by decide) rfl ?_
  intro p e s m args below meth c s₁ B hml hv
  obtain ⟨rfl, hP, hK, hD⟩ := hv
  have hx := B.exec
  have hb := B.bytes
  have hr := B.returns
  have hts := atoms_spec (ws := w_M_fails) B.pre
  have hown : s.vm.findClass R_M = some m.cls := findClass_of_methodNamed B.named
  have hlocks := B.notSynchronized
  have hS : va_S A s.heap s.heap [] := va_S.rf
  have hU : mUpd w w k cI cL h0 ma y := mUpd.rf hU0
  have hl := lv_entry ([.ref h0, .int (why)]) (n := 2) (Nat.le_of_ble_eq_true rfl)
  rw [lg_entry_eq]
  generalize (lg_sl ([.ref h0, .int (why)]) ++ List.replicate (2 - (lg_sl ([.ref h0, .int (why)])).length) Slot.unset).toArray = ls at hl ⊢
  have hl : lv_has ls 2 [(0, .ref h0), (1, .int (why))] := hl
  refine lv_aload_n hx hb d_M_fails_0 rfl (lv_at hl 0 rfl) ?_
  refine lv_iload_n hx hb d_M_fails_1 rfl (lv_at hl 1 rfl) ?_
  refine va_put (D := D) (ci := 3) (v := .int (why)) (ty := .int) (C := R_M) (T := F_M) (N := 23) hx hb hts (in_M _) t_M to_M nn_M hown hK hP hD hS k hU.o rfl 0 (by decide) (hts (.fieldLink R_M 68 "DebtRowsModel" "thrown" "I") (List.mem_cons_of_mem _ mB_414)) (fun _ h9 => h9) rfl (by decide +kernel) rfl rfl (Nat.le_of_ble_eq_true rfl) d_M_fails_2 (fun H locs hP hD hS => ?_)
  have hU := hU.s_thrown (why)
  have hP : va_P D vwCl (w.set k (h0, mE ma (n_thrown y (why)))) H := hP
  have hD : va_D A (w.set k (h0, mE ma (n_thrown y (why)))) := hD
  generalize w.set k (h0, mE ma (n_thrown y (why))) = w_305 at hP hD hU
  refine lv_iconst (v := 0) hx hb d_M_fails_5 (by decide) ?_
  exact W.iret (v := 0) hx hb hr (fun t ht hW => ⟨⟨_, (), rfl, by rw [g_fails], w_305, by rw [ht]; exact hP, hD, by rw [g_fails]; exact hU⟩, hS.F ht⟩) hS.2.2 d_M_fails_6
def g_in (v : Int64) (lo : Int64) (hi : Int64) : Int32 :=
  if v < lo then 0
  else if hi < v then 0
    else 1
set_option maxHeartbeats 4000000 in
set_option maxRecDepth 100000 in
theorem c_M_in (l : Launch) (v : Int64) (lo : Int64) (hi : Int64) : Met l y_M_in w_M_in ({ frames := 0, cells := 0, slots := 0, locals := 0 }) (va_Pc [.long (v), .long (lo), .long (hi)] (fun _ => True)) (vp_Si (fun z9 => z9 = g_in v lo hi)) 0 0 (fun _ => False) := by
  refine Met.ofW (cc := b_M_in) (maxL := 6) (ret := (some .boolean)) (by decide) rfl ?_
  intro p e s m args below meth c s₁ B hml hv
  obtain ⟨rfl, -⟩ := hv
  have hx := B.exec
  have hb := B.bytes
  have hr := B.returns
  have hts := atoms_spec (ws := w_M_in) B.pre
  have hown : s.vm.findClass R_M = some m.cls := findClass_of_methodNamed B.named
  have hlocks := B.notSynchronized
  have hl := lv_entry ([.long (v), .long (lo), .long (hi)]) (n := 6) (Nat.le_of_ble_eq_true rfl)
  rw [lg_entry_eq]
  generalize (lg_sl ([.long (v), .long (lo), .long (hi)]) ++ List.replicate (6 - (lg_sl ([.long (v), .long (lo), .long (hi)])).length) Slot.unset).toArray = ls at hl ⊢
  have hl : lv_has ls 6 [(0, .long (v)), (2, .long (lo)), (4, .long (hi))] := hl
  refine lv_lload_n hx hb d_M_in_0 rfl (lv_at hl 0 rfl) ?_
  refine lv_lload_n hx hb d_M_in_1 rfl (lv_at hl 1 rfl) ?_
  refine W.lcmp hx hb d_M_in_2 ?_
  refine lv_if_lt (tgt := 17) hx hb d_M_in_3 (by decide) (fun c_306 => ?_) (fun c_306 => ?_)
  · have c_306 : v < lo := (lg_cmp_lt _ _).mp c_306
    refine lv_iconst (v := 0) hx hb d_M_in_17 (by decide) ?_
    exact W.zret (v := 0) hx hb hr rfl (fun t ht hW => ⟨_, rfl, by rw [g_in, if_pos c_306], ht⟩) t_nil d_M_in_18
  · have c_306 : ¬ v < lo := fun h9 => c_306 ((lg_cmp_lt _ _).mpr h9)
    refine lv_lload_n hx hb d_M_in_6 rfl (lv_at hl 0 rfl) ?_
    refine lv_lload hx hb d_M_in_7 (lv_at hl 2 rfl) ?_
    refine W.lcmp hx hb d_M_in_9 ?_
    refine lv_if_gt (tgt := 17) hx hb d_M_in_10 (by decide) (fun c_307 => ?_) (fun c_307 => ?_)
    · have c_307 : hi < v := (lg_cmp_gt _ _).mp c_307
      refine lv_iconst (v := 0) hx hb d_M_in_17 (by decide) ?_
      exact W.zret (v := 0) hx hb hr rfl (fun t ht hW => ⟨_, rfl, by rw [g_in, if_neg c_306, if_pos c_307], ht⟩) t_nil d_M_in_18
    · have c_307 : ¬ hi < v := fun h9 => c_307 ((lg_cmp_gt _ _).mpr h9)
      refine lv_iconst (v := 1) hx hb d_M_in_13 (by decide) ?_
      refine lv_goto (tgt := 18) hx hb d_M_in_14 (by decide) ?_
      exact W.zret (v := 1) hx hb hr rfl (fun t ht hW => ⟨_, rfl, by rw [g_in, if_neg c_306, if_neg c_307], ht⟩) t_nil d_M_in_18
def g_isPerson (pp : Int32) : Int32 :=
  if pp < 0 then 0
  else if 16 ≤ pp then 0
    else 1
set_option maxHeartbeats 4000000 in
set_option maxRecDepth 100000 in
theorem c_M_isPerson (l : Launch) (pp : Int32) : Met l y_M_isPerson w_M_isPerson ({ frames := 0, cells := 0, slots := 0, locals := 0 }) (va_Pc [.int (pp)] (fun _ => True)) (vp_Si (fun z9 => z9 = g_isPerson pp)) 0 0 (fun _ => False) := by
  refine Met.ofW (cc := b_M_isPerson) (maxL := 1) (ret := (some .boolean)) (by decide) rfl ?_
  intro p e s m args below meth c s₁ B hml hv
  obtain ⟨rfl, -⟩ := hv
  have hx := B.exec
  have hb := B.bytes
  have hr := B.returns
  have hts := atoms_spec (ws := w_M_isPerson) B.pre
  have hown : s.vm.findClass R_M = some m.cls := findClass_of_methodNamed B.named
  have hlocks := B.notSynchronized
  have hl := lv_entry ([.int (pp)]) (n := 1) (Nat.le_of_ble_eq_true rfl)
  rw [lg_entry_eq]
  generalize (lg_sl ([.int (pp)]) ++ List.replicate (1 - (lg_sl ([.int (pp)])).length) Slot.unset).toArray = ls at hl ⊢
  have hl : lv_has ls 1 [(0, .int (pp))] := hl
  refine lv_iload_n hx hb d_M_isPerson_0 rfl (lv_at hl 0 rfl) ?_
  refine lv_if_lt (tgt := 14) hx hb d_M_isPerson_1 (by decide) (fun c_308 => ?_) (fun c_308 => ?_)
  · refine lv_iconst (v := 0) hx hb d_M_isPerson_14 (by decide) ?_
    exact W.zret (v := 0) hx hb hr rfl (fun t ht hW => ⟨_, rfl, by rw [g_isPerson, if_pos c_308], ht⟩) t_nil d_M_isPerson_15
  · refine lv_iload_n hx hb d_M_isPerson_4 rfl (lv_at hl 0 rfl) ?_
    refine lv_bipush (v := 16) hx hb d_M_isPerson_5 (by decide) ?_
    refine lv_icmp_ge (tgt := 14) hx hb d_M_isPerson_7 (by decide) (fun c_309 => ?_) (fun c_309 => ?_)
    · refine lv_iconst (v := 0) hx hb d_M_isPerson_14 (by decide) ?_
      exact W.zret (v := 0) hx hb hr rfl (fun t ht hW => ⟨_, rfl, by rw [g_isPerson, if_neg c_308, if_pos c_309], ht⟩) t_nil d_M_isPerson_15
    · refine lv_iconst (v := 1) hx hb d_M_isPerson_10 (by decide) ?_
      refine lv_goto (tgt := 15) hx hb d_M_isPerson_11 (by decide) ?_
      exact W.zret (v := 1) hx hb hr rfl (fun t ht hW => ⟨_, rfl, by rw [g_isPerson, if_neg c_308, if_neg c_309], ht⟩) t_nil d_M_isPerson_15
def g_isDebt (y : MT) (b : Int32) : Int32 :=
  if b < 1 then 0
  else if m_debts y < b then 0
    else 1
set_option maxHeartbeats 4000000 in
set_option maxRecDepth 100000 in
theorem c_M_isDebt (l : Launch) (D : va_G) (A : Nat → Prop) (w : va_W) (cI cL cD : ClassId) (k h0 : Nat) (ma : Nat → Nat) (y : MT) (b : Int32) (hU0 : mA w k cI cL h0 ma y) : Met l y_M_isDebt w_M_isDebt ({ frames := 0, cells := 0, slots := 0, locals := 0 }) (mPc D w (tyL cI cL cD) A [.ref h0, .int (b)]) (vp_Si (fun z9 => z9 = g_isDebt y b)) 0 0 (fun _ => False) := by
  refine Met.ofW (cc := b_M_isDebt) (maxL := 2) (ret := (some .boolean)) (by decide) rfl ?_
  intro p e s m args below meth c s₁ B hml hv
  obtain ⟨rfl, hP, hK, hD⟩ := hv
  have hx := B.exec
  have hb := B.bytes
  have hr := B.returns
  have hts := atoms_spec (ws := w_M_isDebt) B.pre
  have hown : s.vm.findClass R_M = some m.cls := findClass_of_methodNamed B.named
  have hlocks := B.notSynchronized
  have hS : va_S A s.heap s.heap [] := va_S.rf
  have hU : mUpd w w k cI cL h0 ma y := mUpd.rf hU0
  have hl := lv_entry ([.ref h0, .int (b)]) (n := 2) (Nat.le_of_ble_eq_true rfl)
  rw [lg_entry_eq]
  generalize (lg_sl ([.ref h0, .int (b)]) ++ List.replicate (2 - (lg_sl ([.ref h0, .int (b)])).length) Slot.unset).toArray = ls at hl ⊢
  have hl : lv_has ls 2 [(0, .ref h0), (1, .int (b))] := hl
  refine lv_iload_n hx hb d_M_isDebt_0 rfl (lv_at hl 1 rfl) ?_
  refine lv_iconst (v := 1) hx hb d_M_isDebt_1 (by decide) ?_
  refine lv_icmp_lt (tgt := 17) hx hb d_M_isDebt_2 (by decide) (fun c_310 => ?_) (fun c_310 => ?_)
  · refine lv_iconst (v := 0) hx hb d_M_isDebt_17 (by decide) ?_
    exact W.zret (v := 0) hx hb hr rfl (fun t ht hW => ⟨_, rfl, by rw [g_isDebt, if_pos c_310], ht⟩) t_nil d_M_isDebt_18
  · refine lv_iload_n hx hb d_M_isDebt_5 rfl (lv_at hl 1 rfl) ?_
    refine lv_aload_n hx hb d_M_isDebt_6 rfl (lv_at hl 0 rfl) ?_
    refine va_get (D := D) (ci := 3) (v := .int (m_debts y)) (C := R_M) (T := F_M) (N := 23) hx hb hts (in_M _) hown hK hP k hU.o rfl 6 (by decide) (hts (.fieldLink R_M 72 "DebtRowsModel" "debts" "I") (List.mem_cons_of_mem _ mB_420)) (fun _ h9 => h9) rfl d_M_isDebt_7 ?_
    refine lv_icmp_gt (tgt := 17) hx hb d_M_isDebt_10 (by decide) (fun c_311 => ?_) (fun c_311 => ?_)
    · refine lv_iconst (v := 0) hx hb d_M_isDebt_17 (by decide) ?_
      exact W.zret (v := 0) hx hb hr rfl (fun t ht hW => ⟨_, rfl, by rw [g_isDebt, if_neg c_310, if_pos c_311], ht⟩) t_nil d_M_isDebt_18
    · refine lv_iconst (v := 1) hx hb d_M_isDebt_13 (by decide) ?_
      refine lv_goto (tgt := 18) hx hb d_M_isDebt_14 (by decide) ?_
      exact W.zret (v := 1) hx hb hr rfl (fun t ht hW => ⟨_, rfl, by rw [g_isDebt, if_neg c_310, if_neg c_311], ht⟩) t_nil d_M_isDebt_18
theorem ok_of {y : MT} {b : Int32} (h : ¬ g_isDebt y b = 0) : okM y b := by
  unfold g_isDebt at h
  by_cases h1 : b < 1
  · rw [if_pos h1] at h; exact absurd rfl h
  · rw [if_neg h1] at h
    by_cases h2 : m_debts y < b
    · rw [if_pos h2] at h; exact absurd rfl h
    · refine ⟨?_, ?_⟩
      · rw [Int32.le_iff_toInt_le]; rw [Int32.lt_iff_toInt_lt] at h1; omega
      · rw [Int32.le_iff_toInt_le]; rw [Int32.lt_iff_toInt_lt] at h2; omega
theorem in_pp {x : Int32} (h : ¬ g_isPerson x = 0) : vp_in x 16 := by
  unfold g_isPerson at h
  by_cases h1 : x < 0
  · rw [if_pos h1] at h; exact absurd rfl h
  · rw [if_neg h1] at h
    by_cases h2 : 16 ≤ x
    · rw [if_pos h2] at h; exact absurd rfl h
    · exact vp_lt (m := 16) h1 h2 rfl (by decide) (by decide)
theorem in_r {y : MT} (hw : wfM y) (h : ¬ m_rates y = 20) : vp_in (m_rates y) 20 := by
  obtain ⟨m, hm, em, -⟩ := hw.2.1
  rw [em] at h ⊢
  have : m ≠ 20 := fun q => h (by rw [q]; rfl)
  exact vp_in_nI (by omega) (by decide)
theorem in_r1 {y : MT} (hw : wfM y) (h : ¬ m_rates y ≤ 0) : vp_in (m_rates y - 1) 20 := by
  obtain ⟨m, hm, em, -⟩ := hw.2.1
  rw [em] at h ⊢
  rcases Nat.eq_zero_or_pos m with q | q
  · subst q; exact absurd (by decide) h
  · obtain ⟨j, rfl⟩ : ∃ j, m = j + 1 := ⟨m - 1, by omega⟩
    rw [nI_pred]; exact vp_in_nI (by omega) (by decide)
theorem in_nd {y : MT} (hw : wfM y) (h : ¬ m_debts y = 40) : vp_in (m_debts y + 1) 41 ∧ vp_in (4 * (m_debts y + 1)) 164 := by
  obtain ⟨n, hn, en⟩ := hw.1
  rw [en] at h ⊢
  have : n ≠ 40 := fun q => h (by rw [q]; rfl)
  rw [nI_1, show (4 : Int32) = nI 4 from rfl, pk_mul]
  exact ⟨vp_in_nI (by omega) (by decide), vp_in_nI (by omega) (by decide)⟩
theorem in_4d {y : MT} {b : Int32} (hw : wfM y) (hok : okM y b) (h : ¬ ((m_debtors y) (b).toNatClampNeg) = 4) : vp_in (4 * b + ((m_debtors y) (b).toNatClampNeg)) 164 := by
  obtain ⟨k, hk, ek⟩ := hw.2.2.1 (b).toNatClampNeg
  rw [ek] at h ⊢
  have : k ≠ 4 := fun q => h (by rw [q]; rfl)
  exact in_4 hw hok (by omega)
