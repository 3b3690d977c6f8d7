theorem in_debtors {d : DT} (hw : wfD d) (h : ¬ 4 ≤ d_debtors d) : vp_in (d_debtors d) 4 := by
  obtain ⟨m, hm, em⟩ := hw.1
  rw [em] at h ⊢
  rcases Nat.lt_or_ge m 4 with q | q
  · exact vp_in_nI q (by decide)
  · exact absurd (show nI 4 ≤ nI m from nI_le q (by omega)) h
theorem in_count {r : RT} (hw : wfR r) (h : r_count r < 20) : vp_in (r_count r) 20 := by
  obtain ⟨m, hm, em⟩ := hw
  rw [em] at h ⊢
  rcases Nat.lt_or_ge m 20 with q | q
  · exact vp_in_nI q (by decide)
  · exact absurd h (show ¬ nI m < nI 20 from nI_nlt q (by omega))
theorem in_last {r : RT} (hw : wfR r) (h : 1 ≤ r_count r) : vp_in (r_count r - 1) 20 := by
  obtain ⟨m, hm, em⟩ := hw
  rw [em] at h ⊢
  rcases Nat.eq_zero_or_pos m with q | q
  · subst q; exact absurd h (by decide)
  · obtain ⟨j, rfl⟩ : ∃ j, m = j + 1 := ⟨m - 1, by omega⟩
    rw [nI_pred]; exact vp_in_nI (by omega) (by decide)
theorem in_next {x : Int32} {mm i : Nat} (e : x = nI mm) (hm : mm ≤ 20) (hi : i < mm) (h : ¬ x ≤ (nI i + 1)) : vp_in (nI i + 1) 20 := by
  rw [e] at h
  rw [nI_1] at h ⊢
  rcases Nat.lt_or_ge (i + 1) mm with q | q
  · exact vp_in_nI (by omega) (by decide)
  · exact absurd (nI_le q (by omega)) h
theorem n365 {x : Int32} (h : ¬ x ≤ 0) : ¬ (x.toInt64 * 365) = 0 := by
  have h0 : ¬ x < 0 := fun q => h (by rw [Int32.le_iff_toInt_le]; rw [Int32.lt_iff_toInt_lt] at q; omega)
  obtain ⟨j, hj, rfl⟩ := nI_of h0
  have hj0 : 0 < j := by
    rcases Nat.eq_zero_or_pos j with q | q
    · subst q; exact absurd (by decide) h
    · exact q
  rw [nI_l hj, show (365 : Int64) = lN 365 from rfl, lN_mul, show (0 : Int64) = lN 0 from rfl, pk_lEQ (by omega) (by omega)]
  omega
def f_hasPlace (d : DT) (pl : Int32) : Int32 :=
  if pl < 0 then 0
  else if d_debtors d ≤ pl then 0
    else 1
set_option maxHeartbeats 4000000 in
set_option maxRecDepth 100000 in
theorem c_hasPlace (l : Launch) (D : va_G) (A : Nat → Prop) (w : va_W) (cI cL cD : ClassId) (k h0 hp hq : Nat) (d : DT) (pl : Int32) (hU0 : dAt w k cI cL h0 hp hq d) : Met l y_D_hasPlace w_D_hasPlace ({ frames := 0, cells := 0, slots := 0, locals := 0 }) (mPc D w (tyL cI cL cD) A [.ref h0, .int (pl)]) (vp_Si (fun z9 => z9 = f_hasPlace d pl)) 0 0 (fun _ => False) := by
  refine Met.ofW (cc := b_D_hasPlace) (maxL := 2) (ret := (some .boolean)) (by decide) rfl ?_
  intro p e s m args below meth c s₁ B hml hv
  obtain ⟨rfl, hP, hK, hD⟩ := hv
  have hx := B.exec
  have hb := B.bytes
  have hr := B.returns
  have hts := atoms_spec (ws := w_D_hasPlace) B.pre
  have hown : s.vm.findClass R_D = some m.cls := findClass_of_methodNamed B.named
  have hlocks := B.notSynchronized
  have hS : va_S A s.heap s.heap [] := va_S.rf
  have hU : dUpd w w k cI cL h0 hp hq d := dUpd.rf hU0
  have hl := lv_entry ([.ref h0, .int (pl)]) (n := 2) (Nat.le_of_ble_eq_true rfl)
  rw [lg_entry_eq]
  generalize (lg_sl ([.ref h0, .int (pl)]) ++ List.replicate (2 - (lg_sl ([.ref h0, .int (pl)])).length) Slot.unset).toArray = ls at hl ⊢
  have hl : lv_has ls 2 [(0, .ref h0), (1, .int (pl))] := hl
  refine lv_iload_n hx hb d_D_hasPlace_0 rfl (lv_at hl 1 rfl) ?_
  refine lv_if_lt (tgt := 16) hx hb d_D_hasPlace_1 (by decide) (fun c_1 => ?_) (fun c_1 => ?_)
  · refine lv_iconst (v := 0) hx hb d_D_hasPlace_16 (by decide) ?_
    exact W.zret (v := 0) hx hb hr rfl (fun t ht hW => ⟨_, rfl, by rw [f_hasPlace, if_pos c_1], ht⟩) t_nil d_D_hasPlace_17
  · refine lv_iload_n hx hb d_D_hasPlace_4 rfl (lv_at hl 1 rfl) ?_
    refine lv_aload_n hx hb d_D_hasPlace_5 rfl (lv_at hl 0 rfl) ?_
    refine va_get (D := D) (ci := 0) (v := .int (d_debtors d)) (C := R_D) (T := F_D) (N := 15) hx hb hts (in_D _) hown hK hP k hU.o rfl 4 (by decide) (hts (.fieldLink R_D 36 "DebtRows$Debt" "debtors" "I") (List.mem_cons_of_mem _ mB_214)) (fun _ h9 => h9) rfl d_D_hasPlace_6 ?_
    refine lv_icmp_ge (tgt := 16) hx hb d_D_hasPlace_9 (by decide) (fun c_2 => ?_) (fun c_2 => ?_)
    · refine lv_iconst (v := 0) hx hb d_D_hasPlace_16 (by decide) ?_
      exact W.zret (v := 0) hx hb hr rfl (fun t ht hW => ⟨_, rfl, by rw [f_hasPlace, if_neg c_1, if_pos c_2], ht⟩) t_nil d_D_hasPlace_17
    · refine lv_iconst (v := 1) hx hb d_D_hasPlace_12 (by decide) ?_
      refine lv_goto (tgt := 17) hx hb d_D_hasPlace_13 (by decide) ?_
      exact W.zret (v := 1) hx hb hr rfl (fun t ht hW => ⟨_, rfl, by rw [f_hasPlace, if_neg c_1, if_neg c_2], ht⟩) t_nil d_D_hasPlace_17
def f_isPayable (d : DT) : Int32 :=
  if d_state d = 1 then 1
  else if d_state d = 2 then 1
    else 0
set_option maxHeartbeats 4000000 in
set_option maxRecDepth 100000 in
theorem c_isPayable (l : Launch) (D : va_G) (A : Nat → Prop) (w : va_W) (cI cL cD : ClassId) (k h0 hp hq : Nat) (d : DT)  (hU0 : dAt w k cI cL h0 hp hq d) : Met l y_D_isPayable w_D_isPayable ({ frames := 0, cells := 0, slots := 0, locals := 0 }) (mPc D w (tyL cI cL cD) A [.ref h0]) (vp_Si (fun z9 => z9 = f_isPayable d)) 0 0 (fun _ => False) := by
  refine Met.ofW (cc := b_D_isPayable) (maxL := 1) (ret := (some .boolean)) (by decide) rfl ?_
  intro p e s m args below meth c s₁ B hml hv
  obtain ⟨rfl, hP, hK, hD⟩ := hv
  have hx := B.exec
  have hb := B.bytes
  have hr := B.returns
  have hts := atoms_spec (ws := w_D_isPayable) B.pre
  have hown : s.vm.findClass R_D = some m.cls := findClass_of_methodNamed B.named
  have hlocks := B.notSynchronized
  have hS : va_S A s.heap s.heap [] := va_S.rf
  have hU : dUpd w w k cI cL h0 hp hq d := dUpd.rf hU0
  have hl := lv_entry ([.ref h0]) (n := 1) (Nat.le_of_ble_eq_true rfl)
  rw [lg_entry_eq]
  generalize (lg_sl ([.ref h0]) ++ List.replicate (1 - (lg_sl ([.ref h0])).length) Slot.unset).toArray = ls at hl ⊢
  have hl : lv_has ls 1 [(0, .ref h0)] := hl
  refine lv_aload_n hx hb d_D_isPayable_0 rfl (lv_at hl 0 rfl) ?_
  refine va_get (D := D) (ci := 0) (v := .int (d_state d)) (C := R_D) (T := F_D) (N := 15) hx hb hts (in_D _) hown hK hP k hU.o rfl 5 (by decide) (hts (.fieldLink R_D 27 "DebtRows$Debt" "state" "I") (List.mem_cons_of_mem _ mB_216)) (fun _ h9 => h9) rfl d_D_isPayable_1 ?_
  refine lv_iconst (v := 1) hx hb d_D_isPayable_4 (by decide) ?_
  refine lv_icmp_eq (tgt := 16) hx hb d_D_isPayable_5 (by decide) (fun c_3 => ?_) (fun c_3 => ?_)
  · refine lv_iconst (v := 1) hx hb d_D_isPayable_16 (by decide) ?_
    refine lv_goto (tgt := 21) hx hb d_D_isPayable_17 (by decide) ?_
    exact W.zret (v := 1) hx hb hr rfl (fun t ht hW => ⟨_, rfl, by rw [f_isPayable, if_pos c_3], ht⟩) t_nil d_D_isPayable_21
  · refine lv_aload_n hx hb d_D_isPayable_8 rfl (lv_at hl 0 rfl) ?_
    refine va_get (D := D) (ci := 0) (v := .int (d_state d)) (C := R_D) (T := F_D) (N := 15) hx hb hts (in_D _) hown hK hP k hU.o rfl 5 (by decide) (hts (.fieldLink R_D 27 "DebtRows$Debt" "state" "I") (List.mem_cons_of_mem _ mB_216)) (fun _ h9 => h9) rfl d_D_isPayable_9 ?_
    refine lv_iconst (v := 2) hx hb d_D_isPayable_12 (by decide) ?_
    refine lv_icmp_ne (tgt := 20) hx hb d_D_isPayable_13 (by decide) (fun c_4 => ?_) (fun c_4 => ?_)
    · refine lv_iconst (v := 0) hx hb d_D_isPayable_20 (by decide) ?_
      exact W.zret (v := 0) hx hb hr rfl (fun t ht hW => ⟨_, rfl, by rw [f_isPayable, if_neg c_3, if_neg c_4], ht⟩) t_nil d_D_isPayable_21
    · refine lv_iconst (v := 1) hx hb d_D_isPayable_16 (by decide) ?_
      refine lv_goto (tgt := 21) hx hb d_D_isPayable_17 (by decide) ?_
      exact W.zret (v := 1) hx hb hr rfl (fun t ht hW => ⟨_, rfl, by rw [f_isPayable, if_neg c_3, if_pos c_4], ht⟩) t_nil d_D_isPayable_21
def f_isTooLate (d : DT) (day : Int32) : Int32 :=
  if (day - d_birth d) ≤ 1095 then 0
  else 1
set_option maxHeartbeats 4000000 in
set_option maxRecDepth 100000 in
theorem c_isTooLate (l : Launch) (D : va_G) (A : Nat → Prop) (w : va_W) (cI cL cD : ClassId) (k h0 hp hq : Nat) (d : DT) (day : Int32) (hU0 : dAt w k cI cL h0 hp hq d) : Met l y_D_isTooLate w_D_isTooLate ({ frames := 0, cells := 0, slots := 0, locals := 0 }) (mPc D w (tyL cI cL cD) A [.ref h0, .int (day)]) (vp_Si (fun z9 => z9 = f_isTooLate d day)) 0 0 (fun _ => False) := by
  refine Met.ofW (cc := b_D_isTooLate) (maxL := 2) (ret := (some .boolean)) (by decide) rfl ?_
  intro p e s m args below meth c s₁ B hml hv
  obtain ⟨rfl, hP, hK, hD⟩ := hv
  have hx := B.exec
  have hb := B.bytes
  have hr := B.returns
  have hts := atoms_spec (ws := w_D_isTooLate) B.pre
  have hown : s.vm.findClass R_D = some m.cls := findClass_of_methodNamed B.named
  have hlocks := B.notSynchronized
  have hS : va_S A s.heap s.heap [] := va_S.rf
  have hU : dUpd w w k cI cL h0 hp hq d := dUpd.rf hU0
  have hl := lv_entry ([.ref h0, .int (day)]) (n := 2) (Nat.le_of_ble_eq_true rfl)
  rw [lg_entry_eq]
  generalize (lg_sl ([.ref h0, .int (day)]) ++ List.replicate (2 - (lg_sl ([.ref h0, .int (day)])).length) Slot.unset).toArray = ls at hl ⊢
  have hl : lv_has ls 2 [(0, .ref h0), (1, .int (day))] := hl
  refine lv_iload_n hx hb d_D_isTooLate_0 rfl (lv_at hl 1 rfl) ?_
  refine lv_aload_n hx hb d_D_isTooLate_1 rfl (lv_at hl 0 rfl) ?_
  refine va_get (D := D) (ci := 0) (v := .int (d_birth d)) (C := R_D) (T := F_D) (N := 15) hx hb hts (in_D _) hown hK hP k hU.o rfl 1 (by decide) (hts (.fieldLink R_D 15 "DebtRows$Debt" "birth" "I") (List.mem_cons_of_mem _ mB_210)) (fun _ h9 => h9) rfl d_D_isTooLate_2 ?_
  refine lv_isub hx hb d_D_isTooLate_5 ?_
  refine lv_sipush (v := 1095) hx hb d_D_isTooLate_6 (by decide) ?_
  refine lv_icmp_le (tgt := 16) hx hb d_D_isTooLate_9 (by decide) (fun c_5 => ?_) (fun c_5 => ?_)
  · refine lv_iconst (v := 0) hx hb d_D_isTooLate_16 (by decide) ?_
    exact W.zret (v := 0) hx hb hr rfl (fun t ht hW => ⟨_, rfl, by rw [f_isTooLate, if_pos c_5], ht⟩) t_nil d_D_isTooLate_17
  · refine lv_iconst (v := 1) hx hb d_D_isTooLate_12 (by decide) ?_
    refine lv_goto (tgt := 17) hx hb d_D_isTooLate_13 (by decide) ?_
    exact W.zret (v := 1) hx hb hr rfl (fun t ht hW => ⟨_, rfl, by rw [f_isTooLate, if_neg c_5], ht⟩) t_nil d_D_isTooLate_17
def f_lose (d : DT) (es : Int32) : DT :=
  (s_open (s_lost (s_state d (es)) (d_open d)) (0))
set_option maxHeartbeats 4000000 in
set_option maxRecDepth 100000 in
theorem c_lose (l : Launch) (D : va_G) (A : Nat → Prop) (w : va_W) (cI cL cD : ClassId) (k h0 hp hq : Nat) (d : DT) (es : Int32) (hU0 : dAt w k cI cL h0 hp hq d) : Met l y_D_lose w_D_lose ({ frames := 0, cells := 0, slots := 0, locals := 0 }) (mPc D w (tyL cI cL cD) A [.ref h0, .int (es)]) (va_Qv (fun _ : Unit => True) (fun (_ : Unit) t => ∃ w9 : va_W, va_P D vwCl w9 t.heap ∧ va_D A w9 ∧ dUpd w w9 k cI cL h0 hp hq (f_lose d es)) A) 0 0 A := by
  refine Met.ofW (cc := b_D_lose) (maxL := 2) (ret := none) (by decide) rfl ?_
  intro p e s m args below meth c s₁ B hml hv
  obtain ⟨rfl, hP, hK, hD⟩ := hv
  have hx := B.exec
  have hb := B.bytes
  have hr := B.returns
  have hts := atoms_spec (ws := w_D_lose) B.pre
  have hown : s.vm.findClass R_D = some m.cls := findClass_of_methodNamed B.named
  have hlocks := B.notSynchronized
  have hS : va_S A s.heap s.heap [] := va_S.rf
  have hU : dUpd w w k cI cL h0 hp hq d := dUpd.rf hU0
  have hl := lv_entry ([.ref h0, .int (es)]) (n := 2) (Nat.le_of_ble_eq_true rfl)
  rw [lg_entry_eq]
  generalize (lg_sl ([.ref h0, .int (es)]) ++ List.replicate (2 - (lg_sl ([.ref h0, .int (es)])).length) Slot.unset).toArray = ls at hl ⊢
  have hl : lv_has ls 2 [(0, .ref h0), (1, .int (es))] := hl
  refine lv_aload_n hx hb d_D_lose_0 rfl (lv_at hl 0 rfl) ?_
  refine lv_iload_n hx hb d_D_lose_1 rfl (lv_at hl 1 rfl) ?_
  refine va_put (D := D) (ci := 0) (v := .int (es)) (ty := .int) (C := R_D) (T := F_D) (N := 15) hx hb hts (in_D _) t_D to_D nn_D hown hK hP hD hS k hU.o rfl 5 (by decide) (hts (.fieldLink R_D 27 "DebtRows$Debt" "state" "I") (List.mem_cons_of_mem _ mB_216)) (fun _ h9 => h9) rfl (by decide +kernel) rfl rfl (Nat.le_of_ble_eq_true rfl) d_D_lose_2 (fun H locs hP hD hS => ?_)
  have hU := hU.so (s_state d (es)) rfl rfl
  have hP : va_P D vwCl (w.set k (h0, dE hp hq (s_state d (es)))) H := hP
  have hD : va_D A (w.set k (h0, dE hp hq (s_state d (es)))) := hD
  generalize w.set k (h0, dE hp hq (s_state d (es))) = w_6 at hP hD hU
  refine lv_aload_n hx hb d_D_lose_5 rfl (lv_at hl 0 rfl) ?_
  refine lv_aload_n hx hb d_D_lose_6 rfl (lv_at hl 0 rfl) ?_
  refine va_get (D := D) (ci := 0) (v := .long (d_open d)) (C := R_D) (T := F_D) (N := 15) hx hb hts (in_D _) hown hK hP k hU.o rfl 8 (by decide) (hts (.fieldLink R_D 33 "DebtRows$Debt" "open" "J") (List.mem_cons_of_mem _ mB_221)) (fun _ h9 => h9) rfl d_D_lose_7 ?_
  refine va_put (D := D) (ci := 0) (v := .long (d_open d)) (ty := .long) (C := R_D) (T := F_D) (N := 15) hx hb hts (in_D _) t_D to_D nn_D hown hK hP hD hS k hU.o rfl 9 (by decide) (hts (.fieldLink R_D 85 "DebtRows$Debt" "lost" "J") (List.mem_cons_of_mem _ mB_224)) (fun _ h9 => h9) rfl (by decide +kernel) rfl rfl (Nat.le_of_ble_eq_true rfl) d_D_lose_10 (fun H locs hP hD hS => ?_)
  have hU := hU.so (s_lost (s_state d (es)) (d_open d)) rfl rfl
  have hP : va_P D vwCl (w_6.set k (h0, dE hp hq (s_lost (s_state d (es)) (d_open d)))) H := hP
  have hD : va_D A (w_6.set k (h0, dE hp hq (s_lost (s_state d (es)) (d_open d)))) := hD
  generalize w_6.set k (h0, dE hp hq (s_lost (s_state d (es)) (d_open d))) = w_7 at hP hD hU
  refine lv_aload_n hx hb d_D_lose_13 rfl (lv_at hl 0 rfl) ?_
  refine lv_lconst (v := 0) hx hb d_D_lose_14 (by decide) ?_
  refine va_put (D := D) (ci := 0) (v := .long (0)) (ty := .long) (C := R_D) (T := F_D) (N := 15) hx hb hts (in_D _) t_D to_D nn_D hown hK hP hD hS k hU.o rfl 8 (by decide) (hts (.fieldLink R_D 33 "DebtRows$Debt" "open" "J") (List.mem_cons_of_mem _ mB_221)) (fun _ h9 => h9) rfl (by decide +kernel) rfl rfl (Nat.le_of_ble_eq_true rfl) d_D_lose_15 (fun H locs hP hD hS => ?_)
  have hU := hU.so (s_open (s_lost (s_state d (es)) (d_open d)) (0)) rfl rfl
  have hP : va_P D vwCl (w_7.set k (h0, dE hp hq (s_open (s_lost (s_state d (es)) (d_open d)) (0)))) H := hP
  have hD : va_D A (w_7.set k (h0, dE hp hq (s_open (s_lost (s_state d (es)) (d_open d)) (0)))) := hD
  generalize w_7.set k (h0, dE hp hq (s_open (s_lost (s_state d (es)) (d_open d)) (0))) = w_8 at hP hD hU
  exact W.vret hx hb hr (fun t ht hW => ⟨⟨(), rfl, trivial, w_8, by rw [ht]; exact hP, hD, by rw [f_lose]; exact hU⟩, hS.F ht⟩) hS.2.2 d_D_lose_18
def f_defer (d : DT) (day : Int32) (parts : Int32) : DT :=
  (s_dOpen (s_dParts (s_dDay (s_state d (2)) (day)) (parts)) (d_open d))
set_option maxHeartbeats 4000000 in
set_option maxRecDepth 100000 in
theorem c_defer (l : Launch) (D : va_G) (A : Nat → Prop) (w : va_W) (cI cL cD : ClassId) (k h0 hp hq : Nat) (d : DT) (day : Int32) (parts : Int32) (hU0 : dAt w k cI cL h0 hp hq d) : Met l y_D_defer w_D_defer ({ frames := 0, cells := 0, slots := 0, locals := 0 }) (mPc D w (tyL cI cL cD) A [.ref h0, .int (day), .int (parts)]) (va_Qv (fun _ : Unit => True) (fun (_ : Unit) t => ∃ w9 : va_W, va_P D vwCl w9 t.heap ∧ va_D A w9 ∧ dUpd w w9 k cI cL h0 hp hq (f_defer d day parts)) A) 0 0 A := by
  refine Met.ofW (cc := b_D_defer) (maxL := 3) (ret := none) (by decide) rfl ?_
  intro p e s m args below meth c s₁ B hml hv
  obtain ⟨rfl, hP, hK, hD⟩ := hv
  have hx := B.exec
  have hb := B.bytes
  have hr := B.returns
  have hts := atoms_spec (ws := w_D_defer) B.pre
  have hown : s.vm.findClass R_D = some m.cls := findClass_of_methodNamed B.named
  have hlocks := B.notSynchronized
  have hS : va_S A s.heap s.heap [] := va_S.rf
  have hU : dUpd w w k cI cL h0 hp hq d := dUpd.rf hU0
  have hl := lv_entry ([.ref h0, .int (day), .int (parts)]) (n := 3) (Nat.le_of_ble_eq_true rfl)
  rw [lg_entry_eq]
  generalize (lg_sl ([.ref h0, .int (day), .int (parts)]) ++ List.replicate (3 - (lg_sl ([.ref h0, .int (day), .int (parts)])).length) Slot.unset).toArray = ls at hl ⊢
  have hl : lv_has ls 3 [(0, .ref h0), (1, .int (day)), (2, .int (parts))] := hl
  refine lv_aload_n hx hb d_D_defer_0 rfl (lv_at hl 0 rfl) ?_
  refine lv_iconst (v := 2) hx hb d_D_defer_1 (by decide) ?_
  refine va_put (D := D) (ci := 0) (v := .int (2)) (ty := .int) (C := R_D) (T := F_D) (N := 15) hx hb hts (in_D _) t_D to_D nn_D hown hK hP hD hS k hU.o rfl 5 (by decide) (hts (.fieldLink R_D 27 "DebtRows$Debt" "state" "I") (List.mem_cons_of_mem _ mB_216)) (fun _ h9 => h9) rfl (by decide +kernel) rfl rfl (Nat.le_of_ble_eq_true rfl) d_D_defer_2 (fun H locs hP hD hS => ?_)
  have hU := hU.so (s_state d (2)) rfl rfl
  have hP : va_P D vwCl (w.set k (h0, dE hp hq (s_state d (2)))) H := hP
  have hD : va_D A (w.set k (h0, dE hp hq (s_state d (2)))) := hD
  generalize w.set k (h0, dE hp hq (s_state d (2))) = w_9 at hP hD hU
  refine lv_aload_n hx hb d_D_defer_5 rfl (lv_at hl 0 rfl) ?_
  refine lv_iload_n hx hb d_D_defer_6 rfl (lv_at hl 1 rfl) ?_
  refine va_put (D := D) (ci := 0) (v := .int (day)) (ty := .int) (C := R_D) (T := F_D) (N := 15) hx hb hts (in_D _) t_D to_D nn_D hown hK hP hD hS k hU.o rfl 12 (by decide) (hts (.fieldLink R_D 88 "DebtRows$Debt" "deferralDay" "I") (List.mem_cons_of_mem _ mB_229)) (fun _ h9 => h9) rfl (by decide +kernel) rfl rfl (Nat.le_of_ble_eq_true rfl) d_D_defer_7 (fun H locs hP hD hS => ?_)
  have hU := hU.so (s_dDay (s_state d (2)) (day)) rfl rfl
  have hP : va_P D vwCl (w_9.set k (h0, dE hp hq (s_dDay (s_state d (2)) (day)))) H := hP
  have hD : va_D A (w_9.set k (h0, dE hp hq (s_dDay (s_state d (2)) (day)))) := hD
  generalize w_9.set k (h0, dE hp hq (s_dDay (s_state d (2)) (day))) = w_10 at hP hD hU
  refine lv_aload_n hx hb d_D_defer_10 rfl (lv_at hl 0 rfl) ?_
  refine lv_iload_n hx hb d_D_defer_11 rfl (lv_at hl 2 rfl) ?_
  refine va_put (D := D) (ci := 0) (v := .int (parts)) (ty := .int) (C := R_D) (T := F_D) (N := 15) hx hb hts (in_D _) t_D to_D nn_D hown hK hP hD hS k hU.o rfl 13 (by decide) (hts (.fieldLink R_D 91 "DebtRows$Debt" "deferralParts" "I") (List.mem_cons_of_mem _ mB_230)) (fun _ h9 => h9) rfl (by decide +kernel) rfl rfl (Nat.le_of_ble_eq_true rfl) d_D_defer_12 (fun H locs hP hD hS => ?_)
  have hU := hU.so (s_dParts (s_dDay (s_state d (2)) (day)) (parts)) rfl rfl
  have hP : va_P D vwCl (w_10.set k (h0, dE hp hq (s_dParts (s_dDay (s_state d (2)) (day)) (parts)))) H := hP
  have hD : va_D A (w_10.set k (h0, dE hp hq (s_dParts (s_dDay (s_state d (2)) (day)) (parts)))) := hD
  generalize w_10.set k (h0, dE hp hq (s_dParts (s_dDay (s_state d (2)) (day)) (parts))) = w_11 at hP hD hU
  refine lv_aload_n hx hb d_D_defer_15 rfl (lv_at hl 0 rfl) ?_
  refine lv_aload_n hx hb d_D_defer_16 rfl (lv_at hl 0 rfl) ?_
  refine va_get (D := D) (ci := 0) (v := .long (d_open d)) (C := R_D) (T := F_D) (N := 15) hx hb hts (in_D _) hown hK hP k hU.o rfl 8 (by decide) (hts (.fieldLink R_D 33 "DebtRows$Debt" "open" "J") (List.mem_cons_of_mem _ mB_221)) (fun _ h9 => h9) rfl d_D_defer_17 ?_
  refine va_put (D := D) (ci := 0) (v := .long (d_open d)) (ty := .long) (C := R_D) (T := F_D) (N := 15) hx hb hts (in_D _) t_D to_D nn_D hown hK hP hD hS k hU.o rfl 14 (by decide) (hts (.fieldLink R_D 94 "DebtRows$Debt" "deferralOpen" "J") (List.mem_cons_of_mem _ mB_231)) (fun _ h9 => h9) rfl (by decide +kernel) rfl rfl (Nat.le_of_ble_eq_true rfl) d_D_defer_20 (fun H locs hP hD hS => ?_)
  have hU := hU.so (s_dOpen (s_dParts (s_dDay (s_state d (2)) (day)) (parts)) (d_open d)) rfl rfl
  have hP : va_P D vwCl (w_11.set k (h0, dE hp hq (s_dOpen (s_dParts (s_dDay (s_state d (2)) (day)) (parts)) (d_open d)))) H := hP
  have hD : va_D A (w_11.set k (h0, dE hp hq (s_dOpen (s_dParts (s_dDay (s_state d (2)) (day)) (parts)) (d_open d)))) := hD
  generalize w_11.set k (h0, dE hp hq (s_dOpen (s_dParts (s_dDay (s_state d (2)) (day)) (parts)) (d_open d))) = w_12 at hP hD hU
  exact W.vret hx hb hr (fun t ht hW => ⟨⟨(), rfl, trivial, w_12, by rw [ht]; exact hP, hD, by rw [f_defer]; exact hU⟩, hS.F ht⟩) hS.2.2 d_D_defer_23
def f_runAgain (d : DT) (day : Int32) : DT :=
  (s_ib (s_state d (1)) ((iMax (d_due d) (day))))
set_option maxHeartbeats 4000000 in
set_option maxRecDepth 100000 in
theorem c_runAgain (l : Launch) (D : va_G) (A : Nat → Prop) (w : va_W) (cI cL cD : ClassId) (k h0 hp hq : Nat) (d : DT) (day : Int32) (hU0 : dAt w k cI cL h0 hp hq d) : Met l y_D_runAgain w_D_runAgain ({ frames := 1, cells := 0, slots := 0, locals := 24 }) (mPc D w (tyL cI cL cD) A [.ref h0, .int (day)]) (va_Qv (fun _ : Unit => True) (fun (_ : Unit) t => ∃ w9 : va_W, va_P D vwCl w9 t.heap ∧ va_D A w9 ∧ dUpd w w9 k cI cL h0 hp hq (f_runAgain d day)) A) 0 0 A := by
  refine Met.ofW (cc := b_D_runAgain) (maxL := 2) (ret := none) (by decide) rfl ?_
  intro p e s m args below meth c s₁ B hml hv
  obtain ⟨rfl, hP, hK, hD⟩ := hv
  have hx := B.exec
  have hb := B.bytes
  have hr := B.returns
  have hts := atoms_spec (ws := w_D_runAgain) B.pre
  have hown : s.vm.findClass R_D = some m.cls := findClass_of_methodNamed B.named
  have hlocks := B.notSynchronized
  have hS : va_S A s.heap s.heap [] := va_S.rf
  have hU : dUpd w w k cI cL h0 hp hq d := dUpd.rf hU0
  have hl := lv_entry ([.ref h0, .int (day)]) (n := 2) (Nat.le_of_ble_eq_true rfl)
  rw [lg_entry_eq]
  generalize (lg_sl ([.ref h0, .int (day)]) ++ List.replicate (2 - (lg_sl ([.ref h0, .int (day)])).length) Slot.unset).toArray = ls at hl ⊢
  have hl : lv_has ls 2 [(0, .ref h0), (1, .int (day))] := hl
  refine lv_aload_n hx hb d_D_runAgain_0 rfl (lv_at hl 0 rfl) ?_
  refine lv_iconst (v := 1) hx hb d_D_runAgain_1 (by decide) ?_
  refine va_put (D := D) (ci := 0) (v := .int (1)) (ty := .int) (C := R_D) (T := F_D) (N := 15) hx hb hts (in_D _) t_D to_D nn_D hown hK hP hD hS k hU.o rfl 5 (by decide) (hts (.fieldLink R_D 27 "DebtRows$Debt" "state" "I") (List.mem_cons_of_mem _ mB_216)) (fun _ h9 => h9) rfl (by decide +kernel) rfl rfl (Nat.le_of_ble_eq_true rfl) d_D_runAgain_2 (fun H locs hP hD hS => ?_)
  have hU := hU.so (s_state d (1)) rfl rfl
  have hP : va_P D vwCl (w.set k (h0, dE hp hq (s_state d (1)))) H := hP
  have hD : va_D A (w.set k (h0, dE hp hq (s_state d (1)))) := hD
  generalize w.set k (h0, dE hp hq (s_state d (1))) = w_13 at hP hD hU
  refine lv_aload_n hx hb d_D_runAgain_5 rfl (lv_at hl 0 rfl) ?_
  refine lv_aload_n hx hb d_D_runAgain_6 rfl (lv_at hl 0 rfl) ?_
  refine va_get (D := D) (ci := 0) (v := .int (d_due d)) (C := R_D) (T := F_D) (N := 15) hx hb hts (in_D _) hown hK hP k hU.o rfl 6 (by decide) (hts (.fieldLink R_D 30 "DebtRows$Debt" "dueDay" "I") (List.mem_cons_of_mem _ mB_218)) (fun _ h9 => h9) rfl d_D_runAgain_7 ?_
  refine lv_iload_n hx hb d_D_runAgain_10 rfl (lv_at hl 1 rfl) ?_
  refine va_mmax (own := R_D) (index := 47) hx hb (hml.trans hl.1.symm) hown (hts (.methodLink R_D 47 Lib.Math.max.name) (List.mem_cons_of_mem _ mB_265)) (hts (.static Lib.Math.max.name) (List.mem_cons_of_mem _ mB_266)) (hts (.initialized "java/lang/Math") (List.mem_cons_of_mem _ mB_25)) (hts _ (List.mem_cons_of_mem _ mC_max)) (Nat.le_of_ble_eq_true rfl) (Nat.le_of_ble_eq_true rfl) (Nat.le_of_ble_eq_true rfl) (Nat.le_of_ble_eq_true rfl) d_D_runAgain_11 ?_
  refine lv_topi (fun v_14 ev_14 => ?_)
  have ev_14 : v_14 = iMax (d_due d) (day) := ev_14
  subst ev_14
  refine va_put (D := D) (ci := 0) (v := .int ((iMax (d_due d) (day)))) (ty := .int) (C := R_D) (T := F_D) (N := 15) hx hb hts (in_D _) t_D to_D nn_D hown hK hP hD hS k hU.o rfl 7 (by decide) (hts (.fieldLink R_D 53 "DebtRows$Debt" "interestBehind" "I") (List.mem_cons_of_mem _ mB_220)) (fun _ h9 => h9) rfl (by decide +kernel) rfl rfl (Nat.le_of_ble_eq_true rfl) d_D_runAgain_14 (fun H locs hP hD hS => ?_)
  have hU := hU.so (s_ib (s_state d (1)) ((iMax (d_due d) (day)))) rfl rfl
  have hP : va_P D vwCl (w_13.set k (h0, dE hp hq (s_ib (s_state d (1)) ((iMax (d_due d) (day)))))) H := hP
  have hD : va_D A (w_13.set k (h0, dE hp hq (s_ib (s_state d (1)) ((iMax (d_due d) (day)))))) := hD
  generalize w_13.set k (h0, dE hp hq (s_ib (s_state d (1)) ((iMax (d_due d) (day))))) = w_15 at hP hD hU
  exact W.vret hx hb hr (fun t ht hW => ⟨⟨(), rfl, trivial, w_15, by rw [ht]; exact hP, hD, by rw [f_runAgain]; exact hU⟩, hS.F ht⟩) hS.2.2 d_D_runAgain_17
def plc (pe : Nat → Int32) (who : Int32) : Nat → Nat → Int32
  | _, 0 => -1
  | i, n + 1 => if pe i = who then nI i else plc pe who (i + 1) n
def f_placeOf (d : DT) (who : Int32) : Int32 := plc (d_people d) who 0 (d_debtors d).toNatClampNeg
set_option maxHeartbeats 4000000 in
set_option maxRecDepth 100000 in
theorem c_placeOf (l : Launch) (D : va_G) (A : Nat → Prop) (w : va_W) (cI cL cD : ClassId) (k h0 hp hq : Nat) (d : DT) (who : Int32) (hU0 : dAt w k cI cL h0 hp hq d) (hw : wfD d) : Met l y_D_placeOf w_D_placeOf ({ frames := 0, cells := 0, slots := 0, locals := 0 }) (mPc D w (tyL cI cL cD) A [.ref h0, .int (who)]) (vp_Si (fun z9 => z9 = f_placeOf d who)) 0 0 (fun _ => False) := by
  refine Met.ofW (cc := b_D_placeOf) (maxL := 3) (ret := (some .int)) (by decide) rfl ?_
  intro p e s m args below meth c s₁ B hml hv
  obtain ⟨rfl, hP, hK, hD⟩ := hv
  have hx := B.exec
  have hb := B.bytes
  have hr := B.returns
  have hts := atoms_spec (ws := w_D_placeOf) B.pre
  have hown : s.vm.findClass R_D = some m.cls := findClass_of_methodNamed B.named
  have hlocks := B.notSynchronized
  have hS : va_S A s.heap s.heap [] := va_S.rf
  have hU : dUpd w w k cI cL h0 hp hq d := dUpd.rf hU0
  have hl := lv_entry ([.ref h0, .int (who)]) (n := 3) (Nat.le_of_ble_eq_true rfl)
  rw [lg_entry_eq]
  generalize (lg_sl ([.ref h0, .int (who)]) ++ List.replicate (3 - (lg_sl ([.ref h0, .int (who)])).length) Slot.unset).toArray = ls at hl ⊢
  have hl : lv_has ls 3 [(0, .ref h0), (1, .int (who))] := hl
  refine lv_iconst (v := 0) hx hb d_D_placeOf_0 (by decide) ?_
  refine lv_istore_n (lv' := [(2, .int (0)), (0, .ref h0), (1, .int (who))]) hx hb d_D_placeOf_1 rfl hl (by decide) rfl (fun ls hl => ?_)
  obtain ⟨mm, hmm, em⟩ := hw.1
  have loop : ∀ (n i : Nat), i + n = mm → plc (d_people d) who i n = f_placeOf d who → ∀ (ls : Array Slot), lv_has ls 3 [(2, .int (nI i)), (0, .ref h0), (1, .int who)] → W p l e (headSpec w_D_placeOf ({ frames := 0, cells := 0, slots := 0, locals := 0 })).room s m [.ref h0, .int (who)].toArray below meth c s.heap [] 0 0 (MQ below (vp_Si (fun z9 => z9 = f_placeOf d who)) [.ref h0, .int (who)].toArray s 0 0 (fun _ => False)) (F0 m 2 ls []) := by
    intro n
    induction n with
    | zero =>
      intro i hin hv ls hl
      refine lv_iload_n hx hb d_D_placeOf_2 rfl (lv_at hl 0 rfl) ?_
      refine lv_aload_n hx hb d_D_placeOf_3 rfl (lv_at hl 1 rfl) ?_
      refine va_get (D := D) (ci := 0) (v := .int (d_debtors d)) (C := R_D) (T := F_D) (N := 15) hx hb hts (in_D _) hown hK hP k hU.o rfl 4 (by decide) (hts (.fieldLink R_D 36 "DebtRows$Debt" "debtors" "I") (List.mem_cons_of_mem _ mB_214)) (fun _ h9 => h9) rfl d_D_placeOf_4 ?_
      refine lv_icmp_ge (tgt := 28) hx hb d_D_placeOf_7 (by decide) (fun c_16 => ?_) (fun c_16 => ?_)
      · refine lv_iconst (v := -1) hx hb d_D_placeOf_28 (by decide) ?_
        exact W.iret (v := -1) hx hb hr (fun t ht hW => ⟨_, rfl, by rw [← hv]; rfl, ht⟩) t_nil d_D_placeOf_29
      · exact absurd (by rw [em]; exact nI_le (by omega) (by omega)) c_16
    | succ n ih =>
      intro i hin hv ls hl
      refine lv_iload_n hx hb d_D_placeOf_2 rfl (lv_at hl 0 rfl) ?_
      refine lv_aload_n hx hb d_D_placeOf_3 rfl (lv_at hl 1 rfl) ?_
      refine va_get (D := D) (ci := 0) (v := .int (d_debtors d)) (C := R_D) (T := F_D) (N := 15) hx hb hts (in_D _) hown hK hP k hU.o rfl 4 (by decide) (hts (.fieldLink R_D 36 "DebtRows$Debt" "debtors" "I") (List.mem_cons_of_mem _ mB_214)) (fun _ h9 => h9) rfl d_D_placeOf_4 ?_
      refine lv_icmp_ge (tgt := 28) hx hb d_D_placeOf_7 (by decide) (fun c_17 => ?_) (fun c_17 => ?_)
      · exact absurd c_17 (by rw [em]; exact nI_ge (by omega) (by omega))
      · refine lv_aload_n hx hb d_D_placeOf_10 rfl (lv_at hl 1 rfl) ?_
        refine va_get (D := D) (ci := 0) (v := .ref hp) (C := R_D) (T := F_D) (N := 15) hx hb hts (in_D _) hown hK hP k hU.o rfl 2 (by decide) (hts (.fieldLink R_D 19 "DebtRows$Debt" "people" "[I") (List.mem_cons_of_mem _ mB_212)) (fun _ h9 => h9) rfl d_D_placeOf_11 ?_
        refine lv_iload_n hx hb d_D_placeOf_14 rfl (lv_at hl 0 rfl) ?_
        refine va_iald hx hb hK hP (k + 1) 0 hU.p rfl (vp_in_nI (by omega) (by omega)) d_D_placeOf_15 ?_
        rw [nI_clamp (by omega)]
        refine lv_iload_n hx hb d_D_placeOf_16 rfl (lv_at hl 2 rfl) ?_
        refine lv_icmp_ne (tgt := 22) hx hb d_D_placeOf_17 (by decide) (fun c_18 => ?_) (fun c_18 => ?_)
        · refine lv_iinc (v := nI (i + 1)) (lv' := [(2, .int (nI (i + 1))), (0, .ref h0), (1, .int (who))]) hx hb d_D_placeOf_22 hl (k := 0) rfl (nI_inc i) (by decide) rfl (fun ls hl => ?_)
          refine lv_goto (tgt := 2) hx hb d_D_placeOf_25 (by decide) ?_
          exact ih (i + 1) (by omega) (by rw [← hv, plc, if_neg c_18]) ls (lv_sub hl [0, 1, 2] rfl)
        · refine lv_iload_n hx hb d_D_placeOf_20 rfl (lv_at hl 0 rfl) ?_
          exact W.iret (v := nI i) hx hb hr (fun t ht hW => ⟨_, rfl, by rw [← hv, plc, if_pos c_18], ht⟩) t_nil d_D_placeOf_21
  exact loop mm 0 (by omega) (by rw [f_placeOf, em, nI_clamp (by omega)]) ls hl
def f_join (d : DT) (who : Int32) : Int32 × DT :=
  if 4 ≤ d_debtors d then (0, d)
  else if (f_placeOf d (who)) = -1 then (1, (s_debtors (s_people d (upd (d_people d) (d_debtors d).toNatClampNeg (who))) ((d_debtors d + 1))))
    else (0, d)
set_option maxHeartbeats 4000000 in
set_option maxRecDepth 100000 in
theorem c_join (l : Launch) (D : va_G) (A : Nat → Prop) (w : va_W) (cI cL cD : ClassId) (k h0 hp hq : Nat) (d : DT) (who : Int32) (hU0 : dAt w k cI cL h0 hp hq d) (hw : wfD d) : Met l y_D_join w_D_join ({ frames := 1, cells := 0, slots := 0, locals := 22 }) (mPc D w (tyL cI cL cD) A [.ref h0, .int (who)]) (va_Qi (fun z9 (_ : Unit) => z9 = (f_join d who).1) (fun (_ : Unit) t => ∃ w9 : va_W, va_P D vwCl w9 t.heap ∧ va_D A w9 ∧ dUpd w w9 k cI cL h0 hp hq ((f_join d who).2)) A) 0 0 A := by
  refine Met.ofW (cc := b_D_join) (maxL := 2) (ret := (some .boolean)) (by decide) rfl ?_
  intro p e s m args below meth c s₁ B hml hv
  obtain ⟨rfl, hP, hK, hD⟩ := hv
  have hx := B.exec
  have hb := B.bytes
  have hr := B.returns
  have hts := atoms_spec (ws := w_D_join) B.pre
  have hown : s.vm.findClass R_D = some m.cls := findClass_of_methodNamed B.named
  have hlocks := B.notSynchronized
  have hS : va_S A s.heap s.heap [] := va_S.rf
  have hU : dUpd w w k cI cL h0 hp hq d := dUpd.rf hU0
  have hl := lv_entry ([.ref h0, .int (who)]) (n := 2) (Nat.le_of_ble_eq_true rfl)
  rw [lg_entry_eq]
  generalize (lg_sl ([.ref h0, .int (who)]) ++ List.replicate (2 - (lg_sl ([.ref h0, .int (who)])).length) Slot.unset).toArray = ls at hl ⊢
  have hl : lv_has ls 2 [(0, .ref h0), (1, .int (who))] := hl
  refine lv_aload_n hx hb d_D_join_0 rfl (lv_at hl 0 rfl) ?_
  refine va_get (D := D) (ci := 0) (v := .int (d_debtors d)) (C := R_D) (T := F_D) (N := 15) hx hb hts (in_D _) hown hK hP k hU.o rfl 4 (by decide) (hts (.fieldLink R_D 36 "DebtRows$Debt" "debtors" "I") (List.mem_cons_of_mem _ mB_214)) (fun _ h9 => h9) rfl d_D_join_1 ?_
  refine lv_iconst (v := 4) hx hb d_D_join_4 (by decide) ?_
  refine lv_icmp_ge (tgt := 17) hx hb d_D_join_5 (by decide) (fun c_19 => ?_) (fun c_19 => ?_)
  · refine lv_iconst (v := 0) hx hb d_D_join_17 (by decide) ?_
    exact W.zret (v := 0) hx hb hr rfl (fun t ht hW => ⟨⟨_, (), rfl, by rw [f_join, if_pos c_19], w, by rw [ht]; exact hP, hD, by rw [f_join, if_pos c_19]; exact hU⟩, hS.F ht⟩) hS.2.2 d_D_join_18
  · refine lv_aload_n hx hb d_D_join_8 rfl (lv_at hl 0 rfl) ?_
    refine lv_iload_n hx hb d_D_join_9 rfl (lv_at hl 1 rfl) ?_
    refine vp_callSi (W.runV (As := [.int (who)]) (rest := []) ⟨hx, hb, hml, hown, hts⟩ (c_placeOf l D A w cI cL cD k h0 hp hq d (who) hU.1 hw) (cwV 1 hts (gV _ mB_79 mB_80 mB_81 mB_24 mB_82) rfl rfl rfl (by decide +kernel) ⟨(Nat.le_of_ble_eq_true rfl), (Nat.le_of_ble_eq_true rfl)⟩) ⟨mPc_bl, va_recv hK hP (ci := 0) (q0 := k) rfl hU.o, mPc_pr hP hK hD⟩ rfl rfl hl.1 rfl (lv_room (Nat.le_of_ble_eq_true rfl)) d_D_join_10 ⟨Nat.zero_le _, Nat.zero_le _⟩) (fun v_20 ev_20 => ?_)
    subst ev_20
    refine lv_iconst (v := -1) hx hb d_D_join_13 (by decide) ?_
    refine lv_icmp_eq (tgt := 19) hx hb d_D_join_14 (by decide) (fun c_21 => ?_) (fun c_21 => ?_)
    · refine lv_aload_n hx hb d_D_join_19 rfl (lv_at hl 0 rfl) ?_
      refine va_get (D := D) (ci := 0) (v := .ref hp) (C := R_D) (T := F_D) (N := 15) hx hb hts (in_D _) hown hK hP k hU.o rfl 2 (by decide) (hts (.fieldLink R_D 19 "DebtRows$Debt" "people" "[I") (List.mem_cons_of_mem _ mB_212)) (fun _ h9 => h9) rfl d_D_join_20 ?_
      refine lv_aload_n hx hb d_D_join_23 rfl (lv_at hl 0 rfl) ?_
      refine va_get (D := D) (ci := 0) (v := .int (d_debtors d)) (C := R_D) (T := F_D) (N := 15) hx hb hts (in_D _) hown hK hP k hU.o rfl 4 (by decide) (hts (.fieldLink R_D 36 "DebtRows$Debt" "debtors" "I") (List.mem_cons_of_mem _ mB_214)) (fun _ h9 => h9) rfl d_D_join_24 ?_
      refine lv_iload_n hx hb d_D_join_27 rfl (lv_at hl 1 rfl) ?_
      refine va_iast hx hb hK hP hD hS (k + 1) 0 hU.p rfl (in_debtors hw c_19) d_D_join_28 (fun H locs hP hD hS => ?_)
      have hU := hU.sp (upd (d_people d) (d_debtors d).toNatClampNeg (who))
      have hP : va_P D vwCl (w.set (k + 1) (hp, aI cI 4 (upd (d_people d) (d_debtors d).toNatClampNeg (who)))) H := hP
      have hD : va_D A (w.set (k + 1) (hp, aI cI 4 (upd (d_people d) (d_debtors d).toNatClampNeg (who)))) := hD
      generalize w.set (k + 1) (hp, aI cI 4 (upd (d_people d) (d_debtors d).toNatClampNeg (who))) = w_22 at hP hD hU
      refine lv_aload_n hx hb d_D_join_29 rfl (lv_at hl 0 rfl) ?_
      refine lv_dup hx hb d_D_join_30 rfl ?_
      refine va_get (D := D) (ci := 0) (v := .int (d_debtors d)) (C := R_D) (T := F_D) (N := 15) hx hb hts (in_D _) hown hK hP k hU.o rfl 4 (by decide) (hts (.fieldLink R_D 36 "DebtRows$Debt" "debtors" "I") (List.mem_cons_of_mem _ mB_214)) (fun _ h9 => h9) rfl d_D_join_31 ?_
      refine lv_iconst (v := 1) hx hb d_D_join_34 (by decide) ?_
      refine lv_iadd hx hb d_D_join_35 ?_
      refine va_put (D := D) (ci := 0) (v := .int ((d_debtors d + 1))) (ty := .int) (C := R_D) (T := F_D) (N := 15) hx hb hts (in_D _) t_D to_D nn_D hown hK hP hD hS k hU.o rfl 4 (by decide) (hts (.fieldLink R_D 36 "DebtRows$Debt" "debtors" "I") (List.mem_cons_of_mem _ mB_214)) (fun _ h9 => h9) rfl (by decide +kernel) rfl rfl (Nat.le_of_ble_eq_true rfl) d_D_join_36 (fun H locs hP hD hS => ?_)
      have hU := hU.so (s_debtors (s_people d (upd (d_people d) (d_debtors d).toNatClampNeg (who))) ((d_debtors d + 1))) rfl rfl
      have hP : va_P D vwCl (w_22.set k (h0, dE hp hq (s_debtors (s_people d (upd (d_people d) (d_debtors d).toNatClampNeg (who))) ((d_debtors d + 1))))) H := hP
      have hD : va_D A (w_22.set k (h0, dE hp hq (s_debtors (s_people d (upd (d_people d) (d_debtors d).toNatClampNeg (who))) ((d_debtors d + 1))))) := hD
      generalize w_22.set k (h0, dE hp hq (s_debtors (s_people d (upd (d_people d) (d_debtors d).toNatClampNeg (who))) ((d_debtors d + 1)))) = w_23 at hP hD hU
      refine lv_iconst (v := 1) hx hb d_D_join_39 (by decide) ?_
      exact W.zret (v := 1) hx hb hr rfl (fun t ht hW => ⟨⟨_, (), rfl, by rw [f_join, if_neg c_19, if_pos c_21], w_23, by rw [ht]; exact hP, hD, by rw [f_join, if_neg c_19, if_pos c_21]; exact hU⟩, hS.F ht⟩) hS.2.2 d_D_join_40
    · refine lv_iconst (v := 0) hx hb d_D_join_17 (by decide) ?_
      exact W.zret (v := 0) hx hb hr rfl (fun t ht hW => ⟨⟨_, (), rfl, by rw [f_join, if_neg c_19, if_neg c_21], w, by rw [ht]; exact hP, hD, by rw [f_join, if_neg c_19, if_neg c_21]; exact hU⟩, hS.F ht⟩) hS.2.2 d_D_join_18
theorem in_has {d : DT} {pl : Int32} (hw : wfD d) (h : ¬ f_hasPlace d pl = 0) : vp_in pl 4 := by
  obtain ⟨m, hm, em⟩ := hw.1
  unfold f_hasPlace at h
  by_cases h1 : pl < 0
  · rw [if_pos h1] at h; exact absurd rfl h
  · rw [if_neg h1] at h
    by_cases h2 : d_debtors d ≤ pl
    · rw [if_pos h2] at h; exact absurd rfl h
    · exact vp_lt h1 h2 em hm (by decide)
def f_personAt (d : DT) (pl : Int32) : Int32 :=
  if (f_hasPlace d (pl)) = 0 then -1
  else ((d_people d) (pl).toNatClampNeg)
set_option maxHeartbeats 4000000 in
set_option maxRecDepth 100000 in
theorem c_personAt (l : Launch) (D : va_G) (A : Nat → Prop) (w : va_W) (cI cL cD : ClassId) (k h0 hp hq : Nat) (d : DT) (pl : Int32) (hU0 : dAt w k cI cL h0 hp hq d) (hw : wfD d) : Met l y_D_personAt w_D_personAt ({ frames := 1, cells := 0, slots := 0, locals := 21 }) (mPc D w (tyL cI cL cD) A [.ref h0, .int (pl)]) (vp_Si (fun z9 => z9 = f_personAt d pl)) 0 0 (fun _ => False) := by
  refine Met.ofW (cc := b_D_personAt) (maxL := 2) (ret := (some .int)) (by decide) rfl ?_
  intro p e s m args below meth c s₁ B hml hv
  obtain ⟨rfl, hP, hK, hD⟩ := hv
  have hx := B.exec
  have hb := B.bytes
  have hr := B.returns
  have hts := atoms_spec (ws := w_D_personAt) B.pre
  have hown : s.vm.findClass R_D = some m.cls := findClass_of_methodNamed B.named
  have hlocks := B.notSynchronized
  have hS : va_S A s.heap s.heap [] := va_S.rf
  have hU : dUpd w w k cI cL h0 hp hq d := dUpd.rf hU0
  have hl := lv_entry ([.ref h0, .int (pl)]) (n := 2) (Nat.le_of_ble_eq_true rfl)
  rw [lg_entry_eq]
  generalize (lg_sl ([.ref h0, .int (pl)]) ++ List.replicate (2 - (lg_sl ([.ref h0, .int (pl)])).length) Slot.unset).toArray = ls at hl ⊢
  have hl : lv_has ls 2 [(0, .ref h0), (1, .int (pl))] := hl
  refine lv_aload_n hx hb d_D_personAt_0 rfl (lv_at hl 0 rfl) ?_
  refine lv_iload_n hx hb d_D_personAt_1 rfl (lv_at hl 1 rfl) ?_
  refine vp_callSi (W.runV (As := [.int (pl)]) (rest := []) ⟨hx, hb, hml, hown, hts⟩ (c_hasPlace l D A w cI cL cD k h0 hp hq d (pl) hU.1) (cwV 1 hts (gV _ mB_300 mB_301 mB_302 mB_24 mB_303) rfl rfl rfl (by decide +kernel) ⟨(Nat.le_of_ble_eq_true rfl), (Nat.le_of_ble_eq_true rfl)⟩) ⟨mPc_bl, va_recv hK hP (ci := 0) (q0 := k) rfl hU.o, mPc_pr hP hK hD⟩ rfl rfl hl.1 rfl (lv_room (Nat.le_of_ble_eq_true rfl)) d_D_personAt_2 ⟨Nat.zero_le _, Nat.zero_le _⟩) (fun v_24 ev_24 => ?_)
  subst ev_24
  refine lv_if_eq (tgt := 17) hx hb d_D_personAt_5 (by decide) (fun c_25 => ?_) (fun c_25 => ?_)
  · refine lv_iconst (v := -1) hx hb d_D_personAt_17 (by decide) ?_
    exact W.iret (v := -1) hx hb hr (fun t ht hW => ⟨_, rfl, by rw [f_personAt, if_pos c_25], ht⟩) t_nil d_D_personAt_18
  · refine lv_aload_n hx hb d_D_personAt_8 rfl (lv_at hl 0 rfl) ?_
    refine va_get (D := D) (ci := 0) (v := .ref hp) (C := R_D) (T := F_D) (N := 15) hx hb hts (in_D _) hown hK hP k hU.o rfl 2 (by decide) (hts (.fieldLink R_D 19 "DebtRows$Debt" "people" "[I") (List.mem_cons_of_mem _ mB_212)) (fun _ h9 => h9) rfl d_D_personAt_9 ?_
    refine lv_iload_n hx hb d_D_personAt_12 rfl (lv_at hl 1 rfl) ?_
    refine va_iald hx hb hK hP (k + 1) 0 hU.p rfl (in_has hw c_25) d_D_personAt_13 ?_
    refine lv_goto (tgt := 18) hx hb d_D_personAt_14 (by decide) ?_
    exact W.iret (v := ((d_people d) (pl).toNatClampNeg)) hx hb hr (fun t ht hW => ⟨_, rfl, by rw [f_personAt, if_neg c_25], ht⟩) t_nil d_D_personAt_18
def f_paidBy (d : DT) (pl : Int32) : Int64 :=
  if (f_hasPlace d (pl)) = 0 then 0
  else ((d_paid d) (pl).toNatClampNeg)
set_option maxHeartbeats 4000000 in
set_option maxRecDepth 100000 in
theorem c_paidBy (l : Launch) (D : va_G) (A : Nat → Prop) (w : va_W) (cI cL cD : ClassId) (k h0 hp hq : Nat) (d : DT) (pl : Int32) (hU0 : dAt w k cI cL h0 hp hq d) (hw : wfD d) : Met l y_D_paidBy w_D_paidBy ({ frames := 1, cells := 0, slots := 0, locals := 21 }) (mPc D w (tyL cI cL cD) A [.ref h0, .int (pl)]) (vp_Sl (fun z9 => z9 = f_paidBy d pl)) 0 0 (fun _ => False) := by
  refine Met.ofW (cc := b_D_paidBy) (maxL := 2) (ret := (some .long)) (by decide) rfl ?_
  intro p e s m args below meth c s₁ B hml hv
  obtain ⟨rfl, hP, hK, hD⟩ := hv
  have hx := B.exec
  have hb := B.bytes
  have hr := B.returns
  have hts := atoms_spec (ws := w_D_paidBy) B.pre
  have hown : s.vm.findClass R_D = some m.cls := findClass_of_methodNamed B.named
  have hlocks := B.notSynchronized
  have hS : va_S A s.heap s.heap [] := va_S.rf
  have hU : dUpd w w k cI cL h0 hp hq d := dUpd.rf hU0
  have hl := lv_entry ([.ref h0, .int (pl)]) (n := 2) (Nat.le_of_ble_eq_true rfl)
  rw [lg_entry_eq]
  generalize (lg_sl ([.ref h0, .int (pl)]) ++ List.replicate (2 - (lg_sl ([.ref h0, .int (pl)])).length) Slot.unset).toArray = ls at hl ⊢
  have hl : lv_has ls 2 [(0, .ref h0), (1, .int (pl))] := hl
  refine lv_aload_n hx hb d_D_paidBy_0 rfl (lv_at hl 0 rfl) ?_
  refine lv_iload_n hx hb d_D_paidBy_1 rfl (lv_at hl 1 rfl) ?_
  refine vp_callSi (W.runV (As := [.int (pl)]) (rest := []) ⟨hx, hb, hml, hown, hts⟩ (c_hasPlace l D A w cI cL cD k h0 hp hq d (pl) hU.1) (cwV 1 hts (gV _ mB_300 mB_301 mB_302 mB_24 mB_303) rfl rfl rfl (by decide +kernel) ⟨(Nat.le_of_ble_eq_true rfl), (Nat.le_of_ble_eq_true rfl)⟩) ⟨mPc_bl, va_recv hK hP (ci := 0) (q0 := k) rfl hU.o, mPc_pr hP hK hD⟩ rfl rfl hl.1 rfl (lv_room (Nat.le_of_ble_eq_true rfl)) d_D_paidBy_2 ⟨Nat.zero_le _, Nat.zero_le _⟩) (fun v_26 ev_26 => ?_)
  subst ev_26
  refine lv_if_eq (tgt := 17) hx hb d_D_paidBy_5 (by decide) (fun c_27 => ?_) (fun c_27 => ?_)
  · refine lv_lconst (v := 0) hx hb d_D_paidBy_17 (by decide) ?_
    exact W.lret (v := 0) hx hb hr (fun t ht hW => ⟨_, rfl, by rw [f_paidBy, if_pos c_27], ht⟩) t_nil d_D_paidBy_18
  · refine lv_aload_n hx hb d_D_paidBy_8 rfl (lv_at hl 0 rfl) ?_
    refine va_get (D := D) (ci := 0) (v := .ref hq) (C := R_D) (T := F_D) (N := 15) hx hb hts (in_D _) hown hK hP k hU.o rfl 3 (by decide) (hts (.fieldLink R_D 23 "DebtRows$Debt" "paid" "[J") (List.mem_cons_of_mem _ mB_213)) (fun _ h9 => h9) rfl d_D_paidBy_9 ?_
    refine lv_iload_n hx hb d_D_paidBy_12 rfl (lv_at hl 1 rfl) ?_
    refine va_lald hx hb hK hP (k + 2) 1 hU.q rfl (in_has hw c_27) d_D_paidBy_13 ?_
    refine lv_goto (tgt := 18) hx hb d_D_paidBy_14 (by decide) ?_
    exact W.lret (v := ((d_paid d) (pl).toNatClampNeg)) hx hb hr (fun t ht hW => ⟨_, rfl, by rw [f_paidBy, if_neg c_27], ht⟩) t_nil d_D_paidBy_18
def f_shareOf (d : DT) (pl : Int32) : Int64 :=
  if 1 ≤ d_debtors d then (if (d_cents d - d_cents d / (d_debtors d : Int32).toInt64 * (d_debtors d : Int32).toInt64) ≤ (pl : Int32).toInt64 then ((d_cents d / (d_debtors d : Int32).toInt64) + (0 : Int32).toInt64)
    else ((d_cents d / (d_debtors d : Int32).toInt64) + (1 : Int32).toInt64))
  else 0
set_option maxHeartbeats 4000000 in
set_option maxRecDepth 100000 in
theorem c_shareOf (l : Launch) (D : va_G) (A : Nat → Prop) (w : va_W) (cI cL cD : ClassId) (k h0 hp hq : Nat) (d : DT) (pl : Int32) (hU0 : dAt w k cI cL h0 hp hq d) : Met l y_D_shareOf w_D_shareOf ({ frames := 0, cells := 0, slots := 0, locals := 0 }) (mPc D w (tyL cI cL cD) A [.ref h0, .int (pl)]) (vp_Sl (fun z9 => z9 = f_shareOf d pl)) 0 0 (fun _ => False) := by
  refine Met.ofW (cc := b_D_shareOf) (maxL := 2) (ret := (some .long)) (by decide) rfl ?_
  intro p e s m args below meth c s₁ B hml hv
  obtain ⟨rfl, hP, hK, hD⟩ := hv
  have hx := B.exec
  have hb := B.bytes
  have hr := B.returns
  have hts := atoms_spec (ws := w_D_shareOf) B.pre
  have hown : s.vm.findClass R_D = some m.cls := findClass_of_methodNamed B.named
  have hlocks := B.notSynchronized
  have hS : va_S A s.heap s.heap [] := va_S.rf
  have hU : dUpd w w k cI cL h0 hp hq d := dUpd.rf hU0
  have hl := lv_entry ([.ref h0, .int (pl)]) (n := 2) (Nat.le_of_ble_eq_true rfl)
  rw [lg_entry_eq]
  generalize (lg_sl ([.ref h0, .int (pl)]) ++ List.replicate (2 - (lg_sl ([.ref h0, .int (pl)])).length) Slot.unset).toArray = ls at hl ⊢
  have hl : lv_has ls 2 [(0, .ref h0), (1, .int (pl))] := hl
  refine lv_aload_n hx hb d_D_shareOf_0 rfl (lv_at hl 0 rfl) ?_
  refine va_get (D := D) (ci := 0) (v := .int (d_debtors d)) (C := R_D) (T := F_D) (N := 15) hx hb hts (in_D _) hown hK hP k hU.o rfl 4 (by decide) (hts (.fieldLink R_D 36 "DebtRows$Debt" "debtors" "I") (List.mem_cons_of_mem _ mB_214)) (fun _ h9 => h9) rfl d_D_shareOf_1 ?_
  refine lv_iconst (v := 1) hx hb d_D_shareOf_4 (by decide) ?_
  refine lv_icmp_ge (tgt := 10) hx hb d_D_shareOf_5 (by decide) (fun c_28 => ?_) (fun c_28 => ?_)
  · refine lv_aload_n hx hb d_D_shareOf_10 rfl (lv_at hl 0 rfl) ?_
    refine va_get (D := D) (ci := 0) (v := .long (d_cents d)) (C := R_D) (T := F_D) (N := 15) hx hb hts (in_D _) hown hK hP k hU.o rfl 0 (by decide) (hts (.fieldLink R_D 9 "DebtRows$Debt" "cents" "J") (List.mem_cons_of_mem _ mB_208)) (fun _ h9 => h9) rfl d_D_shareOf_11 ?_
    refine lv_aload_n hx hb d_D_shareOf_14 rfl (lv_at hl 0 rfl) ?_
    refine va_get (D := D) (ci := 0) (v := .int (d_debtors d)) (C := R_D) (T := F_D) (N := 15) hx hb hts (in_D _) hown hK hP k hU.o rfl 4 (by decide) (hts (.fieldLink R_D 36 "DebtRows$Debt" "debtors" "I") (List.mem_cons_of_mem _ mB_214)) (fun _ h9 => h9) rfl d_D_shareOf_15 ?_
    refine lv_i2l hx hb d_D_shareOf_18 rfl ?_
    refine lv_ldiv hx hb d_D_shareOf_19 (n64_0 c_28) ?_
    refine lv_iload_n hx hb d_D_shareOf_20 rfl (lv_at hl 1 rfl) ?_
    refine lv_i2l hx hb d_D_shareOf_21 rfl ?_
    refine lv_aload_n hx hb d_D_shareOf_22 rfl (lv_at hl 0 rfl) ?_
    refine va_get (D := D) (ci := 0) (v := .long (d_cents d)) (C := R_D) (T := F_D) (N := 15) hx hb hts (in_D _) hown hK hP k hU.o rfl 0 (by decide) (hts (.fieldLink R_D 9 "DebtRows$Debt" "cents" "J") (List.mem_cons_of_mem _ mB_208)) (fun _ h9 => h9) rfl d_D_shareOf_23 ?_
    refine lv_aload_n hx hb d_D_shareOf_26 rfl (lv_at hl 0 rfl) ?_
    refine va_get (D := D) (ci := 0) (v := .int (d_debtors d)) (C := R_D) (T := F_D) (N := 15) hx hb hts (in_D _) hown hK hP k hU.o rfl 4 (by decide) (hts (.fieldLink R_D 36 "DebtRows$Debt" "debtors" "I") (List.mem_cons_of_mem _ mB_214)) (fun _ h9 => h9) rfl d_D_shareOf_27 ?_
    refine lv_i2l hx hb d_D_shareOf_30 rfl ?_
    refine lv_lrem hx hb d_D_shareOf_31 (n64_0 c_28) ?_
    refine W.lcmp hx hb d_D_shareOf_32 ?_
    refine lv_if_ge (tgt := 40) hx hb d_D_shareOf_33 (by decide) (fun c_29 => ?_) (fun c_29 => ?_)
    · have c_29 : (d_cents d - d_cents d / (d_debtors d : Int32).toInt64 * (d_debtors d : Int32).toInt64) ≤ (pl : Int32).toInt64 := (lg_cmp_ge _ _).mp c_29
      refine lv_iconst (v := 0) hx hb d_D_shareOf_40 (by decide) ?_
      refine lv_i2l hx hb d_D_shareOf_41 rfl ?_
      refine lv_ladd hx hb d_D_shareOf_42 ?_
      exact W.lret (v := ((d_cents d / (d_debtors d : Int32).toInt64) + (0 : Int32).toInt64)) hx hb hr (fun t ht hW => ⟨_, rfl, by rw [f_shareOf, if_pos c_28, if_pos c_29], ht⟩) t_nil d_D_shareOf_43
    · have c_29 : ¬ (d_cents d - d_cents d / (d_debtors d : Int32).toInt64 * (d_debtors d : Int32).toInt64) ≤ (pl : Int32).toInt64 := fun h9 => c_29 ((lg_cmp_ge _ _).mpr h9)
      refine lv_iconst (v := 1) hx hb d_D_shareOf_36 (by decide) ?_
      refine lv_goto (tgt := 41) hx hb d_D_shareOf_37 (by decide) ?_
      refine lv_i2l hx hb d_D_shareOf_41 rfl ?_
      refine lv_ladd hx hb d_D_shareOf_42 ?_
      exact W.lret (v := ((d_cents d / (d_debtors d : Int32).toInt64) + (1 : Int32).toInt64)) hx hb hr (fun t ht hW => ⟨_, rfl, by rw [f_shareOf, if_pos c_28, if_neg c_29], ht⟩) t_nil d_D_shareOf_43
  · refine lv_lconst (v := 0) hx hb d_D_shareOf_8 (by decide) ?_
    exact W.lret (v := 0) hx hb hr (fun t ht hW => ⟨_, rfl, by rw [f_shareOf, if_neg c_28], ht⟩) t_nil d_D_shareOf_9
def f_mayBeOpen (d : DT) (kk : Int32) : Int64 :=
  if 1 ≤ d_dParts d then ((d_dOpen d * ((d_dParts d - kk) : Int32).toInt64) / (d_dParts d : Int32).toInt64)
  else 0
set_option maxHeartbeats 4000000 in
set_option maxRecDepth 100000 in
theorem c_mayBeOpen (l : Launch) (D : va_G) (A : Nat → Prop) (w : va_W) (cI cL cD : ClassId) (k h0 hp hq : Nat) (d : DT) (kk : Int32) (hU0 : dAt w k cI cL h0 hp hq d) : Met l y_D_mayBeOpen w_D_mayBeOpen ({ frames := 0, cells := 0, slots := 0, locals := 0 }) (mPc D w (tyL cI cL cD) A [.ref h0, .int (kk)]) (vp_Sl (fun z9 => z9 = f_mayBeOpen d kk)) 0 0 (fun _ => False) := by
  refine Met.ofW (cc := b_D_mayBeOpen) (maxL := 2) (ret := (some .long)) (by decide) rfl ?_
  intro p e s m args below meth c s₁ B hml hv
  obtain ⟨rfl, hP, hK, hD⟩ := hv
  have hx := B.exec
  have hb := B.bytes
  have hr := B.returns
  have hts := atoms_spec (ws := w_D_mayBeOpen) B.pre
  have hown : s.vm.findClass R_D = some m.cls := findClass_of_methodNamed B.named
  have hlocks := B.notSynchronized
  have hS : va_S A s.heap s.heap [] := va_S.rf
  have hU : dUpd w w k cI cL h0 hp hq d := dUpd.rf hU0
  have hl := lv_entry ([.ref h0, .int (kk)]) (n := 2) (Nat.le_of_ble_eq_true rfl)
  rw [lg_entry_eq]
  generalize (lg_sl ([.ref h0, .int (kk)]) ++ List.replicate (2 - (lg_sl ([.ref h0, .int (kk)])).length) Slot.unset).toArray = ls at hl ⊢
  have hl : lv_has ls 2 [(0, .ref h0), (1, .int (kk))] := hl
  refine lv_aload_n hx hb d_D_mayBeOpen_0 rfl (lv_at hl 0 rfl) ?_
  refine va_get (D := D) (ci := 0) (v := .int (d_dParts d)) (C := R_D) (T := F_D) (N := 15) hx hb hts (in_D _) hown hK hP k hU.o rfl 13 (by decide) (hts (.fieldLink R_D 91 "DebtRows$Debt" "deferralParts" "I") (List.mem_cons_of_mem _ mB_230)) (fun _ h9 => h9) rfl d_D_mayBeOpen_1 ?_
  refine lv_iconst (v := 1) hx hb d_D_mayBeOpen_4 (by decide) ?_
  refine lv_icmp_ge (tgt := 12) hx hb d_D_mayBeOpen_5 (by decide) (fun c_30 => ?_) (fun c_30 => ?_)
  · refine lv_aload_n hx hb d_D_mayBeOpen_12 rfl (lv_at hl 0 rfl) ?_
    refine va_get (D := D) (ci := 0) (v := .long (d_dOpen d)) (C := R_D) (T := F_D) (N := 15) hx hb hts (in_D _) hown hK hP k hU.o rfl 14 (by decide) (hts (.fieldLink R_D 94 "DebtRows$Debt" "deferralOpen" "J") (List.mem_cons_of_mem _ mB_231)) (fun _ h9 => h9) rfl d_D_mayBeOpen_13 ?_
    refine lv_aload_n hx hb d_D_mayBeOpen_16 rfl (lv_at hl 0 rfl) ?_
    refine va_get (D := D) (ci := 0) (v := .int (d_dParts d)) (C := R_D) (T := F_D) (N := 15) hx hb hts (in_D _) hown hK hP k hU.o rfl 13 (by decide) (hts (.fieldLink R_D 91 "DebtRows$Debt" "deferralParts" "I") (List.mem_cons_of_mem _ mB_230)) (fun _ h9 => h9) rfl d_D_mayBeOpen_17 ?_
    refine lv_iload_n hx hb d_D_mayBeOpen_20 rfl (lv_at hl 1 rfl) ?_
    refine lv_isub hx hb d_D_mayBeOpen_21 ?_
    refine lv_i2l hx hb d_D_mayBeOpen_22 rfl ?_
    refine lv_lmul hx hb d_D_mayBeOpen_23 ?_
    refine lv_aload_n hx hb d_D_mayBeOpen_24 rfl (lv_at hl 0 rfl) ?_
    refine va_get (D := D) (ci := 0) (v := .int (d_dParts d)) (C := R_D) (T := F_D) (N := 15) hx hb hts (in_D _) hown hK hP k hU.o rfl 13 (by decide) (hts (.fieldLink R_D 91 "DebtRows$Debt" "deferralParts" "I") (List.mem_cons_of_mem _ mB_230)) (fun _ h9 => h9) rfl d_D_mayBeOpen_25 ?_
    refine lv_i2l hx hb d_D_mayBeOpen_28 rfl ?_
    refine lv_ldiv hx hb d_D_mayBeOpen_29 (n64_0 c_30) ?_
    exact W.lret (v := ((d_dOpen d * ((d_dParts d - kk) : Int32).toInt64) / (d_dParts d : Int32).toInt64)) hx hb hr (fun t ht hW => ⟨_, rfl, by rw [f_mayBeOpen, if_pos c_30], ht⟩) t_nil d_D_mayBeOpen_30
  · refine lv_lconst (v := 0) hx hb d_D_mayBeOpen_8 (by decide) ?_
    refine lv_goto (tgt := 30) hx hb d_D_mayBeOpen_9 (by decide) ?_
    exact W.lret (v := 0) hx hb hr (fun t ht hW => ⟨_, rfl, by rw [f_mayBeOpen, if_neg c_30], ht⟩) t_nil d_D_mayBeOpen_30
def f_settle (d : DT) : DT :=
  if 0 < d_fixed d then d
  else if d_open d ≤ 10 then (if d_open d = 0 then (s_state d (4))
      else (f_lose d (7)))
    else d
set_option maxHeartbeats 4000000 in
set_option maxRecDepth 100000 in
theorem c_settle (l : Launch) (D : va_G) (A : Nat → Prop) (w : va_W) (cI cL cD : ClassId) (k h0 hp hq : Nat) (d : DT)  (hU0 : dAt w k cI cL h0 hp hq d) : Met l y_D_settle w_D_settle ({ frames := 1, cells := 0, slots := 0, locals := 21 }) (mPc D w (tyL cI cL cD) A [.ref h0]) (va_Qv (fun _ : Unit => True) (fun (_ : Unit) t => ∃ w9 : va_W, va_P D vwCl w9 t.heap ∧ va_D A w9 ∧ dUpd w w9 k cI cL h0 hp hq (f_settle d)) A) 0 0 A := by
  refine Met.ofW (cc := b_D_settle) (maxL := 1) (ret := none) (by decide) rfl ?_
  intro p e s m args below meth c s₁ B hml hv
  obtain ⟨rfl, hP, hK, hD⟩ := hv
  have hx := B.exec
  have hb := B.bytes
  have hr := B.returns
  have hts := atoms_spec (ws := w_D_settle) B.pre
  have hown : s.vm.findClass R_D = some m.cls := findClass_of_methodNamed B.named
  have hlocks := B.notSynchronized
  have hS : va_S A s.heap s.heap [] := va_S.rf
  have hU : dUpd w w k cI cL h0 hp hq d := dUpd.rf hU0
  have hl := lv_entry ([.ref h0]) (n := 1) (Nat.le_of_ble_eq_true rfl)
  rw [lg_entry_eq]
  generalize (lg_sl ([.ref h0]) ++ List.replicate (1 - (lg_sl ([.ref h0])).length) Slot.unset).toArray = ls at hl ⊢
  have hl : lv_has ls 1 [(0, .ref h0)] := hl
  refine lv_aload_n hx hb d_D_settle_0 rfl (lv_at hl 0 rfl) ?_
  refine va_get (D := D) (ci := 0) (v := .long (d_fixed d)) (C := R_D) (T := F_D) (N := 15) hx hb hts (in_D _) hown hK hP k hU.o rfl 10 (by decide) (hts (.fieldLink R_D 62 "DebtRows$Debt" "fixedInterest" "J") (List.mem_cons_of_mem _ mB_226)) (fun _ h9 => h9) rfl d_D_settle_1 ?_
  refine lv_lconst (v := 0) hx hb d_D_settle_4 (by decide) ?_
  refine W.lcmp hx hb d_D_settle_5 ?_
  refine lv_if_gt (tgt := 20) hx hb d_D_settle_6 (by decide) (fun c_31 => ?_) (fun c_31 => ?_)
  · have c_31 : 0 < d_fixed d := (lg_cmp_gt _ _).mp c_31
    exact W.vret hx hb hr (fun t ht hW => ⟨⟨(), rfl, trivial, w, by rw [ht]; exact hP, hD, by rw [f_settle, if_pos c_31]; exact hU⟩, hS.F ht⟩) hS.2.2 d_D_settle_20
  · have c_31 : ¬ 0 < d_fixed d := fun h9 => c_31 ((lg_cmp_gt _ _).mpr h9)
    refine lv_aload_n hx hb d_D_settle_9 rfl (lv_at hl 0 rfl) ?_
    refine va_get (D := D) (ci := 0) (v := .long (d_open d)) (C := R_D) (T := F_D) (N := 15) hx hb hts (in_D _) hown hK hP k hU.o rfl 8 (by decide) (hts (.fieldLink R_D 33 "DebtRows$Debt" "open" "J") (List.mem_cons_of_mem _ mB_221)) (fun _ h9 => h9) rfl d_D_settle_10 ?_
    refine lv_ldc2 (own := R_D) (index := 79) (v := 10) hx hb hown (hts (.constantLong R_D 79 (10)) (List.mem_cons_of_mem _ mB_311)) d_D_settle_13 ?_
    refine W.lcmp hx hb d_D_settle_16 ?_
    refine lv_if_le (tgt := 21) hx hb d_D_settle_17 (by decide) (fun c_32 => ?_) (fun c_32 => ?_)
    · have c_32 : d_open d ≤ 10 := (lg_cmp_le _ _).mp c_32
      refine lv_aload_n hx hb d_D_settle_21 rfl (lv_at hl 0 rfl) ?_
      refine va_get (D := D) (ci := 0) (v := .long (d_open d)) (C := R_D) (T := F_D) (N := 15) hx hb hts (in_D _) hown hK hP k hU.o rfl 8 (by decide) (hts (.fieldLink R_D 33 "DebtRows$Debt" "open" "J") (List.mem_cons_of_mem _ mB_221)) (fun _ h9 => h9) rfl d_D_settle_22 ?_
      refine lv_lconst (v := 0) hx hb d_D_settle_25 (by decide) ?_
      refine W.lcmp hx hb d_D_settle_26 ?_
      refine lv_if_ne (tgt := 38) hx hb d_D_settle_27 (by decide) (fun c_33 => ?_) (fun c_33 => ?_)
      · have c_33 : ¬ d_open d = 0 := fun h9 => c_33 ((lg_cmp_eq _ _).mpr h9)
        refine lv_aload_n hx hb d_D_settle_38 rfl (lv_at hl 0 rfl) ?_
        refine lv_bipush (v := 7) hx hb d_D_settle_39 (by decide) ?_
        refine va_callv (va_runV (As := [.int (7)]) (rest := []) ⟨hx, hb, hml, hown, hts⟩ (c_lose l D A w cI cL cD k h0 hp hq d (7) hU.1) (cwV 1 hts (gV _ mB_312 mB_313 mB_314 mB_24 mB_315) rfl rfl rfl (by decide +kernel) ⟨(Nat.le_of_ble_eq_true rfl), (Nat.le_of_ble_eq_true rfl)⟩) ⟨mPc_bl, va_recv hK hP (ci := 0) (q0 := k) rfl hU.o, mPc_pr hP hK hD⟩ rfl rfl hl.1 rfl (lv_room (Nat.le_of_ble_eq_true rfl)) d_D_settle_41 ⟨Nat.zero_le _, Nat.zero_le _⟩) hS (fun _ _ h => h) (fun _ h => h) (fun u9 t H locs ht hvm ev_34 hB hz1 hk1 hS => ?_)
        obtain ⟨w_35, hP, hD, hU1⟩ := hB
        rw [ht] at hP
        have hU := hU.tr hU1
        exact W.vret hx hb hr (fun t ht hW => ⟨⟨(), rfl, trivial, w_35, by rw [ht]; exact hP, hD, by rw [f_settle, if_neg c_31, if_pos c_32, if_neg c_33]; exact hU⟩, hS.F ht⟩) hS.2.2 d_D_settle_44
      · have c_33 : d_open d = 0 := (lg_cmp_eq _ _).mp c_33
        refine lv_aload_n hx hb d_D_settle_30 rfl (lv_at hl 0 rfl) ?_
        refine lv_iconst (v := 4) hx hb d_D_settle_31 (by decide) ?_
        refine va_put (D := D) (ci := 0) (v := .int (4)) (ty := .int) (C := R_D) (T := F_D) (N := 15) hx hb hts (in_D _) t_D to_D nn_D hown hK hP hD hS k hU.o rfl 5 (by decide) (hts (.fieldLink R_D 27 "DebtRows$Debt" "state" "I") (List.mem_cons_of_mem _ mB_216)) (fun _ h9 => h9) rfl (by decide +kernel) rfl rfl (Nat.le_of_ble_eq_true rfl) d_D_settle_32 (fun H locs hP hD hS => ?_)
        have hU := hU.so (s_state d (4)) rfl rfl
        have hP : va_P D vwCl (w.set k (h0, dE hp hq (s_state d (4)))) H := hP
        have hD : va_D A (w.set k (h0, dE hp hq (s_state d (4)))) := hD
        generalize w.set k (h0, dE hp hq (s_state d (4))) = w_36 at hP hD hU
        refine lv_goto (tgt := 44) hx hb d_D_settle_35 (by decide) ?_
        exact W.vret hx hb hr (fun t ht hW => ⟨⟨(), rfl, trivial, w_36, by rw [ht]; exact hP, hD, by rw [f_settle, if_neg c_31, if_pos c_32, if_pos c_33]; exact hU⟩, hS.F ht⟩) hS.2.2 d_D_settle_44
    · have c_32 : ¬ d_open d ≤ 10 := fun h9 => c_32 ((lg_cmp_le _ _).mpr h9)
      exact W.vret hx hb hr (fun t ht hW => ⟨⟨(), rfl, trivial, w, by rw [ht]; exact hP, hD, by rw [f_settle, if_neg c_31, if_neg c_32]; exact hU⟩, hS.F ht⟩) hS.2.2 d_D_settle_20
def f_take (d : DT) (pl : Int32) (mo : Int64) : Int64 × DT :=
  if (f_hasPlace d (pl)) = 0 then (0, d)
  else (((jMin (mo) (d_fixed d)) + (jMin ((mo - (jMin (mo) (d_fixed d)))) (d_open d))), (f_settle (s_paid (s_open (s_paidI (s_fixed d ((d_fixed d - (jMin (mo) (d_fixed d))))) ((d_paidI d + (jMin (mo) (d_fixed d))))) ((d_open d - (jMin ((mo - (jMin (mo) (d_fixed d)))) (d_open d))))) (vp_updL (d_paid d) (pl).toNatClampNeg ((((d_paid d) (pl).toNatClampNeg) + (jMin ((mo - (jMin (mo) (d_fixed d)))) (d_open d))))))))
set_option maxHeartbeats 4000000 in
set_option maxRecDepth 100000 in
theorem c_take (l : Launch) (D : va_G) (A : Nat → Prop) (w : va_W) (cI cL cD : ClassId) (k h0 hp hq : Nat) (d : DT) (pl : Int32) (mo : Int64) (hU0 : dAt w k cI cL h0 hp hq d) (hw : wfD d) : Met l y_D_take w_D_take ({ frames := 2, cells := 0, slots := 0, locals := 41 }) (mPc D w (tyL cI cL cD) A [.ref h0, .int (pl), .long (mo)]) (va_Ql (fun z9 (_ : Unit) => z9 = (f_take d pl mo).1) (fun (_ : Unit) t => ∃ w9 : va_W, va_P D vwCl w9 t.heap ∧ va_D A w9 ∧ dUpd w w9 k cI cL h0 hp hq ((f_take d pl mo).2)) A) 0 0 A := by
  refine Met.ofW (cc := b_D_take) (maxL := 8) (ret := (some .long)) (by decide) rfl ?_
  intro p e s m args below meth c s₁ B hml hv
  obtain ⟨rfl, hP, hK, hD⟩ := hv
  have hx := B.exec
  have hb := B.bytes
  have hr := B.returns
  have hts := atoms_spec (ws := w_D_take) B.pre
  have hown : s.vm.findClass R_D = some m.cls := findClass_of_methodNamed B.named
  have hlocks := B.notSynchronized
  have hS : va_S A s.heap s.heap [] := va_S.rf
  have hU : dUpd w w k cI cL h0 hp hq d := dUpd.rf hU0
  have hl := lv_entry ([.ref h0, .int (pl), .long (mo)]) (n := 8) (Nat.le_of_ble_eq_true rfl)
  rw [lg_entry_eq]
  generalize (lg_sl ([.ref h0, .int (pl), .long (mo)]) ++ List.replicate (8 - (lg_sl ([.ref h0, .int (pl), .long (mo)])).length) Slot.unset).toArray = ls at hl ⊢
  have hl : lv_has ls 8 [(0, .ref h0), (1, .int (pl)), (2, .long (mo))] := hl
  refine lv_aload_n hx hb d_D_take_0 rfl (lv_at hl 0 rfl) ?_
  refine lv_iload_n hx hb d_D_take_1 rfl (lv_at hl 1 rfl) ?_
  refine vp_callSi (W.runV (As := [.int (pl)]) (rest := []) ⟨hx, hb, hml, hown, hts⟩ (c_hasPlace l D A w cI cL cD k h0 hp hq d (pl) hU.1) (cwV 1 hts (gV _ mB_300 mB_301 mB_302 mB_24 mB_303) rfl rfl rfl (by decide +kernel) ⟨(Nat.le_of_ble_eq_true rfl), (Nat.le_of_ble_eq_true rfl)⟩) ⟨mPc_bl, va_recv hK hP (ci := 0) (q0 := k) rfl hU.o, mPc_pr hP hK hD⟩ rfl rfl hl.1 rfl (lv_room (Nat.le_of_ble_eq_true rfl)) d_D_take_2 ⟨Nat.zero_le _, Nat.zero_le _⟩) (fun v_37 ev_37 => ?_)
  subst ev_37
  refine lv_if_ne (tgt := 10) hx hb d_D_take_5 (by decide) (fun c_38 => ?_) (fun c_38 => ?_)
  · refine lv_lload_n hx hb d_D_take_10 rfl (lv_at hl 2 rfl) ?_
    refine lv_aload_n hx hb d_D_take_11 rfl (lv_at hl 0 rfl) ?_
    refine va_get (D := D) (ci := 0) (v := .long (d_fixed d)) (C := R_D) (T := F_D) (N := 15) hx hb hts (in_D _) hown hK hP k hU.o rfl 10 (by decide) (hts (.fieldLink R_D 62 "DebtRows$Debt" "fixedInterest" "J") (List.mem_cons_of_mem _ mB_226)) (fun _ h9 => h9) rfl d_D_take_12 ?_
    refine va_mmin_long (own := R_D) (index := 69) hx hb (hml.trans hl.1.symm) hown (hts (.methodLink R_D 69 Lib.MathLoose.min_long.x) (List.mem_cons_of_mem _ mB_304)) (hts (.static Lib.MathLoose.min_long.x) (List.mem_cons_of_mem _ mB_305)) (hts (.initialized "java/lang/Math") (List.mem_cons_of_mem _ mB_25)) (hts _ (List.mem_cons_of_mem _ mC_lmin)) (Nat.le_of_ble_eq_true rfl) (Nat.le_of_ble_eq_true rfl) (Nat.le_of_ble_eq_true rfl) (Nat.le_of_ble_eq_true rfl) d_D_take_15 ?_
    refine lv_topl (fun v_39 ev_39 => ?_)
    have ev_39 : v_39 = jMin (mo) (d_fixed d) := ev_39
    subst ev_39
    refine lv_lstore (lv' := [(4, .long ((jMin (mo) (d_fixed d)))), (0, .ref h0), (1, .int (pl)), (2, .long (mo))]) hx hb d_D_take_18 hl (by decide) rfl (fun ls hl => ?_)
    refine lv_lload_n hx hb d_D_take_20 rfl (lv_at hl 3 rfl) ?_
    refine lv_lload hx hb d_D_take_21 (lv_at hl 0 rfl) ?_
    refine lv_lsub hx hb d_D_take_23 ?_
    refine lv_aload_n hx hb d_D_take_24 rfl (lv_at hl 1 rfl) ?_
    refine va_get (D := D) (ci := 0) (v := .long (d_open d)) (C := R_D) (T := F_D) (N := 15) hx hb hts (in_D _) hown hK hP k hU.o rfl 8 (by decide) (hts (.fieldLink R_D 33 "DebtRows$Debt" "open" "J") (List.mem_cons_of_mem _ mB_221)) (fun _ h9 => h9) rfl d_D_take_25 ?_
    refine va_mmin_long (own := R_D) (index := 69) hx hb (hml.trans hl.1.symm) hown (hts (.methodLink R_D 69 Lib.MathLoose.min_long.x) (List.mem_cons_of_mem _ mB_304)) (hts (.static Lib.MathLoose.min_long.x) (List.mem_cons_of_mem _ mB_305)) (hts (.initialized "java/lang/Math") (List.mem_cons_of_mem _ mB_25)) (hts _ (List.mem_cons_of_mem _ mC_lmin)) (Nat.le_of_ble_eq_true rfl) (Nat.le_of_ble_eq_true rfl) (Nat.le_of_ble_eq_true rfl) (Nat.le_of_ble_eq_true rfl) d_D_take_28 ?_
    refine lv_topl (fun v_40 ev_40 => ?_)
    have ev_40 : v_40 = jMin ((mo - (jMin (mo) (d_fixed d)))) (d_open d) := ev_40
    subst ev_40
    refine lv_lstore (lv' := [(6, .long ((jMin ((mo - (jMin (mo) (d_fixed d)))) (d_open d)))), (4, .long ((jMin (mo) (d_fixed d)))), (0, .ref h0), (1, .int (pl)), (2, .long (mo))]) hx hb d_D_take_31 hl (by decide) rfl (fun ls hl => ?_)
    refine lv_aload_n hx hb d_D_take_33 rfl (lv_at hl 2 rfl) ?_
    refine lv_dup hx hb d_D_take_34 rfl ?_
    refine va_get (D := D) (ci := 0) (v := .long (d_fixed d)) (C := R_D) (T := F_D) (N := 15) hx hb hts (in_D _) hown hK hP k hU.o rfl 10 (by decide) (hts (.fieldLink R_D 62 "DebtRows$Debt" "fixedInterest" "J") (List.mem_cons_of_mem _ mB_226)) (fun _ h9 => h9) rfl d_D_take_35 ?_
    refine lv_lload hx hb d_D_take_38 (lv_at hl 1 rfl) ?_
    refine lv_lsub hx hb d_D_take_40 ?_
    refine va_put (D := D) (ci := 0) (v := .long ((d_fixed d - (jMin (mo) (d_fixed d))))) (ty := .long) (C := R_D) (T := F_D) (N := 15) hx hb hts (in_D _) t_D to_D nn_D hown hK hP hD hS k hU.o rfl 10 (by decide) (hts (.fieldLink R_D 62 "DebtRows$Debt" "fixedInterest" "J") (List.mem_cons_of_mem _ mB_226)) (fun _ h9 => h9) rfl (by decide +kernel) rfl rfl (Nat.le_of_ble_eq_true rfl) d_D_take_41 (fun H locs hP hD hS => ?_)
    have hU := hU.so (s_fixed d ((d_fixed d - (jMin (mo) (d_fixed d))))) rfl rfl
    have hP : va_P D vwCl (w.set k (h0, dE hp hq (s_fixed d ((d_fixed d - (jMin (mo) (d_fixed d))))))) H := hP
    have hD : va_D A (w.set k (h0, dE hp hq (s_fixed d ((d_fixed d - (jMin (mo) (d_fixed d))))))) := hD
    generalize w.set k (h0, dE hp hq (s_fixed d ((d_fixed d - (jMin (mo) (d_fixed d)))))) = w_41 at hP hD hU
    refine lv_aload_n hx hb d_D_take_44 rfl (lv_at hl 2 rfl) ?_
    refine lv_dup hx hb d_D_take_45 rfl ?_
    refine va_get (D := D) (ci := 0) (v := .long (d_paidI d)) (C := R_D) (T := F_D) (N := 15) hx hb hts (in_D _) hown hK hP k hU.o rfl 11 (by decide) (hts (.fieldLink R_D 73 "DebtRows$Debt" "paidInterest" "J") (List.mem_cons_of_mem _ mB_228)) (fun _ h9 => h9) rfl d_D_take_46 ?_
    refine lv_lload hx hb d_D_take_49 (lv_at hl 1 rfl) ?_
    refine lv_ladd hx hb d_D_take_51 ?_
    refine va_put (D := D) (ci := 0) (v := .long ((d_paidI d + (jMin (mo) (d_fixed d))))) (ty := .long) (C := R_D) (T := F_D) (N := 15) hx hb hts (in_D _) t_D to_D nn_D hown hK hP hD hS k hU.o rfl 11 (by decide) (hts (.fieldLink R_D 73 "DebtRows$Debt" "paidInterest" "J") (List.mem_cons_of_mem _ mB_228)) (fun _ h9 => h9) rfl (by decide +kernel) rfl rfl (Nat.le_of_ble_eq_true rfl) d_D_take_52 (fun H locs hP hD hS => ?_)
    have hU := hU.so (s_paidI (s_fixed d ((d_fixed d - (jMin (mo) (d_fixed d))))) ((d_paidI d + (jMin (mo) (d_fixed d))))) rfl rfl
    have hP : va_P D vwCl (w_41.set k (h0, dE hp hq (s_paidI (s_fixed d ((d_fixed d - (jMin (mo) (d_fixed d))))) ((d_paidI d + (jMin (mo) (d_fixed d))))))) H := hP
    have hD : va_D A (w_41.set k (h0, dE hp hq (s_paidI (s_fixed d ((d_fixed d - (jMin (mo) (d_fixed d))))) ((d_paidI d + (jMin (mo) (d_fixed d))))))) := hD
    generalize w_41.set k (h0, dE hp hq (s_paidI (s_fixed d ((d_fixed d - (jMin (mo) (d_fixed d))))) ((d_paidI d + (jMin (mo) (d_fixed d)))))) = w_42 at hP hD hU
    refine lv_aload_n hx hb d_D_take_55 rfl (lv_at hl 2 rfl) ?_
    refine lv_dup hx hb d_D_take_56 rfl ?_
    refine va_get (D := D) (ci := 0) (v := .long (d_open d)) (C := R_D) (T := F_D) (N := 15) hx hb hts (in_D _) hown hK hP k hU.o rfl 8 (by decide) (hts (.fieldLink R_D 33 "DebtRows$Debt" "open" "J") (List.mem_cons_of_mem _ mB_221)) (fun _ h9 => h9) rfl d_D_take_57 ?_
    refine lv_lload hx hb d_D_take_60 (lv_at hl 0 rfl) ?_
    refine lv_lsub hx hb d_D_take_62 ?_
    refine va_put (D := D) (ci := 0) (v := .long ((d_open d - (jMin ((mo - (jMin (mo) (d_fixed d)))) (d_open d))))) (ty := .long) (C := R_D) (T := F_D) (N := 15) hx hb hts (in_D _) t_D to_D nn_D hown hK hP hD hS k hU.o rfl 8 (by decide) (hts (.fieldLink R_D 33 "DebtRows$Debt" "open" "J") (List.mem_cons_of_mem _ mB_221)) (fun _ h9 => h9) rfl (by decide +kernel) rfl rfl (Nat.le_of_ble_eq_true rfl) d_D_take_63 (fun H locs hP hD hS => ?_)
    have hU := hU.so (s_open (s_paidI (s_fixed d ((d_fixed d - (jMin (mo) (d_fixed d))))) ((d_paidI d + (jMin (mo) (d_fixed d))))) ((d_open d - (jMin ((mo - (jMin (mo) (d_fixed d)))) (d_open d))))) rfl rfl
    have hP : va_P D vwCl (w_42.set k (h0, dE hp hq (s_open (s_paidI (s_fixed d ((d_fixed d - (jMin (mo) (d_fixed d))))) ((d_paidI d + (jMin (mo) (d_fixed d))))) ((d_open d - (jMin ((mo - (jMin (mo) (d_fixed d)))) (d_open d))))))) H := hP
    have hD : va_D A (w_42.set k (h0, dE hp hq (s_open (s_paidI (s_fixed d ((d_fixed d - (jMin (mo) (d_fixed d))))) ((d_paidI d + (jMin (mo) (d_fixed d))))) ((d_open d - (jMin ((mo - (jMin (mo) (d_fixed d)))) (d_open d))))))) := hD
    generalize w_42.set k (h0, dE hp hq (s_open (s_paidI (s_fixed d ((d_fixed d - (jMin (mo) (d_fixed d))))) ((d_paidI d + (jMin (mo) (d_fixed d))))) ((d_open d - (jMin ((mo - (jMin (mo) (d_fixed d)))) (d_open d)))))) = w_43 at hP hD hU
    refine lv_aload_n hx hb d_D_take_66 rfl (lv_at hl 2 rfl) ?_
    refine va_get (D := D) (ci := 0) (v := .ref hq) (C := R_D) (T := F_D) (N := 15) hx hb hts (in_D _) hown hK hP k hU.o rfl 3 (by decide) (hts (.fieldLink R_D 23 "DebtRows$Debt" "paid" "[J") (List.mem_cons_of_mem _ mB_213)) (fun _ h9 => h9) rfl d_D_take_67 ?_
    refine lv_iload_n hx hb d_D_take_70 rfl (lv_at hl 3 rfl) ?_
    refine lv_dup2_11 hx hb d_D_take_71 rfl rfl ?_
    refine va_lald hx hb hK hP (k + 2) 1 hU.q rfl (in_has hw c_38) d_D_take_72 ?_
    refine lv_lload hx hb d_D_take_73 (lv_at hl 0 rfl) ?_
    refine lv_ladd hx hb d_D_take_75 ?_
    refine va_last hx hb hK hP hD hS (k + 2) 1 hU.q rfl (in_has hw c_38) d_D_take_76 (fun H locs hP hD hS => ?_)
    have hU := hU.sq (vp_updL (d_paid d) (pl).toNatClampNeg ((((d_paid d) (pl).toNatClampNeg) + (jMin ((mo - (jMin (mo) (d_fixed d)))) (d_open d)))))
    have hP : va_P D vwCl (w_43.set (k + 2) (hq, aL cL 4 (vp_updL (d_paid d) (pl).toNatClampNeg ((((d_paid d) (pl).toNatClampNeg) + (jMin ((mo - (jMin (mo) (d_fixed d)))) (d_open d))))))) H := hP
    have hD : va_D A (w_43.set (k + 2) (hq, aL cL 4 (vp_updL (d_paid d) (pl).toNatClampNeg ((((d_paid d) (pl).toNatClampNeg) + (jMin ((mo - (jMin (mo) (d_fixed d)))) (d_open d))))))) := hD
    generalize w_43.set (k + 2) (hq, aL cL 4 (vp_updL (d_paid d) (pl).toNatClampNeg ((((d_paid d) (pl).toNatClampNeg) + (jMin ((mo - (jMin (mo) (d_fixed d)))) (d_open d)))))) = w_44 at hP hD hU
    refine lv_aload_n hx hb d_D_take_77 rfl (lv_at hl 2 rfl) ?_
    refine va_callv (va_runV (As := []) (rest := []) ⟨hx, hb, hml, hown, hts⟩ (c_settle l D A w_44 cI cL cD k h0 hp hq (s_paid (s_open (s_paidI (s_fixed d ((d_fixed d - (jMin (mo) (d_fixed d))))) ((d_paidI d + (jMin (mo) (d_fixed d))))) ((d_open d - (jMin ((mo - (jMin (mo) (d_fixed d)))) (d_open d))))) (vp_updL (d_paid d) (pl).toNatClampNeg ((((d_paid d) (pl).toNatClampNeg) + (jMin ((mo - (jMin (mo) (d_fixed d)))) (d_open d)))))) hU.1) (cwV 0 hts (gV _ mB_307 mB_308 mB_309 mB_24 mB_310) rfl rfl rfl (by decide +kernel) ⟨(Nat.le_of_ble_eq_true rfl), (Nat.le_of_ble_eq_true rfl)⟩) ⟨mPc_bl, va_recv hK hP (ci := 0) (q0 := k) rfl hU.o, mPc_pr hP hK hD⟩ rfl rfl hl.1 rfl (lv_room (Nat.le_of_ble_eq_true rfl)) d_D_take_78 ⟨Nat.zero_le _, Nat.zero_le _⟩) hS (fun _ _ h => h) (fun _ h => h) (fun u9 t H locs ht hvm ev_45 hB hz1 hk1 hS => ?_)
    obtain ⟨w_46, hP, hD, hU1⟩ := hB
    rw [ht] at hP
    have hU := hU.tr hU1
    refine lv_lload hx hb d_D_take_81 (lv_at hl 1 rfl) ?_
    refine lv_lload hx hb d_D_take_83 (lv_at hl 0 rfl) ?_
    refine lv_ladd hx hb d_D_take_85 ?_
    exact W.lret (v := ((jMin (mo) (d_fixed d)) + (jMin ((mo - (jMin (mo) (d_fixed d)))) (d_open d)))) hx hb hr (fun t ht hW => ⟨⟨_, (), rfl, by rw [f_take, if_neg c_38], w_46, by rw [ht]; exact hP, hD, by rw [f_take, if_neg c_38]; exact hU⟩, hS.F ht⟩) hS.2.2 d_D_take_86
  · refine lv_lconst (v := 0) hx hb d_D_take_8 (by decide) ?_
    exact W.lret (v := 0) hx hb hr (fun t ht hW => ⟨⟨_, (), rfl, by rw [f_take, if_pos c_38], w, by rw [ht]; exact hP, hD, by rw [f_take, if_pos c_38]; exact hU⟩, hS.F ht⟩) hS.2.2 d_D_take_9
def fmL (d : DT) : Nat → Nat → Nat
  | i, 0 => i
  | i, n + 1 => if f_mayBeOpen d (nI i) < d_open d then i else fmL d (i + 1) n
def f_firstMissedDay (d : DT) : Int32 := d_dDay d + 30 * nI (fmL d 1 ((d_dParts d).toNatClampNeg - 1))
set_option maxHeartbeats 4000000 in
set_option maxRecDepth 100000 in
theorem c_firstMissedDay (l : Launch) (D : va_G) (A : Nat → Prop) (w : va_W) (cI cL cD : ClassId) (k h0 hp hq : Nat) (d : DT)  (hU0 : dAt w k cI cL h0 hp hq d) (hw : wfD d) : Met l y_D_firstMissedDay w_D_firstMissedDay ({ frames := 1, cells := 0, slots := 0, locals := 21 }) (mPc D w (tyL cI cL cD) A [.ref h0]) (vp_Si (fun z9 => z9 = f_firstMissedDay d)) 0 0 (fun _ => False) := by
  refine Met.ofW (cc := b_D_firstMissedDay) (maxL := 2) (ret := (some .int)) (by decide) rfl ?_
  intro p e s m args below meth c s₁ B hml hv
  obtain ⟨rfl, hP, hK, hD⟩ := hv
  have hx := B.exec
  have hb := B.bytes
  have hr := B.returns
  have hts := atoms_spec (ws := w_D_firstMissedDay) B.pre
  have hown : s.vm.findClass R_D = some m.cls := findClass_of_methodNamed B.named
  have hlocks := B.notSynchronized
  have hS : va_S A s.heap s.heap [] := va_S.rf
  have hU : dUpd w w k cI cL h0 hp hq d := dUpd.rf hU0
  have hl := lv_entry ([.ref h0]) (n := 2) (Nat.le_of_ble_eq_true rfl)
  rw [lg_entry_eq]
  generalize (lg_sl ([.ref h0]) ++ List.replicate (2 - (lg_sl ([.ref h0])).length) Slot.unset).toArray = ls at hl ⊢
  have hl : lv_has ls 2 [(0, .ref h0)] := hl
  refine lv_iconst (v := 1) hx hb d_D_firstMissedDay_0 (by decide) ?_
  refine lv_istore_n (lv' := [(1, .int (1)), (0, .ref h0)]) hx hb d_D_firstMissedDay_1 rfl hl (by decide) rfl (fun ls hl => ?_)
  obtain ⟨PP, hPP, eP⟩ := hw.2
  have loop : ∀ (n i : Nat), PP - i = n → i ≤ 12 → fmL d i n = fmL d 1 ((d_dParts d).toNatClampNeg - 1) → ∀ (ls : Array Slot), lv_has ls 2 [(1, .int (nI i)), (0, .ref h0)] → W p l e (headSpec w_D_firstMissedDay ({ frames := 1, cells := 0, slots := 0, locals := 21 })).room s m [.ref h0].toArray below meth c s.heap [] 0 0 (MQ below (vp_Si (fun z9 => z9 = f_firstMissedDay d)) [.ref h0].toArray s 0 0 (fun _ => False)) (F0 m 2 ls []) := by
    intro n
    induction n with
    | zero =>
      intro i hin hi12 hv ls hl
      refine lv_iload_n hx hb d_D_firstMissedDay_2 rfl (lv_at hl 0 rfl) ?_
      refine lv_aload_n hx hb d_D_firstMissedDay_3 rfl (lv_at hl 1 rfl) ?_
      refine va_get (D := D) (ci := 0) (v := .int (d_dParts d)) (C := R_D) (T := F_D) (N := 15) hx hb hts (in_D _) hown hK hP k hU.o rfl 13 (by decide) (hts (.fieldLink R_D 91 "DebtRows$Debt" "deferralParts" "I") (List.mem_cons_of_mem _ mB_230)) (fun _ h9 => h9) rfl d_D_firstMissedDay_4 ?_
      refine lv_icmp_ge (tgt := 29) hx hb d_D_firstMissedDay_7 (by decide) (fun c_47 => ?_) (fun c_47 => ?_)
      · refine lv_aload_n hx hb d_D_firstMissedDay_29 rfl (lv_at hl 1 rfl) ?_
        refine va_get (D := D) (ci := 0) (v := .int (d_dDay d)) (C := R_D) (T := F_D) (N := 15) hx hb hts (in_D _) hown hK hP k hU.o rfl 12 (by decide) (hts (.fieldLink R_D 88 "DebtRows$Debt" "deferralDay" "I") (List.mem_cons_of_mem _ mB_229)) (fun _ h9 => h9) rfl d_D_firstMissedDay_30 ?_
        refine lv_bipush (v := 30) hx hb d_D_firstMissedDay_33 (by decide) ?_
        refine lv_iload_n hx hb d_D_firstMissedDay_35 rfl (lv_at hl 0 rfl) ?_
        refine lv_imul hx hb d_D_firstMissedDay_36 ?_
        refine lv_iadd hx hb d_D_firstMissedDay_37 ?_
        exact W.iret (v := (d_dDay d + (30 * nI i))) hx hb hr (fun t ht hW => ⟨_, rfl, by rw [f_firstMissedDay, ← hv]; rfl, ht⟩) t_nil d_D_firstMissedDay_38
      · exact absurd (by rw [eP]; exact nI_le (by omega) (by omega)) c_47
    | succ n ih =>
      intro i hin hi12 hv ls hl
      refine lv_iload_n hx hb d_D_firstMissedDay_2 rfl (lv_at hl 0 rfl) ?_
      refine lv_aload_n hx hb d_D_firstMissedDay_3 rfl (lv_at hl 1 rfl) ?_
      refine va_get (D := D) (ci := 0) (v := .int (d_dParts d)) (C := R_D) (T := F_D) (N := 15) hx hb hts (in_D _) hown hK hP k hU.o rfl 13 (by decide) (hts (.fieldLink R_D 91 "DebtRows$Debt" "deferralParts" "I") (List.mem_cons_of_mem _ mB_230)) (fun _ h9 => h9) rfl d_D_firstMissedDay_4 ?_
      refine lv_icmp_ge (tgt := 29) hx hb d_D_firstMissedDay_7 (by decide) (fun c_48 => ?_) (fun c_48 => ?_)
      · exact absurd c_48 (by rw [eP]; exact nI_ge (by omega) (by omega))
      · refine lv_aload_n hx hb d_D_firstMissedDay_10 rfl (lv_at hl 1 rfl) ?_
        refine va_get (D := D) (ci := 0) (v := .long (d_open d)) (C := R_D) (T := F_D) (N := 15) hx hb hts (in_D _) hown hK hP k hU.o rfl 8 (by decide) (hts (.fieldLink R_D 33 "DebtRows$Debt" "open" "J") (List.mem_cons_of_mem _ mB_221)) (fun _ h9 => h9) rfl d_D_firstMissedDay_11 ?_
        refine lv_aload_n hx hb d_D_firstMissedDay_14 rfl (lv_at hl 1 rfl) ?_
        refine lv_iload_n hx hb d_D_firstMissedDay_15 rfl (lv_at hl 0 rfl) ?_
        refine vp_callSl (W.runV (As := [.int (nI i)]) (rest := [.long (d_open d)]) ⟨hx, hb, hml, hown, hts⟩ (c_mayBeOpen l D A w cI cL cD k h0 hp hq d (nI i) hU.1) (cwV 1 hts (gV _ mB_354 mB_355 mB_356 mB_24 mB_357) rfl rfl rfl (by decide +kernel) ⟨(Nat.le_of_ble_eq_true rfl), (Nat.le_of_ble_eq_true rfl)⟩) ⟨mPc_bl, va_recv hK hP (ci := 0) (q0 := k) rfl hU.o, mPc_pr hP hK hD⟩ rfl rfl hl.1 rfl (lv_room (Nat.le_of_ble_eq_true rfl)) d_D_firstMissedDay_16 ⟨Nat.zero_le _, Nat.zero_le _⟩) (fun v_49 ev_49 => ?_)
        subst ev_49
        refine W.lcmp hx hb d_D_firstMissedDay_19 ?_
        refine lv_if_gt (tgt := 29) hx hb d_D_firstMissedDay_20 (by decide) (fun c_50 => ?_) (fun c_50 => ?_)
        · have c_50 : (f_mayBeOpen d (nI i)) < d_open d := (lg_cmp_gt _ _).mp c_50
          refine lv_aload_n hx hb d_D_firstMissedDay_29 rfl (lv_at hl 1 rfl) ?_
          refine va_get (D := D) (ci := 0) (v := .int (d_dDay d)) (C := R_D) (T := F_D) (N := 15) hx hb hts (in_D _) hown hK hP k hU.o rfl 12 (by decide) (hts (.fieldLink R_D 88 "DebtRows$Debt" "deferralDay" "I") (List.mem_cons_of_mem _ mB_229)) (fun _ h9 => h9) rfl d_D_firstMissedDay_30 ?_
          refine lv_bipush (v := 30) hx hb d_D_firstMissedDay_33 (by decide) ?_
          refine lv_iload_n hx hb d_D_firstMissedDay_35 rfl (lv_at hl 0 rfl) ?_
          refine lv_imul hx hb d_D_firstMissedDay_36 ?_
          refine lv_iadd hx hb d_D_firstMissedDay_37 ?_
          exact W.iret (v := (d_dDay d + (30 * nI i))) hx hb hr (fun t ht hW => ⟨_, rfl, by rw [f_firstMissedDay, ← hv, fmL, if_pos c_50], ht⟩) t_nil d_D_firstMissedDay_38
        · have c_50 : ¬ (f_mayBeOpen d (nI i)) < d_open d := fun h9 => c_50 ((lg_cmp_gt _ _).mpr h9)
          refine lv_iinc (v := nI (i + 1)) (lv' := [(1, .int (nI (i + 1))), (0, .ref h0)]) hx hb d_D_firstMissedDay_23 hl (k := 0) rfl (nI_inc i) (by decide) rfl (fun ls hl => ?_)
          refine lv_goto (tgt := 2) hx hb d_D_firstMissedDay_26 (by decide) ?_
          exact ih (i + 1) (by omega) (by omega) (by rw [← hv, fmL, if_neg c_50]) ls (lv_sub hl [0, 1] rfl)
  exact loop (PP - 1) 1 rfl (by omega) (by rw [eP, nI_clamp (by omega)]) ls hl
def f_endsBy (d : DT) (day : Int32) : Int32 × DT :=
  if d_state d = 0 then (if (f_isTooLate d (day)) = 0 then (if d_state d = 2 then (if (f_firstMissedDay d) < day then (1, (f_runAgain d (((f_firstMissedDay d) + 1))))
        else (0, d))
      else (0, d))
    else (1, (f_lose d (6))))
  else if d_state d = 2 then (if (f_firstMissedDay d) < day then (1, (f_runAgain d (((f_firstMissedDay d) + 1))))
      else (0, d))
    else (0, d)
set_option maxHeartbeats 4000000 in
set_option maxRecDepth 100000 in
theorem c_endsBy (l : Launch) (D : va_G) (A : Nat → Prop) (w : va_W) (cI cL cD : ClassId) (k h0 hp hq : Nat) (d : DT) (day : Int32) (hU0 : dAt w k cI cL h0 hp hq d) (hw : wfD d) : Met l y_D_endsBy w_D_endsBy ({ frames := 2, cells := 0, slots := 0, locals := 45 }) (mPc D w (tyL cI cL cD) A [.ref h0, .int (day)]) (va_Qi (fun z9 (_ : Unit) => z9 = (f_endsBy d day).1) (fun (_ : Unit) t => ∃ w9 : va_W, va_P D vwCl w9 t.heap ∧ va_D A w9 ∧ dUpd w w9 k cI cL h0 hp hq ((f_endsBy d day).2)) A) 0 0 A := by
  refine Met.ofW (cc := b_D_endsBy) (maxL := 3) (ret := (some .boolean)) (by decide) rfl ?_
  intro p e s m args below meth c s₁ B hml hv
  obtain ⟨rfl, hP, hK, hD⟩ := hv
  have hx := B.exec
  have hb := B.bytes
  have hr := B.returns
  have hts := atoms_spec (ws := w_D_endsBy) B.pre
  have hown : s.vm.findClass R_D = some m.cls := findClass_of_methodNamed B.named
  have hlocks := B.notSynchronized
  have hS : va_S A s.heap s.heap [] := va_S.rf
  have hU : dUpd w w k cI cL h0 hp hq d := dUpd.rf hU0
  have hl := lv_entry ([.ref h0, .int (day)]) (n := 3) (Nat.le_of_ble_eq_true rfl)
  rw [lg_entry_eq]
  generalize (lg_sl ([.ref h0, .int (day)]) ++ List.replicate (3 - (lg_sl ([.ref h0, .int (day)])).length) Slot.unset).toArray = ls at hl ⊢
  have hl : lv_has ls 3 [(0, .ref h0), (1, .int (day))] := hl
  refine lv_aload_n hx hb d_D_endsBy_0 rfl (lv_at hl 0 rfl) ?_
  refine va_get (D := D) (ci := 0) (v := .int (d_state d)) (C := R_D) (T := F_D) (N := 15) hx hb hts (in_D _) hown hK hP k hU.o rfl 5 (by decide) (hts (.fieldLink R_D 27 "DebtRows$Debt" "state" "I") (List.mem_cons_of_mem _ mB_216)) (fun _ h9 => h9) rfl d_D_endsBy_1 ?_
  refine lv_if_ne (tgt := 23) hx hb d_D_endsBy_4 (by decide) (fun c_51 => ?_) (fun c_51 => ?_)
  · refine lv_aload_n hx hb d_D_endsBy_23 rfl (lv_at hl 0 rfl) ?_
    refine va_get (D := D) (ci := 0) (v := .int (d_state d)) (C := R_D) (T := F_D) (N := 15) hx hb hts (in_D _) hown hK hP k hU.o rfl 5 (by decide) (hts (.fieldLink R_D 27 "DebtRows$Debt" "state" "I") (List.mem_cons_of_mem _ mB_216)) (fun _ h9 => h9) rfl d_D_endsBy_24 ?_
    refine lv_iconst (v := 2) hx hb d_D_endsBy_27 (by decide) ?_
    refine lv_icmp_eq (tgt := 33) hx hb d_D_endsBy_28 (by decide) (fun c_52 => ?_) (fun c_52 => ?_)
    · refine lv_aload_n hx hb d_D_endsBy_33 rfl (lv_at hl 0 rfl) ?_
      refine vp_callSi (W.runV (As := []) (rest := []) ⟨hx, hb, hml, hown, hts⟩ (c_firstMissedDay l D A w cI cL cD k h0 hp hq d hU.1 hw) (cwV 0 hts (gV _ mB_350 mB_351 mB_352 mB_24 mB_353) rfl rfl rfl (by decide +kernel) ⟨(Nat.le_of_ble_eq_true rfl), (Nat.le_of_ble_eq_true rfl)⟩) ⟨mPc_bl, va_recv hK hP (ci := 0) (q0 := k) rfl hU.o, mPc_pr hP hK hD⟩ rfl rfl hl.1 rfl (lv_room (Nat.le_of_ble_eq_true rfl)) d_D_endsBy_34 ⟨Nat.zero_le _, Nat.zero_le _⟩) (fun v_53 ev_53 => ?_)
      subst ev_53
      refine lv_istore_n (lv' := [(2, .int ((f_firstMissedDay d))), (0, .ref h0), (1, .int (day))]) hx hb d_D_endsBy_37 rfl hl (by decide) rfl (fun ls hl => ?_)
      refine lv_iload_n hx hb d_D_endsBy_38 rfl (lv_at hl 0 rfl) ?_
      refine lv_iload_n hx hb d_D_endsBy_39 rfl (lv_at hl 2 rfl) ?_
      refine lv_icmp_lt (tgt := 45) hx hb d_D_endsBy_40 (by decide) (fun c_54 => ?_) (fun c_54 => ?_)
      · refine lv_aload_n hx hb d_D_endsBy_45 rfl (lv_at hl 1 rfl) ?_
        refine lv_iload_n hx hb d_D_endsBy_46 rfl (lv_at hl 0 rfl) ?_
        refine lv_iconst (v := 1) hx hb d_D_endsBy_47 (by decide) ?_
        refine lv_iadd hx hb d_D_endsBy_48 ?_
        refine va_callv (va_runV (As := [.int (((f_firstMissedDay d) + 1))]) (rest := []) ⟨hx, hb, hml, hown, hts⟩ (c_runAgain l D A w cI cL cD k h0 hp hq d (((f_firstMissedDay d) + 1)) hU.1) (cwV 1 hts (gV _ mB_358 mB_262 mB_263 mB_24 mB_264) rfl rfl rfl (by decide +kernel) ⟨(Nat.le_of_ble_eq_true rfl), (Nat.le_of_ble_eq_true rfl)⟩) ⟨mPc_bl, va_recv hK hP (ci := 0) (q0 := k) rfl hU.o, mPc_pr hP hK hD⟩ rfl rfl hl.1 rfl (lv_room (Nat.le_of_ble_eq_true rfl)) d_D_endsBy_49 ⟨Nat.zero_le _, Nat.zero_le _⟩) hS (fun _ _ h => h) (fun _ h => h) (fun u9 t H locs ht hvm ev_55 hB hz1 hk1 hS => ?_)
        obtain ⟨w_56, hP, hD, hU1⟩ := hB
        rw [ht] at hP
        have hU := hU.tr hU1
        refine lv_iconst (v := 1) hx hb d_D_endsBy_52 (by decide) ?_
        exact W.zret (v := 1) hx hb hr rfl (fun t ht hW => ⟨⟨_, (), rfl, by rw [f_endsBy, if_neg c_51, if_pos c_52, if_pos c_54], w_56, by rw [ht]; exact hP, hD, by rw [f_endsBy, if_neg c_51, if_pos c_52, if_pos c_54]; exact hU⟩, hS.F ht⟩) hS.2.2 d_D_endsBy_53
      · refine lv_iconst (v := 0) hx hb d_D_endsBy_43 (by decide) ?_
        exact W.zret (v := 0) hx hb hr rfl (fun t ht hW => ⟨⟨_, (), rfl, by rw [f_endsBy, if_neg c_51, if_pos c_52, if_neg c_54], w, by rw [ht]; exact hP, hD, by rw [f_endsBy, if_neg c_51, if_pos c_52, if_neg c_54]; exact hU⟩, hS.F ht⟩) hS.2.2 d_D_endsBy_44
    · refine lv_iconst (v := 0) hx hb d_D_endsBy_31 (by decide) ?_
      exact W.zret (v := 0) hx hb hr rfl (fun t ht hW => ⟨⟨_, (), rfl, by rw [f_endsBy, if_neg c_51, if_neg c_52], w, by rw [ht]; exact hP, hD, by rw [f_endsBy, if_neg c_51, if_neg c_52]; exact hU⟩, hS.F ht⟩) hS.2.2 d_D_endsBy_32
  · refine lv_aload_n hx hb d_D_endsBy_7 rfl (lv_at hl 0 rfl) ?_
    refine lv_iload_n hx hb d_D_endsBy_8 rfl (lv_at hl 1 rfl) ?_
    refine vp_callSi (W.runV (As := [.int (day)]) (rest := []) ⟨hx, hb, hml, hown, hts⟩ (c_isTooLate l D A w cI cL cD k h0 hp hq d (day) hU.1) (cwV 1 hts (gV _ mB_349 mB_258 mB_259 mB_24 mB_260) rfl rfl rfl (by decide +kernel) ⟨(Nat.le_of_ble_eq_true rfl), (Nat.le_of_ble_eq_true rfl)⟩) ⟨mPc_bl, va_recv hK hP (ci := 0) (q0 := k) rfl hU.o, mPc_pr hP hK hD⟩ rfl rfl hl.1 rfl (lv_room (Nat.le_of_ble_eq_true rfl)) d_D_endsBy_9 ⟨Nat.zero_le _, Nat.zero_le _⟩) (fun v_57 ev_57 => ?_)
    subst ev_57
    refine lv_if_eq (tgt := 23) hx hb d_D_endsBy_12 (by decide) (fun c_58 => ?_) (fun c_58 => ?_)
    · refine lv_aload_n hx hb d_D_endsBy_23 rfl (lv_at hl 0 rfl) ?_
      refine va_get (D := D) (ci := 0) (v := .int (d_state d)) (C := R_D) (T := F_D) (N := 15) hx hb hts (in_D _) hown hK hP k hU.o rfl 5 (by decide) (hts (.fieldLink R_D 27 "DebtRows$Debt" "state" "I") (List.mem_cons_of_mem _ mB_216)) (fun _ h9 => h9) rfl d_D_endsBy_24 ?_
      refine lv_iconst (v := 2) hx hb d_D_endsBy_27 (by decide) ?_
      refine lv_icmp_eq (tgt := 33) hx hb d_D_endsBy_28 (by decide) (fun c_59 => ?_) (fun c_59 => ?_)
      · refine lv_aload_n hx hb d_D_endsBy_33 rfl (lv_at hl 0 rfl) ?_
        refine vp_callSi (W.runV (As := []) (rest := []) ⟨hx, hb, hml, hown, hts⟩ (c_firstMissedDay l D A w cI cL cD k h0 hp hq d hU.1 hw) (cwV 0 hts (gV _ mB_350 mB_351 mB_352 mB_24 mB_353) rfl rfl rfl (by decide +kernel) ⟨(Nat.le_of_ble_eq_true rfl), (Nat.le_of_ble_eq_true rfl)⟩) ⟨mPc_bl, va_recv hK hP (ci := 0) (q0 := k) rfl hU.o, mPc_pr hP hK hD⟩ rfl rfl hl.1 rfl (lv_room (Nat.le_of_ble_eq_true rfl)) d_D_endsBy_34 ⟨Nat.zero_le _, Nat.zero_le _⟩) (fun v_60 ev_60 => ?_)
        subst ev_60
        refine lv_istore_n (lv' := [(2, .int ((f_firstMissedDay d))), (0, .ref h0), (1, .int (day))]) hx hb d_D_endsBy_37 rfl hl (by decide) rfl (fun ls hl => ?_)
        refine lv_iload_n hx hb d_D_endsBy_38 rfl (lv_at hl 0 rfl) ?_
        refine lv_iload_n hx hb d_D_endsBy_39 rfl (lv_at hl 2 rfl) ?_
        refine lv_icmp_lt (tgt := 45) hx hb d_D_endsBy_40 (by decide) (fun c_61 => ?_) (fun c_61 => ?_)
        · refine lv_aload_n hx hb d_D_endsBy_45 rfl (lv_at hl 1 rfl) ?_
          refine lv_iload_n hx hb d_D_endsBy_46 rfl (lv_at hl 0 rfl) ?_
          refine lv_iconst (v := 1) hx hb d_D_endsBy_47 (by decide) ?_
          refine lv_iadd hx hb d_D_endsBy_48 ?_
          refine va_callv (va_runV (As := [.int (((f_firstMissedDay d) + 1))]) (rest := []) ⟨hx, hb, hml, hown, hts⟩ (c_runAgain l D A w cI cL cD k h0 hp hq d (((f_firstMissedDay d) + 1)) hU.1) (cwV 1 hts (gV _ mB_358 mB_262 mB_263 mB_24 mB_264) rfl rfl rfl (by decide +kernel) ⟨(Nat.le_of_ble_eq_true rfl), (Nat.le_of_ble_eq_true rfl)⟩) ⟨mPc_bl, va_recv hK hP (ci := 0) (q0 := k) rfl hU.o, mPc_pr hP hK hD⟩ rfl rfl hl.1 rfl (lv_room (Nat.le_of_ble_eq_true rfl)) d_D_endsBy_49 ⟨Nat.zero_le _, Nat.zero_le _⟩) hS (fun _ _ h => h) (fun _ h => h) (fun u9 t H locs ht hvm ev_62 hB hz1 hk1 hS => ?_)
          obtain ⟨w_63, hP, hD, hU1⟩ := hB
          rw [ht] at hP
          have hU := hU.tr hU1
          refine lv_iconst (v := 1) hx hb d_D_endsBy_52 (by decide) ?_
          exact W.zret (v := 1) hx hb hr rfl (fun t ht hW => ⟨⟨_, (), rfl, by rw [f_endsBy, if_pos c_51, if_pos c_58, if_pos c_59, if_pos c_61], w_63, by rw [ht]; exact hP, hD, by rw [f_endsBy, if_pos c_51, if_pos c_58, if_pos c_59, if_pos c_61]; exact hU⟩, hS.F ht⟩) hS.2.2 d_D_endsBy_53
        · refine lv_iconst (v := 0) hx hb d_D_endsBy_43 (by decide) ?_
          exact W.zret (v := 0) hx hb hr rfl (fun t ht hW => ⟨⟨_, (), rfl, by rw [f_endsBy, if_pos c_51, if_pos c_58, if_pos c_59, if_neg c_61], w, by rw [ht]; exact hP, hD, by rw [f_endsBy, if_pos c_51, if_pos c_58, if_pos c_59, if_neg c_61]; exact hU⟩, hS.F ht⟩) hS.2.2 d_D_endsBy_44
      · refine lv_iconst (v := 0) hx hb d_D_endsBy_31 (by decide) ?_
        exact W.zret (v := 0) hx hb hr rfl (fun t ht hW => ⟨⟨_, (), rfl, by rw [f_endsBy, if_pos c_51, if_pos c_58, if_neg c_59], w, by rw [ht]; exact hP, hD, by rw [f_endsBy, if_pos c_51, if_pos c_58, if_neg c_59]; exact hU⟩, hS.F ht⟩) hS.2.2 d_D_endsBy_32
    · refine lv_aload_n hx hb d_D_endsBy_15 rfl (lv_at hl 0 rfl) ?_
      refine lv_bipush (v := 6) hx hb d_D_endsBy_16 (by decide) ?_
      refine va_callv (va_runV (As := [.int (6)]) (rest := []) ⟨hx, hb, hml, hown, hts⟩ (c_lose l D A w cI cL cD k h0 hp hq d (6) hU.1) (cwV 1 hts (gV _ mB_312 mB_313 mB_314 mB_24 mB_315) rfl rfl rfl (by decide +kernel) ⟨(Nat.le_of_ble_eq_true rfl), (Nat.le_of_ble_eq_true rfl)⟩) ⟨mPc_bl, va_recv hK hP (ci := 0) (q0 := k) rfl hU.o, mPc_pr hP hK hD⟩ rfl rfl hl.1 rfl (lv_room (Nat.le_of_ble_eq_true rfl)) d_D_endsBy_18 ⟨Nat.zero_le _, Nat.zero_le _⟩) hS (fun _ _ h => h) (fun _ h => h) (fun u9 t H locs ht hvm ev_64 hB hz1 hk1 hS => ?_)
      obtain ⟨w_65, hP, hD, hU1⟩ := hB
      rw [ht] at hP
      have hU := hU.tr hU1
      refine lv_iconst (v := 1) hx hb d_D_endsBy_21 (by decide) ?_
      exact W.zret (v := 1) hx hb hr rfl (fun t ht hW => ⟨⟨_, (), rfl, by rw [f_endsBy, if_pos c_51, if_neg c_58], w_65, by rw [ht]; exact hP, hD, by rw [f_endsBy, if_pos c_51, if_neg c_58]; exact hU⟩, hS.F ht⟩) hS.2.2 d_D_endsBy_22
def f_part (d : DT) (wh : Int32) : Int64 :=
  if wh = 0 then d_cents d
  else if wh = 1 then d_open d
    else if wh = 2 then ((d_cents d - d_open d) - d_lost d)
      else if wh = 3 then d_lost d
        else d_paidI d
set_option maxHeartbeats 4000000 in
set_option maxRecDepth 100000 in
theorem c_part (l : Launch) (D : va_G) (A : Nat → Prop) (w : va_W) (cI cL cD : ClassId) (k h0 hp hq : Nat) (d : DT) (wh : Int32) (hU0 : dAt w k cI cL h0 hp hq d) : Met l y_D_part w_D_part ({ frames := 0, cells := 0, slots := 0, locals := 0 }) (mPc D w (tyL cI cL cD) A [.ref h0, .int (wh)]) (vp_Sl (fun z9 => z9 = f_part d wh)) 0 0 (fun _ => False) := by
  refine Met.ofW (cc := b_D_part) (maxL := 2) (ret := (some .long)) (by decide) rfl ?_
  intro p e s m args below meth c s₁ B hml hv
  obtain ⟨rfl, hP, hK, hD⟩ := hv
  have hx := B.exec
  have hb := B.bytes
  have hr := B.returns
  have hts := atoms_spec (ws := w_D_part) B.pre
  have hown : s.vm.findClass R_D = some m.cls := findClass_of_methodNamed B.named
  have hlocks := B.notSynchronized
  have hS : va_S A s.heap s.heap [] := va_S.rf
  have hU : dUpd w w k cI cL h0 hp hq d := dUpd.rf hU0
  have hl := lv_entry ([.ref h0, .int (wh)]) (n := 2) (Nat.le_of_ble_eq_true rfl)
  rw [lg_entry_eq]
  generalize (lg_sl ([.ref h0, .int (wh)]) ++ List.replicate (2 - (lg_sl ([.ref h0, .int (wh)])).length) Slot.unset).toArray = ls at hl ⊢
  have hl : lv_has ls 2 [(0, .ref h0), (1, .int (wh))] := hl
  refine lv_iload_n hx hb d_D_part_0 rfl (lv_at hl 1 rfl) ?_
  rcases Decidable.em (wh = (0 : Int32)) with c_66 | c_66
  · refine lv_tableIn (tgt := 32) hx hb d_D_part_1 (by rw [c_66]; decide) (by rw [c_66]; decide) (by rw [c_66]; rfl) (by decide) ?_
    refine lv_aload_n hx hb d_D_part_32 rfl (lv_at hl 0 rfl) ?_
    refine va_get (D := D) (ci := 0) (v := .long (d_cents d)) (C := R_D) (T := F_D) (N := 15) hx hb hts (in_D _) hown hK hP k hU.o rfl 0 (by decide) (hts (.fieldLink R_D 9 "DebtRows$Debt" "cents" "J") (List.mem_cons_of_mem _ mB_208)) (fun _ h9 => h9) rfl d_D_part_33 ?_
    exact W.lret (v := d_cents d) hx hb hr (fun t ht hW => ⟨_, rfl, by rw [f_part, if_pos c_66], ht⟩) t_nil d_D_part_36
  · rcases Decidable.em (wh = (1 : Int32)) with c_67 | c_67
    · refine lv_tableIn (tgt := 37) hx hb d_D_part_1 (by rw [c_67]; decide) (by rw [c_67]; decide) (by rw [c_67]; rfl) (by decide) ?_
      refine lv_aload_n hx hb d_D_part_37 rfl (lv_at hl 0 rfl) ?_
      refine va_get (D := D) (ci := 0) (v := .long (d_open d)) (C := R_D) (T := F_D) (N := 15) hx hb hts (in_D _) hown hK hP k hU.o rfl 8 (by decide) (hts (.fieldLink R_D 33 "DebtRows$Debt" "open" "J") (List.mem_cons_of_mem _ mB_221)) (fun _ h9 => h9) rfl d_D_part_38 ?_
      exact W.lret (v := d_open d) hx hb hr (fun t ht hW => ⟨_, rfl, by rw [f_part, if_neg c_66, if_pos c_67], ht⟩) t_nil d_D_part_41
    · rcases Decidable.em (wh = (2 : Int32)) with c_68 | c_68
      · refine lv_tableIn (tgt := 42) hx hb d_D_part_1 (by rw [c_68]; decide) (by rw [c_68]; decide) (by rw [c_68]; rfl) (by decide) ?_
        refine lv_aload_n hx hb d_D_part_42 rfl (lv_at hl 0 rfl) ?_
        refine va_get (D := D) (ci := 0) (v := .long (d_cents d)) (C := R_D) (T := F_D) (N := 15) hx hb hts (in_D _) hown hK hP k hU.o rfl 0 (by decide) (hts (.fieldLink R_D 9 "DebtRows$Debt" "cents" "J") (List.mem_cons_of_mem _ mB_208)) (fun _ h9 => h9) rfl d_D_part_43 ?_
        refine lv_aload_n hx hb d_D_part_46 rfl (lv_at hl 0 rfl) ?_
        refine va_get (D := D) (ci := 0) (v := .long (d_open d)) (C := R_D) (T := F_D) (N := 15) hx hb hts (in_D _) hown hK hP k hU.o rfl 8 (by decide) (hts (.fieldLink R_D 33 "DebtRows$Debt" "open" "J") (List.mem_cons_of_mem _ mB_221)) (fun _ h9 => h9) rfl d_D_part_47 ?_
        refine lv_lsub hx hb d_D_part_50 ?_
        refine lv_aload_n hx hb d_D_part_51 rfl (lv_at hl 0 rfl) ?_
        refine va_get (D := D) (ci := 0) (v := .long (d_lost d)) (C := R_D) (T := F_D) (N := 15) hx hb hts (in_D _) hown hK hP k hU.o rfl 9 (by decide) (hts (.fieldLink R_D 85 "DebtRows$Debt" "lost" "J") (List.mem_cons_of_mem _ mB_224)) (fun _ h9 => h9) rfl d_D_part_52 ?_
        refine lv_lsub hx hb d_D_part_55 ?_
        exact W.lret (v := ((d_cents d - d_open d) - d_lost d)) hx hb hr (fun t ht hW => ⟨_, rfl, by rw [f_part, if_neg c_66, if_neg c_67, if_pos c_68], ht⟩) t_nil d_D_part_56
      · rcases Decidable.em (wh = (3 : Int32)) with c_69 | c_69
        · refine lv_tableIn (tgt := 57) hx hb d_D_part_1 (by rw [c_69]; decide) (by rw [c_69]; decide) (by rw [c_69]; rfl) (by decide) ?_
          refine lv_aload_n hx hb d_D_part_57 rfl (lv_at hl 0 rfl) ?_
          refine va_get (D := D) (ci := 0) (v := .long (d_lost d)) (C := R_D) (T := F_D) (N := 15) hx hb hts (in_D _) hown hK hP k hU.o rfl 9 (by decide) (hts (.fieldLink R_D 85 "DebtRows$Debt" "lost" "J") (List.mem_cons_of_mem _ mB_224)) (fun _ h9 => h9) rfl d_D_part_58 ?_
          exact W.lret (v := d_lost d) hx hb hr (fun t ht hW => ⟨_, rfl, by rw [f_part, if_neg c_66, if_neg c_67, if_neg c_68, if_pos c_69], ht⟩) t_nil d_D_part_61
        · refine lv_tableOut (tgt := 62) hx hb d_D_part_1 (tsw4 c_66 c_67 c_68 c_69) (by decide) ?_
          refine lv_aload_n hx hb d_D_part_62 rfl (lv_at hl 0 rfl) ?_
          refine va_get (D := D) (ci := 0) (v := .long (d_paidI d)) (C := R_D) (T := F_D) (N := 15) hx hb hts (in_D _) hown hK hP k hU.o rfl 11 (by decide) (hts (.fieldLink R_D 73 "DebtRows$Debt" "paidInterest" "J") (List.mem_cons_of_mem _ mB_228)) (fun _ h9 => h9) rfl d_D_part_63 ?_
          exact W.lret (v := d_paidI d) hx hb hr (fun t ht hW => ⟨_, rfl, by rw [f_part, if_neg c_66, if_neg c_67, if_neg c_68, if_neg c_69], ht⟩) t_nil d_D_part_66
def f_R_latestDay (r : RT) : Int32 :=
  if 1 ≤ r_count r then ((r_from r) ((r_count r - 1)).toNatClampNeg)
  else 0
set_option maxHeartbeats 4000000 in
set_option maxRecDepth 100000 in
theorem c_R_latestDay (l : Launch) (D : va_G) (A : Nat → Prop) (w : va_W) (cI cL cD : ClassId) (k h0 fr up dn : Nat) (r : RT)  (hU0 : rAt w k cI h0 fr up dn r) (hwr : wfR r) : Met l y_S_latestDay w_S_latestDay ({ frames := 0, cells := 0, slots := 0, locals := 0 }) (mPc D w (tyL cI cL cD) A [.ref h0]) (vp_Si (fun z9 => z9 = f_R_latestDay r)) 0 0 (fun _ => False) := by
  refine Met.ofW (cc := b_S_latestDay) (maxL := 1) (ret := (some .int)) (by decide) rfl ?_
  intro p e s m args below meth c s₁ B hml hv
  obtain ⟨rfl, hP, hK, hD⟩ := hv
  have hx := B.exec
  have hb := B.bytes
  have hr := B.returns
  have hts := atoms_spec (ws := w_S_latestDay) B.pre
  have hown : s.vm.findClass R_S = some m.cls := findClass_of_methodNamed B.named
  have hlocks := B.notSynchronized
  have hS : va_S A s.heap s.heap [] := va_S.rf
  have hU : rUpd w w k cI h0 fr up dn r := rUpd.rf hU0
  have hl := lv_entry ([.ref h0]) (n := 1) (Nat.le_of_ble_eq_true rfl)
  rw [lg_entry_eq]
  generalize (lg_sl ([.ref h0]) ++ List.replicate (1 - (lg_sl ([.ref h0])).length) Slot.unset).toArray = ls at hl ⊢
  have hl : lv_has ls 1 [(0, .ref h0)] := hl
  refine lv_aload_n hx hb d_S_latestDay_0 rfl (lv_at hl 0 rfl) ?_
  refine va_get (D := D) (ci := 1) (v := .int (r_count r)) (C := R_S) (T := F_S) (N := 4) hx hb hts (in_S _) hown hK hP k hU.1.1 rfl 3 (by decide) (hts (.fieldLink R_S 21 "DebtRows$Rates" "count" "I") (List.mem_cons_of_mem _ mB_44)) (fun _ h9 => h9) rfl d_S_latestDay_1 ?_
  refine lv_iconst (v := 1) hx hb d_S_latestDay_4 (by decide) ?_
  refine lv_icmp_ge (tgt := 12) hx hb d_S_latestDay_5 (by decide) (fun c_70 => ?_) (fun c_70 => ?_)
  · refine lv_aload_n hx hb d_S_latestDay_12 rfl (lv_at hl 0 rfl) ?_
    refine va_get (D := D) (ci := 1) (v := .ref fr) (C := R_S) (T := F_S) (N := 4) hx hb hts (in_S _) hown hK hP k hU.1.1 rfl 0 (by decide) (hts (.fieldLink R_S 9 "DebtRows$Rates" "from" "[I") (List.mem_cons_of_mem _ mB_41)) (fun _ h9 => h9) rfl d_S_latestDay_13 ?_
    refine lv_aload_n hx hb d_S_latestDay_16 rfl (lv_at hl 0 rfl) ?_
    refine va_get (D := D) (ci := 1) (v := .int (r_count r)) (C := R_S) (T := F_S) (N := 4) hx hb hts (in_S _) hown hK hP k hU.1.1 rfl 3 (by decide) (hts (.fieldLink R_S 21 "DebtRows$Rates" "count" "I") (List.mem_cons_of_mem _ mB_44)) (fun _ h9 => h9) rfl d_S_latestDay_17 ?_
    refine lv_iconst (v := 1) hx hb d_S_latestDay_20 (by decide) ?_
    refine lv_isub hx hb d_S_latestDay_21 ?_
    refine va_iald hx hb hK hP (k + 1) 0 hU.1.2.1 rfl (in_last hwr c_70) d_S_latestDay_22 ?_
    exact W.iret (v := ((r_from r) ((r_count r - 1)).toNatClampNeg)) hx hb hr (fun t ht hW => ⟨_, rfl, by rw [f_R_latestDay, if_pos c_70], ht⟩) t_nil d_S_latestDay_23
  · refine lv_iconst (v := 0) hx hb d_S_latestDay_8 (by decide) ?_
    refine lv_goto (tgt := 23) hx hb d_S_latestDay_9 (by decide) ?_
    exact W.iret (v := 0) hx hb hr (fun t ht hW => ⟨_, rfl, by rw [f_R_latestDay, if_neg c_70], ht⟩) t_nil d_S_latestDay_23
def f_R_append (r : RT) (a1 : Int32) (a2 : Int32) (a3 : Int32) : RT :=
  if r_count r < 20 then (q_count (q_down (q_up (q_from r (upd (r_from r) (r_count r).toNatClampNeg (a1))) (upd (r_up r) (r_count r).toNatClampNeg (a2))) (upd (r_down r) (r_count r).toNatClampNeg (a3))) ((r_count r + 1)))
  else r
set_option maxHeartbeats 4000000 in
set_option maxRecDepth 100000 in
theorem c_R_append (l : Launch) (D : va_G) (A : Nat → Prop) (w : va_W) (cI cL cD : ClassId) (k h0 fr up dn : Nat) (r : RT) (a1 : Int32) (a2 : Int32) (a3 : Int32) (hU0 : rAt w k cI h0 fr up dn r) (hwr : wfR r) : Met l y_S_append w_S_append ({ frames := 0, cells := 0, slots := 0, locals := 0 }) (mPc D w (tyL cI cL cD) A [.ref h0, .int (a1), .int (a2), .int (a3)]) (va_Qv (fun _ : Unit => True) (fun (_ : Unit) t => ∃ w9 : va_W, va_P D vwCl w9 t.heap ∧ va_D A w9 ∧ rUpd w w9 k cI h0 fr up dn (f_R_append r a1 a2 a3)) A) 0 0 A := by
  refine Met.ofW (cc := b_S_append) (maxL := 4) (ret := none) (by decide) rfl ?_
  intro p e s m args below meth c s₁ B hml hv
  obtain ⟨rfl, hP, hK, hD⟩ := hv
  have hx := B.exec
  have hb := B.bytes
  have hr := B.returns
  have hts := atoms_spec (ws := w_S_append) B.pre
  have hown : s.vm.findClass R_S = some m.cls := findClass_of_methodNamed B.named
  have hlocks := B.notSynchronized
  have hS : va_S A s.heap s.heap [] := va_S.rf
  have hU : rUpd w w k cI h0 fr up dn r := rUpd.rf hU0
  have hl := lv_entry ([.ref h0, .int (a1), .int (a2), .int (a3)]) (n := 4) (Nat.le_of_ble_eq_true rfl)
  rw [lg_entry_eq]
  generalize (lg_sl ([.ref h0, .int (a1), .int (a2), .int (a3)]) ++ List.replicate (4 - (lg_sl ([.ref h0, .int (a1), .int (a2), .int (a3)])).length) Slot.unset).toArray = ls at hl ⊢
  have hl : lv_has ls 4 [(0, .ref h0), (1, .int (a1)), (2, .int (a2)), (3, .int (a3))] := hl
  refine lv_aload_n hx hb d_S_append_0 rfl (lv_at hl 0 rfl) ?_
  refine va_get (D := D) (ci := 1) (v := .int (r_count r)) (C := R_S) (T := F_S) (N := 4) hx hb hts (in_S _) hown hK hP k hU.1.1 rfl 3 (by decide) (hts (.fieldLink R_S 21 "DebtRows$Rates" "count" "I") (List.mem_cons_of_mem _ mB_44)) (fun _ h9 => h9) rfl d_S_append_1 ?_
  refine lv_bipush (v := 20) hx hb d_S_append_4 (by decide) ?_
  refine lv_icmp_lt (tgt := 10) hx hb d_S_append_6 (by decide) (fun c_71 => ?_) (fun c_71 => ?_)
  · refine lv_aload_n hx hb d_S_append_10 rfl (lv_at hl 0 rfl) ?_
    refine va_get (D := D) (ci := 1) (v := .ref fr) (C := R_S) (T := F_S) (N := 4) hx hb hts (in_S _) hown hK hP k hU.1.1 rfl 0 (by decide) (hts (.fieldLink R_S 9 "DebtRows$Rates" "from" "[I") (List.mem_cons_of_mem _ mB_41)) (fun _ h9 => h9) rfl d_S_append_11 ?_
    refine lv_aload_n hx hb d_S_append_14 rfl (lv_at hl 0 rfl) ?_
    refine va_get (D := D) (ci := 1) (v := .int (r_count r)) (C := R_S) (T := F_S) (N := 4) hx hb hts (in_S _) hown hK hP k hU.1.1 rfl 3 (by decide) (hts (.fieldLink R_S 21 "DebtRows$Rates" "count" "I") (List.mem_cons_of_mem _ mB_44)) (fun _ h9 => h9) rfl d_S_append_15 ?_
    refine lv_iload_n hx hb d_S_append_18 rfl (lv_at hl 1 rfl) ?_
    refine va_iast hx hb hK hP hD hS (k + 1) 0 hU.1.2.1 rfl (in_count hwr c_71) d_S_append_19 (fun H locs hP hD hS => ?_)
    have hU := hU.s1 (upd (r_from r) (r_count r).toNatClampNeg (a1))
    have hP : va_P D vwCl (w.set (k + 1) (fr, aI cI 20 (upd (r_from r) (r_count r).toNatClampNeg (a1)))) H := hP
    have hD : va_D A (w.set (k + 1) (fr, aI cI 20 (upd (r_from r) (r_count r).toNatClampNeg (a1)))) := hD
    generalize w.set (k + 1) (fr, aI cI 20 (upd (r_from r) (r_count r).toNatClampNeg (a1))) = w_72 at hP hD hU
    refine lv_aload_n hx hb d_S_append_20 rfl (lv_at hl 0 rfl) ?_
    refine va_get (D := D) (ci := 1) (v := .ref up) (C := R_S) (T := F_S) (N := 4) hx hb hts (in_S _) hown hK hP k hU.1.1 rfl 1 (by decide) (hts (.fieldLink R_S 15 "DebtRows$Rates" "up" "[I") (List.mem_cons_of_mem _ mB_42)) (fun _ h9 => h9) rfl d_S_append_21 ?_
    refine lv_aload_n hx hb d_S_append_24 rfl (lv_at hl 0 rfl) ?_
    refine va_get (D := D) (ci := 1) (v := .int (r_count r)) (C := R_S) (T := F_S) (N := 4) hx hb hts (in_S _) hown hK hP k hU.1.1 rfl 3 (by decide) (hts (.fieldLink R_S 21 "DebtRows$Rates" "count" "I") (List.mem_cons_of_mem _ mB_44)) (fun _ h9 => h9) rfl d_S_append_25 ?_
    refine lv_iload_n hx hb d_S_append_28 rfl (lv_at hl 2 rfl) ?_
    refine va_iast hx hb hK hP hD hS (k + 2) 0 hU.1.2.2.1 rfl (in_count hwr c_71) d_S_append_29 (fun H locs hP hD hS => ?_)
    have hU := hU.s2 (upd (r_up r) (r_count r).toNatClampNeg (a2))
    have hP : va_P D vwCl (w_72.set (k + 2) (up, aI cI 20 (upd (r_up r) (r_count r).toNatClampNeg (a2)))) H := hP
    have hD : va_D A (w_72.set (k + 2) (up, aI cI 20 (upd (r_up r) (r_count r).toNatClampNeg (a2)))) := hD
    generalize w_72.set (k + 2) (up, aI cI 20 (upd (r_up r) (r_count r).toNatClampNeg (a2))) = w_73 at hP hD hU
    refine lv_aload_n hx hb d_S_append_30 rfl (lv_at hl 0 rfl) ?_
    refine va_get (D := D) (ci := 1) (v := .ref dn) (C := R_S) (T := F_S) (N := 4) hx hb hts (in_S _) hown hK hP k hU.1.1 rfl 2 (by decide) (hts (.fieldLink R_S 18 "DebtRows$Rates" "down" "[I") (List.mem_cons_of_mem _ mB_43)) (fun _ h9 => h9) rfl d_S_append_31 ?_
    refine lv_aload_n hx hb d_S_append_34 rfl (lv_at hl 0 rfl) ?_
    refine va_get (D := D) (ci := 1) (v := .int (r_count r)) (C := R_S) (T := F_S) (N := 4) hx hb hts (in_S _) hown hK hP k hU.1.1 rfl 3 (by decide) (hts (.fieldLink R_S 21 "DebtRows$Rates" "count" "I") (List.mem_cons_of_mem _ mB_44)) (fun _ h9 => h9) rfl d_S_append_35 ?_
    refine lv_iload_n hx hb d_S_append_38 rfl (lv_at hl 3 rfl) ?_
    refine va_iast hx hb hK hP hD hS (k + 3) 0 hU.1.2.2.2 rfl (in_count hwr c_71) d_S_append_39 (fun H locs hP hD hS => ?_)
    have hU := hU.s3 (upd (r_down r) (r_count r).toNatClampNeg (a3))
    have hP : va_P D vwCl (w_73.set (k + 3) (dn, aI cI 20 (upd (r_down r) (r_count r).toNatClampNeg (a3)))) H := hP
    have hD : va_D A (w_73.set (k + 3) (dn, aI cI 20 (upd (r_down r) (r_count r).toNatClampNeg (a3)))) := hD
    generalize w_73.set (k + 3) (dn, aI cI 20 (upd (r_down r) (r_count r).toNatClampNeg (a3))) = w_74 at hP hD hU
    refine lv_aload_n hx hb d_S_append_40 rfl (lv_at hl 0 rfl) ?_
    refine lv_dup hx hb d_S_append_41 rfl ?_
    refine va_get (D := D) (ci := 1) (v := .int (r_count r)) (C := R_S) (T := F_S) (N := 4) hx hb hts (in_S _) hown hK hP k hU.1.1 rfl 3 (by decide) (hts (.fieldLink R_S 21 "DebtRows$Rates" "count" "I") (List.mem_cons_of_mem _ mB_44)) (fun _ h9 => h9) rfl d_S_append_42 ?_
    refine lv_iconst (v := 1) hx hb d_S_append_45 (by decide) ?_
    refine lv_iadd hx hb d_S_append_46 ?_
    refine va_put (D := D) (ci := 1) (v := .int ((r_count r + 1))) (ty := .int) (C := R_S) (T := F_S) (N := 4) hx hb hts (in_S _) t_S to_S nn_S hown hK hP hD hS k hU.1.1 rfl 3 (by decide) (hts (.fieldLink R_S 21 "DebtRows$Rates" "count" "I") (List.mem_cons_of_mem _ mB_44)) (fun _ h9 => h9) rfl (by decide +kernel) rfl rfl (Nat.le_of_ble_eq_true rfl) d_S_append_47 (fun H locs hP hD hS => ?_)
    have hU := hU.so ((r_count r + 1))
    have hP : va_P D vwCl (w_74.set k (h0, rE fr up dn (q_count (q_down (q_up (q_from r (upd (r_from r) (r_count r).toNatClampNeg (a1))) (upd (r_up r) (r_count r).toNatClampNeg (a2))) (upd (r_down r) (r_count r).toNatClampNeg (a3))) ((r_count r + 1))))) H := hP
    have hD : va_D A (w_74.set k (h0, rE fr up dn (q_count (q_down (q_up (q_from r (upd (r_from r) (r_count r).toNatClampNeg (a1))) (upd (r_up r) (r_count r).toNatClampNeg (a2))) (upd (r_down r) (r_count r).toNatClampNeg (a3))) ((r_count r + 1))))) := hD
    generalize w_74.set k (h0, rE fr up dn (q_count (q_down (q_up (q_from r (upd (r_from r) (r_count r).toNatClampNeg (a1))) (upd (r_up r) (r_count r).toNatClampNeg (a2))) (upd (r_down r) (r_count r).toNatClampNeg (a3))) ((r_count r + 1)))) = w_75 at hP hD hU
    exact W.vret hx hb hr (fun t ht hW => ⟨⟨(), rfl, trivial, w_75, by rw [ht]; exact hP, hD, by rw [f_R_append, if_pos c_71]; exact hU⟩, hS.F ht⟩) hS.2.2 d_S_append_50
  · exact W.vret hx hb hr (fun t ht hW => ⟨⟨(), rfl, trivial, w, by rw [ht]; exact hP, hD, by rw [f_R_append, if_neg c_71]; exact hU⟩, hS.F ht⟩) hS.2.2 d_S_append_9
def inS (r : RT) (op : Int64) (be ut : Int32) (i : Nat) (t0 : Int64) : Int64 :=
  if r_count r ≤ (nI i + 1) then (if ut < (iMax (((r_from r) i)) ((be + 1))) then t0
    else if ((r_down r) i) ≤ 0 then t0
      else (t0 + (((op * (((ut - (iMax (((r_from r) i)) ((be + 1)))) + 1) : Int32).toInt64) * (((r_up r) i) : Int32).toInt64) / ((((r_down r) i) : Int32).toInt64 * 365))))
  else if (iMin (ut) ((((r_from r) (i + 1)) - 1))) < (iMax (((r_from r) i)) ((be + 1))) then t0
    else if ((r_down r) i) ≤ 0 then t0
      else (t0 + (((op * ((((iMin (ut) ((((r_from r) (i + 1)) - 1))) - (iMax (((r_from r) i)) ((be + 1)))) + 1) : Int32).toInt64) * (((r_up r) i) : Int32).toInt64) / ((((r_down r) i) : Int32).toInt64 * 365)))
def inL (r : RT) (op : Int64) (be ut : Int32) : Nat → Nat → Int64 → Int64
  | _, 0, t => t
  | i, n + 1, t => inL r op be ut (i + 1) n (inS r op be ut i t)
theorem inL_s (r : RT) (op : Int64) (be ut : Int32) (i n : Nat) (t : Int64) : inL r op be ut i (n + 1) t = inL r op be ut (i + 1) n (inS r op be ut i t) := rfl
def f_R_interest (r : RT) (op : Int64) (be ut : Int32) : Int64 := inL r op be ut 0 (r_count r).toNatClampNeg 0
set_option maxHeartbeats 4000000 in
set_option maxRecDepth 100000 in
theorem c_R_interest (l : Launch) (D : va_G) (A : Nat → Prop) (w : va_W) (cI cL cD : ClassId) (k h0 fr up dn : Nat) (r : RT) (op : Int64) (be : Int32) (ut : Int32) (hU0 : rAt w k cI h0 fr up dn r) (hwr : wfR r) : Met l y_S_interest w_S_interest ({ frames := 1, cells := 0, slots := 0, locals := 24 }) (mPc D w (tyL cI cL cD) A [.ref h0, .long (op), .int (be), .int (ut)]) (vp_Sl (fun z9 => z9 = f_R_interest r op be ut)) 0 0 (fun _ => False) := by
  refine Met.ofW (cc := b_S_interest) (maxL := 12) (ret := (some .long)) (by decide) rfl ?_
  intro p e s m args below meth c s₁ B hml hv
  obtain ⟨rfl, hP, hK, hD⟩ := hv
  have hx := B.exec
  have hb := B.bytes
  have hr := B.returns
  have hts := atoms_spec (ws := w_S_interest) B.pre
  have hown : s.vm.findClass R_S = some m.cls := findClass_of_methodNamed B.named
  have hlocks := B.notSynchronized
  have hS : va_S A s.heap s.heap [] := va_S.rf
  have hU : rUpd w w k cI h0 fr up dn r := rUpd.rf hU0
  have hl := lv_entry ([.ref h0, .long (op), .int (be), .int (ut)]) (n := 12) (Nat.le_of_ble_eq_true rfl)
  rw [lg_entry_eq]
  generalize (lg_sl ([.ref h0, .long (op), .int (be), .int (ut)]) ++ List.replicate (12 - (lg_sl ([.ref h0, .long (op), .int (be), .int (ut)])).length) Slot.unset).toArray = ls at hl ⊢
  have hl : lv_has ls 12 [(0, .ref h0), (1, .long (op)), (3, .int (be)), (4, .int (ut))] := hl
  refine lv_lconst (v := 0) hx hb d_S_interest_0 (by decide) ?_
  refine lv_lstore (lv' := [(5, .long (0)), (0, .ref h0), (1, .long (op)), (3, .int (be)), (4, .int (ut))]) hx hb d_S_interest_1 hl (by decide) rfl (fun ls hl => ?_)
  refine lv_iconst (v := 0) hx hb d_S_interest_3 (by decide) ?_
  refine lv_istore (lv' := [(7, .int (0)), (5, .long (0)), (0, .ref h0), (1, .long (op)), (3, .int (be)), (4, .int (ut))]) hx hb d_S_interest_4 hl (by decide) rfl (fun ls hl => ?_)
  obtain ⟨mm, hmm, em⟩ := id hwr
  have loop : ∀ (n i : Nat) (t0 : Int64), i + n = mm → inL r op be ut i n t0 = f_R_interest r op be ut → ∀ (ls : Array Slot), lv_has ls 12 [(7, .int (nI i)), (5, .long (t0)), (0, .ref h0), (1, .long (op)), (3, .int (be)), (4, .int (ut))] → W p l e (headSpec w_S_interest ({ frames := 1, cells := 0, slots := 0, locals := 24 })).room s m [.ref h0, .long (op), .int (be), .int (ut)].toArray below meth c s.heap [] 0 0 (MQ below (vp_Sl (fun z9 => z9 = f_R_interest r op be ut)) [.ref h0, .long (op), .int (be), .int (ut)].toArray s 0 0 (fun _ => False)) (F0 m 6 ls []) := by
    intro n
    induction n with
    | zero =>
      intro i t0 hin hv ls hl
      refine lv_iload hx hb d_S_interest_6 (lv_at hl 0 rfl) ?_
      refine lv_aload_n hx hb d_S_interest_8 rfl (lv_at hl 2 rfl) ?_
      refine va_get (D := D) (ci := 1) (v := .int (r_count r)) (C := R_S) (T := F_S) (N := 4) hx hb hts (in_S _) hown hK hP k hU.1.1 rfl 3 (by decide) (hts (.fieldLink R_S 21 "DebtRows$Rates" "count" "I") (List.mem_cons_of_mem _ mB_44)) (fun _ h9 => h9) rfl d_S_interest_9 ?_
      refine lv_icmp_ge (tgt := 128) hx hb d_S_interest_12 (by decide) (fun c_76 => ?_) (fun c_76 => ?_)
      · refine lv_lload hx hb d_S_interest_128 (lv_at hl 1 rfl) ?_
        exact W.lret (v := t0) hx hb hr (fun t ht hW => ⟨_, rfl, by rw [← hv]; rfl, ht⟩) t_nil d_S_interest_130
      · exact absurd (by rw [em]; exact nI_le (by omega) (by omega)) c_76
    | succ n ih =>
      intro i t0 hin hv ls hl
      refine lv_iload hx hb d_S_interest_6 (lv_at hl 0 rfl) ?_
      refine lv_aload_n hx hb d_S_interest_8 rfl (lv_at hl 2 rfl) ?_
      refine va_get (D := D) (ci := 1) (v := .int (r_count r)) (C := R_S) (T := F_S) (N := 4) hx hb hts (in_S _) hown hK hP k hU.1.1 rfl 3 (by decide) (hts (.fieldLink R_S 21 "DebtRows$Rates" "count" "I") (List.mem_cons_of_mem _ mB_44)) (fun _ h9 => h9) rfl d_S_interest_9 ?_
      refine lv_icmp_ge (tgt := 128) hx hb d_S_interest_12 (by decide) (fun c_77 => ?_) (fun c_77 => ?_)
      · exact absurd c_77 (by rw [em]; exact nI_ge (by omega) (by omega))
      · refine lv_aload_n hx hb d_S_interest_15 rfl (lv_at hl 2 rfl) ?_
        refine va_get (D := D) (ci := 1) (v := .ref fr) (C := R_S) (T := F_S) (N := 4) hx hb hts (in_S _) hown hK hP k hU.1.1 rfl 0 (by decide) (hts (.fieldLink R_S 9 "DebtRows$Rates" "from" "[I") (List.mem_cons_of_mem _ mB_41)) (fun _ h9 => h9) rfl d_S_interest_16 ?_
        refine lv_iload hx hb d_S_interest_19 (lv_at hl 0 rfl) ?_
        refine va_iald hx hb hK hP (k + 1) 0 hU.1.2.1 rfl (vp_in_nI (by omega) (by omega)) d_S_interest_21 ?_
        rw [nI_clamp (by omega)]
        refine lv_iload_n hx hb d_S_interest_22 rfl (lv_at hl 4 rfl) ?_
        refine lv_iconst (v := 1) hx hb d_S_interest_23 (by decide) ?_
        refine lv_iadd hx hb d_S_interest_24 ?_
        refine va_mmax (own := R_S) (index := 25) hx hb (hml.trans hl.1.symm) hown (hts (.methodLink R_S 25 Lib.Math.max.name) (List.mem_cons_of_mem _ mB_291)) (hts (.static Lib.Math.max.name) (List.mem_cons_of_mem _ mB_266)) (hts (.initialized "java/lang/Math") (List.mem_cons_of_mem _ mB_25)) (hts _ (List.mem_cons_of_mem _ mC_max)) (Nat.le_of_ble_eq_true rfl) (Nat.le_of_ble_eq_true rfl) (Nat.le_of_ble_eq_true rfl) (Nat.le_of_ble_eq_true rfl) d_S_interest_25 ?_
        refine lv_topi (fun v_78 ev_78 => ?_)
        have ev_78 : v_78 = iMax (((r_from r) i)) ((be + 1)) := ev_78
        subst ev_78
        refine lv_istore (lv' := [(8, .int ((iMax (((r_from r) i)) ((be + 1))))), (7, .int (nI i)), (5, .long (t0)), (0, .ref h0), (1, .long (op)), (3, .int (be)), (4, .int (ut))]) hx hb d_S_interest_28 hl (by decide) rfl (fun ls hl => ?_)
        refine lv_iload hx hb d_S_interest_30 (lv_at hl 1 rfl) ?_
        refine lv_iconst (v := 1) hx hb d_S_interest_32 (by decide) ?_
        refine lv_iadd hx hb d_S_interest_33 ?_
        refine lv_aload_n hx hb d_S_interest_34 rfl (lv_at hl 3 rfl) ?_
        refine va_get (D := D) (ci := 1) (v := .int (r_count r)) (C := R_S) (T := F_S) (N := 4) hx hb hts (in_S _) hown hK hP k hU.1.1 rfl 3 (by decide) (hts (.fieldLink R_S 21 "DebtRows$Rates" "count" "I") (List.mem_cons_of_mem _ mB_44)) (fun _ h9 => h9) rfl d_S_interest_35 ?_
        refine lv_icmp_ge (tgt := 60) hx hb d_S_interest_38 (by decide) (fun c_79 => ?_) (fun c_79 => ?_)
        · refine lv_iload hx hb d_S_interest_60 (lv_at hl 6 rfl) ?_
          refine lv_istore (lv' := [(9, .int (ut)), (8, .int ((iMax (((r_from r) i)) ((be + 1))))), (7, .int (nI i)), (5, .long (t0)), (0, .ref h0), (1, .long (op)), (3, .int (be)), (4, .int (ut))]) hx hb d_S_interest_62 hl (by decide) rfl (fun ls hl => ?_)
          refine lv_iload hx hb d_S_interest_64 (lv_at hl 1 rfl) ?_
          refine lv_iload hx hb d_S_interest_66 (lv_at hl 0 rfl) ?_
          refine lv_icmp_gt (tgt := 122) hx hb d_S_interest_68 (by decide) (fun c_80 => ?_) (fun c_80 => ?_)
          · refine lv_iinc (v := nI (i + 1)) (lv' := [(7, .int (nI (i + 1))), (9, .int (ut)), (8, .int ((iMax (((r_from r) i)) ((be + 1))))), (5, .long (t0)), (0, .ref h0), (1, .long (op)), (3, .int (be)), (4, .int (ut))]) hx hb d_S_interest_122 hl (k := 2) rfl (nI_inc i) (by decide) rfl (fun ls hl => ?_)
            refine lv_goto (tgt := 6) hx hb d_S_interest_125 (by decide) ?_
            exact ih (i + 1) (t0) (by omega) (by rw [← hv, inL_s, inS, if_pos c_79, if_pos c_80]) ls (lv_sub hl [0, 3, 4, 5, 6, 7] rfl)
          · refine lv_aload_n hx hb d_S_interest_71 rfl (lv_at hl 4 rfl) ?_
            refine va_get (D := D) (ci := 1) (v := .ref dn) (C := R_S) (T := F_S) (N := 4) hx hb hts (in_S _) hown hK hP k hU.1.1 rfl 2 (by decide) (hts (.fieldLink R_S 18 "DebtRows$Rates" "down" "[I") (List.mem_cons_of_mem _ mB_43)) (fun _ h9 => h9) rfl d_S_interest_72 ?_
            refine lv_iload hx hb d_S_interest_75 (lv_at hl 2 rfl) ?_
            refine va_iald hx hb hK hP (k + 3) 0 hU.1.2.2.2 rfl (vp_in_nI (by omega) (by omega)) d_S_interest_77 ?_
            rw [nI_clamp (by omega)]
            refine lv_if_le (tgt := 122) hx hb d_S_interest_78 (by decide) (fun c_81 => ?_) (fun c_81 => ?_)
            · refine lv_iinc (v := nI (i + 1)) (lv' := [(7, .int (nI (i + 1))), (9, .int (ut)), (8, .int ((iMax (((r_from r) i)) ((be + 1))))), (5, .long (t0)), (0, .ref h0), (1, .long (op)), (3, .int (be)), (4, .int (ut))]) hx hb d_S_interest_122 hl (k := 2) rfl (nI_inc i) (by decide) rfl (fun ls hl => ?_)
              refine lv_goto (tgt := 6) hx hb d_S_interest_125 (by decide) ?_
              exact ih (i + 1) (t0) (by omega) (by rw [← hv, inL_s, inS, if_pos c_79, if_neg c_80, if_pos c_81]) ls (lv_sub hl [0, 3, 4, 5, 6, 7] rfl)
            · refine lv_iload hx hb d_S_interest_81 (lv_at hl 0 rfl) ?_
              refine lv_iload hx hb d_S_interest_83 (lv_at hl 1 rfl) ?_
              refine lv_isub hx hb d_S_interest_85 ?_
              refine lv_iconst (v := 1) hx hb d_S_interest_86 (by decide) ?_
              refine lv_iadd hx hb d_S_interest_87 ?_
              refine lv_i2l hx hb d_S_interest_88 rfl ?_
              refine lv_lstore (lv' := [(10, .long ((((ut - (iMax (((r_from r) i)) ((be + 1)))) + 1) : Int32).toInt64)), (9, .int (ut)), (8, .int ((iMax (((r_from r) i)) ((be + 1))))), (7, .int (nI i)), (5, .long (t0)), (0, .ref h0), (1, .long (op)), (3, .int (be)), (4, .int (ut))]) hx hb d_S_interest_89 hl (by decide) rfl (fun ls hl => ?_)
              refine lv_lload hx hb d_S_interest_91 (lv_at hl 4 rfl) ?_
              refine lv_lload_n hx hb d_S_interest_93 rfl (lv_at hl 6 rfl) ?_
              refine lv_lload hx hb d_S_interest_94 (lv_at hl 0 rfl) ?_
              refine lv_lmul hx hb d_S_interest_96 ?_
              refine lv_aload_n hx hb d_S_interest_97 rfl (lv_at hl 5 rfl) ?_
              refine va_get (D := D) (ci := 1) (v := .ref up) (C := R_S) (T := F_S) (N := 4) hx hb hts (in_S _) hown hK hP k hU.1.1 rfl 1 (by decide) (hts (.fieldLink R_S 15 "DebtRows$Rates" "up" "[I") (List.mem_cons_of_mem _ mB_42)) (fun _ h9 => h9) rfl d_S_interest_98 ?_
              refine lv_iload hx hb d_S_interest_101 (lv_at hl 3 rfl) ?_
              refine va_iald hx hb hK hP (k + 2) 0 hU.1.2.2.1 rfl (vp_in_nI (by omega) (by omega)) d_S_interest_103 ?_
              rw [nI_clamp (by omega)]
              refine lv_i2l hx hb d_S_interest_104 rfl ?_
              refine lv_lmul hx hb d_S_interest_105 ?_
              refine lv_aload_n hx hb d_S_interest_106 rfl (lv_at hl 5 rfl) ?_
              refine va_get (D := D) (ci := 1) (v := .ref dn) (C := R_S) (T := F_S) (N := 4) hx hb hts (in_S _) hown hK hP k hU.1.1 rfl 2 (by decide) (hts (.fieldLink R_S 18 "DebtRows$Rates" "down" "[I") (List.mem_cons_of_mem _ mB_43)) (fun _ h9 => h9) rfl d_S_interest_107 ?_
              refine lv_iload hx hb d_S_interest_110 (lv_at hl 3 rfl) ?_
              refine va_iald hx hb hK hP (k + 3) 0 hU.1.2.2.2 rfl (vp_in_nI (by omega) (by omega)) d_S_interest_112 ?_
              rw [nI_clamp (by omega)]
              refine lv_i2l hx hb d_S_interest_113 rfl ?_
              refine lv_ldc2 (own := R_S) (index := 34) (v := 365) hx hb hown (hts (.constantLong R_S 34 (365)) (List.mem_cons_of_mem _ mB_295)) d_S_interest_114 ?_
              refine lv_lmul hx hb d_S_interest_117 ?_
              refine lv_ldiv hx hb d_S_interest_118 (n365 c_81) ?_
              refine lv_ladd hx hb d_S_interest_119 ?_
              refine lv_lstore (lv' := [(5, .long ((t0 + (((op * (((ut - (iMax (((r_from r) i)) ((be + 1)))) + 1) : Int32).toInt64) * (((r_up r) i) : Int32).toInt64) / ((((r_down r) i) : Int32).toInt64 * 365))))), (10, .long ((((ut - (iMax (((r_from r) i)) ((be + 1)))) + 1) : Int32).toInt64)), (9, .int (ut)), (8, .int ((iMax (((r_from r) i)) ((be + 1))))), (7, .int (nI i)), (0, .ref h0), (1, .long (op)), (3, .int (be)), (4, .int (ut))]) hx hb d_S_interest_120 hl (by decide) rfl (fun ls hl => ?_)
              refine lv_iinc (v := nI (i + 1)) (lv' := [(7, .int (nI (i + 1))), (5, .long ((t0 + (((op * (((ut - (iMax (((r_from r) i)) ((be + 1)))) + 1) : Int32).toInt64) * (((r_up r) i) : Int32).toInt64) / ((((r_down r) i) : Int32).toInt64 * 365))))), (10, .long ((((ut - (iMax (((r_from r) i)) ((be + 1)))) + 1) : Int32).toInt64)), (9, .int (ut)), (8, .int ((iMax (((r_from r) i)) ((be + 1))))), (0, .ref h0), (1, .long (op)), (3, .int (be)), (4, .int (ut))]) hx hb d_S_interest_122 hl (k := 4) rfl (nI_inc i) (by decide) rfl (fun ls hl => ?_)
              refine lv_goto (tgt := 6) hx hb d_S_interest_125 (by decide) ?_
              exact ih (i + 1) ((t0 + (((op * (((ut - (iMax (((r_from r) i)) ((be + 1)))) + 1) : Int32).toInt64) * (((r_up r) i) : Int32).toInt64) / ((((r_down r) i) : Int32).toInt64 * 365)))) (by omega) (by rw [← hv, inL_s, inS, if_pos c_79, if_neg c_80, if_neg c_81]) ls (lv_sub hl [0, 1, 5, 6, 7, 8] rfl)
        · refine lv_iload hx hb d_S_interest_41 (lv_at hl 6 rfl) ?_
          refine lv_aload_n hx hb d_S_interest_43 rfl (lv_at hl 3 rfl) ?_
          refine va_get (D := D) (ci := 1) (v := .ref fr) (C := R_S) (T := F_S) (N := 4) hx hb hts (in_S _) hown hK hP k hU.1.1 rfl 0 (by decide) (hts (.fieldLink R_S 9 "DebtRows$Rates" "from" "[I") (List.mem_cons_of_mem _ mB_41)) (fun _ h9 => h9) rfl d_S_interest_44 ?_
          refine lv_iload hx hb d_S_interest_47 (lv_at hl 1 rfl) ?_
          refine lv_iconst (v := 1) hx hb d_S_interest_49 (by decide) ?_
          refine lv_iadd hx hb d_S_interest_50 ?_
          refine va_iald hx hb hK hP (k + 1) 0 hU.1.2.1 rfl (in_next em hmm (by omega) c_79) d_S_interest_51 ?_
          rw [show (nI i + 1).toNatClampNeg = i + 1 from by rw [nI_1, nI_clamp (by omega)]]
          refine lv_iconst (v := 1) hx hb d_S_interest_52 (by decide) ?_
          refine lv_isub hx hb d_S_interest_53 ?_
          refine va_mmin (own := R_S) (index := 31) hx hb (hml.trans hl.1.symm) hown (hts (.methodLink R_S 31 Lib.Math.min.name) (List.mem_cons_of_mem _ mB_292)) (hts (.static Lib.Math.min.name) (List.mem_cons_of_mem _ mB_293)) (hts (.initialized "java/lang/Math") (List.mem_cons_of_mem _ mB_25)) (hts _ (List.mem_cons_of_mem _ mC_min)) (Nat.le_of_ble_eq_true rfl) (Nat.le_of_ble_eq_true rfl) (Nat.le_of_ble_eq_true rfl) (Nat.le_of_ble_eq_true rfl) d_S_interest_54 ?_
          refine lv_topi (fun v_82 ev_82 => ?_)
          have ev_82 : v_82 = iMin (ut) ((((r_from r) (i + 1)) - 1)) := ev_82
          subst ev_82
          refine lv_goto (tgt := 62) hx hb d_S_interest_57 (by decide) ?_
          refine lv_istore (lv' := [(9, .int ((iMin (ut) ((((r_from r) (i + 1)) - 1))))), (8, .int ((iMax (((r_from r) i)) ((be + 1))))), (7, .int (nI i)), (5, .long (t0)), (0, .ref h0), (1, .long (op)), (3, .int (be)), (4, .int (ut))]) hx hb d_S_interest_62 hl (by decide) rfl (fun ls hl => ?_)
          refine lv_iload hx hb d_S_interest_64 (lv_at hl 1 rfl) ?_
          refine lv_iload hx hb d_S_interest_66 (lv_at hl 0 rfl) ?_
          refine lv_icmp_gt (tgt := 122) hx hb d_S_interest_68 (by decide) (fun c_83 => ?_) (fun c_83 => ?_)
          · refine lv_iinc (v := nI (i + 1)) (lv' := [(7, .int (nI (i + 1))), (9, .int ((iMin (ut) ((((r_from r) (i + 1)) - 1))))), (8, .int ((iMax (((r_from r) i)) ((be + 1))))), (5, .long (t0)), (0, .ref h0), (1, .long (op)), (3, .int (be)), (4, .int (ut))]) hx hb d_S_interest_122 hl (k := 2) rfl (nI_inc i) (by decide) rfl (fun ls hl => ?_)
            refine lv_goto (tgt := 6) hx hb d_S_interest_125 (by decide) ?_
            exact ih (i + 1) (t0) (by omega) (by rw [← hv, inL_s, inS, if_neg c_79, if_pos c_83]) ls (lv_sub hl [0, 3, 4, 5, 6, 7] rfl)
          · refine lv_aload_n hx hb d_S_interest_71 rfl (lv_at hl 4 rfl) ?_
            refine va_get (D := D) (ci := 1) (v := .ref dn) (C := R_S) (T := F_S) (N := 4) hx hb hts (in_S _) hown hK hP k hU.1.1 rfl 2 (by decide) (hts (.fieldLink R_S 18 "DebtRows$Rates" "down" "[I") (List.mem_cons_of_mem _ mB_43)) (fun _ h9 => h9) rfl d_S_interest_72 ?_
            refine lv_iload hx hb d_S_interest_75 (lv_at hl 2 rfl) ?_
            refine va_iald hx hb hK hP (k + 3) 0 hU.1.2.2.2 rfl (vp_in_nI (by omega) (by omega)) d_S_interest_77 ?_
            rw [nI_clamp (by omega)]
            refine lv_if_le (tgt := 122) hx hb d_S_interest_78 (by decide) (fun c_84 => ?_) (fun c_84 => ?_)
            · refine lv_iinc (v := nI (i + 1)) (lv' := [(7, .int (nI (i + 1))), (9, .int ((iMin (ut) ((((r_from r) (i + 1)) - 1))))), (8, .int ((iMax (((r_from r) i)) ((be + 1))))), (5, .long (t0)), (0, .ref h0), (1, .long (op)), (3, .int (be)), (4, .int (ut))]) hx hb d_S_interest_122 hl (k := 2) rfl (nI_inc i) (by decide) rfl (fun ls hl => ?_)
              refine lv_goto (tgt := 6) hx hb d_S_interest_125 (by decide) ?_
              exact ih (i + 1) (t0) (by omega) (by rw [← hv, inL_s, inS, if_neg c_79, if_neg c_83, if_pos c_84]) ls (lv_sub hl [0, 3, 4, 5, 6, 7] rfl)
            · refine lv_iload hx hb d_S_interest_81 (lv_at hl 0 rfl) ?_
              refine lv_iload hx hb d_S_interest_83 (lv_at hl 1 rfl) ?_
              refine lv_isub hx hb d_S_interest_85 ?_
              refine lv_iconst (v := 1) hx hb d_S_interest_86 (by decide) ?_
              refine lv_iadd hx hb d_S_interest_87 ?_
              refine lv_i2l hx hb d_S_interest_88 rfl ?_
              refine lv_lstore (lv' := [(10, .long (((((iMin (ut) ((((r_from r) (i + 1)) - 1))) - (iMax (((r_from r) i)) ((be + 1)))) + 1) : Int32).toInt64)), (9, .int ((iMin (ut) ((((r_from r) (i + 1)) - 1))))), (8, .int ((iMax (((r_from r) i)) ((be + 1))))), (7, .int (nI i)), (5, .long (t0)), (0, .ref h0), (1, .long (op)), (3, .int (be)), (4, .int (ut))]) hx hb d_S_interest_89 hl (by decide) rfl (fun ls hl => ?_)
              refine lv_lload hx hb d_S_interest_91 (lv_at hl 4 rfl) ?_
              refine lv_lload_n hx hb d_S_interest_93 rfl (lv_at hl 6 rfl) ?_
              refine lv_lload hx hb d_S_interest_94 (lv_at hl 0 rfl) ?_
              refine lv_lmul hx hb d_S_interest_96 ?_
              refine lv_aload_n hx hb d_S_interest_97 rfl (lv_at hl 5 rfl) ?_
              refine va_get (D := D) (ci := 1) (v := .ref up) (C := R_S) (T := F_S) (N := 4) hx hb hts (in_S _) hown hK hP k hU.1.1 rfl 1 (by decide) (hts (.fieldLink R_S 15 "DebtRows$Rates" "up" "[I") (List.mem_cons_of_mem _ mB_42)) (fun _ h9 => h9) rfl d_S_interest_98 ?_
              refine lv_iload hx hb d_S_interest_101 (lv_at hl 3 rfl) ?_
              refine va_iald hx hb hK hP (k + 2) 0 hU.1.2.2.1 rfl (vp_in_nI (by omega) (by omega)) d_S_interest_103 ?_
              rw [nI_clamp (by omega)]
              refine lv_i2l hx hb d_S_interest_104 rfl ?_
              refine lv_lmul hx hb d_S_interest_105 ?_
              refine lv_aload_n hx hb d_S_interest_106 rfl (lv_at hl 5 rfl) ?_
              refine va_get (D := D) (ci := 1) (v := .ref dn) (C := R_S) (T := F_S) (N := 4) hx hb hts (in_S _) hown hK hP k hU.1.1 rfl 2 (by decide) (hts (.fieldLink R_S 18 "DebtRows$Rates" "down" "[I") (List.mem_cons_of_mem _ mB_43)) (fun _ h9 => h9) rfl d_S_interest_107 ?_
              refine lv_iload hx hb d_S_interest_110 (lv_at hl 3 rfl) ?_
              refine va_iald hx hb hK hP (k + 3) 0 hU.1.2.2.2 rfl (vp_in_nI (by omega) (by omega)) d_S_interest_112 ?_
              rw [nI_clamp (by omega)]
              refine lv_i2l hx hb d_S_interest_113 rfl ?_
              refine lv_ldc2 (own := R_S) (index := 34) (v := 365) hx hb hown (hts (.constantLong R_S 34 (365)) (List.mem_cons_of_mem _ mB_295)) d_S_interest_114 ?_
              refine lv_lmul hx hb d_S_interest_117 ?_
              refine lv_ldiv hx hb d_S_interest_118 (n365 c_84) ?_
              refine lv_ladd hx hb d_S_interest_119 ?_
              refine lv_lstore (lv' := [(5, .long ((t0 + (((op * ((((iMin (ut) ((((r_from r) (i + 1)) - 1))) - (iMax (((r_from r) i)) ((be + 1)))) + 1) : Int32).toInt64) * (((r_up r) i) : Int32).toInt64) / ((((r_down r) i) : Int32).toInt64 * 365))))), (10, .long (((((iMin (ut) ((((r_from r) (i + 1)) - 1))) - (iMax (((r_from r) i)) ((be + 1)))) + 1) : Int32).toInt64)), (9, .int ((iMin (ut) ((((r_from r) (i + 1)) - 1))))), (8, .int ((iMax (((r_from r) i)) ((be + 1))))), (7, .int (nI i)), (0, .ref h0), (1, .long (op)), (3, .int (be)), (4, .int (ut))]) hx hb d_S_interest_120 hl (by decide) rfl (fun ls hl => ?_)
              refine lv_iinc (v := nI (i + 1)) (lv' := [(7, .int (nI (i + 1))), (5, .long ((t0 + (((op * ((((iMin (ut) ((((r_from r) (i + 1)) - 1))) - (iMax (((r_from r) i)) ((be + 1)))) + 1) : Int32).toInt64) * (((r_up r) i) : Int32).toInt64) / ((((r_down r) i) : Int32).toInt64 * 365))))), (10, .long (((((iMin (ut) ((((r_from r) (i + 1)) - 1))) - (iMax (((r_from r) i)) ((be + 1)))) + 1) : Int32).toInt64)), (9, .int ((iMin (ut) ((((r_from r) (i + 1)) - 1))))), (8, .int ((iMax (((r_from r) i)) ((be + 1))))), (0, .ref h0), (1, .long (op)), (3, .int (be)), (4, .int (ut))]) hx hb d_S_interest_122 hl (k := 4) rfl (nI_inc i) (by decide) rfl (fun ls hl => ?_)
              refine lv_goto (tgt := 6) hx hb d_S_interest_125 (by decide) ?_
              exact ih (i + 1) ((t0 + (((op * ((((iMin (ut) ((((r_from r) (i + 1)) - 1))) - (iMax (((r_from r) i)) ((be + 1)))) + 1) : Int32).toInt64) * (((r_up r) i) : Int32).toInt64) / ((((r_down r) i) : Int32).toInt64 * 365)))) (by omega) (by rw [← hv, inL_s, inS, if_neg c_79, if_neg c_83, if_neg c_84]) ls (lv_sub hl [0, 1, 5, 6, 7, 8] rfl)
  exact loop mm 0 0 (by omega) (by rw [f_R_interest, em, nI_clamp (by omega)]) ls hl
def f_runningInterest (d : DT) (r : RT) (td : Int32) : Int64 :=
  if d_state d = 1 then (f_R_interest r (d_open d) (d_ib d) (td))
  else 0
set_option maxHeartbeats 4000000 in
set_option maxRecDepth 100000 in
theorem c_runningInterest (l : Launch) (D : va_G) (A : Nat → Prop) (w : va_W) (cI cL cD : ClassId) (k h0 hp hq : Nat) (d : DT) (kr hr0 fr up dn : Nat) (r : RT) (td : Int32) (hU0 : dAt w k cI cL h0 hp hq d) (hR0 : rAt w kr cI hr0 fr up dn r) (hkr : kr + 3 < k) (hwr : wfR r) : Met l y_D_runningInterest w_D_runningInterest ({ frames := 2, cells := 0, slots := 0, locals := 55 }) (mPc D w (tyL cI cL cD) A [.ref h0, .ref hr0, .int (td)]) (vp_Sl (fun z9 => z9 = f_runningInterest d r td)) 0 0 (fun _ => False) := by
  refine Met.ofW (cc := b_D_runningInterest) (maxL := 3) (ret := (some .long)) (by decide) rfl ?_
  intro p e s m args below meth c s₁ B hml hv
  obtain ⟨rfl, hP, hK, hD⟩ := hv
  have hx := B.exec
  have hb := B.bytes
  have hr := B.returns
  have hts := atoms_spec (ws := w_D_runningInterest) B.pre
  have hown : s.vm.findClass R_D = some m.cls := findClass_of_methodNamed B.named
  have hlocks := B.notSynchronized
  have hS : va_S A s.heap s.heap [] := va_S.rf
  have hU : dUpd w w k cI cL h0 hp hq d := dUpd.rf hU0
  have hl := lv_entry ([.ref h0, .ref hr0, .int (td)]) (n := 3) (Nat.le_of_ble_eq_true rfl)
  rw [lg_entry_eq]
  generalize (lg_sl ([.ref h0, .ref hr0, .int (td)]) ++ List.replicate (3 - (lg_sl ([.ref h0, .ref hr0, .int (td)])).length) Slot.unset).toArray = ls at hl ⊢
  have hl : lv_has ls 3 [(0, .ref h0), (1, .ref hr0), (2, .int (td))] := hl
  refine lv_aload_n hx hb d_D_runningInterest_0 rfl (lv_at hl 0 rfl) ?_
  refine va_get (D := D) (ci := 0) (v := .int (d_state d)) (C := R_D) (T := F_D) (N := 15) hx hb hts (in_D _) hown hK hP k hU.o rfl 5 (by decide) (hts (.fieldLink R_D 27 "DebtRows$Debt" "state" "I") (List.mem_cons_of_mem _ mB_216)) (fun _ h9 => h9) rfl d_D_runningInterest_1 ?_
  refine lv_iconst (v := 1) hx hb d_D_runningInterest_4 (by decide) ?_
  refine lv_icmp_ne (tgt := 24) hx hb d_D_runningInterest_5 (by decide) (fun c_85 => ?_) (fun c_85 => ?_)
  · refine lv_lconst (v := 0) hx hb d_D_runningInterest_24 (by decide) ?_
    exact W.lret (v := 0) hx hb hr (fun t ht hW => ⟨_, rfl, by rw [f_runningInterest, if_neg c_85], ht⟩) t_nil d_D_runningInterest_25
  · refine lv_aload_n hx hb d_D_runningInterest_8 rfl (lv_at hl 1 rfl) ?_
    refine lv_aload_n hx hb d_D_runningInterest_9 rfl (lv_at hl 0 rfl) ?_
    refine va_get (D := D) (ci := 0) (v := .long (d_open d)) (C := R_D) (T := F_D) (N := 15) hx hb hts (in_D _) hown hK hP k hU.o rfl 8 (by decide) (hts (.fieldLink R_D 33 "DebtRows$Debt" "open" "J") (List.mem_cons_of_mem _ mB_221)) (fun _ h9 => h9) rfl d_D_runningInterest_10 ?_
    refine lv_aload_n hx hb d_D_runningInterest_13 rfl (lv_at hl 0 rfl) ?_
    refine va_get (D := D) (ci := 0) (v := .int (d_ib d)) (C := R_D) (T := F_D) (N := 15) hx hb hts (in_D _) hown hK hP k hU.o rfl 7 (by decide) (hts (.fieldLink R_D 53 "DebtRows$Debt" "interestBehind" "I") (List.mem_cons_of_mem _ mB_220)) (fun _ h9 => h9) rfl d_D_runningInterest_14 ?_
    refine lv_iload_n hx hb d_D_runningInterest_17 rfl (lv_at hl 2 rfl) ?_
    refine vp_callSl (W.runV (As := [.long (d_open d), .int (d_ib d), .int (td)]) (rest := []) ⟨hx, hb, hml, hown, hts⟩ (c_R_interest l D A w cI cL cD kr hr0 fr up dn r (d_open d) (d_ib d) (td) hR0 hwr) (cwV 3 hts (gV _ mB_287 mB_288 mB_289 mB_16 mB_290) rfl rfl rfl (by decide +kernel) ⟨(Nat.le_of_ble_eq_true rfl), (Nat.le_of_ble_eq_true rfl)⟩) ⟨mPc_bl, va_recv hK hP (ci := 1) (q0 := kr) rfl hR0.1, mPc_pr hP hK hD⟩ rfl rfl hl.1 rfl (lv_room (Nat.le_of_ble_eq_true rfl)) d_D_runningInterest_18 ⟨Nat.zero_le _, Nat.zero_le _⟩) (fun v_86 ev_86 => ?_)
    subst ev_86
    refine lv_goto (tgt := 25) hx hb d_D_runningInterest_21 (by decide) ?_
    exact W.lret (v := (f_R_interest r (d_open d) (d_ib d) (td))) hx hb hr (fun t ht hW => ⟨_, rfl, by rw [f_runningInterest, if_pos c_85], ht⟩) t_nil d_D_runningInterest_25
def f_fixInterest (d : DT) (r : RT) (td : Int32) : DT :=
  (s_ib (s_fixed d ((d_fixed d + (f_runningInterest d r (td))))) ((iMax (d_ib d) (td))))
set_option maxHeartbeats 4000000 in
set_option maxRecDepth 100000 in
theorem c_fixInterest (l : Launch) (D : va_G) (A : Nat → Prop) (w : va_W) (cI cL cD : ClassId) (k h0 hp hq : Nat) (d : DT) (kr hr0 fr up dn : Nat) (r : RT) (td : Int32) (hU0 : dAt w k cI cL h0 hp hq d) (hR0 : rAt w kr cI hr0 fr up dn r) (hkr : kr + 3 < k) (hwr : wfR r) : Met l y_D_fixInterest w_D_fixInterest ({ frames := 3, cells := 0, slots := 0, locals := 77 }) (mPc D w (tyL cI cL cD) A [.ref h0, .ref hr0, .int (td)]) (va_Qv (fun _ : Unit => True) (fun (_ : Unit) t => ∃ w9 : va_W, va_P D vwCl w9 t.heap ∧ va_D A w9 ∧ dUpd w w9 k cI cL h0 hp hq (f_fixInterest d r td)) A) 0 0 A := by
  refine Met.ofW (cc := b_D_fixInterest) (maxL := 3) (ret := none) (by decide) rfl ?_
  intro p e s m args below meth c s₁ B hml hv
  obtain ⟨rfl, hP, hK, hD⟩ := hv
  have hx := B.exec
  have hb := B.bytes
  have hr := B.returns
  have hts := atoms_spec (ws := w_D_fixInterest) B.pre
  have hown : s.vm.findClass R_D = some m.cls := findClass_of_methodNamed B.named
  have hlocks := B.notSynchronized
  have hS : va_S A s.heap s.heap [] := va_S.rf
  have hU : dUpd w w k cI cL h0 hp hq d := dUpd.rf hU0
  have hl := lv_entry ([.ref h0, .ref hr0, .int (td)]) (n := 3) (Nat.le_of_ble_eq_true rfl)
  rw [lg_entry_eq]
  generalize (lg_sl ([.ref h0, .ref hr0, .int (td)]) ++ List.replicate (3 - (lg_sl ([.ref h0, .ref hr0, .int (td)])).length) Slot.unset).toArray = ls at hl ⊢
  have hl : lv_has ls 3 [(0, .ref h0), (1, .ref hr0), (2, .int (td))] := hl
  refine lv_aload_n hx hb d_D_fixInterest_0 rfl (lv_at hl 0 rfl) ?_
  refine lv_dup hx hb d_D_fixInterest_1 rfl ?_
  refine va_get (D := D) (ci := 0) (v := .long (d_fixed d)) (C := R_D) (T := F_D) (N := 15) hx hb hts (in_D _) hown hK hP k hU.o rfl 10 (by decide) (hts (.fieldLink R_D 62 "DebtRows$Debt" "fixedInterest" "J") (List.mem_cons_of_mem _ mB_226)) (fun _ h9 => h9) rfl d_D_fixInterest_2 ?_
  refine lv_aload_n hx hb d_D_fixInterest_5 rfl (lv_at hl 0 rfl) ?_
  refine lv_aload_n hx hb d_D_fixInterest_6 rfl (lv_at hl 1 rfl) ?_
  refine lv_iload_n hx hb d_D_fixInterest_7 rfl (lv_at hl 2 rfl) ?_
  refine vp_callSl (W.runV (As := [.ref hr0, .int (td)]) (rest := [.long (d_fixed d), .ref h0]) ⟨hx, hb, hml, hown, hts⟩ (c_runningInterest l D A w cI cL cD k h0 hp hq d kr hr0 fr up dn r (td) hU.1 hR0 hkr hwr) (cwV 2 hts (gV _ mB_283 mB_284 mB_285 mB_24 mB_286) rfl rfl rfl (by decide +kernel) ⟨(Nat.le_of_ble_eq_true rfl), (Nat.le_of_ble_eq_true rfl)⟩) ⟨mPc_bl, va_recv hK hP (ci := 0) (q0 := k) rfl hU.o, mPc_pr hP hK hD⟩ rfl rfl hl.1 rfl (lv_room (Nat.le_of_ble_eq_true rfl)) d_D_fixInterest_8 ⟨Nat.zero_le _, Nat.zero_le _⟩) (fun v_87 ev_87 => ?_)
  subst ev_87
  refine lv_ladd hx hb d_D_fixInterest_11 ?_
  refine va_put (D := D) (ci := 0) (v := .long ((d_fixed d + (f_runningInterest d r (td))))) (ty := .long) (C := R_D) (T := F_D) (N := 15) hx hb hts (in_D _) t_D to_D nn_D hown hK hP hD hS k hU.o rfl 10 (by decide) (hts (.fieldLink R_D 62 "DebtRows$Debt" "fixedInterest" "J") (List.mem_cons_of_mem _ mB_226)) (fun _ h9 => h9) rfl (by decide +kernel) rfl rfl (Nat.le_of_ble_eq_true rfl) d_D_fixInterest_12 (fun H locs hP hD hS => ?_)
  have hU := hU.so (s_fixed d ((d_fixed d + (f_runningInterest d r (td))))) rfl rfl
  have hP : va_P D vwCl (w.set k (h0, dE hp hq (s_fixed d ((d_fixed d + (f_runningInterest d r (td))))))) H := hP
  have hD : va_D A (w.set k (h0, dE hp hq (s_fixed d ((d_fixed d + (f_runningInterest d r (td))))))) := hD
  generalize w.set k (h0, dE hp hq (s_fixed d ((d_fixed d + (f_runningInterest d r (td)))))) = w_88 at hP hD hU
  refine lv_aload_n hx hb d_D_fixInterest_15 rfl (lv_at hl 0 rfl) ?_
  refine lv_aload_n hx hb d_D_fixInterest_16 rfl (lv_at hl 0 rfl) ?_
  refine va_get (D := D) (ci := 0) (v := .int (d_ib d)) (C := R_D) (T := F_D) (N := 15) hx hb hts (in_D _) hown hK hP k hU.o rfl 7 (by decide) (hts (.fieldLink R_D 53 "DebtRows$Debt" "interestBehind" "I") (List.mem_cons_of_mem _ mB_220)) (fun _ h9 => h9) rfl d_D_fixInterest_17 ?_
  refine lv_iload_n hx hb d_D_fixInterest_20 rfl (lv_at hl 2 rfl) ?_
  refine va_mmax (own := R_D) (index := 47) hx hb (hml.trans hl.1.symm) hown (hts (.methodLink R_D 47 Lib.Math.max.name) (List.mem_cons_of_mem _ mB_265)) (hts (.static Lib.Math.max.name) (List.mem_cons_of_mem _ mB_266)) (hts (.initialized "java/lang/Math") (List.mem_cons_of_mem _ mB_25)) (hts _ (List.mem_cons_of_mem _ mC_max)) (Nat.le_of_ble_eq_true rfl) (Nat.le_of_ble_eq_true rfl) (Nat.le_of_ble_eq_true rfl) (Nat.le_of_ble_eq_true rfl) d_D_fixInterest_21 ?_
  refine lv_topi (fun v_89 ev_89 => ?_)
  have ev_89 : v_89 = iMax (d_ib d) (td) := ev_89
  subst ev_89
  refine va_put (D := D) (ci := 0) (v := .int ((iMax (d_ib d) (td)))) (ty := .int) (C := R_D) (T := F_D) (N := 15) hx hb hts (in_D _) t_D to_D nn_D hown hK hP hD hS k hU.o rfl 7 (by decide) (hts (.fieldLink R_D 53 "DebtRows$Debt" "interestBehind" "I") (List.mem_cons_of_mem _ mB_220)) (fun _ h9 => h9) rfl (by decide +kernel) rfl rfl (Nat.le_of_ble_eq_true rfl) d_D_fixInterest_24 (fun H locs hP hD hS => ?_)
  have hU := hU.so (s_ib (s_fixed d ((d_fixed d + (f_runningInterest d r (td))))) ((iMax (d_ib d) (td)))) rfl rfl
  have hP : va_P D vwCl (w_88.set k (h0, dE hp hq (s_ib (s_fixed d ((d_fixed d + (f_runningInterest d r (td))))) ((iMax (d_ib d) (td)))))) H := hP
  have hD : va_D A (w_88.set k (h0, dE hp hq (s_ib (s_fixed d ((d_fixed d + (f_runningInterest d r (td))))) ((iMax (d_ib d) (td)))))) := hD
  generalize w_88.set k (h0, dE hp hq (s_ib (s_fixed d ((d_fixed d + (f_runningInterest d r (td))))) ((iMax (d_ib d) (td))))) = w_90 at hP hD hU
  exact W.vret hx hb hr (fun t ht hW => ⟨⟨(), rfl, trivial, w_90, by rw [ht]; exact hP, hD, by rw [f_fixInterest]; exact hU⟩, hS.F ht⟩) hS.2.2 d_D_fixInterest_27
