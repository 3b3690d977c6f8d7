theorem mz_ofWH {l : Launch} {y : MethodName} {ws ws' : List Cond} {rm : Room} {Pc : Array Value → State → Prop} {Qc : Array Value → State → Outcome → State → Prop} {mc ms : Nat} {free : Addr → Prop} {cc : ByteArray} {maxL : Nat} {ret : Option FieldType} {hh : List (Nat × Nat × Nat × Nat)}
    (hy : plainName y.cls = true) (hw : ws = Cond.codeWith y cc maxL ret hh :: ws')
    (body : ∀ p e s m args below meth c s1, BodyLoose p l y (headSpec ws rm) cc maxL ret e s m args below meth c s1 → c.maxLocals = maxL → c.exceptionTable.toList = tableOf hh → Pc args s →
      W p l e (headSpec ws rm).room s m args below meth c s.heap [] 0 0 (MQ below Qc args s mc ms free) (entryFrame m args maxL)) : Met l y ws rm Pc Qc mc ms free := by
  refine MetFree.of_bodyS (code := cc) (maxLocals := maxL) (ret := ret) hy ?_ ?_
  · intro args s m h hn
    obtain ⟨m9, meth, c, hn9, h1, h2, h3, h4, -, h5, h6, -⟩ := Cond.codeWith_spec (atoms_spec (ws := ws) h _ (by rw [hw]; exact List.mem_cons_self))
    cases hn.symm.trans hn9
    exact ⟨meth, c, h1, h2, h3, h4, h5, h6⟩
  · intro p e s m args below meth c s1 B hml hP _
    have hh0 : s1.heap = s.heap := by rw [B.state]; rfl
    have hT := vx_table (x := y) B (atoms_spec (ws := ws) B.pre _ (by rw [hw]; exact List.mem_cons_self))
    obtain ⟨t, a1, o, b1, b2, b3⟩ := body p e s m args below meth c s1 B hml hT hP s1 hh0 (Stand.of_body B)
    exact ⟨t, o, a1, b1, b2, ⟨b3.1, b3.2⟩⟩
/-- what the law's handlers need besides: classes that aren't each other's -/
def ncE (U : State) : Prop := va_Nc "java/lang/IllegalArgumentException" "java/lang/ArithmeticException" U ∧ va_Nc "java/lang/IllegalStateException" "java/lang/ArithmeticException" U ∧ va_Nc "java/lang/IllegalStateException" "java/lang/IllegalArgumentException" U
theorem ncE.mv {u U : State} (h : ncE u) (hvm : u.vm.Alike U.vm) : ncE U := ⟨h.1.moved hvm, h.2.1.moved hvm, h.2.2.moved hvm⟩
def hPc (D : va_G) (w : va_W) (tys : List (ClassId × FieldType)) (A : Nat → Prop) (av : List Value) : Array Value → State → Prop := va_Pc av (fun U => va_P D vwCl w U.heap ∧ va_K D vwCl tys U ∧ va_D A w ∧ xEnv A U ∧ (∀ q : Nat, U.heap.size ≤ q → A q) ∧ ncE U)
theorem hPc_bl {D : va_G} {w : va_W} {tys : List (ClassId × FieldType)} {A : Nat → Prop} {av : List Value} : FrameBlind (hPc D w tys A av) := fun a U g mk q => by
  obtain ⟨q0, qP, qK, qD, qE, qA, qN⟩ := q
  exact ⟨q0, qP, va_K.moved (u := U) (U := U.calling g mk a) (Vm.Alike.refl U.vm) qK, qD, qE.mv (U := U.calling g mk a) (va_S.rf (A := A)) rfl (State.WarmedH.refl U), qA, qN.mv (U := U.calling g mk a) (Vm.Alike.refl U.vm)⟩
theorem hPc_pr {D : va_G} {w : va_W} {tys : List (ClassId × FieldType)} {A : Nat → Prop} {av : List Value} {s : State} {H : Heap} {locs : List Loc} (hP : va_P D vwCl w H) (hK : va_K D vwCl tys s) (hD : va_D A w) (hE : xEnv A s) (hS : va_S A s.heap H locs) (hA : ∀ q : Nat, s.heap.size ≤ q → A q) (hN : ncE s) : ∀ U : State, U.heap = H → s.WarmedH U.vm → hPc D w tys A av av.toArray U := fun U hU hW => ⟨rfl, by rw [hU]; exact hP, va_K.moved hW.alike hK, hD, hE.mv hS hU hW, fun q h => hA q (Nat.le_trans hS.1 (by rw [← hU]; exact h)), hN.mv hW.alike⟩
theorem exN1 {a : String} {c : Int32} {E : String} (h : exN [a] c E) : E = a ∧ c = 1 := by
  obtain ⟨k, hk, hc⟩ := h
  match k, hk, hc with
  | 0, hk, hc => cases hk; exact ⟨rfl, hc⟩
  | k + 1, hk, _ => simp at hk
theorem exN2 {a b : String} {c : Int32} {E : String} (h : exN [a, b] c E) : (E = a ∧ c = 1) ∨ (E = b ∧ c = 2) := by
  obtain ⟨k, hk, hc⟩ := h
  match k, hk, hc with
  | 0, hk, hc => cases hk; exact Or.inl ⟨rfl, hc⟩
  | 1, hk, hc => cases hk; exact Or.inr ⟨rfl, hc⟩
  | k + 2, hk, _ => simp at hk
theorem exN3 {a b d : String} {c : Int32} {E : String} (h : exN [a, b, d] c E) : (E = a ∧ c = 1) ∨ (E = b ∧ c = 2) ∨ (E = d ∧ c = 3) := by
  obtain ⟨k, hk, hc⟩ := h
  match k, hk, hc with
  | 0, hk, hc => cases hk; exact Or.inl ⟨rfl, hc⟩
  | 1, hk, hc => cases hk; exact Or.inr (Or.inl ⟨rfl, hc⟩)
  | 2, hk, hc => cases hk; exact Or.inr (Or.inr ⟨rfl, hc⟩)
  | k + 3, hk, _ => simp at hk
theorem cA.kb {w w1 : va_W} {b : Nat} {cI cL cD : ClassId} {a : AD} {z : XT} (h : cA w b cI cL cD a z) (hl : w1.length = w.length) (hk : ∀ j, b ≤ j → w1[j]? = w[j]?) : cA w1 b cI cL cD a z := by
  obtain ⟨⟨h1, h2, h3, h4⟩, ⟨h5, h6, h7, h8⟩, h9⟩ := h
  exact ⟨⟨by rw [hk _ (by omega)]; exact h1, h2.kx (fun j _ _ => hk j (by omega)), by rw [hk _ (by omega)]; exact h3, by rw [hk _ (by omega)]; exact h4⟩, ⟨h5, h6, hl.trans h7, h8⟩, fun i hi => ⟨(h9 i hi).1, (h9 i hi).2.1.kx (fun j _ _ => hk j (by omega)), (h9 i hi).2.2⟩⟩
theorem cAt.kb {w w1 : va_W} {b : Nat} {cI cL cD : ClassId} {x : Nat} {z : XT} (h : cAt w b cI cL cD x z) (hl : w1.length = w.length) (hk : ∀ j, b ≤ j → w1[j]? = w[j]?) : cAt w1 b cI cL cD x z := by
  obtain ⟨a, ha, h⟩ := h
  exact ⟨a, ha, h.kb hl hk⟩
theorem kz_rate {z : XT} {p0 : Int32} {p1 : Int32} {p2 : Int32} (h : ¬ (f_rate z p0 p1 p2).1 = 0) : (f_rate z p0 p1 p2).2.2 = z := by
  revert h
  unfold f_rate
  repeat' split
  all_goals (intro h; first | rfl | exact absurd rfl h)
set_option maxHeartbeats 4000000 in
set_option maxRecDepth 100000 in
theorem c_L_rate (l : Launch) (hl9 : l.stackTraces = false) (D : va_G) (A : Nat → Prop) (w : va_W) (cI cL cD : ClassId) (b ko oo : Nat) (fo : Nat → Int64) (x : Nat) (z : XT) (p0 : Int32) (p1 : Int32) (p2 : Int32) (hC0 : cAt w b cI cL cD x z) (ho0 : w[ko]? = some (oo, aL cL 1 fo)) (hko : ko < b) : Met l y_L_rate w_L_rate ({ frames := 7, cells := 1, slots := 6, locals := 113 }) (hPc D w (tyL cI cL cD) A [.ref x, .int (p0), .int (p1), .int (p2), .ref oo]) (va_Qi (fun z9 (_ : Unit) => z9 = (f_rate z p0 p1 p2).1) (fun (_ : Unit) t => ∃ (w9 : va_W) (fo9 : Nat → Int64), va_P D vwCl w9 t.heap ∧ va_D A w9 ∧ cAt w9 b cI cL cD x (f_rate z p0 p1 p2).2.2 ∧ w9[ko]? = some (oo, aL cL 1 fo9) ∧ ((f_rate z p0 p1 p2).1 = 0 → fo9 0 = ((f_rate z p0 p1 p2).2.1).toInt64) ∧ ∀ j, j < b → j ≠ ko → w9[j]? = w[j]?) A) 1 6 A := by
  obtain ⟨a, rfl, hC1⟩ := hC0
  refine mz_ofWH (cc := b_L_rate) (maxL := 6) (ret := (some .int)) (hh := [(0, 12, 15, 13), (0, 12, 19, 15), (0, 12, 23, 17)]) (by decide) rfl ?_
  intro p e s m args below meth c s₁ B hml hTab hv
  obtain ⟨rfl, hP, hK, hD, hE, hA, hN⟩ := hv
  have hx := B.exec
  have hb := B.bytes
  have hr := B.returns
  have hts := atoms_spec (ws := w_L_rate) B.pre
  have hown : s.vm.findClass R_L = some m.cls := findClass_of_methodNamed B.named
  have hlocks := B.notSynchronized
  have hS : va_S A s.heap s.heap [] := va_S.rf
  have hl := lv_entry ([.ref (a_x a), .int (p0), .int (p1), .int (p2), .ref oo]) (n := 6) (Nat.le_of_ble_eq_true rfl)
  rw [lg_entry_eq]
  generalize (lg_sl ([.ref (a_x a), .int (p0), .int (p1), .int (p2), .ref oo]) ++ List.replicate (6 - (lg_sl ([.ref (a_x a), .int (p0), .int (p1), .int (p2), .ref oo])).length) Slot.unset).toArray = ls at hl ⊢
  have hl : lv_has ls 6 [(0, .ref (a_x a)), (1, .int (p0)), (2, .int (p1)), (3, .int (p2)), (4, .ref oo)] := hl
  refine lv_aload hx hb d_L_rate_0 (lv_at hl 4 rfl) ?_
  refine lv_iconst (v := 0) hx hb d_L_rate_2 (by decide) ?_
  refine lv_aload_n hx hb d_L_rate_3 rfl (lv_at hl 0 rfl) ?_
  refine lv_iload_n hx hb d_L_rate_4 rfl (lv_at hl 1 rfl) ?_
  refine lv_iload_n hx hb d_L_rate_5 rfl (lv_at hl 2 rfl) ?_
  refine lv_iload_n hx hb d_L_rate_6 rfl (lv_at hl 3 rfl) ?_
  refine vx_calli (vx_runV (As := [.int (p0), .int (p1), .int (p2)]) (rest := [.int (0), .ref oo]) ⟨hx, hb, hml, hown, hts⟩ (c_rate l hl9 D A w cI cL cD b a z p0 p1 p2 hC1) (cwV 3 hts (gV _ mB_100 mB_101 mB_102 mB_15 mB_103) rfl rfl rfl (by decide +kernel) ⟨(Nat.le_of_ble_eq_true rfl), (Nat.le_of_ble_eq_true rfl)⟩) ⟨ePc_bl, va_recv hK hP (ci := 2) (q0 := b) rfl hC1.x, ePc_pr hP hK hD hE hS⟩ rfl rfl hl.1 rfl (lv_room (Nat.le_of_ble_eq_true rfl)) d_L_rate_7 ⟨(Nat.le_of_ble_eq_true rfl), (Nat.le_of_ble_eq_true rfl)⟩) hS (fun _ _ h => h) (fun _ h => h) (fun _ _ h => h) (fun E9 ce q9 u9 t H locs ht hvm hp9 hB hz1 hk1 hS hce hcv hcl => ?_) (fun v9 u9 t H locs ht hvm hp9 hB hz1 hk1 hS => ?_)
  · obtain ⟨hex, hP⟩ := hB
    rw [ht] at hP
    rcases exN3 hex with ⟨rfl, hc9⟩ | ⟨rfl, hc9⟩ | ⟨rfl, hc9⟩
    · refine vx_catch (own := R_L) (name := "java/lang/ArithmeticException") (E := "java/lang/ArithmeticException") hown [] ⟨0, 12, 15, 13⟩ [⟨0, 12, 19, 15⟩, ⟨0, 12, 23, 17⟩] (by rw [hTab]; rfl) (fun z9 hz9 => absurd hz9 List.not_mem_nil) (by decide) (by decide) (hts (.classLink R_L 13 "java/lang/ArithmeticException") (List.mem_cons_of_mem _ mB_97)) (bad_use (by decide) (hE.2.2.1 (.castable "java/lang/ArithmeticException" "java/lang/ArithmeticException") (by decide))) hce hcv hcl ?_
      refine lv_astore (lv' := [(5, .ref q9), (0, .ref (a_x a)), (1, .int (p0)), (2, .int (p1)), (3, .int (p2)), (4, .ref oo)]) hx hb d_L_rate_15 hl (by decide) rfl (fun ls hl => ?_)
      refine lv_iconst (v := 1) hx hb d_L_rate_17 (by decide) ?_
      refine W.widen (k := 1) (n := 6) (Nat.le_of_ble_eq_true rfl) (Nat.le_of_ble_eq_true rfl) ?_
      exact W.iret (v := 1) hx hb hr (fun t ht hW => ⟨⟨_, (), rfl, hc9.symm, w, fo, by rw [ht]; exact hP, hD, by rw [kz_rate (by rw [hc9]; decide)]; exact ⟨a, rfl, hC1⟩, ho0, fun h9 => absurd (hc9.symm.trans h9) (by decide), fun _ _ _ => rfl⟩, hS.F ht⟩) hS.2.2 d_L_rate_18
    · refine vx_catch (own := R_L) (name := "java/lang/IllegalArgumentException") (E := "java/lang/IllegalArgumentException") hown [⟨0, 12, 15, 13⟩] ⟨0, 12, 19, 15⟩ [⟨0, 12, 23, 17⟩] (by rw [hTab]; rfl) (fun z9 hz9 => by simp only [List.mem_cons, List.not_mem_nil, or_false] at hz9; subst hz9; exact Or.inr ⟨by decide, "java/lang/ArithmeticException", hts (.classLink R_L 13 "java/lang/ArithmeticException") (by decide +kernel), hN.1⟩) (by decide) (by decide) (hts (.classLink R_L 15 "java/lang/IllegalArgumentException") (List.mem_cons_of_mem _ mB_98)) (bad_use (by decide) (hE.2.2.1 (.castable "java/lang/IllegalArgumentException" "java/lang/IllegalArgumentException") (by decide))) hce hcv hcl ?_
      refine lv_astore (lv' := [(5, .ref q9), (0, .ref (a_x a)), (1, .int (p0)), (2, .int (p1)), (3, .int (p2)), (4, .ref oo)]) hx hb d_L_rate_19 hl (by decide) rfl (fun ls hl => ?_)
      refine lv_iconst (v := 2) hx hb d_L_rate_21 (by decide) ?_
      refine W.widen (k := 1) (n := 6) (Nat.le_of_ble_eq_true rfl) (Nat.le_of_ble_eq_true rfl) ?_
      exact W.iret (v := 2) hx hb hr (fun t ht hW => ⟨⟨_, (), rfl, hc9.symm, w, fo, by rw [ht]; exact hP, hD, by rw [kz_rate (by rw [hc9]; decide)]; exact ⟨a, rfl, hC1⟩, ho0, fun h9 => absurd (hc9.symm.trans h9) (by decide), fun _ _ _ => rfl⟩, hS.F ht⟩) hS.2.2 d_L_rate_22
    · refine vx_catch (own := R_L) (name := "java/lang/IllegalStateException") (E := "java/lang/IllegalStateException") hown [⟨0, 12, 15, 13⟩, ⟨0, 12, 19, 15⟩] ⟨0, 12, 23, 17⟩ [] (by rw [hTab]; rfl) (fun z9 hz9 => by simp only [List.mem_cons, List.not_mem_nil, or_false] at hz9; exact hz9.elim (fun e9 => by subst e9; exact Or.inr ⟨by decide, "java/lang/ArithmeticException", hts (.classLink R_L 13 "java/lang/ArithmeticException") (by decide +kernel), hN.2.1⟩) (fun e9 => by subst e9; exact Or.inr ⟨by decide, "java/lang/IllegalArgumentException", hts (.classLink R_L 15 "java/lang/IllegalArgumentException") (by decide +kernel), hN.2.2⟩)) (by decide) (by decide) (hts (.classLink R_L 17 "java/lang/IllegalStateException") (List.mem_cons_of_mem _ mB_99)) (bad_use (by decide) (hE.2.2.1 (.castable "java/lang/IllegalStateException" "java/lang/IllegalStateException") (by decide))) hce hcv hcl ?_
      refine lv_astore (lv' := [(5, .ref q9), (0, .ref (a_x a)), (1, .int (p0)), (2, .int (p1)), (3, .int (p2)), (4, .ref oo)]) hx hb d_L_rate_23 hl (by decide) rfl (fun ls hl => ?_)
      refine lv_iconst (v := 3) hx hb d_L_rate_25 (by decide) ?_
      refine W.widen (k := 1) (n := 6) (Nat.le_of_ble_eq_true rfl) (Nat.le_of_ble_eq_true rfl) ?_
      exact W.iret (v := 3) hx hb hr (fun t ht hW => ⟨⟨_, (), rfl, hc9.symm, w, fo, by rw [ht]; exact hP, hD, by rw [kz_rate (by rw [hc9]; decide)]; exact ⟨a, rfl, hC1⟩, ho0, fun h9 => absurd (hc9.symm.trans h9) (by decide), fun _ _ _ => rfl⟩, hS.F ht⟩) hS.2.2 d_L_rate_26
  · obtain ⟨hc9, ev9⟩ := hp9
    obtain ⟨w8, hP, hD, hC8, hb8⟩ := hB
    rw [ht] at hP
    refine lv_i2l hx hb d_L_rate_10 rfl ?_
    refine va_last hx hb hK hP hD hS (ko) 1 ((hb8 ko hko).trans ho0) rfl (vp_in_nI (n := 0) (by decide) (by decide)) d_L_rate_11 (fun H locs hP hD hS => ?_)
    have hP : va_P D vwCl (w8.set ko (oo, aL cL 1 (vp_updL fo (0 : Int32).toNatClampNeg ((v9 : Int32).toInt64)))) H := hP
    have hD : va_D A (w8.set ko (oo, aL cL 1 (vp_updL fo (0 : Int32).toNatClampNeg ((v9 : Int32).toInt64)))) := hD
    have hC8 : cAt (w8.set ko (oo, aL cL 1 (vp_updL fo (0 : Int32).toNatClampNeg ((v9 : Int32).toInt64)))) b cI cL cD (a_x a) (f_rate z p0 p1 p2).2.2 := hC8.kb (by rw [List.length_set]) (fun j hj => ws_n (by omega))
    have ho8 : (w8.set ko (oo, aL cL 1 (vp_updL fo (0 : Int32).toNatClampNeg ((v9 : Int32).toInt64))))[ko]? = some (oo, aL cL 1 (vp_updL fo (0 : Int32).toNatClampNeg ((v9 : Int32).toInt64))) := ws_s ((hb8 ko hko).trans ho0)
    have hb8 : ∀ j, j < b → j ≠ ko → (w8.set ko (oo, aL cL 1 (vp_updL fo (0 : Int32).toNatClampNeg ((v9 : Int32).toInt64))))[j]? = w[j]? := fun j hj hj2 => (ws_n (Ne.symm hj2)).trans (hb8 j hj)
    generalize w8.set ko (oo, aL cL 1 (vp_updL fo (0 : Int32).toNatClampNeg ((v9 : Int32).toInt64))) = w9 at hP hD hC8 ho8 hb8
    refine lv_goto (tgt := 27) hx hb d_L_rate_12 (by decide) ?_
    refine lv_iconst (v := 0) hx hb d_L_rate_27 (by decide) ?_
    refine W.widen (k := 1) (n := 6) (Nat.le_of_ble_eq_true rfl) (Nat.le_of_ble_eq_true rfl) ?_
    exact W.iret (v := 0) hx hb hr (fun t ht hW => ⟨⟨_, (), rfl, hc9.symm, w9, _, by rw [ht]; exact hP, hD, hC8, ho8, fun _ => by rw [← ev9]; exact pk_uLs, hb8⟩, hS.F ht⟩) hS.2.2 d_L_rate_28
theorem kz_debt {z : XT} {p0 : Int64} {p1 : Int32} (h : ¬ (f_debt z p0 p1).1 = 0) : (f_debt z p0 p1).2.2 = z := by
  revert h
  unfold f_debt
  repeat' split
  all_goals (intro h; first | rfl | exact absurd rfl h)
set_option maxHeartbeats 4000000 in
set_option maxRecDepth 100000 in
theorem c_L_debt (l : Launch) (hl9 : l.stackTraces = false) (D : va_G) (A : Nat → Prop) (w : va_W) (cI cL cD : ClassId) (b ko oo : Nat) (fo : Nat → Int64) (x : Nat) (z : XT) (p0 : Int64) (p1 : Int32) (hC0 : cAt w b cI cL cD x z) (ho0 : w[ko]? = some (oo, aL cL 1 fo)) (hko : ko < b) : Met l y_L_debt w_L_debt ({ frames := 7, cells := 3, slots := 23, locals := 114 }) (hPc D w (tyL cI cL cD) A [.ref x, .long (p0), .int (p1), .ref oo]) (va_Qi (fun z9 (_ : Unit) => z9 = (f_debt z p0 p1).1) (fun (_ : Unit) t => ∃ (w9 : va_W) (fo9 : Nat → Int64), va_P D vwCl w9 t.heap ∧ va_D A w9 ∧ cAt w9 b cI cL cD x (f_debt z p0 p1).2.2 ∧ w9[ko]? = some (oo, aL cL 1 fo9) ∧ ((f_debt z p0 p1).1 = 0 → fo9 0 = ((f_debt z p0 p1).2.1).toInt64) ∧ ∀ j, j < b → j ≠ ko → w9[j]? = w[j]?) A) 3 23 A := by
  obtain ⟨a, rfl, hC1⟩ := hC0
  refine mz_ofWH (cc := b_L_debt) (maxL := 6) (ret := (some .int)) (hh := [(0, 11, 14, 15), (0, 11, 18, 17)]) (by decide) rfl ?_
  intro p e s m args below meth c s₁ B hml hTab hv
  obtain ⟨rfl, hP, hK, hD, hE, hA, hN⟩ := hv
  have hx := B.exec
  have hb := B.bytes
  have hr := B.returns
  have hts := atoms_spec (ws := w_L_debt) B.pre
  have hown : s.vm.findClass R_L = some m.cls := findClass_of_methodNamed B.named
  have hlocks := B.notSynchronized
  have hS : va_S A s.heap s.heap [] := va_S.rf
  have hl := lv_entry ([.ref (a_x a), .long (p0), .int (p1), .ref oo]) (n := 6) (Nat.le_of_ble_eq_true rfl)
  rw [lg_entry_eq]
  generalize (lg_sl ([.ref (a_x a), .long (p0), .int (p1), .ref oo]) ++ List.replicate (6 - (lg_sl ([.ref (a_x a), .long (p0), .int (p1), .ref oo])).length) Slot.unset).toArray = ls at hl ⊢
  have hl : lv_has ls 6 [(0, .ref (a_x a)), (1, .long (p0)), (3, .int (p1)), (4, .ref oo)] := hl
  refine lv_aload hx hb d_L_debt_0 (lv_at hl 3 rfl) ?_
  refine lv_iconst (v := 0) hx hb d_L_debt_2 (by decide) ?_
  refine lv_aload_n hx hb d_L_debt_3 rfl (lv_at hl 0 rfl) ?_
  refine lv_lload_n hx hb d_L_debt_4 rfl (lv_at hl 1 rfl) ?_
  refine lv_iload_n hx hb d_L_debt_5 rfl (lv_at hl 2 rfl) ?_
  refine vx_calli (vx_runV (As := [.long (p0), .int (p1)]) (rest := [.int (0), .ref oo]) ⟨hx, hb, hml, hown, hts⟩ (c_debt l hl9 D A w cI cL cD b a z p0 p1 hC1) (cwV 2 hts (gV _ mB_195 mB_196 mB_197 mB_15 mB_198) rfl rfl rfl (by decide +kernel) ⟨(Nat.le_of_ble_eq_true rfl), (Nat.le_of_ble_eq_true rfl)⟩) ⟨fPc_bl, va_recv hK hP (ci := 2) (q0 := b) rfl hC1.x, fPc_pr hP hK hD hE hS hA⟩ rfl rfl hl.1 rfl (lv_room (Nat.le_of_ble_eq_true rfl)) d_L_debt_6 ⟨(Nat.le_of_ble_eq_true rfl), (Nat.le_of_ble_eq_true rfl)⟩) hS (fun _ _ h => h) (fun _ h => h) (fun _ _ h => h) (fun E9 ce q9 u9 t H locs ht hvm hp9 hB hz1 hk1 hS hce hcv hcl => ?_) (fun v9 u9 t H locs ht hvm hp9 hB hz1 hk1 hS => ?_)
  · obtain ⟨hex, hP⟩ := hB
    rw [ht] at hP
    rcases exN2 hex with ⟨rfl, hc9⟩ | ⟨rfl, hc9⟩
    · refine vx_catch (own := R_L) (name := "java/lang/IllegalArgumentException") (E := "java/lang/IllegalArgumentException") hown [] ⟨0, 11, 14, 15⟩ [⟨0, 11, 18, 17⟩] (by rw [hTab]; rfl) (fun z9 hz9 => absurd hz9 List.not_mem_nil) (by decide) (by decide) (hts (.classLink R_L 15 "java/lang/IllegalArgumentException") (List.mem_cons_of_mem _ mB_98)) (bad_use (by decide) (hE.2.2.1 (.castable "java/lang/IllegalArgumentException" "java/lang/IllegalArgumentException") (by decide))) hce hcv hcl ?_
      refine lv_astore (lv' := [(5, .ref q9), (0, .ref (a_x a)), (1, .long (p0)), (3, .int (p1)), (4, .ref oo)]) hx hb d_L_debt_14 hl (by decide) rfl (fun ls hl => ?_)
      refine lv_iconst (v := 1) hx hb d_L_debt_16 (by decide) ?_
      refine W.widen (k := 3) (n := 23) (Nat.le_of_ble_eq_true rfl) (Nat.le_of_ble_eq_true rfl) ?_
      exact W.iret (v := 1) hx hb hr (fun t ht hW => ⟨⟨_, (), rfl, hc9.symm, w, fo, by rw [ht]; exact hP, hD, by rw [kz_debt (by rw [hc9]; decide)]; exact ⟨a, rfl, hC1⟩, ho0, fun h9 => absurd (hc9.symm.trans h9) (by decide), fun _ _ _ => rfl⟩, hS.F ht⟩) hS.2.2 d_L_debt_17
    · refine vx_catch (own := R_L) (name := "java/lang/IllegalStateException") (E := "java/lang/IllegalStateException") hown [⟨0, 11, 14, 15⟩] ⟨0, 11, 18, 17⟩ [] (by rw [hTab]; rfl) (fun z9 hz9 => by simp only [List.mem_cons, List.not_mem_nil, or_false] at hz9; subst hz9; exact Or.inr ⟨by decide, "java/lang/IllegalArgumentException", hts (.classLink R_L 15 "java/lang/IllegalArgumentException") (by decide +kernel), hN.2.2⟩) (by decide) (by decide) (hts (.classLink R_L 17 "java/lang/IllegalStateException") (List.mem_cons_of_mem _ mB_99)) (bad_use (by decide) (hE.2.2.1 (.castable "java/lang/IllegalStateException" "java/lang/IllegalStateException") (by decide))) hce hcv hcl ?_
      refine lv_astore (lv' := [(5, .ref q9), (0, .ref (a_x a)), (1, .long (p0)), (3, .int (p1)), (4, .ref oo)]) hx hb d_L_debt_18 hl (by decide) rfl (fun ls hl => ?_)
      refine lv_iconst (v := 2) hx hb d_L_debt_20 (by decide) ?_
      refine W.widen (k := 3) (n := 23) (Nat.le_of_ble_eq_true rfl) (Nat.le_of_ble_eq_true rfl) ?_
      exact W.iret (v := 2) hx hb hr (fun t ht hW => ⟨⟨_, (), rfl, hc9.symm, w, fo, by rw [ht]; exact hP, hD, by rw [kz_debt (by rw [hc9]; decide)]; exact ⟨a, rfl, hC1⟩, ho0, fun h9 => absurd (hc9.symm.trans h9) (by decide), fun _ _ _ => rfl⟩, hS.F ht⟩) hS.2.2 d_L_debt_21
  · obtain ⟨hc9, ev9⟩ := hp9
    obtain ⟨w8, hP, hD, hC8, hb8⟩ := hB
    rw [ht] at hP
    refine lv_i2l hx hb d_L_debt_9 rfl ?_
    refine va_last hx hb hK hP hD hS (ko) 1 ((hb8 ko hko).trans ho0) rfl (vp_in_nI (n := 0) (by decide) (by decide)) d_L_debt_10 (fun H locs hP hD hS => ?_)
    have hP : va_P D vwCl (w8.set ko (oo, aL cL 1 (vp_updL fo (0 : Int32).toNatClampNeg ((v9 : Int32).toInt64)))) H := hP
    have hD : va_D A (w8.set ko (oo, aL cL 1 (vp_updL fo (0 : Int32).toNatClampNeg ((v9 : Int32).toInt64)))) := hD
    have hC8 : cAt (w8.set ko (oo, aL cL 1 (vp_updL fo (0 : Int32).toNatClampNeg ((v9 : Int32).toInt64)))) b cI cL cD (a_x a) (f_debt z p0 p1).2.2 := hC8.kb (by rw [List.length_set]) (fun j hj => ws_n (by omega))
    have ho8 : (w8.set ko (oo, aL cL 1 (vp_updL fo (0 : Int32).toNatClampNeg ((v9 : Int32).toInt64))))[ko]? = some (oo, aL cL 1 (vp_updL fo (0 : Int32).toNatClampNeg ((v9 : Int32).toInt64))) := ws_s ((hb8 ko hko).trans ho0)
    have hb8 : ∀ j, j < b → j ≠ ko → (w8.set ko (oo, aL cL 1 (vp_updL fo (0 : Int32).toNatClampNeg ((v9 : Int32).toInt64))))[j]? = w[j]? := fun j hj hj2 => (ws_n (Ne.symm hj2)).trans (hb8 j hj)
    generalize w8.set ko (oo, aL cL 1 (vp_updL fo (0 : Int32).toNatClampNeg ((v9 : Int32).toInt64))) = w9 at hP hD hC8 ho8 hb8
    refine lv_goto (tgt := 22) hx hb d_L_debt_11 (by decide) ?_
    refine lv_iconst (v := 0) hx hb d_L_debt_22 (by decide) ?_
    refine W.widen (k := 3) (n := 23) (Nat.le_of_ble_eq_true rfl) (Nat.le_of_ble_eq_true rfl) ?_
    exact W.iret (v := 0) hx hb hr (fun t ht hW => ⟨⟨_, (), rfl, hc9.symm, w9, _, by rw [ht]; exact hP, hD, hC8, ho8, fun _ => by rw [← ev9]; exact pk_uLs, hb8⟩, hS.F ht⟩) hS.2.2 d_L_debt_23
theorem kz_notified {z : XT} {p0 : Int32} (h : ¬ (f_notified z p0).1 = 0) : (f_notified z p0).2.2 = z := by
  revert h
  unfold f_notified
  repeat' split
  all_goals (intro h; first | rfl | exact absurd rfl h)
set_option maxHeartbeats 4000000 in
set_option maxRecDepth 100000 in
theorem c_L_notified (l : Launch) (hl9 : l.stackTraces = false) (D : va_G) (A : Nat → Prop) (w : va_W) (cI cL cD : ClassId) (b ko oo : Nat) (fo : Nat → Int64) (x : Nat) (z : XT) (p0 : Int32) (hC0 : cAt w b cI cL cD x z) (ho0 : w[ko]? = some (oo, aL cL 1 fo)) (hko : ko < b) : Met l y_L_notified w_L_notified ({ frames := 8, cells := 1, slots := 6, locals := 134 }) (hPc D w (tyL cI cL cD) A [.ref x, .int (p0), .ref oo]) (va_Qi (fun z9 (_ : Unit) => z9 = (f_notified z p0).1) (fun (_ : Unit) t => ∃ (w9 : va_W) (fo9 : Nat → Int64), va_P D vwCl w9 t.heap ∧ va_D A w9 ∧ cAt w9 b cI cL cD x (f_notified z p0).2.2 ∧ w9[ko]? = some (oo, aL cL 1 fo9) ∧ ((f_notified z p0).1 = 0 → fo9 0 = ((f_notified z p0).2.1).toInt64) ∧ ∀ j, j < b → j ≠ ko → w9[j]? = w[j]?) A) 1 6 A := by
  obtain ⟨a, rfl, hC1⟩ := hC0
  refine mz_ofWH (cc := b_L_notified) (maxL := 4) (ret := (some .int)) (hh := [(0, 9, 12, 15)]) (by decide) rfl ?_
  intro p e s m args below meth c s₁ B hml hTab hv
  obtain ⟨rfl, hP, hK, hD, hE, hA, hN⟩ := hv
  have hx := B.exec
  have hb := B.bytes
  have hr := B.returns
  have hts := atoms_spec (ws := w_L_notified) B.pre
  have hown : s.vm.findClass R_L = some m.cls := findClass_of_methodNamed B.named
  have hlocks := B.notSynchronized
  have hS : va_S A s.heap s.heap [] := va_S.rf
  have hl := lv_entry ([.ref (a_x a), .int (p0), .ref oo]) (n := 4) (Nat.le_of_ble_eq_true rfl)
  rw [lg_entry_eq]
  generalize (lg_sl ([.ref (a_x a), .int (p0), .ref oo]) ++ List.replicate (4 - (lg_sl ([.ref (a_x a), .int (p0), .ref oo])).length) Slot.unset).toArray = ls at hl ⊢
  have hl : lv_has ls 4 [(0, .ref (a_x a)), (1, .int (p0)), (2, .ref oo)] := hl
  refine lv_aload_n hx hb d_L_notified_0 rfl (lv_at hl 2 rfl) ?_
  refine lv_iconst (v := 0) hx hb d_L_notified_1 (by decide) ?_
  refine lv_aload_n hx hb d_L_notified_2 rfl (lv_at hl 0 rfl) ?_
  refine lv_iload_n hx hb d_L_notified_3 rfl (lv_at hl 1 rfl) ?_
  refine vx_calli (vx_runV (As := [.int (p0)]) (rest := [.int (0), .ref oo]) ⟨hx, hb, hml, hown, hts⟩ (c_notified l hl9 D A w cI cL cD b a z p0 hC1) (cwV 1 hts (gV _ mB_250 mB_251 mB_252 mB_15 mB_253) rfl rfl rfl (by decide +kernel) ⟨(Nat.le_of_ble_eq_true rfl), (Nat.le_of_ble_eq_true rfl)⟩) ⟨ePc_bl, va_recv hK hP (ci := 2) (q0 := b) rfl hC1.x, ePc_pr hP hK hD hE hS⟩ rfl rfl hl.1 rfl (lv_room (Nat.le_of_ble_eq_true rfl)) d_L_notified_4 ⟨(Nat.le_of_ble_eq_true rfl), (Nat.le_of_ble_eq_true rfl)⟩) hS (fun _ _ h => h) (fun _ h => h) (fun _ _ h => h) (fun E9 ce q9 u9 t H locs ht hvm hp9 hB hz1 hk1 hS hce hcv hcl => ?_) (fun v9 u9 t H locs ht hvm hp9 hB hz1 hk1 hS => ?_)
  · obtain ⟨hex, hP⟩ := hB
    rw [ht] at hP
    obtain ⟨rfl, hc9⟩ := exN1 hex
    refine vx_catch (own := R_L) (name := "java/lang/IllegalArgumentException") (E := "java/lang/IllegalArgumentException") hown [] ⟨0, 9, 12, 15⟩ [] (by rw [hTab]; rfl) (fun z9 hz9 => absurd hz9 List.not_mem_nil) (by decide) (by decide) (hts (.classLink R_L 15 "java/lang/IllegalArgumentException") (List.mem_cons_of_mem _ mB_98)) (bad_use (by decide) (hE.2.2.1 (.castable "java/lang/IllegalArgumentException" "java/lang/IllegalArgumentException") (by decide))) hce hcv hcl ?_
    refine lv_astore_n (lv' := [(3, .ref q9), (0, .ref (a_x a)), (1, .int (p0)), (2, .ref oo)]) hx hb d_L_notified_12 rfl hl (by decide) rfl (fun ls hl => ?_)
    refine lv_iconst (v := 1) hx hb d_L_notified_13 (by decide) ?_
    refine W.widen (k := 1) (n := 6) (Nat.le_of_ble_eq_true rfl) (Nat.le_of_ble_eq_true rfl) ?_
    exact W.iret (v := 1) hx hb hr (fun t ht hW => ⟨⟨_, (), rfl, hc9.symm, w, fo, by rw [ht]; exact hP, hD, by rw [kz_notified (by rw [hc9]; decide)]; exact ⟨a, rfl, hC1⟩, ho0, fun h9 => absurd (hc9.symm.trans h9) (by decide), fun _ _ _ => rfl⟩, hS.F ht⟩) hS.2.2 d_L_notified_14
  · obtain ⟨hc9, ev9⟩ := hp9
    obtain ⟨w8, hP, hD, hC8, hb8⟩ := hB
    rw [ht] at hP
    refine lv_i2l hx hb d_L_notified_7 rfl ?_
    refine va_last hx hb hK hP hD hS (ko) 1 ((hb8 ko hko).trans ho0) rfl (vp_in_nI (n := 0) (by decide) (by decide)) d_L_notified_8 (fun H locs hP hD hS => ?_)
    have hP : va_P D vwCl (w8.set ko (oo, aL cL 1 (vp_updL fo (0 : Int32).toNatClampNeg ((v9 : Int32).toInt64)))) H := hP
    have hD : va_D A (w8.set ko (oo, aL cL 1 (vp_updL fo (0 : Int32).toNatClampNeg ((v9 : Int32).toInt64)))) := hD
    have hC8 : cAt (w8.set ko (oo, aL cL 1 (vp_updL fo (0 : Int32).toNatClampNeg ((v9 : Int32).toInt64)))) b cI cL cD (a_x a) (f_notified z p0).2.2 := hC8.kb (by rw [List.length_set]) (fun j hj => ws_n (by omega))
    have ho8 : (w8.set ko (oo, aL cL 1 (vp_updL fo (0 : Int32).toNatClampNeg ((v9 : Int32).toInt64))))[ko]? = some (oo, aL cL 1 (vp_updL fo (0 : Int32).toNatClampNeg ((v9 : Int32).toInt64))) := ws_s ((hb8 ko hko).trans ho0)
    have hb8 : ∀ j, j < b → j ≠ ko → (w8.set ko (oo, aL cL 1 (vp_updL fo (0 : Int32).toNatClampNeg ((v9 : Int32).toInt64))))[j]? = w[j]? := fun j hj hj2 => (ws_n (Ne.symm hj2)).trans (hb8 j hj)
    generalize w8.set ko (oo, aL cL 1 (vp_updL fo (0 : Int32).toNatClampNeg ((v9 : Int32).toInt64))) = w9 at hP hD hC8 ho8 hb8
    refine lv_goto (tgt := 15) hx hb d_L_notified_9 (by decide) ?_
    refine lv_iconst (v := 0) hx hb d_L_notified_15 (by decide) ?_
    refine W.widen (k := 1) (n := 6) (Nat.le_of_ble_eq_true rfl) (Nat.le_of_ble_eq_true rfl) ?_
    exact W.iret (v := 0) hx hb hr (fun t ht hW => ⟨⟨_, (), rfl, hc9.symm, w9, _, by rw [ht]; exact hP, hD, hC8, ho8, fun _ => by rw [← ev9]; exact pk_uLs, hb8⟩, hS.F ht⟩) hS.2.2 d_L_notified_16
theorem kz_pay {z : XT} {p0 : Int32} {p1 : Int64} (h : ¬ (f_pay z p0 p1).1 = 0) : (f_pay z p0 p1).2.2 = z := by
  revert h
  unfold f_pay
  repeat' split
  all_goals (intro h; first | rfl | exact absurd rfl h)
set_option maxHeartbeats 4000000 in
set_option maxRecDepth 100000 in
theorem c_L_pay (l : Launch) (hl9 : l.stackTraces = false) (D : va_G) (A : Nat → Prop) (w : va_W) (cI cL cD : ClassId) (b ko oo : Nat) (fo : Nat → Int64) (x : Nat) (z : XT) (p0 : Int32) (p1 : Int64) (hC0 : cAt w b cI cL cD x z) (ho0 : w[ko]? = some (oo, aL cL 1 fo)) (hko : ko < b) : Met l y_L_pay w_L_pay ({ frames := 7, cells := 1, slots := 6, locals := 127 }) (hPc D w (tyL cI cL cD) A [.ref x, .int (p0), .long (p1), .ref oo]) (va_Qi (fun z9 (_ : Unit) => z9 = (f_pay z p0 p1).1) (fun (_ : Unit) t => ∃ (w9 : va_W) (fo9 : Nat → Int64), va_P D vwCl w9 t.heap ∧ va_D A w9 ∧ cAt w9 b cI cL cD x (f_pay z p0 p1).2.2 ∧ w9[ko]? = some (oo, aL cL 1 fo9) ∧ ((f_pay z p0 p1).1 = 0 → fo9 0 = ((f_pay z p0 p1).2.1).toInt64) ∧ ∀ j, j < b → j ≠ ko → w9[j]? = w[j]?) A) 1 6 A := by
  obtain ⟨a, rfl, hC1⟩ := hC0
  refine mz_ofWH (cc := b_L_pay) (maxL := 6) (ret := (some .int)) (hh := [(0, 11, 14, 15)]) (by decide) rfl ?_
  intro p e s m args below meth c s₁ B hml hTab hv
  obtain ⟨rfl, hP, hK, hD, hE, hA, hN⟩ := hv
  have hx := B.exec
  have hb := B.bytes
  have hr := B.returns
  have hts := atoms_spec (ws := w_L_pay) B.pre
  have hown : s.vm.findClass R_L = some m.cls := findClass_of_methodNamed B.named
  have hlocks := B.notSynchronized
  have hS : va_S A s.heap s.heap [] := va_S.rf
  have hl := lv_entry ([.ref (a_x a), .int (p0), .long (p1), .ref oo]) (n := 6) (Nat.le_of_ble_eq_true rfl)
  rw [lg_entry_eq]
  generalize (lg_sl ([.ref (a_x a), .int (p0), .long (p1), .ref oo]) ++ List.replicate (6 - (lg_sl ([.ref (a_x a), .int (p0), .long (p1), .ref oo])).length) Slot.unset).toArray = ls at hl ⊢
  have hl : lv_has ls 6 [(0, .ref (a_x a)), (1, .int (p0)), (2, .long (p1)), (4, .ref oo)] := hl
  refine lv_aload hx hb d_L_pay_0 (lv_at hl 3 rfl) ?_
  refine lv_iconst (v := 0) hx hb d_L_pay_2 (by decide) ?_
  refine lv_aload_n hx hb d_L_pay_3 rfl (lv_at hl 0 rfl) ?_
  refine lv_iload_n hx hb d_L_pay_4 rfl (lv_at hl 1 rfl) ?_
  refine lv_lload_n hx hb d_L_pay_5 rfl (lv_at hl 2 rfl) ?_
  refine vx_calli (vx_runV (As := [.int (p0), .long (p1)]) (rest := [.int (0), .ref oo]) ⟨hx, hb, hml, hown, hts⟩ (c_pay l hl9 D A w cI cL cD b a z p0 p1 hC1) (cwV 2 hts (gV _ mB_270 mB_271 mB_272 mB_15 mB_273) rfl rfl rfl (by decide +kernel) ⟨(Nat.le_of_ble_eq_true rfl), (Nat.le_of_ble_eq_true rfl)⟩) ⟨ePc_bl, va_recv hK hP (ci := 2) (q0 := b) rfl hC1.x, ePc_pr hP hK hD hE hS⟩ rfl rfl hl.1 rfl (lv_room (Nat.le_of_ble_eq_true rfl)) d_L_pay_6 ⟨(Nat.le_of_ble_eq_true rfl), (Nat.le_of_ble_eq_true rfl)⟩) hS (fun _ _ h => h) (fun _ h => h) (fun _ _ h => h) (fun E9 ce q9 u9 t H locs ht hvm hp9 hB hz1 hk1 hS hce hcv hcl => ?_) (fun v9 u9 t H locs ht hvm hp9 hB hz1 hk1 hS => ?_)
  · obtain ⟨hex, hP⟩ := hB
    rw [ht] at hP
    obtain ⟨rfl, hc9⟩ := exN1 hex
    refine vx_catch (own := R_L) (name := "java/lang/IllegalArgumentException") (E := "java/lang/IllegalArgumentException") hown [] ⟨0, 11, 14, 15⟩ [] (by rw [hTab]; rfl) (fun z9 hz9 => absurd hz9 List.not_mem_nil) (by decide) (by decide) (hts (.classLink R_L 15 "java/lang/IllegalArgumentException") (List.mem_cons_of_mem _ mB_98)) (bad_use (by decide) (hE.2.2.1 (.castable "java/lang/IllegalArgumentException" "java/lang/IllegalArgumentException") (by decide))) hce hcv hcl ?_
    refine lv_astore (lv' := [(5, .ref q9), (0, .ref (a_x a)), (1, .int (p0)), (2, .long (p1)), (4, .ref oo)]) hx hb d_L_pay_14 hl (by decide) rfl (fun ls hl => ?_)
    refine lv_iconst (v := 1) hx hb d_L_pay_16 (by decide) ?_
    refine W.widen (k := 1) (n := 6) (Nat.le_of_ble_eq_true rfl) (Nat.le_of_ble_eq_true rfl) ?_
    exact W.iret (v := 1) hx hb hr (fun t ht hW => ⟨⟨_, (), rfl, hc9.symm, w, fo, by rw [ht]; exact hP, hD, by rw [kz_pay (by rw [hc9]; decide)]; exact ⟨a, rfl, hC1⟩, ho0, fun h9 => absurd (hc9.symm.trans h9) (by decide), fun _ _ _ => rfl⟩, hS.F ht⟩) hS.2.2 d_L_pay_17
  · obtain ⟨hc9, ev9⟩ := hp9
    obtain ⟨w8, hP, hD, hC8, hb8⟩ := hB
    rw [ht] at hP
    refine lv_i2l hx hb d_L_pay_9 rfl ?_
    refine va_last hx hb hK hP hD hS (ko) 1 ((hb8 ko hko).trans ho0) rfl (vp_in_nI (n := 0) (by decide) (by decide)) d_L_pay_10 (fun H locs hP hD hS => ?_)
    have hP : va_P D vwCl (w8.set ko (oo, aL cL 1 (vp_updL fo (0 : Int32).toNatClampNeg ((v9 : Int32).toInt64)))) H := hP
    have hD : va_D A (w8.set ko (oo, aL cL 1 (vp_updL fo (0 : Int32).toNatClampNeg ((v9 : Int32).toInt64)))) := hD
    have hC8 : cAt (w8.set ko (oo, aL cL 1 (vp_updL fo (0 : Int32).toNatClampNeg ((v9 : Int32).toInt64)))) b cI cL cD (a_x a) (f_pay z p0 p1).2.2 := hC8.kb (by rw [List.length_set]) (fun j hj => ws_n (by omega))
    have ho8 : (w8.set ko (oo, aL cL 1 (vp_updL fo (0 : Int32).toNatClampNeg ((v9 : Int32).toInt64))))[ko]? = some (oo, aL cL 1 (vp_updL fo (0 : Int32).toNatClampNeg ((v9 : Int32).toInt64))) := ws_s ((hb8 ko hko).trans ho0)
    have hb8 : ∀ j, j < b → j ≠ ko → (w8.set ko (oo, aL cL 1 (vp_updL fo (0 : Int32).toNatClampNeg ((v9 : Int32).toInt64))))[j]? = w[j]? := fun j hj hj2 => (ws_n (Ne.symm hj2)).trans (hb8 j hj)
    generalize w8.set ko (oo, aL cL 1 (vp_updL fo (0 : Int32).toNatClampNeg ((v9 : Int32).toInt64))) = w9 at hP hD hC8 ho8 hb8
    refine lv_goto (tgt := 18) hx hb d_L_pay_11 (by decide) ?_
    refine lv_iconst (v := 0) hx hb d_L_pay_18 (by decide) ?_
    refine W.widen (k := 1) (n := 6) (Nat.le_of_ble_eq_true rfl) (Nat.le_of_ble_eq_true rfl) ?_
    exact W.iret (v := 0) hx hb hr (fun t ht hW => ⟨⟨_, (), rfl, hc9.symm, w9, _, by rw [ht]; exact hP, hD, hC8, ho8, fun _ => by rw [← ev9]; exact pk_uLs, hb8⟩, hS.F ht⟩) hS.2.2 d_L_pay_19
theorem kz_instalments {z : XT} {p0 : Int32} {p1 : Int32} (h : ¬ (f_instalments z p0 p1).1 = 0) : (f_instalments z p0 p1).2.2 = z := by
  revert h
  unfold f_instalments
  repeat' split
  all_goals (intro h; first | rfl | exact absurd rfl h)
set_option maxHeartbeats 4000000 in
set_option maxRecDepth 100000 in
theorem c_L_instalments (l : Launch) (hl9 : l.stackTraces = false) (D : va_G) (A : Nat → Prop) (w : va_W) (cI cL cD : ClassId) (b ko oo : Nat) (fo : Nat → Int64) (x : Nat) (z : XT) (p0 : Int32) (p1 : Int32) (hC0 : cAt w b cI cL cD x z) (ho0 : w[ko]? = some (oo, aL cL 1 fo)) (hko : ko < b) : Met l y_L_instalments w_L_instalments ({ frames := 8, cells := 2, slots := 12, locals := 135 }) (hPc D w (tyL cI cL cD) A [.ref x, .int (p0), .int (p1), .ref oo]) (va_Qi (fun z9 (_ : Unit) => z9 = (f_instalments z p0 p1).1) (fun (_ : Unit) t => ∃ (w9 : va_W) (fo9 : Nat → Int64), va_P D vwCl w9 t.heap ∧ va_D A w9 ∧ cAt w9 b cI cL cD x (f_instalments z p0 p1).2.2 ∧ w9[ko]? = some (oo, aL cL 1 fo9) ∧ ((f_instalments z p0 p1).1 = 0 → fo9 0 = ((f_instalments z p0 p1).2.1).toInt64) ∧ ∀ j, j < b → j ≠ ko → w9[j]? = w[j]?) A) 2 12 A := by
  obtain ⟨a, rfl, hC1⟩ := hC0
  refine mz_ofWH (cc := b_L_instalments) (maxL := 5) (ret := (some .int)) (hh := [(0, 10, 13, 15)]) (by decide) rfl ?_
  intro p e s m args below meth c s₁ B hml hTab hv
  obtain ⟨rfl, hP, hK, hD, hE, hA, hN⟩ := hv
  have hx := B.exec
  have hb := B.bytes
  have hr := B.returns
  have hts := atoms_spec (ws := w_L_instalments) B.pre
  have hown : s.vm.findClass R_L = some m.cls := findClass_of_methodNamed B.named
  have hlocks := B.notSynchronized
  have hS : va_S A s.heap s.heap [] := va_S.rf
  have hl := lv_entry ([.ref (a_x a), .int (p0), .int (p1), .ref oo]) (n := 5) (Nat.le_of_ble_eq_true rfl)
  rw [lg_entry_eq]
  generalize (lg_sl ([.ref (a_x a), .int (p0), .int (p1), .ref oo]) ++ List.replicate (5 - (lg_sl ([.ref (a_x a), .int (p0), .int (p1), .ref oo])).length) Slot.unset).toArray = ls at hl ⊢
  have hl : lv_has ls 5 [(0, .ref (a_x a)), (1, .int (p0)), (2, .int (p1)), (3, .ref oo)] := hl
  refine lv_aload_n hx hb d_L_instalments_0 rfl (lv_at hl 3 rfl) ?_
  refine lv_iconst (v := 0) hx hb d_L_instalments_1 (by decide) ?_
  refine lv_aload_n hx hb d_L_instalments_2 rfl (lv_at hl 0 rfl) ?_
  refine lv_iload_n hx hb d_L_instalments_3 rfl (lv_at hl 1 rfl) ?_
  refine lv_iload_n hx hb d_L_instalments_4 rfl (lv_at hl 2 rfl) ?_
  refine vx_calli (vx_runV (As := [.int (p0), .int (p1)]) (rest := [.int (0), .ref oo]) ⟨hx, hb, hml, hown, hts⟩ (c_instalments l hl9 D A w cI cL cD b a z p0 p1 hC1) (cwV 2 hts (gV _ mB_318 mB_319 mB_320 mB_15 mB_321) rfl rfl rfl (by decide +kernel) ⟨(Nat.le_of_ble_eq_true rfl), (Nat.le_of_ble_eq_true rfl)⟩) ⟨ePc_bl, va_recv hK hP (ci := 2) (q0 := b) rfl hC1.x, ePc_pr hP hK hD hE hS⟩ rfl rfl hl.1 rfl (lv_room (Nat.le_of_ble_eq_true rfl)) d_L_instalments_5 ⟨(Nat.le_of_ble_eq_true rfl), (Nat.le_of_ble_eq_true rfl)⟩) hS (fun _ _ h => h) (fun _ h => h) (fun _ _ h => h) (fun E9 ce q9 u9 t H locs ht hvm hp9 hB hz1 hk1 hS hce hcv hcl => ?_) (fun v9 u9 t H locs ht hvm hp9 hB hz1 hk1 hS => ?_)
  · obtain ⟨hex, hP⟩ := hB
    rw [ht] at hP
    obtain ⟨rfl, hc9⟩ := exN1 hex
    refine vx_catch (own := R_L) (name := "java/lang/IllegalArgumentException") (E := "java/lang/IllegalArgumentException") hown [] ⟨0, 10, 13, 15⟩ [] (by rw [hTab]; rfl) (fun z9 hz9 => absurd hz9 List.not_mem_nil) (by decide) (by decide) (hts (.classLink R_L 15 "java/lang/IllegalArgumentException") (List.mem_cons_of_mem _ mB_98)) (bad_use (by decide) (hE.2.2.1 (.castable "java/lang/IllegalArgumentException" "java/lang/IllegalArgumentException") (by decide))) hce hcv hcl ?_
    refine lv_astore (lv' := [(4, .ref q9), (0, .ref (a_x a)), (1, .int (p0)), (2, .int (p1)), (3, .ref oo)]) hx hb d_L_instalments_13 hl (by decide) rfl (fun ls hl => ?_)
    refine lv_iconst (v := 1) hx hb d_L_instalments_15 (by decide) ?_
    refine W.widen (k := 2) (n := 12) (Nat.le_of_ble_eq_true rfl) (Nat.le_of_ble_eq_true rfl) ?_
    exact W.iret (v := 1) hx hb hr (fun t ht hW => ⟨⟨_, (), rfl, hc9.symm, w, fo, by rw [ht]; exact hP, hD, by rw [kz_instalments (by rw [hc9]; decide)]; exact ⟨a, rfl, hC1⟩, ho0, fun h9 => absurd (hc9.symm.trans h9) (by decide), fun _ _ _ => rfl⟩, hS.F ht⟩) hS.2.2 d_L_instalments_16
  · obtain ⟨hc9, ev9⟩ := hp9
    obtain ⟨w8, hP, hD, hC8, hb8⟩ := hB
    rw [ht] at hP
    refine lv_i2l hx hb d_L_instalments_8 rfl ?_
    refine va_last hx hb hK hP hD hS (ko) 1 ((hb8 ko hko).trans ho0) rfl (vp_in_nI (n := 0) (by decide) (by decide)) d_L_instalments_9 (fun H locs hP hD hS => ?_)
    have hP : va_P D vwCl (w8.set ko (oo, aL cL 1 (vp_updL fo (0 : Int32).toNatClampNeg ((v9 : Int32).toInt64)))) H := hP
    have hD : va_D A (w8.set ko (oo, aL cL 1 (vp_updL fo (0 : Int32).toNatClampNeg ((v9 : Int32).toInt64)))) := hD
    have hC8 : cAt (w8.set ko (oo, aL cL 1 (vp_updL fo (0 : Int32).toNatClampNeg ((v9 : Int32).toInt64)))) b cI cL cD (a_x a) (f_instalments z p0 p1).2.2 := hC8.kb (by rw [List.length_set]) (fun j hj => ws_n (by omega))
    have ho8 : (w8.set ko (oo, aL cL 1 (vp_updL fo (0 : Int32).toNatClampNeg ((v9 : Int32).toInt64))))[ko]? = some (oo, aL cL 1 (vp_updL fo (0 : Int32).toNatClampNeg ((v9 : Int32).toInt64))) := ws_s ((hb8 ko hko).trans ho0)
    have hb8 : ∀ j, j < b → j ≠ ko → (w8.set ko (oo, aL cL 1 (vp_updL fo (0 : Int32).toNatClampNeg ((v9 : Int32).toInt64))))[j]? = w[j]? := fun j hj hj2 => (ws_n (Ne.symm hj2)).trans (hb8 j hj)
    generalize w8.set ko (oo, aL cL 1 (vp_updL fo (0 : Int32).toNatClampNeg ((v9 : Int32).toInt64))) = w9 at hP hD hC8 ho8 hb8
    refine lv_goto (tgt := 17) hx hb d_L_instalments_10 (by decide) ?_
    refine lv_iconst (v := 0) hx hb d_L_instalments_17 (by decide) ?_
    refine W.widen (k := 2) (n := 12) (Nat.le_of_ble_eq_true rfl) (Nat.le_of_ble_eq_true rfl) ?_
    exact W.iret (v := 0) hx hb hr (fun t ht hW => ⟨⟨_, (), rfl, hc9.symm, w9, _, by rw [ht]; exact hP, hD, hC8, ho8, fun _ => by rw [← ev9]; exact pk_uLs, hb8⟩, hS.F ht⟩) hS.2.2 d_L_instalments_18
theorem kz_appeal {z : XT} {p0 : Int32} (h : ¬ (f_appeal z p0).1 = 0) : (f_appeal z p0).2.2 = z := by
  revert h
  unfold f_appeal
  repeat' split
  all_goals (intro h; first | rfl | exact absurd rfl h)
set_option maxHeartbeats 4000000 in
set_option maxRecDepth 100000 in
theorem c_L_appeal (l : Launch) (hl9 : l.stackTraces = false) (D : va_G) (A : Nat → Prop) (w : va_W) (cI cL cD : ClassId) (b ko oo : Nat) (fo : Nat → Int64) (x : Nat) (z : XT) (p0 : Int32) (hC0 : cAt w b cI cL cD x z) (ho0 : w[ko]? = some (oo, aL cL 1 fo)) (hko : ko < b) : Met l y_L_appeal w_L_appeal ({ frames := 8, cells := 1, slots := 6, locals := 134 }) (hPc D w (tyL cI cL cD) A [.ref x, .int (p0), .ref oo]) (va_Qi (fun z9 (_ : Unit) => z9 = (f_appeal z p0).1) (fun (_ : Unit) t => ∃ (w9 : va_W) (fo9 : Nat → Int64), va_P D vwCl w9 t.heap ∧ va_D A w9 ∧ cAt w9 b cI cL cD x (f_appeal z p0).2.2 ∧ w9[ko]? = some (oo, aL cL 1 fo9) ∧ ((f_appeal z p0).1 = 0 → fo9 0 = ((f_appeal z p0).2.1).toInt64) ∧ ∀ j, j < b → j ≠ ko → w9[j]? = w[j]?) A) 1 6 A := by
  obtain ⟨a, rfl, hC1⟩ := hC0
  refine mz_ofWH (cc := b_L_appeal) (maxL := 4) (ret := (some .int)) (hh := [(0, 9, 12, 15)]) (by decide) rfl ?_
  intro p e s m args below meth c s₁ B hml hTab hv
  obtain ⟨rfl, hP, hK, hD, hE, hA, hN⟩ := hv
  have hx := B.exec
  have hb := B.bytes
  have hr := B.returns
  have hts := atoms_spec (ws := w_L_appeal) B.pre
  have hown : s.vm.findClass R_L = some m.cls := findClass_of_methodNamed B.named
  have hlocks := B.notSynchronized
  have hS : va_S A s.heap s.heap [] := va_S.rf
  have hl := lv_entry ([.ref (a_x a), .int (p0), .ref oo]) (n := 4) (Nat.le_of_ble_eq_true rfl)
  rw [lg_entry_eq]
  generalize (lg_sl ([.ref (a_x a), .int (p0), .ref oo]) ++ List.replicate (4 - (lg_sl ([.ref (a_x a), .int (p0), .ref oo])).length) Slot.unset).toArray = ls at hl ⊢
  have hl : lv_has ls 4 [(0, .ref (a_x a)), (1, .int (p0)), (2, .ref oo)] := hl
  refine lv_aload_n hx hb d_L_appeal_0 rfl (lv_at hl 2 rfl) ?_
  refine lv_iconst (v := 0) hx hb d_L_appeal_1 (by decide) ?_
  refine lv_aload_n hx hb d_L_appeal_2 rfl (lv_at hl 0 rfl) ?_
  refine lv_iload_n hx hb d_L_appeal_3 rfl (lv_at hl 1 rfl) ?_
  refine vx_calli (vx_runV (As := [.int (p0)]) (rest := [.int (0), .ref oo]) ⟨hx, hb, hml, hown, hts⟩ (c_appeal l hl9 D A w cI cL cD b a z p0 hC1) (cwV 1 hts (gV _ mB_328 mB_329 mB_330 mB_15 mB_331) rfl rfl rfl (by decide +kernel) ⟨(Nat.le_of_ble_eq_true rfl), (Nat.le_of_ble_eq_true rfl)⟩) ⟨ePc_bl, va_recv hK hP (ci := 2) (q0 := b) rfl hC1.x, ePc_pr hP hK hD hE hS⟩ rfl rfl hl.1 rfl (lv_room (Nat.le_of_ble_eq_true rfl)) d_L_appeal_4 ⟨(Nat.le_of_ble_eq_true rfl), (Nat.le_of_ble_eq_true rfl)⟩) hS (fun _ _ h => h) (fun _ h => h) (fun _ _ h => h) (fun E9 ce q9 u9 t H locs ht hvm hp9 hB hz1 hk1 hS hce hcv hcl => ?_) (fun v9 u9 t H locs ht hvm hp9 hB hz1 hk1 hS => ?_)
  · obtain ⟨hex, hP⟩ := hB
    rw [ht] at hP
    obtain ⟨rfl, hc9⟩ := exN1 hex
    refine vx_catch (own := R_L) (name := "java/lang/IllegalArgumentException") (E := "java/lang/IllegalArgumentException") hown [] ⟨0, 9, 12, 15⟩ [] (by rw [hTab]; rfl) (fun z9 hz9 => absurd hz9 List.not_mem_nil) (by decide) (by decide) (hts (.classLink R_L 15 "java/lang/IllegalArgumentException") (List.mem_cons_of_mem _ mB_98)) (bad_use (by decide) (hE.2.2.1 (.castable "java/lang/IllegalArgumentException" "java/lang/IllegalArgumentException") (by decide))) hce hcv hcl ?_
    refine lv_astore_n (lv' := [(3, .ref q9), (0, .ref (a_x a)), (1, .int (p0)), (2, .ref oo)]) hx hb d_L_appeal_12 rfl hl (by decide) rfl (fun ls hl => ?_)
    refine lv_iconst (v := 1) hx hb d_L_appeal_13 (by decide) ?_
    refine W.widen (k := 1) (n := 6) (Nat.le_of_ble_eq_true rfl) (Nat.le_of_ble_eq_true rfl) ?_
    exact W.iret (v := 1) hx hb hr (fun t ht hW => ⟨⟨_, (), rfl, hc9.symm, w, fo, by rw [ht]; exact hP, hD, by rw [kz_appeal (by rw [hc9]; decide)]; exact ⟨a, rfl, hC1⟩, ho0, fun h9 => absurd (hc9.symm.trans h9) (by decide), fun _ _ _ => rfl⟩, hS.F ht⟩) hS.2.2 d_L_appeal_14
  · obtain ⟨hc9, ev9⟩ := hp9
    obtain ⟨w8, hP, hD, hC8, hb8⟩ := hB
    rw [ht] at hP
    refine lv_i2l hx hb d_L_appeal_7 rfl ?_
    refine va_last hx hb hK hP hD hS (ko) 1 ((hb8 ko hko).trans ho0) rfl (vp_in_nI (n := 0) (by decide) (by decide)) d_L_appeal_8 (fun H locs hP hD hS => ?_)
    have hP : va_P D vwCl (w8.set ko (oo, aL cL 1 (vp_updL fo (0 : Int32).toNatClampNeg ((v9 : Int32).toInt64)))) H := hP
    have hD : va_D A (w8.set ko (oo, aL cL 1 (vp_updL fo (0 : Int32).toNatClampNeg ((v9 : Int32).toInt64)))) := hD
    have hC8 : cAt (w8.set ko (oo, aL cL 1 (vp_updL fo (0 : Int32).toNatClampNeg ((v9 : Int32).toInt64)))) b cI cL cD (a_x a) (f_appeal z p0).2.2 := hC8.kb (by rw [List.length_set]) (fun j hj => ws_n (by omega))
    have ho8 : (w8.set ko (oo, aL cL 1 (vp_updL fo (0 : Int32).toNatClampNeg ((v9 : Int32).toInt64))))[ko]? = some (oo, aL cL 1 (vp_updL fo (0 : Int32).toNatClampNeg ((v9 : Int32).toInt64))) := ws_s ((hb8 ko hko).trans ho0)
    have hb8 : ∀ j, j < b → j ≠ ko → (w8.set ko (oo, aL cL 1 (vp_updL fo (0 : Int32).toNatClampNeg ((v9 : Int32).toInt64))))[j]? = w[j]? := fun j hj hj2 => (ws_n (Ne.symm hj2)).trans (hb8 j hj)
    generalize w8.set ko (oo, aL cL 1 (vp_updL fo (0 : Int32).toNatClampNeg ((v9 : Int32).toInt64))) = w9 at hP hD hC8 ho8 hb8
    refine lv_goto (tgt := 15) hx hb d_L_appeal_9 (by decide) ?_
    refine lv_iconst (v := 0) hx hb d_L_appeal_15 (by decide) ?_
    refine W.widen (k := 1) (n := 6) (Nat.le_of_ble_eq_true rfl) (Nat.le_of_ble_eq_true rfl) ?_
    exact W.iret (v := 0) hx hb hr (fun t ht hW => ⟨⟨_, (), rfl, hc9.symm, w9, _, by rw [ht]; exact hP, hD, hC8, ho8, fun _ => by rw [← ev9]; exact pk_uLs, hb8⟩, hS.F ht⟩) hS.2.2 d_L_appeal_16
theorem kz_decide {z : XT} {p0 : Int32} {p1 : Int32} (h : ¬ (f_decide z p0 p1).1 = 0) : (f_decide z p0 p1).2.2 = z := by
  revert h
  unfold f_decide
  repeat' split
  all_goals (intro h; first | rfl | exact absurd rfl h)
set_option maxHeartbeats 4000000 in
set_option maxRecDepth 100000 in
theorem c_L_decide (l : Launch) (hl9 : l.stackTraces = false) (D : va_G) (A : Nat → Prop) (w : va_W) (cI cL cD : ClassId) (b ko oo : Nat) (fo : Nat → Int64) (x : Nat) (z : XT) (p0 : Int32) (p1 : Int32) (hC0 : cAt w b cI cL cD x z) (ho0 : w[ko]? = some (oo, aL cL 1 fo)) (hko : ko < b) : Met l y_L_decide w_L_decide ({ frames := 8, cells := 1, slots := 6, locals := 135 }) (hPc D w (tyL cI cL cD) A [.ref x, .int (p0), .int (p1), .ref oo]) (va_Qi (fun z9 (_ : Unit) => z9 = (f_decide z p0 p1).1) (fun (_ : Unit) t => ∃ (w9 : va_W) (fo9 : Nat → Int64), va_P D vwCl w9 t.heap ∧ va_D A w9 ∧ cAt w9 b cI cL cD x (f_decide z p0 p1).2.2 ∧ w9[ko]? = some (oo, aL cL 1 fo9) ∧ ((f_decide z p0 p1).1 = 0 → fo9 0 = (f_decide z p0 p1).2.1) ∧ ∀ j, j < b → j ≠ ko → w9[j]? = w[j]?) A) 1 6 A := by
  obtain ⟨a, rfl, hC1⟩ := hC0
  refine mz_ofWH (cc := b_L_decide) (maxL := 5) (ret := (some .int)) (hh := [(0, 9, 12, 15)]) (by decide) rfl ?_
  intro p e s m args below meth c s₁ B hml hTab hv
  obtain ⟨rfl, hP, hK, hD, hE, hA, hN⟩ := hv
  have hx := B.exec
  have hb := B.bytes
  have hr := B.returns
  have hts := atoms_spec (ws := w_L_decide) B.pre
  have hown : s.vm.findClass R_L = some m.cls := findClass_of_methodNamed B.named
  have hlocks := B.notSynchronized
  have hS : va_S A s.heap s.heap [] := va_S.rf
  have hl := lv_entry ([.ref (a_x a), .int (p0), .int (p1), .ref oo]) (n := 5) (Nat.le_of_ble_eq_true rfl)
  rw [lg_entry_eq]
  generalize (lg_sl ([.ref (a_x a), .int (p0), .int (p1), .ref oo]) ++ List.replicate (5 - (lg_sl ([.ref (a_x a), .int (p0), .int (p1), .ref oo])).length) Slot.unset).toArray = ls at hl ⊢
  have hl : lv_has ls 5 [(0, .ref (a_x a)), (1, .int (p0)), (2, .int (p1)), (3, .ref oo)] := hl
  refine lv_aload_n hx hb d_L_decide_0 rfl (lv_at hl 3 rfl) ?_
  refine lv_iconst (v := 0) hx hb d_L_decide_1 (by decide) ?_
  refine lv_aload_n hx hb d_L_decide_2 rfl (lv_at hl 0 rfl) ?_
  refine lv_iload_n hx hb d_L_decide_3 rfl (lv_at hl 1 rfl) ?_
  refine lv_iload_n hx hb d_L_decide_4 rfl (lv_at hl 2 rfl) ?_
  refine vx_calll (vx_runV (As := [.int (p0), .int (p1)]) (rest := [.int (0), .ref oo]) ⟨hx, hb, hml, hown, hts⟩ (c_decide l hl9 D A w cI cL cD b a z p0 p1 hC1) (cwV 2 hts (gV _ mB_334 mB_335 mB_336 mB_15 mB_337) rfl rfl rfl (by decide +kernel) ⟨(Nat.le_of_ble_eq_true rfl), (Nat.le_of_ble_eq_true rfl)⟩) ⟨ePc_bl, va_recv hK hP (ci := 2) (q0 := b) rfl hC1.x, ePc_pr hP hK hD hE hS⟩ rfl rfl hl.1 rfl (lv_room (Nat.le_of_ble_eq_true rfl)) d_L_decide_5 ⟨(Nat.le_of_ble_eq_true rfl), (Nat.le_of_ble_eq_true rfl)⟩) hS (fun _ _ h => h) (fun _ h => h) (fun _ _ h => h) (fun E9 ce q9 u9 t H locs ht hvm hp9 hB hz1 hk1 hS hce hcv hcl => ?_) (fun v9 u9 t H locs ht hvm hp9 hB hz1 hk1 hS => ?_)
  · obtain ⟨hex, hP⟩ := hB
    rw [ht] at hP
    obtain ⟨rfl, hc9⟩ := exN1 hex
    refine vx_catch (own := R_L) (name := "java/lang/IllegalArgumentException") (E := "java/lang/IllegalArgumentException") hown [] ⟨0, 9, 12, 15⟩ [] (by rw [hTab]; rfl) (fun z9 hz9 => absurd hz9 List.not_mem_nil) (by decide) (by decide) (hts (.classLink R_L 15 "java/lang/IllegalArgumentException") (List.mem_cons_of_mem _ mB_98)) (bad_use (by decide) (hE.2.2.1 (.castable "java/lang/IllegalArgumentException" "java/lang/IllegalArgumentException") (by decide))) hce hcv hcl ?_
    refine lv_astore (lv' := [(4, .ref q9), (0, .ref (a_x a)), (1, .int (p0)), (2, .int (p1)), (3, .ref oo)]) hx hb d_L_decide_12 hl (by decide) rfl (fun ls hl => ?_)
    refine lv_iconst (v := 1) hx hb d_L_decide_14 (by decide) ?_
    refine W.widen (k := 1) (n := 6) (Nat.le_of_ble_eq_true rfl) (Nat.le_of_ble_eq_true rfl) ?_
    exact W.iret (v := 1) hx hb hr (fun t ht hW => ⟨⟨_, (), rfl, hc9.symm, w, fo, by rw [ht]; exact hP, hD, by rw [kz_decide (by rw [hc9]; decide)]; exact ⟨a, rfl, hC1⟩, ho0, fun h9 => absurd (hc9.symm.trans h9) (by decide), fun _ _ _ => rfl⟩, hS.F ht⟩) hS.2.2 d_L_decide_15
  · obtain ⟨hc9, ev9⟩ := hp9
    obtain ⟨w8, hP, hD, hC8, hb8⟩ := hB
    rw [ht] at hP
    refine va_last hx hb hK hP hD hS (ko) 1 ((hb8 ko hko).trans ho0) rfl (vp_in_nI (n := 0) (by decide) (by decide)) d_L_decide_8 (fun H locs hP hD hS => ?_)
    have hP : va_P D vwCl (w8.set ko (oo, aL cL 1 (vp_updL fo (0 : Int32).toNatClampNeg (v9)))) H := hP
    have hD : va_D A (w8.set ko (oo, aL cL 1 (vp_updL fo (0 : Int32).toNatClampNeg (v9)))) := hD
    have hC8 : cAt (w8.set ko (oo, aL cL 1 (vp_updL fo (0 : Int32).toNatClampNeg (v9)))) b cI cL cD (a_x a) (f_decide z p0 p1).2.2 := hC8.kb (by rw [List.length_set]) (fun j hj => ws_n (by omega))
    have ho8 : (w8.set ko (oo, aL cL 1 (vp_updL fo (0 : Int32).toNatClampNeg (v9))))[ko]? = some (oo, aL cL 1 (vp_updL fo (0 : Int32).toNatClampNeg (v9))) := ws_s ((hb8 ko hko).trans ho0)
    have hb8 : ∀ j, j < b → j ≠ ko → (w8.set ko (oo, aL cL 1 (vp_updL fo (0 : Int32).toNatClampNeg (v9))))[j]? = w[j]? := fun j hj hj2 => (ws_n (Ne.symm hj2)).trans (hb8 j hj)
    generalize w8.set ko (oo, aL cL 1 (vp_updL fo (0 : Int32).toNatClampNeg (v9))) = w9 at hP hD hC8 ho8 hb8
    refine lv_goto (tgt := 16) hx hb d_L_decide_9 (by decide) ?_
    refine lv_iconst (v := 0) hx hb d_L_decide_16 (by decide) ?_
    refine W.widen (k := 1) (n := 6) (Nat.le_of_ble_eq_true rfl) (Nat.le_of_ble_eq_true rfl) ?_
    exact W.iret (v := 0) hx hb hr (fun t ht hW => ⟨⟨_, (), rfl, hc9.symm, w9, _, by rw [ht]; exact hP, hD, hC8, ho8, fun _ => by rw [← ev9]; exact pk_uLs, hb8⟩, hS.F ht⟩) hS.2.2 d_L_decide_17
theorem kz_tick {z : XT} {p0 : Int32} (h : ¬ (f_tick z p0).1 = 0) : (f_tick z p0).2.2 = z := by
  revert h
  unfold f_tick
  repeat' split
  all_goals (intro h; first | rfl | exact absurd rfl h)
set_option maxHeartbeats 4000000 in
set_option maxRecDepth 100000 in
theorem c_L_tick (l : Launch) (hl9 : l.stackTraces = false) (D : va_G) (A : Nat → Prop) (w : va_W) (cI cL cD : ClassId) (b ko oo : Nat) (fo : Nat → Int64) (x : Nat) (z : XT) (p0 : Int32) (hC0 : cAt w b cI cL cD x z) (ho0 : w[ko]? = some (oo, aL cL 1 fo)) (hko : ko < b) : Met l y_L_tick w_L_tick ({ frames := 7, cells := 1, slots := 6, locals := 114 }) (hPc D w (tyL cI cL cD) A [.ref x, .int (p0), .ref oo]) (va_Qi (fun z9 (_ : Unit) => z9 = (f_tick z p0).1) (fun (_ : Unit) t => ∃ (w9 : va_W) (fo9 : Nat → Int64), va_P D vwCl w9 t.heap ∧ va_D A w9 ∧ cAt w9 b cI cL cD x (f_tick z p0).2.2 ∧ w9[ko]? = some (oo, aL cL 1 fo9) ∧ ((f_tick z p0).1 = 0 → fo9 0 = ((f_tick z p0).2.1).toInt64) ∧ ∀ j, j < b → j ≠ ko → w9[j]? = w[j]?) A) 1 6 A := by
  obtain ⟨a, rfl, hC1⟩ := hC0
  refine mz_ofWH (cc := b_L_tick) (maxL := 4) (ret := (some .int)) (hh := [(0, 9, 12, 15)]) (by decide) rfl ?_
  intro p e s m args below meth c s₁ B hml hTab hv
  obtain ⟨rfl, hP, hK, hD, hE, hA, hN⟩ := hv
  have hx := B.exec
  have hb := B.bytes
  have hr := B.returns
  have hts := atoms_spec (ws := w_L_tick) B.pre
  have hown : s.vm.findClass R_L = some m.cls := findClass_of_methodNamed B.named
  have hlocks := B.notSynchronized
  have hS : va_S A s.heap s.heap [] := va_S.rf
  have hl := lv_entry ([.ref (a_x a), .int (p0), .ref oo]) (n := 4) (Nat.le_of_ble_eq_true rfl)
  rw [lg_entry_eq]
  generalize (lg_sl ([.ref (a_x a), .int (p0), .ref oo]) ++ List.replicate (4 - (lg_sl ([.ref (a_x a), .int (p0), .ref oo])).length) Slot.unset).toArray = ls at hl ⊢
  have hl : lv_has ls 4 [(0, .ref (a_x a)), (1, .int (p0)), (2, .ref oo)] := hl
  refine lv_aload_n hx hb d_L_tick_0 rfl (lv_at hl 2 rfl) ?_
  refine lv_iconst (v := 0) hx hb d_L_tick_1 (by decide) ?_
  refine lv_aload_n hx hb d_L_tick_2 rfl (lv_at hl 0 rfl) ?_
  refine lv_iload_n hx hb d_L_tick_3 rfl (lv_at hl 1 rfl) ?_
  refine vx_calli (vx_runV (As := [.int (p0)]) (rest := [.int (0), .ref oo]) ⟨hx, hb, hml, hown, hts⟩ (c_tick l hl9 D A w cI cL cD b a z p0 hC1) (cwV 1 hts (gV _ mB_341 mB_342 mB_343 mB_15 mB_344) rfl rfl rfl (by decide +kernel) ⟨(Nat.le_of_ble_eq_true rfl), (Nat.le_of_ble_eq_true rfl)⟩) ⟨ePc_bl, va_recv hK hP (ci := 2) (q0 := b) rfl hC1.x, ePc_pr hP hK hD hE hS⟩ rfl rfl hl.1 rfl (lv_room (Nat.le_of_ble_eq_true rfl)) d_L_tick_4 ⟨(Nat.le_of_ble_eq_true rfl), (Nat.le_of_ble_eq_true rfl)⟩) hS (fun _ _ h => h) (fun _ h => h) (fun _ _ h => h) (fun E9 ce q9 u9 t H locs ht hvm hp9 hB hz1 hk1 hS hce hcv hcl => ?_) (fun v9 u9 t H locs ht hvm hp9 hB hz1 hk1 hS => ?_)
  · obtain ⟨hex, hP⟩ := hB
    rw [ht] at hP
    obtain ⟨rfl, hc9⟩ := exN1 hex
    refine vx_catch (own := R_L) (name := "java/lang/IllegalArgumentException") (E := "java/lang/IllegalArgumentException") hown [] ⟨0, 9, 12, 15⟩ [] (by rw [hTab]; rfl) (fun z9 hz9 => absurd hz9 List.not_mem_nil) (by decide) (by decide) (hts (.classLink R_L 15 "java/lang/IllegalArgumentException") (List.mem_cons_of_mem _ mB_98)) (bad_use (by decide) (hE.2.2.1 (.castable "java/lang/IllegalArgumentException" "java/lang/IllegalArgumentException") (by decide))) hce hcv hcl ?_
    refine lv_astore_n (lv' := [(3, .ref q9), (0, .ref (a_x a)), (1, .int (p0)), (2, .ref oo)]) hx hb d_L_tick_12 rfl hl (by decide) rfl (fun ls hl => ?_)
    refine lv_iconst (v := 1) hx hb d_L_tick_13 (by decide) ?_
    refine W.widen (k := 1) (n := 6) (Nat.le_of_ble_eq_true rfl) (Nat.le_of_ble_eq_true rfl) ?_
    exact W.iret (v := 1) hx hb hr (fun t ht hW => ⟨⟨_, (), rfl, hc9.symm, w, fo, by rw [ht]; exact hP, hD, by rw [kz_tick (by rw [hc9]; decide)]; exact ⟨a, rfl, hC1⟩, ho0, fun h9 => absurd (hc9.symm.trans h9) (by decide), fun _ _ _ => rfl⟩, hS.F ht⟩) hS.2.2 d_L_tick_14
  · obtain ⟨hc9, ev9⟩ := hp9
    obtain ⟨w8, hP, hD, hC8, hb8⟩ := hB
    rw [ht] at hP
    refine lv_i2l hx hb d_L_tick_7 rfl ?_
    refine va_last hx hb hK hP hD hS (ko) 1 ((hb8 ko hko).trans ho0) rfl (vp_in_nI (n := 0) (by decide) (by decide)) d_L_tick_8 (fun H locs hP hD hS => ?_)
    have hP : va_P D vwCl (w8.set ko (oo, aL cL 1 (vp_updL fo (0 : Int32).toNatClampNeg ((v9 : Int32).toInt64)))) H := hP
    have hD : va_D A (w8.set ko (oo, aL cL 1 (vp_updL fo (0 : Int32).toNatClampNeg ((v9 : Int32).toInt64)))) := hD
    have hC8 : cAt (w8.set ko (oo, aL cL 1 (vp_updL fo (0 : Int32).toNatClampNeg ((v9 : Int32).toInt64)))) b cI cL cD (a_x a) (f_tick z p0).2.2 := hC8.kb (by rw [List.length_set]) (fun j hj => ws_n (by omega))
    have ho8 : (w8.set ko (oo, aL cL 1 (vp_updL fo (0 : Int32).toNatClampNeg ((v9 : Int32).toInt64))))[ko]? = some (oo, aL cL 1 (vp_updL fo (0 : Int32).toNatClampNeg ((v9 : Int32).toInt64))) := ws_s ((hb8 ko hko).trans ho0)
    have hb8 : ∀ j, j < b → j ≠ ko → (w8.set ko (oo, aL cL 1 (vp_updL fo (0 : Int32).toNatClampNeg ((v9 : Int32).toInt64))))[j]? = w[j]? := fun j hj hj2 => (ws_n (Ne.symm hj2)).trans (hb8 j hj)
    generalize w8.set ko (oo, aL cL 1 (vp_updL fo (0 : Int32).toNatClampNeg ((v9 : Int32).toInt64))) = w9 at hP hD hC8 ho8 hb8
    refine lv_goto (tgt := 15) hx hb d_L_tick_9 (by decide) ?_
    refine lv_iconst (v := 0) hx hb d_L_tick_15 (by decide) ?_
    refine W.widen (k := 1) (n := 6) (Nat.le_of_ble_eq_true rfl) (Nat.le_of_ble_eq_true rfl) ?_
    exact W.iret (v := 0) hx hb hr (fun t ht hW => ⟨⟨_, (), rfl, hc9.symm, w9, _, by rw [ht]; exact hP, hD, hC8, ho8, fun _ => by rw [← ev9]; exact pk_uLs, hb8⟩, hS.F ht⟩) hS.2.2 d_L_tick_16
theorem kz_due {z : XT} {p0 : Int32} {p1 : Int32} (h : ¬ (f_due z p0 p1).1 = 0) : (f_due z p0 p1).2.2 = z := by
  revert h
  unfold f_due
  repeat' split
  all_goals (intro h; first | rfl | exact absurd rfl h)
set_option maxHeartbeats 4000000 in
set_option maxRecDepth 100000 in
theorem c_L_due (l : Launch) (hl9 : l.stackTraces = false) (D : va_G) (A : Nat → Prop) (w : va_W) (cI cL cD : ClassId) (b ko oo : Nat) (fo : Nat → Int64) (x : Nat) (z : XT) (p0 : Int32) (p1 : Int32) (hC0 : cAt w b cI cL cD x z) (ho0 : w[ko]? = some (oo, aL cL 1 fo)) (hko : ko < b) : Met l y_L_due w_L_due ({ frames := 8, cells := 2, slots := 12, locals := 135 }) (hPc D w (tyL cI cL cD) A [.ref x, .int (p0), .int (p1), .ref oo]) (va_Qi (fun z9 (_ : Unit) => z9 = (f_due z p0 p1).1) (fun (_ : Unit) t => ∃ (w9 : va_W) (fo9 : Nat → Int64), va_P D vwCl w9 t.heap ∧ va_D A w9 ∧ cAt w9 b cI cL cD x (f_due z p0 p1).2.2 ∧ w9[ko]? = some (oo, aL cL 1 fo9) ∧ ((f_due z p0 p1).1 = 0 → fo9 0 = (f_due z p0 p1).2.1) ∧ ∀ j, j < b → j ≠ ko → w9[j]? = w[j]?) A) 2 12 A := by
  obtain ⟨a, rfl, hC1⟩ := hC0
  refine mz_ofWH (cc := b_L_due) (maxL := 5) (ret := (some .int)) (hh := [(0, 9, 12, 15)]) (by decide) rfl ?_
  intro p e s m args below meth c s₁ B hml hTab hv
  obtain ⟨rfl, hP, hK, hD, hE, hA, hN⟩ := hv
  have hx := B.exec
  have hb := B.bytes
  have hr := B.returns
  have hts := atoms_spec (ws := w_L_due) B.pre
  have hown : s.vm.findClass R_L = some m.cls := findClass_of_methodNamed B.named
  have hlocks := B.notSynchronized
  have hS : va_S A s.heap s.heap [] := va_S.rf
  have hl := lv_entry ([.ref (a_x a), .int (p0), .int (p1), .ref oo]) (n := 5) (Nat.le_of_ble_eq_true rfl)
  rw [lg_entry_eq]
  generalize (lg_sl ([.ref (a_x a), .int (p0), .int (p1), .ref oo]) ++ List.replicate (5 - (lg_sl ([.ref (a_x a), .int (p0), .int (p1), .ref oo])).length) Slot.unset).toArray = ls at hl ⊢
  have hl : lv_has ls 5 [(0, .ref (a_x a)), (1, .int (p0)), (2, .int (p1)), (3, .ref oo)] := hl
  refine lv_aload_n hx hb d_L_due_0 rfl (lv_at hl 3 rfl) ?_
  refine lv_iconst (v := 0) hx hb d_L_due_1 (by decide) ?_
  refine lv_aload_n hx hb d_L_due_2 rfl (lv_at hl 0 rfl) ?_
  refine lv_iload_n hx hb d_L_due_3 rfl (lv_at hl 1 rfl) ?_
  refine lv_iload_n hx hb d_L_due_4 rfl (lv_at hl 2 rfl) ?_
  refine vx_calll (vx_runV (As := [.int (p0), .int (p1)]) (rest := [.int (0), .ref oo]) ⟨hx, hb, hml, hown, hts⟩ (c_due l hl9 D A w cI cL cD b a z p0 p1 hC1) (cwV 2 hts (gV _ mB_361 mB_362 mB_363 mB_15 mB_364) rfl rfl rfl (by decide +kernel) ⟨(Nat.le_of_ble_eq_true rfl), (Nat.le_of_ble_eq_true rfl)⟩) ⟨ePc_bl, va_recv hK hP (ci := 2) (q0 := b) rfl hC1.x, ePc_pr hP hK hD hE hS⟩ rfl rfl hl.1 rfl (lv_room (Nat.le_of_ble_eq_true rfl)) d_L_due_5 ⟨(Nat.le_of_ble_eq_true rfl), (Nat.le_of_ble_eq_true rfl)⟩) hS (fun _ _ h => h) (fun _ h => h) (fun _ _ h => h) (fun E9 ce q9 u9 t H locs ht hvm hp9 hB hz1 hk1 hS hce hcv hcl => ?_) (fun v9 u9 t H locs ht hvm hp9 hB hz1 hk1 hS => ?_)
  · obtain ⟨hex, hP⟩ := hB
    rw [ht] at hP
    obtain ⟨rfl, hc9⟩ := exN1 hex
    refine vx_catch (own := R_L) (name := "java/lang/IllegalArgumentException") (E := "java/lang/IllegalArgumentException") hown [] ⟨0, 9, 12, 15⟩ [] (by rw [hTab]; rfl) (fun z9 hz9 => absurd hz9 List.not_mem_nil) (by decide) (by decide) (hts (.classLink R_L 15 "java/lang/IllegalArgumentException") (List.mem_cons_of_mem _ mB_98)) (bad_use (by decide) (hE.2.2.1 (.castable "java/lang/IllegalArgumentException" "java/lang/IllegalArgumentException") (by decide))) hce hcv hcl ?_
    refine lv_astore (lv' := [(4, .ref q9), (0, .ref (a_x a)), (1, .int (p0)), (2, .int (p1)), (3, .ref oo)]) hx hb d_L_due_12 hl (by decide) rfl (fun ls hl => ?_)
    refine lv_iconst (v := 1) hx hb d_L_due_14 (by decide) ?_
    refine W.widen (k := 2) (n := 12) (Nat.le_of_ble_eq_true rfl) (Nat.le_of_ble_eq_true rfl) ?_
    exact W.iret (v := 1) hx hb hr (fun t ht hW => ⟨⟨_, (), rfl, hc9.symm, w, fo, by rw [ht]; exact hP, hD, by rw [kz_due (by rw [hc9]; decide)]; exact ⟨a, rfl, hC1⟩, ho0, fun h9 => absurd (hc9.symm.trans h9) (by decide), fun _ _ _ => rfl⟩, hS.F ht⟩) hS.2.2 d_L_due_15
  · obtain ⟨hc9, ev9⟩ := hp9
    obtain ⟨w8, hP, hD, hC8, hb8⟩ := hB
    rw [ht] at hP
    refine va_last hx hb hK hP hD hS (ko) 1 ((hb8 ko hko).trans ho0) rfl (vp_in_nI (n := 0) (by decide) (by decide)) d_L_due_8 (fun H locs hP hD hS => ?_)
    have hP : va_P D vwCl (w8.set ko (oo, aL cL 1 (vp_updL fo (0 : Int32).toNatClampNeg (v9)))) H := hP
    have hD : va_D A (w8.set ko (oo, aL cL 1 (vp_updL fo (0 : Int32).toNatClampNeg (v9)))) := hD
    have hC8 : cAt (w8.set ko (oo, aL cL 1 (vp_updL fo (0 : Int32).toNatClampNeg (v9)))) b cI cL cD (a_x a) (f_due z p0 p1).2.2 := hC8.kb (by rw [List.length_set]) (fun j hj => ws_n (by omega))
    have ho8 : (w8.set ko (oo, aL cL 1 (vp_updL fo (0 : Int32).toNatClampNeg (v9))))[ko]? = some (oo, aL cL 1 (vp_updL fo (0 : Int32).toNatClampNeg (v9))) := ws_s ((hb8 ko hko).trans ho0)
    have hb8 : ∀ j, j < b → j ≠ ko → (w8.set ko (oo, aL cL 1 (vp_updL fo (0 : Int32).toNatClampNeg (v9))))[j]? = w[j]? := fun j hj hj2 => (ws_n (Ne.symm hj2)).trans (hb8 j hj)
    generalize w8.set ko (oo, aL cL 1 (vp_updL fo (0 : Int32).toNatClampNeg (v9))) = w9 at hP hD hC8 ho8 hb8
    refine lv_goto (tgt := 16) hx hb d_L_due_9 (by decide) ?_
    refine lv_iconst (v := 0) hx hb d_L_due_16 (by decide) ?_
    refine W.widen (k := 2) (n := 12) (Nat.le_of_ble_eq_true rfl) (Nat.le_of_ble_eq_true rfl) ?_
    exact W.iret (v := 0) hx hb hr (fun t ht hW => ⟨⟨_, (), rfl, hc9.symm, w9, _, by rw [ht]; exact hP, hD, hC8, ho8, fun _ => by rw [← ev9]; exact pk_uLs, hb8⟩, hS.F ht⟩) hS.2.2 d_L_due_17
theorem kz_recourse {z : XT} {p0 : Int32} {p1 : Int32} {p2 : Int32} (h : ¬ (f_recourse z p0 p1 p2).1 = 0) : (f_recourse z p0 p1 p2).2.2 = z := by
  revert h
  unfold f_recourse
  repeat' split
  all_goals (intro h; first | rfl | exact absurd rfl h)
set_option maxHeartbeats 4000000 in
set_option maxRecDepth 100000 in
theorem c_L_recourse (l : Launch) (hl9 : l.stackTraces = false) (D : va_G) (A : Nat → Prop) (w : va_W) (cI cL cD : ClassId) (b ko oo : Nat) (fo : Nat → Int64) (x : Nat) (z : XT) (p0 : Int32) (p1 : Int32) (p2 : Int32) (hC0 : cAt w b cI cL cD x z) (ho0 : w[ko]? = some (oo, aL cL 1 fo)) (hko : ko < b) : Met l y_L_recourse w_L_recourse ({ frames := 8, cells := 2, slots := 12, locals := 137 }) (hPc D w (tyL cI cL cD) A [.ref x, .int (p0), .int (p1), .int (p2), .ref oo]) (va_Qi (fun z9 (_ : Unit) => z9 = (f_recourse z p0 p1 p2).1) (fun (_ : Unit) t => ∃ (w9 : va_W) (fo9 : Nat → Int64), va_P D vwCl w9 t.heap ∧ va_D A w9 ∧ cAt w9 b cI cL cD x (f_recourse z p0 p1 p2).2.2 ∧ w9[ko]? = some (oo, aL cL 1 fo9) ∧ ((f_recourse z p0 p1 p2).1 = 0 → fo9 0 = (f_recourse z p0 p1 p2).2.1) ∧ ∀ j, j < b → j ≠ ko → w9[j]? = w[j]?) A) 2 12 A := by
  obtain ⟨a, rfl, hC1⟩ := hC0
  refine mz_ofWH (cc := b_L_recourse) (maxL := 6) (ret := (some .int)) (hh := [(0, 11, 14, 15)]) (by decide) rfl ?_
  intro p e s m args below meth c s₁ B hml hTab hv
  obtain ⟨rfl, hP, hK, hD, hE, hA, hN⟩ := hv
  have hx := B.exec
  have hb := B.bytes
  have hr := B.returns
  have hts := atoms_spec (ws := w_L_recourse) B.pre
  have hown : s.vm.findClass R_L = some m.cls := findClass_of_methodNamed B.named
  have hlocks := B.notSynchronized
  have hS : va_S A s.heap s.heap [] := va_S.rf
  have hl := lv_entry ([.ref (a_x a), .int (p0), .int (p1), .int (p2), .ref oo]) (n := 6) (Nat.le_of_ble_eq_true rfl)
  rw [lg_entry_eq]
  generalize (lg_sl ([.ref (a_x a), .int (p0), .int (p1), .int (p2), .ref oo]) ++ List.replicate (6 - (lg_sl ([.ref (a_x a), .int (p0), .int (p1), .int (p2), .ref oo])).length) Slot.unset).toArray = ls at hl ⊢
  have hl : lv_has ls 6 [(0, .ref (a_x a)), (1, .int (p0)), (2, .int (p1)), (3, .int (p2)), (4, .ref oo)] := hl
  refine lv_aload hx hb d_L_recourse_0 (lv_at hl 4 rfl) ?_
  refine lv_iconst (v := 0) hx hb d_L_recourse_2 (by decide) ?_
  refine lv_aload_n hx hb d_L_recourse_3 rfl (lv_at hl 0 rfl) ?_
  refine lv_iload_n hx hb d_L_recourse_4 rfl (lv_at hl 1 rfl) ?_
  refine lv_iload_n hx hb d_L_recourse_5 rfl (lv_at hl 2 rfl) ?_
  refine lv_iload_n hx hb d_L_recourse_6 rfl (lv_at hl 3 rfl) ?_
  refine vx_calll (vx_runV (As := [.int (p0), .int (p1), .int (p2)]) (rest := [.int (0), .ref oo]) ⟨hx, hb, hml, hown, hts⟩ (c_recourse l hl9 D A w cI cL cD b a z p0 p1 p2 hC1) (cwV 3 hts (gV _ mB_368 mB_369 mB_370 mB_15 mB_371) rfl rfl rfl (by decide +kernel) ⟨(Nat.le_of_ble_eq_true rfl), (Nat.le_of_ble_eq_true rfl)⟩) ⟨ePc_bl, va_recv hK hP (ci := 2) (q0 := b) rfl hC1.x, ePc_pr hP hK hD hE hS⟩ rfl rfl hl.1 rfl (lv_room (Nat.le_of_ble_eq_true rfl)) d_L_recourse_7 ⟨(Nat.le_of_ble_eq_true rfl), (Nat.le_of_ble_eq_true rfl)⟩) hS (fun _ _ h => h) (fun _ h => h) (fun _ _ h => h) (fun E9 ce q9 u9 t H locs ht hvm hp9 hB hz1 hk1 hS hce hcv hcl => ?_) (fun v9 u9 t H locs ht hvm hp9 hB hz1 hk1 hS => ?_)
  · obtain ⟨hex, hP⟩ := hB
    rw [ht] at hP
    obtain ⟨rfl, hc9⟩ := exN1 hex
    refine vx_catch (own := R_L) (name := "java/lang/IllegalArgumentException") (E := "java/lang/IllegalArgumentException") hown [] ⟨0, 11, 14, 15⟩ [] (by rw [hTab]; rfl) (fun z9 hz9 => absurd hz9 List.not_mem_nil) (by decide) (by decide) (hts (.classLink R_L 15 "java/lang/IllegalArgumentException") (List.mem_cons_of_mem _ mB_98)) (bad_use (by decide) (hE.2.2.1 (.castable "java/lang/IllegalArgumentException" "java/lang/IllegalArgumentException") (by decide))) hce hcv hcl ?_
    refine lv_astore (lv' := [(5, .ref q9), (0, .ref (a_x a)), (1, .int (p0)), (2, .int (p1)), (3, .int (p2)), (4, .ref oo)]) hx hb d_L_recourse_14 hl (by decide) rfl (fun ls hl => ?_)
    refine lv_iconst (v := 1) hx hb d_L_recourse_16 (by decide) ?_
    refine W.widen (k := 2) (n := 12) (Nat.le_of_ble_eq_true rfl) (Nat.le_of_ble_eq_true rfl) ?_
    exact W.iret (v := 1) hx hb hr (fun t ht hW => ⟨⟨_, (), rfl, hc9.symm, w, fo, by rw [ht]; exact hP, hD, by rw [kz_recourse (by rw [hc9]; decide)]; exact ⟨a, rfl, hC1⟩, ho0, fun h9 => absurd (hc9.symm.trans h9) (by decide), fun _ _ _ => rfl⟩, hS.F ht⟩) hS.2.2 d_L_recourse_17
  · obtain ⟨hc9, ev9⟩ := hp9
    obtain ⟨w8, hP, hD, hC8, hb8⟩ := hB
    rw [ht] at hP
    refine va_last hx hb hK hP hD hS (ko) 1 ((hb8 ko hko).trans ho0) rfl (vp_in_nI (n := 0) (by decide) (by decide)) d_L_recourse_10 (fun H locs hP hD hS => ?_)
    have hP : va_P D vwCl (w8.set ko (oo, aL cL 1 (vp_updL fo (0 : Int32).toNatClampNeg (v9)))) H := hP
    have hD : va_D A (w8.set ko (oo, aL cL 1 (vp_updL fo (0 : Int32).toNatClampNeg (v9)))) := hD
    have hC8 : cAt (w8.set ko (oo, aL cL 1 (vp_updL fo (0 : Int32).toNatClampNeg (v9)))) b cI cL cD (a_x a) (f_recourse z p0 p1 p2).2.2 := hC8.kb (by rw [List.length_set]) (fun j hj => ws_n (by omega))
    have ho8 : (w8.set ko (oo, aL cL 1 (vp_updL fo (0 : Int32).toNatClampNeg (v9))))[ko]? = some (oo, aL cL 1 (vp_updL fo (0 : Int32).toNatClampNeg (v9))) := ws_s ((hb8 ko hko).trans ho0)
    have hb8 : ∀ j, j < b → j ≠ ko → (w8.set ko (oo, aL cL 1 (vp_updL fo (0 : Int32).toNatClampNeg (v9))))[j]? = w[j]? := fun j hj hj2 => (ws_n (Ne.symm hj2)).trans (hb8 j hj)
    generalize w8.set ko (oo, aL cL 1 (vp_updL fo (0 : Int32).toNatClampNeg (v9))) = w9 at hP hD hC8 ho8 hb8
    refine lv_goto (tgt := 18) hx hb d_L_recourse_11 (by decide) ?_
    refine lv_iconst (v := 0) hx hb d_L_recourse_18 (by decide) ?_
    refine W.widen (k := 2) (n := 12) (Nat.le_of_ble_eq_true rfl) (Nat.le_of_ble_eq_true rfl) ?_
    exact W.iret (v := 0) hx hb hr (fun t ht hW => ⟨⟨_, (), rfl, hc9.symm, w9, _, by rw [ht]; exact hP, hD, hC8, ho8, fun _ => by rw [← ev9]; exact pk_uLs, hb8⟩, hS.F ht⟩) hS.2.2 d_L_recourse_19
theorem kz_look {z : XT} {p0 : Int32} {p1 : Int32} (h : ¬ (f_look z p0 p1).1 = 0) : (f_look z p0 p1).2.2 = z := by
  revert h
  unfold f_look
  repeat' split
  all_goals (intro h; first | rfl | exact absurd rfl h)
set_option maxHeartbeats 4000000 in
set_option maxRecDepth 100000 in
theorem c_L_look (l : Launch) (hl9 : l.stackTraces = false) (D : va_G) (A : Nat → Prop) (w : va_W) (cI cL cD : ClassId) (b ko oo : Nat) (fo : Nat → Int64) (x : Nat) (z : XT) (p0 : Int32) (p1 : Int32) (hC0 : cAt w b cI cL cD x z) (ho0 : w[ko]? = some (oo, aL cL 1 fo)) (hko : ko < b) : Met l y_L_look w_L_look ({ frames := 7, cells := 1, slots := 6, locals := 113 }) (hPc D w (tyL cI cL cD) A [.ref x, .int (p0), .int (p1), .ref oo]) (va_Qi (fun z9 (_ : Unit) => z9 = (f_look z p0 p1).1) (fun (_ : Unit) t => ∃ (w9 : va_W) (fo9 : Nat → Int64), va_P D vwCl w9 t.heap ∧ va_D A w9 ∧ cAt w9 b cI cL cD x (f_look z p0 p1).2.2 ∧ w9[ko]? = some (oo, aL cL 1 fo9) ∧ ((f_look z p0 p1).1 = 0 → fo9 0 = ((f_look z p0 p1).2.1).toInt64) ∧ ∀ j, j < b → j ≠ ko → w9[j]? = w[j]?) A) 1 6 A := by
  obtain ⟨a, rfl, hC1⟩ := hC0
  refine mz_ofWH (cc := b_L_look) (maxL := 5) (ret := (some .int)) (hh := [(0, 10, 13, 56)]) (by decide) rfl ?_
  intro p e s m args below meth c s₁ B hml hTab hv
  obtain ⟨rfl, hP, hK, hD, hE, hA, hN⟩ := hv
  have hx := B.exec
  have hb := B.bytes
  have hr := B.returns
  have hts := atoms_spec (ws := w_L_look) B.pre
  have hown : s.vm.findClass R_L = some m.cls := findClass_of_methodNamed B.named
  have hlocks := B.notSynchronized
  have hS : va_S A s.heap s.heap [] := va_S.rf
  have hl := lv_entry ([.ref (a_x a), .int (p0), .int (p1), .ref oo]) (n := 5) (Nat.le_of_ble_eq_true rfl)
  rw [lg_entry_eq]
  generalize (lg_sl ([.ref (a_x a), .int (p0), .int (p1), .ref oo]) ++ List.replicate (5 - (lg_sl ([.ref (a_x a), .int (p0), .int (p1), .ref oo])).length) Slot.unset).toArray = ls at hl ⊢
  have hl : lv_has ls 5 [(0, .ref (a_x a)), (1, .int (p0)), (2, .int (p1)), (3, .ref oo)] := hl
  refine lv_aload_n hx hb d_L_look_0 rfl (lv_at hl 3 rfl) ?_
  refine lv_iconst (v := 0) hx hb d_L_look_1 (by decide) ?_
  refine lv_aload_n hx hb d_L_look_2 rfl (lv_at hl 0 rfl) ?_
  refine lv_iload_n hx hb d_L_look_3 rfl (lv_at hl 1 rfl) ?_
  refine lv_iload_n hx hb d_L_look_4 rfl (lv_at hl 2 rfl) ?_
  refine vx_calli (vx_runV (As := [.int (p0), .int (p1)]) (rest := [.int (0), .ref oo]) ⟨hx, hb, hml, hown, hts⟩ (c_look l hl9 D A w cI cL cD b a z p0 p1 hC1) (cwV 2 hts (gV _ mB_386 mB_387 mB_388 mB_15 mB_389) rfl rfl rfl (by decide +kernel) ⟨(Nat.le_of_ble_eq_true rfl), (Nat.le_of_ble_eq_true rfl)⟩) ⟨ePc_bl, va_recv hK hP (ci := 2) (q0 := b) rfl hC1.x, ePc_pr hP hK hD hE hS⟩ rfl rfl hl.1 rfl (lv_room (Nat.le_of_ble_eq_true rfl)) d_L_look_5 ⟨(Nat.le_of_ble_eq_true rfl), (Nat.le_of_ble_eq_true rfl)⟩) hS (fun _ _ h => h) (fun _ h => h) (fun _ _ h => h) (fun E9 ce q9 u9 t H locs ht hvm hp9 hB hz1 hk1 hS hce hcv hcl => ?_) (fun v9 u9 t H locs ht hvm hp9 hB hz1 hk1 hS => ?_)
  · obtain ⟨hex, hP⟩ := hB
    rw [ht] at hP
    obtain ⟨rfl, hc9⟩ := exN1 hex
    refine vx_catch (own := R_L) (name := "java/lang/IndexOutOfBoundsException") (E := "java/lang/IndexOutOfBoundsException") hown [] ⟨0, 10, 13, 56⟩ [] (by rw [hTab]; rfl) (fun z9 hz9 => absurd hz9 List.not_mem_nil) (by decide) (by decide) (hts (.classLink R_L 56 "java/lang/IndexOutOfBoundsException") (List.mem_cons_of_mem _ mB_385)) (bad_use (by decide) (hE.2.2.1 (.castable "java/lang/IndexOutOfBoundsException" "java/lang/IndexOutOfBoundsException") (by decide))) hce hcv hcl ?_
    refine lv_astore (lv' := [(4, .ref q9), (0, .ref (a_x a)), (1, .int (p0)), (2, .int (p1)), (3, .ref oo)]) hx hb d_L_look_13 hl (by decide) rfl (fun ls hl => ?_)
    refine lv_iconst (v := 1) hx hb d_L_look_15 (by decide) ?_
    refine W.widen (k := 1) (n := 6) (Nat.le_of_ble_eq_true rfl) (Nat.le_of_ble_eq_true rfl) ?_
    exact W.iret (v := 1) hx hb hr (fun t ht hW => ⟨⟨_, (), rfl, hc9.symm, w, fo, by rw [ht]; exact hP, hD, by rw [kz_look (by rw [hc9]; decide)]; exact ⟨a, rfl, hC1⟩, ho0, fun h9 => absurd (hc9.symm.trans h9) (by decide), fun _ _ _ => rfl⟩, hS.F ht⟩) hS.2.2 d_L_look_16
  · obtain ⟨hc9, ev9⟩ := hp9
    obtain ⟨w8, hP, hD, hC8, hb8⟩ := hB
    rw [ht] at hP
    refine lv_i2l hx hb d_L_look_8 rfl ?_
    refine va_last hx hb hK hP hD hS (ko) 1 ((hb8 ko hko).trans ho0) rfl (vp_in_nI (n := 0) (by decide) (by decide)) d_L_look_9 (fun H locs hP hD hS => ?_)
    have hP : va_P D vwCl (w8.set ko (oo, aL cL 1 (vp_updL fo (0 : Int32).toNatClampNeg ((v9 : Int32).toInt64)))) H := hP
    have hD : va_D A (w8.set ko (oo, aL cL 1 (vp_updL fo (0 : Int32).toNatClampNeg ((v9 : Int32).toInt64)))) := hD
    have hC8 : cAt (w8.set ko (oo, aL cL 1 (vp_updL fo (0 : Int32).toNatClampNeg ((v9 : Int32).toInt64)))) b cI cL cD (a_x a) (f_look z p0 p1).2.2 := hC8.kb (by rw [List.length_set]) (fun j hj => ws_n (by omega))
    have ho8 : (w8.set ko (oo, aL cL 1 (vp_updL fo (0 : Int32).toNatClampNeg ((v9 : Int32).toInt64))))[ko]? = some (oo, aL cL 1 (vp_updL fo (0 : Int32).toNatClampNeg ((v9 : Int32).toInt64))) := ws_s ((hb8 ko hko).trans ho0)
    have hb8 : ∀ j, j < b → j ≠ ko → (w8.set ko (oo, aL cL 1 (vp_updL fo (0 : Int32).toNatClampNeg ((v9 : Int32).toInt64))))[j]? = w[j]? := fun j hj hj2 => (ws_n (Ne.symm hj2)).trans (hb8 j hj)
    generalize w8.set ko (oo, aL cL 1 (vp_updL fo (0 : Int32).toNatClampNeg ((v9 : Int32).toInt64))) = w9 at hP hD hC8 ho8 hb8
    refine lv_goto (tgt := 17) hx hb d_L_look_10 (by decide) ?_
    refine lv_iconst (v := 0) hx hb d_L_look_17 (by decide) ?_
    refine W.widen (k := 1) (n := 6) (Nat.le_of_ble_eq_true rfl) (Nat.le_of_ble_eq_true rfl) ?_
    exact W.iret (v := 0) hx hb hr (fun t ht hW => ⟨⟨_, (), rfl, hc9.symm, w9, _, by rw [ht]; exact hP, hD, hC8, ho8, fun _ => by rw [← ev9]; exact pk_uLs, hb8⟩, hS.F ht⟩) hS.2.2 d_L_look_18
