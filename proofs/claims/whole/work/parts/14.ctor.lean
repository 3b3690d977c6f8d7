/-- a start with room for new cells in A -/
def aPc (D : va_G) (w : va_W) (tys : List (ClassId × FieldType)) (A : Nat → Prop) (av : List Value) : Array Value → State → Prop := va_Pc av (fun U => va_P D vwCl w U.heap ∧ va_K D vwCl tys U ∧ va_D A w ∧ ∀ q : Nat, U.heap.size ≤ q → A q)
theorem aPc_bl {D : va_G} {w : va_W} {tys : List (ClassId × FieldType)} {A : Nat → Prop} {av : List Value} : FrameBlind (aPc D w tys A av) := fun a U g mk q => by
  obtain ⟨q0, qP, qK, qD, qE⟩ := q
  exact ⟨q0, qP, va_K.moved (u := U) (U := U.calling g mk a) (Vm.Alike.refl U.vm) qK, qD, qE⟩
theorem aPc_pr {D : va_G} {w : va_W} {tys : List (ClassId × FieldType)} {A : Nat → Prop} {av : List Value} {s : State} {H : Heap} (hP : va_P D vwCl w H) (hK : va_K D vwCl tys s) (hD : va_D A w) (hA : ∀ q : Nat, H.size ≤ q → A q) : ∀ U : State, U.heap = H → s.WarmedH U.vm → aPc D w tys A av av.toArray U := fun U hU hW => ⟨rfl, by rw [hU]; exact hP, va_K.moved hW.alike hK, hD, by rw [hU]; exact hA⟩
def oPc (D : va_G) (w : va_W) (tys : List (ClassId × FieldType)) (A : Nat → Prop) (av : List Value) : Array Value → State → Prop := va_Pc av (fun U => va_P D vwCl w U.heap ∧ va_K D vwCl tys U ∧ va_D A w ∧ (∀ q : Nat, U.heap.size ≤ q → A q) ∧ va_AO "DebtRows$Debt" U)
theorem oPc_bl {D : va_G} {w : va_W} {tys : List (ClassId × FieldType)} {A : Nat → Prop} {av : List Value} : FrameBlind (oPc D w tys A av) := fun a U g mk q => by
  obtain ⟨q0, qP, qK, qD, qE, qO⟩ := q
  exact ⟨q0, qP, va_K.moved (u := U) (U := U.calling g mk a) (Vm.Alike.refl U.vm) qK, qD, qE, va_AO.moved (u := U) (U := U.calling g mk a) (Vm.Alike.refl U.vm) qO⟩
theorem oPc_pr {D : va_G} {w : va_W} {tys : List (ClassId × FieldType)} {A : Nat → Prop} {av : List Value} {s : State} {H : Heap} (hP : va_P D vwCl w H) (hK : va_K D vwCl tys s) (hD : va_D A w) (hA : ∀ q : Nat, H.size ≤ q → A q) (hO : va_AO "DebtRows$Debt" s) : ∀ U : State, U.heap = H → s.WarmedH U.vm → oPc D w tys A av av.toArray U := fun U hU hW => ⟨rfl, by rw [hU]; exact hP, va_K.moved hW.alike hK, hD, by rw [hU]; exact hA, va_AO.moved hW.alike hO⟩
def fPc (D : va_G) (w : va_W) (tys : List (ClassId × FieldType)) (A : Nat → Prop) (av : List Value) : Array Value → State → Prop := va_Pc av (fun U => va_P D vwCl w U.heap ∧ va_K D vwCl tys U ∧ va_D A w ∧ xEnv A U ∧ ∀ q : Nat, U.heap.size ≤ q → A q)
theorem fPc_bl {D : va_G} {w : va_W} {tys : List (ClassId × FieldType)} {A : Nat → Prop} {av : List Value} : FrameBlind (fPc D w tys A av) := fun a U g mk q => by
  obtain ⟨q0, qP, qK, qD, qE, qA⟩ := q
  exact ⟨q0, qP, va_K.moved (u := U) (U := U.calling g mk a) (Vm.Alike.refl U.vm) qK, qD, qE.mv (U := U.calling g mk a) (va_S.rf (A := A)) rfl (State.WarmedH.refl U), qA⟩
theorem fPc_pr {D : va_G} {w : va_W} {tys : List (ClassId × FieldType)} {A : Nat → Prop} {av : List Value} {s : State} {H : Heap} {locs : List Loc} (hP : va_P D vwCl w H) (hK : va_K D vwCl tys s) (hD : va_D A w) (hE : xEnv A s) (hS : va_S A s.heap H locs) (hA : ∀ q : Nat, s.heap.size ≤ q → A q) : ∀ U : State, U.heap = H → s.WarmedH U.vm → fPc D w tys A av av.toArray U := fun U hU hW => ⟨rfl, by rw [hU]; exact hP, va_K.moved hW.alike hK, hD, hE.mv hS hU hW, fun q h => hA q (Nat.le_trans hS.1 (by rw [← hU]; exact h))⟩
/-- one class for the arrays of one type -/
theorem kI_eq {D : va_G} {cl : List vw_C} {t1 t2 : List (ClassId × FieldType)} {U : State} {c1 c2 : ClassId} (h1 : va_K D cl t1 U) (h2 : va_K D cl t2 U) (i j : Nat) (e1 : t1[i]? = some (c1, .int)) (e2 : t2[j]? = some (c2, .int)) : c1 = c2 := by
  have a := (h1.2 i _ e1).2
  have b := (h2.2 j _ e2).2
  exact Option.some.inj (a.symm.trans b)
theorem kL_eq {D : va_G} {cl : List vw_C} {t1 t2 : List (ClassId × FieldType)} {U : State} {c1 c2 : ClassId} (h1 : va_K D cl t1 U) (h2 : va_K D cl t2 U) (i j : Nat) (e1 : t1[i]? = some (c1, .long)) (e2 : t2[j]? = some (c2, .long)) : c1 = c2 := by
  have a := (h1.2 i _ e1).2
  have b := (h2.2 j _ e2).2
  exact Option.some.inj (a.symm.trans b)
theorem ap_l {w : va_W} {j : Nat} {q : Nat × va_E} {e : Nat × va_E} (h : w[j]? = some e) : (w ++ [q])[j]? = some e := by
  rw [List.getElem?_append_left (List.getElem?_eq_some_iff.mp h).1]; exact h
theorem ap_k {w : va_W} {j : Nat} {q : Nat × va_E} (h : j < w.length) : (w ++ [q])[j]? = w[j]? := List.getElem?_append_left h
theorem ap_r {w : va_W} {k : Nat} {q : Nat × va_E} (h : w.length = k) : (w ++ [q])[k]? = some q := by
  subst h; rw [List.getElem?_append_right (Nat.le_refl _), Nat.sub_self]; rfl
theorem ap_n {w : va_W} {k : Nat} {q : Nat × va_E} (h : w.length = k) : (w ++ [q]).length = k + 1 := by rw [List.length_append, h]; rfl

abbrev dNew (cents : Int64) (birth : Int32) : DT := (cents, birth, fun _ => 0, fun _ => 0, 0, 0, -1, 0, cents, 0, 0, 0, 0, 0, 0)
set_option maxHeartbeats 4000000 in
set_option maxRecDepth 100000 in
theorem c_Dinit (l : Launch) (D : va_G) (A : Nat → Prop) (w : va_W) (cI cL cD : ClassId) (k h0 : Nat) (cents : Int64) (birth : Int32) (ho0 : w[k]? = some (h0, .inr (0, [.long (0), .int (0), .null, .null, .int (0), .int (0), .int (0), .int (0), .long (0), .long (0), .long (0), .long (0), .int (0), .int (0), .long (0)]))) (hn0 : w.length = k + 1) : Met l y_D_init w_D_init ({ frames := 1, cells := 2, slots := 8, locals := 12 }) (aPc D w (tyL cI cL cD) A [.ref h0, .long (cents), .int (birth)]) (va_Qv (fun _ : Unit => True) (fun (_ : Unit) t => ∃ (w9 : va_W) (hp hq : Nat), va_P D vwCl w9 t.heap ∧ va_D A w9 ∧ dAt w9 k cI cL h0 hp hq (dNew cents birth) ∧ w9.length = k + 3 ∧ ∀ j, j < k → w9[j]? = w[j]?) A) 2 8 A := by
  refine Met.ofW (cc := b_D_init) (maxL := 4) (ret := none) (by decide) rfl ?_
  intro p e s m args below meth c s₁ B hml hv
  obtain ⟨rfl, hP, hK, hD, hA⟩ := hv
  have hx := B.exec
  have hb := B.bytes
  have hr := B.returns
  have hts := atoms_spec (ws := w_D_init) B.pre
  have hown : s.vm.findClass R_D = some m.cls := findClass_of_methodNamed B.named
  have hlocks := B.notSynchronized
  have hin : meth.name = "<init>" := (name_of_methodNamed B.named B.method).1
  have hS : va_S A s.heap s.heap [] := va_S.rf
  have ho := ho0
  have hn := hn0
  have hk : ∀ j, j < k → w[j]? = w[j]? := fun _ _ => rfl
  have hl := lv_entry ([.ref h0, .long (cents), .int (birth)]) (n := 4) (Nat.le_of_ble_eq_true rfl)
  rw [lg_entry_eq]
  generalize (lg_sl ([.ref h0, .long (cents), .int (birth)]) ++ List.replicate (4 - (lg_sl ([.ref h0, .long (cents), .int (birth)])).length) Slot.unset).toArray = ls at hl ⊢
  have hl : lv_has ls 4 [(0, .ref h0), (1, .long (cents)), (3, .int (birth))] := hl
  refine lv_aload_n hx hb d_D_init_0 rfl (lv_at hl 0 rfl) ?_
  refine W.objInit hx hb hown (hts (.methodLink R_D 3 objectInit) (List.mem_cons_of_mem _ mB_207)) (hts (.instanceMethod objectInit) (List.mem_cons_of_mem _ mB_33)) (hts _ (List.mem_cons_of_mem _ mC_obj)) rfl (by rw [hml]; exact hl.1) rfl d_D_init_1 (Nat.le_of_ble_eq_true rfl) (Nat.le_of_ble_eq_true rfl) ?_
  refine W.eq (g2 := F0 m 4 ls []) rfl ?_
  refine lv_aload_n hx hb d_D_init_4 rfl (lv_at hl 0 rfl) ?_
  refine lv_lload_n hx hb d_D_init_5 rfl (lv_at hl 1 rfl) ?_
  refine va_putF (D := D) (ci := 0) (v := .long (cents)) (ty := .long) (C := R_D) (T := F_D) (N := 15) hx hb hts (in_D _) t_D to_D nn_D hown hK hP hD hS k ho rfl 0 (by decide) (hts (.fieldLink R_D 9 "DebtRows$Debt" "cents" "J") (List.mem_cons_of_mem _ mB_208)) (fun _ h9 => h9) rfl hin rfl (by decide +kernel) rfl rfl (Nat.le_of_ble_eq_true rfl) d_D_init_6 (fun H locs hP hD hS => ?_)
  have ho : (w.set k (h0, .inr (0, [.long (cents), .int (0), .null, .null, .int (0), .int (0), .int (0), .int (0), .long (0), .long (0), .long (0), .long (0), .int (0), .int (0), .long (0)])))[k]? = some (h0, .inr (0, [.long (cents), .int (0), .null, .null, .int (0), .int (0), .int (0), .int (0), .long (0), .long (0), .long (0), .long (0), .int (0), .int (0), .long (0)])) := ws_s ho
  have hn : (w.set k (h0, .inr (0, [.long (cents), .int (0), .null, .null, .int (0), .int (0), .int (0), .int (0), .long (0), .long (0), .long (0), .long (0), .int (0), .int (0), .long (0)]))).length = k + 1 := by rw [List.length_set]; exact hn
  have hk : ∀ j, j < k → (w.set k (h0, .inr (0, [.long (cents), .int (0), .null, .null, .int (0), .int (0), .int (0), .int (0), .long (0), .long (0), .long (0), .long (0), .int (0), .int (0), .long (0)])))[j]? = w[j]? := fun j hj => (ws_n (by omega)).trans (hk j hj)
  have hP : va_P D vwCl (w.set k (h0, .inr (0, [.long (cents), .int (0), .null, .null, .int (0), .int (0), .int (0), .int (0), .long (0), .long (0), .long (0), .long (0), .int (0), .int (0), .long (0)]))) H := hP
  have hD : va_D A (w.set k (h0, .inr (0, [.long (cents), .int (0), .null, .null, .int (0), .int (0), .int (0), .int (0), .long (0), .long (0), .long (0), .long (0), .int (0), .int (0), .long (0)]))) := hD
  generalize w.set k (h0, .inr (0, [.long (cents), .int (0), .null, .null, .int (0), .int (0), .int (0), .int (0), .long (0), .long (0), .long (0), .long (0), .int (0), .int (0), .long (0)])) = w_246 at hP hD ho hn hk
  refine lv_aload_n hx hb d_D_init_9 rfl (lv_at hl 0 rfl) ?_
  refine lv_iload_n hx hb d_D_init_10 rfl (lv_at hl 2 rfl) ?_
  refine va_putF (D := D) (ci := 0) (v := .int (birth)) (ty := .int) (C := R_D) (T := F_D) (N := 15) hx hb hts (in_D _) t_D to_D nn_D hown hK hP hD hS k ho rfl 1 (by decide) (hts (.fieldLink R_D 15 "DebtRows$Debt" "birth" "I") (List.mem_cons_of_mem _ mB_210)) (fun _ h9 => h9) rfl hin rfl (by decide +kernel) rfl rfl (Nat.le_of_ble_eq_true rfl) d_D_init_11 (fun H locs hP hD hS => ?_)
  have ho : (w_246.set k (h0, .inr (0, [.long (cents), .int (birth), .null, .null, .int (0), .int (0), .int (0), .int (0), .long (0), .long (0), .long (0), .long (0), .int (0), .int (0), .long (0)])))[k]? = some (h0, .inr (0, [.long (cents), .int (birth), .null, .null, .int (0), .int (0), .int (0), .int (0), .long (0), .long (0), .long (0), .long (0), .int (0), .int (0), .long (0)])) := ws_s ho
  have hn : (w_246.set k (h0, .inr (0, [.long (cents), .int (birth), .null, .null, .int (0), .int (0), .int (0), .int (0), .long (0), .long (0), .long (0), .long (0), .int (0), .int (0), .long (0)]))).length = k + 1 := by rw [List.length_set]; exact hn
  have hk : ∀ j, j < k → (w_246.set k (h0, .inr (0, [.long (cents), .int (birth), .null, .null, .int (0), .int (0), .int (0), .int (0), .long (0), .long (0), .long (0), .long (0), .int (0), .int (0), .long (0)])))[j]? = w[j]? := fun j hj => (ws_n (by omega)).trans (hk j hj)
  have hP : va_P D vwCl (w_246.set k (h0, .inr (0, [.long (cents), .int (birth), .null, .null, .int (0), .int (0), .int (0), .int (0), .long (0), .long (0), .long (0), .long (0), .int (0), .int (0), .long (0)]))) H := hP
  have hD : va_D A (w_246.set k (h0, .inr (0, [.long (cents), .int (birth), .null, .null, .int (0), .int (0), .int (0), .int (0), .long (0), .long (0), .long (0), .long (0), .int (0), .int (0), .long (0)]))) := hD
  generalize w_246.set k (h0, .inr (0, [.long (cents), .int (birth), .null, .null, .int (0), .int (0), .int (0), .int (0), .long (0), .long (0), .long (0), .long (0), .int (0), .int (0), .long (0)])) = w_247 at hP hD ho hn hk
  refine lv_aload_n hx hb d_D_init_14 rfl (lv_at hl 0 rfl) ?_
  refine lv_iconst (v := 4) hx hb d_D_init_15 (by decide) ?_
  refine va_newa (atype := .int) (ty := .int) (n := 4) (N' := 4) (a0 := (4, .inl (fun _ => 0))) hx hb (hts (.arrayClass .int) (List.mem_cons_of_mem _ mB_51)) rfl hK hP hD hS hA (fun _ => rfl) (by decide) (by decide) (by decide) (Nat.le_of_ble_eq_true rfl) (Nat.le_of_ble_eq_true rfl) d_D_init_16 (fun q_248 cA_249 H hK1 hP hD hS => ?_)
  obtain rfl : cI = cA_249 := kI_eq hK hK1 0 3 rfl rfl
  have ho : ((w_247 ++ [(q_248, aI cI 4 (fun _ => 0))] : va_W))[k]? = some (h0, .inr (0, [.long (cents), .int (birth), .null, .null, .int (0), .int (0), .int (0), .int (0), .long (0), .long (0), .long (0), .long (0), .int (0), .int (0), .long (0)])) := ap_l ho
  have ha_251 : ((w_247 ++ [(q_248, aI cI 4 (fun _ => 0))] : va_W))[k + 1]? = some (q_248, aI cI 4 (fun _ => 0)) := ap_r hn
  have hk : ∀ j, j < k → ((w_247 ++ [(q_248, aI cI 4 (fun _ => 0))] : va_W))[j]? = w[j]? := fun j hj => (ap_k (by omega)).trans (hk j hj)
  have hn : ((w_247 ++ [(q_248, aI cI 4 (fun _ => 0))] : va_W)).length = k + 2 := ap_n hn
  have hP : va_P D vwCl ((w_247 ++ [(q_248, aI cI 4 (fun _ => 0))] : va_W)) H := hP
  have hD : va_D A ((w_247 ++ [(q_248, aI cI 4 (fun _ => 0))] : va_W)) := hD
  generalize (w_247 ++ [(q_248, aI cI 4 (fun _ => 0))] : va_W) = w_250 at hP hD ho hn hk ha_251
  refine va_putF (D := D) (ci := 0) (v := .ref q_248) (ty := (.array .int)) (C := R_D) (T := F_D) (N := 15) hx hb hts (in_D _) t_D to_D nn_D hown hK hP hD hS k ho rfl 2 (by decide) (hts (.fieldLink R_D 19 "DebtRows$Debt" "people" "[I") (List.mem_cons_of_mem _ mB_212)) (fun _ h9 => h9) rfl hin rfl (by decide +kernel) rfl rfl (Nat.le_of_ble_eq_true rfl) d_D_init_18 (fun H locs hP hD hS => ?_)
  have ho : (w_250.set k (h0, .inr (0, [.long (cents), .int (birth), .ref q_248, .null, .int (0), .int (0), .int (0), .int (0), .long (0), .long (0), .long (0), .long (0), .int (0), .int (0), .long (0)])))[k]? = some (h0, .inr (0, [.long (cents), .int (birth), .ref q_248, .null, .int (0), .int (0), .int (0), .int (0), .long (0), .long (0), .long (0), .long (0), .int (0), .int (0), .long (0)])) := ws_s ho
  have ha_251 : (w_250.set k (h0, .inr (0, [.long (cents), .int (birth), .ref q_248, .null, .int (0), .int (0), .int (0), .int (0), .long (0), .long (0), .long (0), .long (0), .int (0), .int (0), .long (0)])))[k + 1]? = some (q_248, aI cI 4 (fun _ => 0)) := by rw [ws_n (by omega)]; exact ha_251
  have hn : (w_250.set k (h0, .inr (0, [.long (cents), .int (birth), .ref q_248, .null, .int (0), .int (0), .int (0), .int (0), .long (0), .long (0), .long (0), .long (0), .int (0), .int (0), .long (0)]))).length = k + 2 := by rw [List.length_set]; exact hn
  have hk : ∀ j, j < k → (w_250.set k (h0, .inr (0, [.long (cents), .int (birth), .ref q_248, .null, .int (0), .int (0), .int (0), .int (0), .long (0), .long (0), .long (0), .long (0), .int (0), .int (0), .long (0)])))[j]? = w[j]? := fun j hj => (ws_n (by omega)).trans (hk j hj)
  have hP : va_P D vwCl (w_250.set k (h0, .inr (0, [.long (cents), .int (birth), .ref q_248, .null, .int (0), .int (0), .int (0), .int (0), .long (0), .long (0), .long (0), .long (0), .int (0), .int (0), .long (0)]))) H := hP
  have hD : va_D A (w_250.set k (h0, .inr (0, [.long (cents), .int (birth), .ref q_248, .null, .int (0), .int (0), .int (0), .int (0), .long (0), .long (0), .long (0), .long (0), .int (0), .int (0), .long (0)]))) := hD
  generalize w_250.set k (h0, .inr (0, [.long (cents), .int (birth), .ref q_248, .null, .int (0), .int (0), .int (0), .int (0), .long (0), .long (0), .long (0), .long (0), .int (0), .int (0), .long (0)])) = w_252 at hP hD ho hn hk ha_251
  refine lv_aload_n hx hb d_D_init_21 rfl (lv_at hl 0 rfl) ?_
  refine lv_iconst (v := 4) hx hb d_D_init_22 (by decide) ?_
  refine va_newa (atype := .long) (ty := .long) (n := 4) (N' := 4) (a0 := (4, .inr (.inl (fun _ => 0)))) hx hb (hts (.arrayClass .long) (List.mem_cons_of_mem _ mB_64)) rfl hK hP hD hS hA (fun _ => rfl) (by decide) (by decide) (by decide) (Nat.le_of_ble_eq_true rfl) (Nat.le_of_ble_eq_true rfl) d_D_init_23 (fun q_253 cA_254 H hK1 hP hD hS => ?_)
  obtain rfl : cL = cA_254 := kL_eq hK hK1 1 3 rfl rfl
  have ho : ((w_252 ++ [(q_253, aL cL 4 (fun _ => 0))] : va_W))[k]? = some (h0, .inr (0, [.long (cents), .int (birth), .ref q_248, .null, .int (0), .int (0), .int (0), .int (0), .long (0), .long (0), .long (0), .long (0), .int (0), .int (0), .long (0)])) := ap_l ho
  have ha_251 : ((w_252 ++ [(q_253, aL cL 4 (fun _ => 0))] : va_W))[k + 1]? = some (q_248, aI cI 4 (fun _ => 0)) := ap_l ha_251
  have ha_256 : ((w_252 ++ [(q_253, aL cL 4 (fun _ => 0))] : va_W))[k + 2]? = some (q_253, aL cL 4 (fun _ => 0)) := ap_r hn
  have hk : ∀ j, j < k → ((w_252 ++ [(q_253, aL cL 4 (fun _ => 0))] : va_W))[j]? = w[j]? := fun j hj => (ap_k (by omega)).trans (hk j hj)
  have hn : ((w_252 ++ [(q_253, aL cL 4 (fun _ => 0))] : va_W)).length = k + 3 := ap_n hn
  have hP : va_P D vwCl ((w_252 ++ [(q_253, aL cL 4 (fun _ => 0))] : va_W)) H := hP
  have hD : va_D A ((w_252 ++ [(q_253, aL cL 4 (fun _ => 0))] : va_W)) := hD
  generalize (w_252 ++ [(q_253, aL cL 4 (fun _ => 0))] : va_W) = w_255 at hP hD ho hn hk ha_251 ha_256
  refine va_putF (D := D) (ci := 0) (v := .ref q_253) (ty := (.array .long)) (C := R_D) (T := F_D) (N := 15) hx hb hts (in_D _) t_D to_D nn_D hown hK hP hD hS k ho rfl 3 (by decide) (hts (.fieldLink R_D 23 "DebtRows$Debt" "paid" "[J") (List.mem_cons_of_mem _ mB_213)) (fun _ h9 => h9) rfl hin rfl (by decide +kernel) rfl rfl (Nat.le_of_ble_eq_true rfl) d_D_init_25 (fun H locs hP hD hS => ?_)
  have ho : (w_255.set k (h0, .inr (0, [.long (cents), .int (birth), .ref q_248, .ref q_253, .int (0), .int (0), .int (0), .int (0), .long (0), .long (0), .long (0), .long (0), .int (0), .int (0), .long (0)])))[k]? = some (h0, .inr (0, [.long (cents), .int (birth), .ref q_248, .ref q_253, .int (0), .int (0), .int (0), .int (0), .long (0), .long (0), .long (0), .long (0), .int (0), .int (0), .long (0)])) := ws_s ho
  have ha_251 : (w_255.set k (h0, .inr (0, [.long (cents), .int (birth), .ref q_248, .ref q_253, .int (0), .int (0), .int (0), .int (0), .long (0), .long (0), .long (0), .long (0), .int (0), .int (0), .long (0)])))[k + 1]? = some (q_248, aI cI 4 (fun _ => 0)) := by rw [ws_n (by omega)]; exact ha_251
  have ha_256 : (w_255.set k (h0, .inr (0, [.long (cents), .int (birth), .ref q_248, .ref q_253, .int (0), .int (0), .int (0), .int (0), .long (0), .long (0), .long (0), .long (0), .int (0), .int (0), .long (0)])))[k + 2]? = some (q_253, aL cL 4 (fun _ => 0)) := by rw [ws_n (by omega)]; exact ha_256
  have hn : (w_255.set k (h0, .inr (0, [.long (cents), .int (birth), .ref q_248, .ref q_253, .int (0), .int (0), .int (0), .int (0), .long (0), .long (0), .long (0), .long (0), .int (0), .int (0), .long (0)]))).length = k + 3 := by rw [List.length_set]; exact hn
  have hk : ∀ j, j < k → (w_255.set k (h0, .inr (0, [.long (cents), .int (birth), .ref q_248, .ref q_253, .int (0), .int (0), .int (0), .int (0), .long (0), .long (0), .long (0), .long (0), .int (0), .int (0), .long (0)])))[j]? = w[j]? := fun j hj => (ws_n (by omega)).trans (hk j hj)
  have hP : va_P D vwCl (w_255.set k (h0, .inr (0, [.long (cents), .int (birth), .ref q_248, .ref q_253, .int (0), .int (0), .int (0), .int (0), .long (0), .long (0), .long (0), .long (0), .int (0), .int (0), .long (0)]))) H := hP
  have hD : va_D A (w_255.set k (h0, .inr (0, [.long (cents), .int (birth), .ref q_248, .ref q_253, .int (0), .int (0), .int (0), .int (0), .long (0), .long (0), .long (0), .long (0), .int (0), .int (0), .long (0)]))) := hD
  generalize w_255.set k (h0, .inr (0, [.long (cents), .int (birth), .ref q_248, .ref q_253, .int (0), .int (0), .int (0), .int (0), .long (0), .long (0), .long (0), .long (0), .int (0), .int (0), .long (0)])) = w_257 at hP hD ho hn hk ha_251 ha_256
  refine lv_aload_n hx hb d_D_init_28 rfl (lv_at hl 0 rfl) ?_
  refine lv_iconst (v := 0) hx hb d_D_init_29 (by decide) ?_
  refine va_put (D := D) (ci := 0) (v := .int (0)) (ty := .int) (C := R_D) (T := F_D) (N := 15) hx hb hts (in_D _) t_D to_D nn_D hown hK hP hD hS k ho rfl 5 (by decide) (hts (.fieldLink R_D 27 "DebtRows$Debt" "state" "I") (List.mem_cons_of_mem _ mB_216)) (fun _ h9 => h9) rfl (by decide +kernel) rfl rfl (Nat.le_of_ble_eq_true rfl) d_D_init_30 (fun H locs hP hD hS => ?_)
  have ho : (w_257.set k (h0, .inr (0, [.long (cents), .int (birth), .ref q_248, .ref q_253, .int (0), .int (0), .int (0), .int (0), .long (0), .long (0), .long (0), .long (0), .int (0), .int (0), .long (0)])))[k]? = some (h0, .inr (0, [.long (cents), .int (birth), .ref q_248, .ref q_253, .int (0), .int (0), .int (0), .int (0), .long (0), .long (0), .long (0), .long (0), .int (0), .int (0), .long (0)])) := ws_s ho
  have ha_251 : (w_257.set k (h0, .inr (0, [.long (cents), .int (birth), .ref q_248, .ref q_253, .int (0), .int (0), .int (0), .int (0), .long (0), .long (0), .long (0), .long (0), .int (0), .int (0), .long (0)])))[k + 1]? = some (q_248, aI cI 4 (fun _ => 0)) := by rw [ws_n (by omega)]; exact ha_251
  have ha_256 : (w_257.set k (h0, .inr (0, [.long (cents), .int (birth), .ref q_248, .ref q_253, .int (0), .int (0), .int (0), .int (0), .long (0), .long (0), .long (0), .long (0), .int (0), .int (0), .long (0)])))[k + 2]? = some (q_253, aL cL 4 (fun _ => 0)) := by rw [ws_n (by omega)]; exact ha_256
  have hn : (w_257.set k (h0, .inr (0, [.long (cents), .int (birth), .ref q_248, .ref q_253, .int (0), .int (0), .int (0), .int (0), .long (0), .long (0), .long (0), .long (0), .int (0), .int (0), .long (0)]))).length = k + 3 := by rw [List.length_set]; exact hn
  have hk : ∀ j, j < k → (w_257.set k (h0, .inr (0, [.long (cents), .int (birth), .ref q_248, .ref q_253, .int (0), .int (0), .int (0), .int (0), .long (0), .long (0), .long (0), .long (0), .int (0), .int (0), .long (0)])))[j]? = w[j]? := fun j hj => (ws_n (by omega)).trans (hk j hj)
  have hP : va_P D vwCl (w_257.set k (h0, .inr (0, [.long (cents), .int (birth), .ref q_248, .ref q_253, .int (0), .int (0), .int (0), .int (0), .long (0), .long (0), .long (0), .long (0), .int (0), .int (0), .long (0)]))) H := hP
  have hD : va_D A (w_257.set k (h0, .inr (0, [.long (cents), .int (birth), .ref q_248, .ref q_253, .int (0), .int (0), .int (0), .int (0), .long (0), .long (0), .long (0), .long (0), .int (0), .int (0), .long (0)]))) := hD
  generalize w_257.set k (h0, .inr (0, [.long (cents), .int (birth), .ref q_248, .ref q_253, .int (0), .int (0), .int (0), .int (0), .long (0), .long (0), .long (0), .long (0), .int (0), .int (0), .long (0)])) = w_258 at hP hD ho hn hk ha_251 ha_256
  refine lv_aload_n hx hb d_D_init_33 rfl (lv_at hl 0 rfl) ?_
  refine lv_iconst (v := -1) hx hb d_D_init_34 (by decide) ?_
  refine va_put (D := D) (ci := 0) (v := .int (-1)) (ty := .int) (C := R_D) (T := F_D) (N := 15) hx hb hts (in_D _) t_D to_D nn_D hown hK hP hD hS k ho rfl 6 (by decide) (hts (.fieldLink R_D 30 "DebtRows$Debt" "dueDay" "I") (List.mem_cons_of_mem _ mB_218)) (fun _ h9 => h9) rfl (by decide +kernel) rfl rfl (Nat.le_of_ble_eq_true rfl) d_D_init_35 (fun H locs hP hD hS => ?_)
  have ho : (w_258.set k (h0, .inr (0, [.long (cents), .int (birth), .ref q_248, .ref q_253, .int (0), .int (0), .int (-1), .int (0), .long (0), .long (0), .long (0), .long (0), .int (0), .int (0), .long (0)])))[k]? = some (h0, .inr (0, [.long (cents), .int (birth), .ref q_248, .ref q_253, .int (0), .int (0), .int (-1), .int (0), .long (0), .long (0), .long (0), .long (0), .int (0), .int (0), .long (0)])) := ws_s ho
  have ha_251 : (w_258.set k (h0, .inr (0, [.long (cents), .int (birth), .ref q_248, .ref q_253, .int (0), .int (0), .int (-1), .int (0), .long (0), .long (0), .long (0), .long (0), .int (0), .int (0), .long (0)])))[k + 1]? = some (q_248, aI cI 4 (fun _ => 0)) := by rw [ws_n (by omega)]; exact ha_251
  have ha_256 : (w_258.set k (h0, .inr (0, [.long (cents), .int (birth), .ref q_248, .ref q_253, .int (0), .int (0), .int (-1), .int (0), .long (0), .long (0), .long (0), .long (0), .int (0), .int (0), .long (0)])))[k + 2]? = some (q_253, aL cL 4 (fun _ => 0)) := by rw [ws_n (by omega)]; exact ha_256
  have hn : (w_258.set k (h0, .inr (0, [.long (cents), .int (birth), .ref q_248, .ref q_253, .int (0), .int (0), .int (-1), .int (0), .long (0), .long (0), .long (0), .long (0), .int (0), .int (0), .long (0)]))).length = k + 3 := by rw [List.length_set]; exact hn
  have hk : ∀ j, j < k → (w_258.set k (h0, .inr (0, [.long (cents), .int (birth), .ref q_248, .ref q_253, .int (0), .int (0), .int (-1), .int (0), .long (0), .long (0), .long (0), .long (0), .int (0), .int (0), .long (0)])))[j]? = w[j]? := fun j hj => (ws_n (by omega)).trans (hk j hj)
  have hP : va_P D vwCl (w_258.set k (h0, .inr (0, [.long (cents), .int (birth), .ref q_248, .ref q_253, .int (0), .int (0), .int (-1), .int (0), .long (0), .long (0), .long (0), .long (0), .int (0), .int (0), .long (0)]))) H := hP
  have hD : va_D A (w_258.set k (h0, .inr (0, [.long (cents), .int (birth), .ref q_248, .ref q_253, .int (0), .int (0), .int (-1), .int (0), .long (0), .long (0), .long (0), .long (0), .int (0), .int (0), .long (0)]))) := hD
  generalize w_258.set k (h0, .inr (0, [.long (cents), .int (birth), .ref q_248, .ref q_253, .int (0), .int (0), .int (-1), .int (0), .long (0), .long (0), .long (0), .long (0), .int (0), .int (0), .long (0)])) = w_259 at hP hD ho hn hk ha_251 ha_256
  refine lv_aload_n hx hb d_D_init_38 rfl (lv_at hl 0 rfl) ?_
  refine lv_lload_n hx hb d_D_init_39 rfl (lv_at hl 1 rfl) ?_
  refine va_put (D := D) (ci := 0) (v := .long (cents)) (ty := .long) (C := R_D) (T := F_D) (N := 15) hx hb hts (in_D _) t_D to_D nn_D hown hK hP hD hS k ho rfl 8 (by decide) (hts (.fieldLink R_D 33 "DebtRows$Debt" "open" "J") (List.mem_cons_of_mem _ mB_221)) (fun _ h9 => h9) rfl (by decide +kernel) rfl rfl (Nat.le_of_ble_eq_true rfl) d_D_init_40 (fun H locs hP hD hS => ?_)
  have ho : (w_259.set k (h0, .inr (0, [.long (cents), .int (birth), .ref q_248, .ref q_253, .int (0), .int (0), .int (-1), .int (0), .long (cents), .long (0), .long (0), .long (0), .int (0), .int (0), .long (0)])))[k]? = some (h0, .inr (0, [.long (cents), .int (birth), .ref q_248, .ref q_253, .int (0), .int (0), .int (-1), .int (0), .long (cents), .long (0), .long (0), .long (0), .int (0), .int (0), .long (0)])) := ws_s ho
  have ha_251 : (w_259.set k (h0, .inr (0, [.long (cents), .int (birth), .ref q_248, .ref q_253, .int (0), .int (0), .int (-1), .int (0), .long (cents), .long (0), .long (0), .long (0), .int (0), .int (0), .long (0)])))[k + 1]? = some (q_248, aI cI 4 (fun _ => 0)) := by rw [ws_n (by omega)]; exact ha_251
  have ha_256 : (w_259.set k (h0, .inr (0, [.long (cents), .int (birth), .ref q_248, .ref q_253, .int (0), .int (0), .int (-1), .int (0), .long (cents), .long (0), .long (0), .long (0), .int (0), .int (0), .long (0)])))[k + 2]? = some (q_253, aL cL 4 (fun _ => 0)) := by rw [ws_n (by omega)]; exact ha_256
  have hn : (w_259.set k (h0, .inr (0, [.long (cents), .int (birth), .ref q_248, .ref q_253, .int (0), .int (0), .int (-1), .int (0), .long (cents), .long (0), .long (0), .long (0), .int (0), .int (0), .long (0)]))).length = k + 3 := by rw [List.length_set]; exact hn
  have hk : ∀ j, j < k → (w_259.set k (h0, .inr (0, [.long (cents), .int (birth), .ref q_248, .ref q_253, .int (0), .int (0), .int (-1), .int (0), .long (cents), .long (0), .long (0), .long (0), .int (0), .int (0), .long (0)])))[j]? = w[j]? := fun j hj => (ws_n (by omega)).trans (hk j hj)
  have hP : va_P D vwCl (w_259.set k (h0, .inr (0, [.long (cents), .int (birth), .ref q_248, .ref q_253, .int (0), .int (0), .int (-1), .int (0), .long (cents), .long (0), .long (0), .long (0), .int (0), .int (0), .long (0)]))) H := hP
  have hD : va_D A (w_259.set k (h0, .inr (0, [.long (cents), .int (birth), .ref q_248, .ref q_253, .int (0), .int (0), .int (-1), .int (0), .long (cents), .long (0), .long (0), .long (0), .int (0), .int (0), .long (0)]))) := hD
  generalize w_259.set k (h0, .inr (0, [.long (cents), .int (birth), .ref q_248, .ref q_253, .int (0), .int (0), .int (-1), .int (0), .long (cents), .long (0), .long (0), .long (0), .int (0), .int (0), .long (0)])) = w_260 at hP hD ho hn hk ha_251 ha_256
  refine W.widen (k := 2) (n := 8) (Nat.le_of_ble_eq_true rfl) (Nat.le_of_ble_eq_true rfl) ?_
  exact W.vret hx hb hr (fun t ht hW => ⟨⟨(), rfl, trivial, w_260, q_248, q_253, by rw [ht]; exact hP, hD, ⟨ho, ha_251, ha_256⟩, hn, hk⟩, hS.F ht⟩) hS.2.2 d_D_init_43
abbrev rNew : RT := (0, fun _ => 0, fun _ => 0, fun _ => 0)
set_option maxHeartbeats 4000000 in
set_option maxRecDepth 100000 in
theorem c_Rinit (l : Launch) (D : va_G) (A : Nat → Prop) (w : va_W) (cI cL cD : ClassId) (k h0 : Nat)  (ho0 : w[k]? = some (h0, .inr (1, [.null, .null, .null, .int (0)]))) (hn0 : w.length = k + 1) : Met l y_S_init w_S_init ({ frames := 1, cells := 3, slots := 60, locals := 12 }) (aPc D w (tyL cI cL cD) A [.ref h0]) (va_Qv (fun _ : Unit => True) (fun (_ : Unit) t => ∃ (w9 : va_W) (fr up dn : Nat), va_P D vwCl w9 t.heap ∧ va_D A w9 ∧ rAt w9 k cI h0 fr up dn rNew ∧ w9.length = k + 4 ∧ ∀ j, j < k → w9[j]? = w[j]?) A) 3 60 A := by
  refine Met.ofW (cc := b_S_init) (maxL := 1) (ret := none) (by decide) rfl ?_
  intro p e s m args below meth c s₁ B hml hv
  obtain ⟨rfl, hP, hK, hD, hA⟩ := hv
  have hx := B.exec
  have hb := B.bytes
  have hr := B.returns
  have hts := atoms_spec (ws := w_S_init) B.pre
  have hown : s.vm.findClass R_S = some m.cls := findClass_of_methodNamed B.named
  have hlocks := B.notSynchronized
  have hin : meth.name = "<init>" := (name_of_methodNamed B.named B.method).1
  have hS : va_S A s.heap s.heap [] := va_S.rf
  have ho := ho0
  have hn := hn0
  have hk : ∀ j, j < k → w[j]? = w[j]? := fun _ _ => rfl
  have hl := lv_entry ([.ref h0]) (n := 1) (Nat.le_of_ble_eq_true rfl)
  rw [lg_entry_eq]
  generalize (lg_sl ([.ref h0]) ++ List.replicate (1 - (lg_sl ([.ref h0])).length) Slot.unset).toArray = ls at hl ⊢
  have hl : lv_has ls 1 [(0, .ref h0)] := hl
  refine lv_aload_n hx hb d_S_init_0 rfl (lv_at hl 0 rfl) ?_
  refine W.objInit hx hb hown (hts (.methodLink R_S 3 objectInit) (List.mem_cons_of_mem _ mB_40)) (hts (.instanceMethod objectInit) (List.mem_cons_of_mem _ mB_33)) (hts _ (List.mem_cons_of_mem _ mC_obj)) rfl (by rw [hml]; exact hl.1) rfl d_S_init_1 (Nat.le_of_ble_eq_true rfl) (Nat.le_of_ble_eq_true rfl) ?_
  refine W.eq (g2 := F0 m 4 ls []) rfl ?_
  refine lv_aload_n hx hb d_S_init_4 rfl (lv_at hl 0 rfl) ?_
  refine lv_bipush (v := 20) hx hb d_S_init_5 (by decide) ?_
  refine va_newa (atype := .int) (ty := .int) (n := 20) (N' := 20) (a0 := (20, .inl (fun _ => 0))) hx hb (hts (.arrayClass .int) (List.mem_cons_of_mem _ mB_51)) rfl hK hP hD hS hA (fun _ => rfl) (by decide) (by decide) (by decide) (Nat.le_of_ble_eq_true rfl) (Nat.le_of_ble_eq_true rfl) d_S_init_7 (fun q_261 cA_262 H hK1 hP hD hS => ?_)
  obtain rfl : cI = cA_262 := kI_eq hK hK1 0 3 rfl rfl
  have ho : ((w ++ [(q_261, aI cI 20 (fun _ => 0))] : va_W))[k]? = some (h0, .inr (1, [.null, .null, .null, .int (0)])) := ap_l ho
  have ha_264 : ((w ++ [(q_261, aI cI 20 (fun _ => 0))] : va_W))[k + 1]? = some (q_261, aI cI 20 (fun _ => 0)) := ap_r hn
  have hk : ∀ j, j < k → ((w ++ [(q_261, aI cI 20 (fun _ => 0))] : va_W))[j]? = w[j]? := fun j hj => (ap_k (by omega)).trans (hk j hj)
  have hn : ((w ++ [(q_261, aI cI 20 (fun _ => 0))] : va_W)).length = k + 2 := ap_n hn
  have hP : va_P D vwCl ((w ++ [(q_261, aI cI 20 (fun _ => 0))] : va_W)) H := hP
  have hD : va_D A ((w ++ [(q_261, aI cI 20 (fun _ => 0))] : va_W)) := hD
  generalize (w ++ [(q_261, aI cI 20 (fun _ => 0))] : va_W) = w_263 at hP hD ho hn hk ha_264
  refine va_putF (D := D) (ci := 1) (v := .ref q_261) (ty := (.array .int)) (C := R_S) (T := F_S) (N := 4) hx hb hts (in_S _) t_S to_S nn_S hown hK hP hD hS k ho rfl 0 (by decide) (hts (.fieldLink R_S 9 "DebtRows$Rates" "from" "[I") (List.mem_cons_of_mem _ mB_41)) (fun _ h9 => h9) rfl hin rfl (by decide +kernel) rfl rfl (Nat.le_of_ble_eq_true rfl) d_S_init_9 (fun H locs hP hD hS => ?_)
  have ho : (w_263.set k (h0, .inr (1, [.ref q_261, .null, .null, .int (0)])))[k]? = some (h0, .inr (1, [.ref q_261, .null, .null, .int (0)])) := ws_s ho
  have ha_264 : (w_263.set k (h0, .inr (1, [.ref q_261, .null, .null, .int (0)])))[k + 1]? = some (q_261, aI cI 20 (fun _ => 0)) := by rw [ws_n (by omega)]; exact ha_264
  have hn : (w_263.set k (h0, .inr (1, [.ref q_261, .null, .null, .int (0)]))).length = k + 2 := by rw [List.length_set]; exact hn
  have hk : ∀ j, j < k → (w_263.set k (h0, .inr (1, [.ref q_261, .null, .null, .int (0)])))[j]? = w[j]? := fun j hj => (ws_n (by omega)).trans (hk j hj)
  have hP : va_P D vwCl (w_263.set k (h0, .inr (1, [.ref q_261, .null, .null, .int (0)]))) H := hP
  have hD : va_D A (w_263.set k (h0, .inr (1, [.ref q_261, .null, .null, .int (0)]))) := hD
  generalize w_263.set k (h0, .inr (1, [.ref q_261, .null, .null, .int (0)])) = w_265 at hP hD ho hn hk ha_264
  refine lv_aload_n hx hb d_S_init_12 rfl (lv_at hl 0 rfl) ?_
  refine lv_bipush (v := 20) hx hb d_S_init_13 (by decide) ?_
  refine va_newa (atype := .int) (ty := .int) (n := 20) (N' := 20) (a0 := (20, .inl (fun _ => 0))) hx hb (hts (.arrayClass .int) (List.mem_cons_of_mem _ mB_51)) rfl hK hP hD hS hA (fun _ => rfl) (by decide) (by decide) (by decide) (Nat.le_of_ble_eq_true rfl) (Nat.le_of_ble_eq_true rfl) d_S_init_15 (fun q_266 cA_267 H hK1 hP hD hS => ?_)
  obtain rfl : cI = cA_267 := kI_eq hK hK1 0 3 rfl rfl
  have ho : ((w_265 ++ [(q_266, aI cI 20 (fun _ => 0))] : va_W))[k]? = some (h0, .inr (1, [.ref q_261, .null, .null, .int (0)])) := ap_l ho
  have ha_264 : ((w_265 ++ [(q_266, aI cI 20 (fun _ => 0))] : va_W))[k + 1]? = some (q_261, aI cI 20 (fun _ => 0)) := ap_l ha_264
  have ha_269 : ((w_265 ++ [(q_266, aI cI 20 (fun _ => 0))] : va_W))[k + 2]? = some (q_266, aI cI 20 (fun _ => 0)) := ap_r hn
  have hk : ∀ j, j < k → ((w_265 ++ [(q_266, aI cI 20 (fun _ => 0))] : va_W))[j]? = w[j]? := fun j hj => (ap_k (by omega)).trans (hk j hj)
  have hn : ((w_265 ++ [(q_266, aI cI 20 (fun _ => 0))] : va_W)).length = k + 3 := ap_n hn
  have hP : va_P D vwCl ((w_265 ++ [(q_266, aI cI 20 (fun _ => 0))] : va_W)) H := hP
  have hD : va_D A ((w_265 ++ [(q_266, aI cI 20 (fun _ => 0))] : va_W)) := hD
  generalize (w_265 ++ [(q_266, aI cI 20 (fun _ => 0))] : va_W) = w_268 at hP hD ho hn hk ha_264 ha_269
  refine va_putF (D := D) (ci := 1) (v := .ref q_266) (ty := (.array .int)) (C := R_S) (T := F_S) (N := 4) hx hb hts (in_S _) t_S to_S nn_S hown hK hP hD hS k ho rfl 1 (by decide) (hts (.fieldLink R_S 15 "DebtRows$Rates" "up" "[I") (List.mem_cons_of_mem _ mB_42)) (fun _ h9 => h9) rfl hin rfl (by decide +kernel) rfl rfl (Nat.le_of_ble_eq_true rfl) d_S_init_17 (fun H locs hP hD hS => ?_)
  have ho : (w_268.set k (h0, .inr (1, [.ref q_261, .ref q_266, .null, .int (0)])))[k]? = some (h0, .inr (1, [.ref q_261, .ref q_266, .null, .int (0)])) := ws_s ho
  have ha_264 : (w_268.set k (h0, .inr (1, [.ref q_261, .ref q_266, .null, .int (0)])))[k + 1]? = some (q_261, aI cI 20 (fun _ => 0)) := by rw [ws_n (by omega)]; exact ha_264
  have ha_269 : (w_268.set k (h0, .inr (1, [.ref q_261, .ref q_266, .null, .int (0)])))[k + 2]? = some (q_266, aI cI 20 (fun _ => 0)) := by rw [ws_n (by omega)]; exact ha_269
  have hn : (w_268.set k (h0, .inr (1, [.ref q_261, .ref q_266, .null, .int (0)]))).length = k + 3 := by rw [List.length_set]; exact hn
  have hk : ∀ j, j < k → (w_268.set k (h0, .inr (1, [.ref q_261, .ref q_266, .null, .int (0)])))[j]? = w[j]? := fun j hj => (ws_n (by omega)).trans (hk j hj)
  have hP : va_P D vwCl (w_268.set k (h0, .inr (1, [.ref q_261, .ref q_266, .null, .int (0)]))) H := hP
  have hD : va_D A (w_268.set k (h0, .inr (1, [.ref q_261, .ref q_266, .null, .int (0)]))) := hD
  generalize w_268.set k (h0, .inr (1, [.ref q_261, .ref q_266, .null, .int (0)])) = w_270 at hP hD ho hn hk ha_264 ha_269
  refine lv_aload_n hx hb d_S_init_20 rfl (lv_at hl 0 rfl) ?_
  refine lv_bipush (v := 20) hx hb d_S_init_21 (by decide) ?_
  refine va_newa (atype := .int) (ty := .int) (n := 20) (N' := 20) (a0 := (20, .inl (fun _ => 0))) hx hb (hts (.arrayClass .int) (List.mem_cons_of_mem _ mB_51)) rfl hK hP hD hS hA (fun _ => rfl) (by decide) (by decide) (by decide) (Nat.le_of_ble_eq_true rfl) (Nat.le_of_ble_eq_true rfl) d_S_init_23 (fun q_271 cA_272 H hK1 hP hD hS => ?_)
  obtain rfl : cI = cA_272 := kI_eq hK hK1 0 3 rfl rfl
  have ho : ((w_270 ++ [(q_271, aI cI 20 (fun _ => 0))] : va_W))[k]? = some (h0, .inr (1, [.ref q_261, .ref q_266, .null, .int (0)])) := ap_l ho
  have ha_264 : ((w_270 ++ [(q_271, aI cI 20 (fun _ => 0))] : va_W))[k + 1]? = some (q_261, aI cI 20 (fun _ => 0)) := ap_l ha_264
  have ha_269 : ((w_270 ++ [(q_271, aI cI 20 (fun _ => 0))] : va_W))[k + 2]? = some (q_266, aI cI 20 (fun _ => 0)) := ap_l ha_269
  have ha_274 : ((w_270 ++ [(q_271, aI cI 20 (fun _ => 0))] : va_W))[k + 3]? = some (q_271, aI cI 20 (fun _ => 0)) := ap_r hn
  have hk : ∀ j, j < k → ((w_270 ++ [(q_271, aI cI 20 (fun _ => 0))] : va_W))[j]? = w[j]? := fun j hj => (ap_k (by omega)).trans (hk j hj)
  have hn : ((w_270 ++ [(q_271, aI cI 20 (fun _ => 0))] : va_W)).length = k + 4 := ap_n hn
  have hP : va_P D vwCl ((w_270 ++ [(q_271, aI cI 20 (fun _ => 0))] : va_W)) H := hP
  have hD : va_D A ((w_270 ++ [(q_271, aI cI 20 (fun _ => 0))] : va_W)) := hD
  generalize (w_270 ++ [(q_271, aI cI 20 (fun _ => 0))] : va_W) = w_273 at hP hD ho hn hk ha_264 ha_269 ha_274
  refine va_putF (D := D) (ci := 1) (v := .ref q_271) (ty := (.array .int)) (C := R_S) (T := F_S) (N := 4) hx hb hts (in_S _) t_S to_S nn_S hown hK hP hD hS k ho rfl 2 (by decide) (hts (.fieldLink R_S 18 "DebtRows$Rates" "down" "[I") (List.mem_cons_of_mem _ mB_43)) (fun _ h9 => h9) rfl hin rfl (by decide +kernel) rfl rfl (Nat.le_of_ble_eq_true rfl) d_S_init_25 (fun H locs hP hD hS => ?_)
  have ho : (w_273.set k (h0, .inr (1, [.ref q_261, .ref q_266, .ref q_271, .int (0)])))[k]? = some (h0, .inr (1, [.ref q_261, .ref q_266, .ref q_271, .int (0)])) := ws_s ho
  have ha_264 : (w_273.set k (h0, .inr (1, [.ref q_261, .ref q_266, .ref q_271, .int (0)])))[k + 1]? = some (q_261, aI cI 20 (fun _ => 0)) := by rw [ws_n (by omega)]; exact ha_264
  have ha_269 : (w_273.set k (h0, .inr (1, [.ref q_261, .ref q_266, .ref q_271, .int (0)])))[k + 2]? = some (q_266, aI cI 20 (fun _ => 0)) := by rw [ws_n (by omega)]; exact ha_269
  have ha_274 : (w_273.set k (h0, .inr (1, [.ref q_261, .ref q_266, .ref q_271, .int (0)])))[k + 3]? = some (q_271, aI cI 20 (fun _ => 0)) := by rw [ws_n (by omega)]; exact ha_274
  have hn : (w_273.set k (h0, .inr (1, [.ref q_261, .ref q_266, .ref q_271, .int (0)]))).length = k + 4 := by rw [List.length_set]; exact hn
  have hk : ∀ j, j < k → (w_273.set k (h0, .inr (1, [.ref q_261, .ref q_266, .ref q_271, .int (0)])))[j]? = w[j]? := fun j hj => (ws_n (by omega)).trans (hk j hj)
  have hP : va_P D vwCl (w_273.set k (h0, .inr (1, [.ref q_261, .ref q_266, .ref q_271, .int (0)]))) H := hP
  have hD : va_D A (w_273.set k (h0, .inr (1, [.ref q_261, .ref q_266, .ref q_271, .int (0)]))) := hD
  generalize w_273.set k (h0, .inr (1, [.ref q_261, .ref q_266, .ref q_271, .int (0)])) = w_275 at hP hD ho hn hk ha_264 ha_269 ha_274
  refine lv_aload_n hx hb d_S_init_28 rfl (lv_at hl 0 rfl) ?_
  refine lv_iconst (v := 0) hx hb d_S_init_29 (by decide) ?_
  refine va_put (D := D) (ci := 1) (v := .int (0)) (ty := .int) (C := R_S) (T := F_S) (N := 4) hx hb hts (in_S _) t_S to_S nn_S hown hK hP hD hS k ho rfl 3 (by decide) (hts (.fieldLink R_S 21 "DebtRows$Rates" "count" "I") (List.mem_cons_of_mem _ mB_44)) (fun _ h9 => h9) rfl (by decide +kernel) rfl rfl (Nat.le_of_ble_eq_true rfl) d_S_init_30 (fun H locs hP hD hS => ?_)
  have ho : (w_275.set k (h0, .inr (1, [.ref q_261, .ref q_266, .ref q_271, .int (0)])))[k]? = some (h0, .inr (1, [.ref q_261, .ref q_266, .ref q_271, .int (0)])) := ws_s ho
  have ha_264 : (w_275.set k (h0, .inr (1, [.ref q_261, .ref q_266, .ref q_271, .int (0)])))[k + 1]? = some (q_261, aI cI 20 (fun _ => 0)) := by rw [ws_n (by omega)]; exact ha_264
  have ha_269 : (w_275.set k (h0, .inr (1, [.ref q_261, .ref q_266, .ref q_271, .int (0)])))[k + 2]? = some (q_266, aI cI 20 (fun _ => 0)) := by rw [ws_n (by omega)]; exact ha_269
  have ha_274 : (w_275.set k (h0, .inr (1, [.ref q_261, .ref q_266, .ref q_271, .int (0)])))[k + 3]? = some (q_271, aI cI 20 (fun _ => 0)) := by rw [ws_n (by omega)]; exact ha_274
  have hn : (w_275.set k (h0, .inr (1, [.ref q_261, .ref q_266, .ref q_271, .int (0)]))).length = k + 4 := by rw [List.length_set]; exact hn
  have hk : ∀ j, j < k → (w_275.set k (h0, .inr (1, [.ref q_261, .ref q_266, .ref q_271, .int (0)])))[j]? = w[j]? := fun j hj => (ws_n (by omega)).trans (hk j hj)
  have hP : va_P D vwCl (w_275.set k (h0, .inr (1, [.ref q_261, .ref q_266, .ref q_271, .int (0)]))) H := hP
  have hD : va_D A (w_275.set k (h0, .inr (1, [.ref q_261, .ref q_266, .ref q_271, .int (0)]))) := hD
  generalize w_275.set k (h0, .inr (1, [.ref q_261, .ref q_266, .ref q_271, .int (0)])) = w_276 at hP hD ho hn hk ha_264 ha_269 ha_274
  refine W.widen (k := 3) (n := 60) (Nat.le_of_ble_eq_true rfl) (Nat.le_of_ble_eq_true rfl) ?_
  exact W.vret hx hb hr (fun t ht hW => ⟨⟨(), rfl, trivial, w_276, q_261, q_266, q_271, by rw [ht]; exact hP, hD, ⟨ho, ha_264, ha_269, ha_274⟩, hn, hk⟩, hS.F ht⟩) hS.2.2 d_S_init_33
abbrev xNew : XT := (0, 0, rNew, fun _ => 0, fun _ => dNew 0 0)
theorem kQ_eq {D : va_G} {cl : List vw_C} {t1 t2 : List (ClassId × FieldType)} {U : State} {c1 c2 : ClassId} {C : String} (h1 : va_K D cl t1 U) (h2 : va_K D cl t2 U) (i j : Nat) (e1 : t1[i]? = some (c1, .object C)) (e2 : t2[j]? = some (c2, .object C)) : c1 = c2 := by
  obtain ⟨-, -, -, -, -, a⟩ := (h1.2 i _ e1).2
  obtain ⟨-, -, -, -, -, b⟩ := (h2.2 j _ e2).2
  exact Option.some.inj (a.symm.trans b)
set_option maxHeartbeats 4000000 in
set_option maxRecDepth 100000 in
theorem c_Xinit (l : Launch) (D : va_G) (A : Nat → Prop) (w : va_W) (cI cL cD : ClassId) (k h0 : Nat)  (ho0 : w[k]? = some (h0, .inr (2, [.null, .null, .null, .int (0), .int (0)]))) (hn0 : w.length = k + 1) : Met l y_X_init w_X_init ({ frames := 2, cells := 6, slots := 120, locals := 32 }) (oPc D w (tyL cI cL cD) A [.ref h0]) (va_Qv (fun _ : Unit => True) (fun (_ : Unit) t => ∃ w9 : va_W, va_P D vwCl w9 t.heap ∧ va_D A w9 ∧ cAt w9 k cI cL cD h0 xNew ∧ ∀ j, j < k → w9[j]? = w[j]?) A) 6 120 A := by
  refine Met.ofW (cc := b_X_init) (maxL := 1) (ret := none) (by decide) rfl ?_
  intro p e s m args below meth c s₁ B hml hv
  obtain ⟨rfl, hP, hK, hD, hA, hAO⟩ := hv
  have hx := B.exec
  have hb := B.bytes
  have hr := B.returns
  have hts := atoms_spec (ws := w_X_init) B.pre
  have hown : s.vm.findClass R_X = some m.cls := findClass_of_methodNamed B.named
  have hlocks := B.notSynchronized
  have hin : meth.name = "<init>" := (name_of_methodNamed B.named B.method).1
  have hS : va_S A s.heap s.heap [] := va_S.rf
  have ho := ho0
  have hn := hn0
  have hk : ∀ j, j < k → w[j]? = w[j]? := fun _ _ => rfl
  have hl := lv_entry ([.ref h0]) (n := 1) (Nat.le_of_ble_eq_true rfl)
  rw [lg_entry_eq]
  generalize (lg_sl ([.ref h0]) ++ List.replicate (1 - (lg_sl ([.ref h0])).length) Slot.unset).toArray = ls at hl ⊢
  have hl : lv_has ls 1 [(0, .ref h0)] := hl
  refine lv_aload_n hx hb d_X_init_0 rfl (lv_at hl 0 rfl) ?_
  refine W.objInit hx hb hown (hts (.methodLink R_X 1 objectInit) (List.mem_cons_of_mem _ mB_32)) (hts (.instanceMethod objectInit) (List.mem_cons_of_mem _ mB_33)) (hts _ (List.mem_cons_of_mem _ mC_obj)) rfl (by rw [hml]; exact hl.1) rfl d_X_init_1 (Nat.le_of_ble_eq_true rfl) (Nat.le_of_ble_eq_true rfl) ?_
  refine W.eq (g2 := F0 m 4 ls []) rfl ?_
  refine lv_aload_n hx hb d_X_init_4 rfl (lv_at hl 0 rfl) ?_
  refine va_new (ci := 1) (fs := [.null, .null, .null, .int 0]) (C := R_S) (T := F_S) (N := 4) hx hb hts (in_S _) t_S to_S hown (hts (.classLink R_X 7 R_S) (List.mem_cons_of_mem _ mB_35)) (hts (.instantiable R_S 4) (List.mem_cons_of_mem _ mB_36)) (hts (.initialized R_S) (List.mem_cons_of_mem _ mB_16)) hK hP hD hS hA rfl (fun j hj => by rcases (show j = 0 ∨ j = 1 ∨ j = 2 ∨ j = 3 by omega) with rfl | rfl | rfl | rfl <;> rfl) (Nat.le_of_ble_eq_true rfl) (Nat.le_of_ble_eq_true rfl) d_X_init_5 (fun q_277 H hP hD hS => ?_)
  have ho : ((w ++ [(q_277, .inr (1, [.null, .null, .null, .int 0]))] : va_W))[k]? = some (h0, .inr (2, [.null, .null, .null, .int (0), .int (0)])) := ap_l ho
  have ha_279 : ((w ++ [(q_277, .inr (1, [.null, .null, .null, .int 0]))] : va_W))[k + 1]? = some (q_277, .inr (1, [.null, .null, .null, .int 0])) := ap_r hn
  have hk : ∀ j, j < k → ((w ++ [(q_277, .inr (1, [.null, .null, .null, .int 0]))] : va_W))[j]? = w[j]? := fun j hj => (ap_k (by omega)).trans (hk j hj)
  have hn : ((w ++ [(q_277, .inr (1, [.null, .null, .null, .int 0]))] : va_W)).length = k + 2 := ap_n hn
  have hP : va_P D vwCl ((w ++ [(q_277, .inr (1, [.null, .null, .null, .int 0]))] : va_W)) H := hP
  have hD : va_D A ((w ++ [(q_277, .inr (1, [.null, .null, .null, .int 0]))] : va_W)) := hD
  generalize (w ++ [(q_277, .inr (1, [.null, .null, .null, .int 0]))] : va_W) = w_278 at hP hD ho hn hk ha_279
  refine lv_dup hx hb d_X_init_8 rfl ?_
  refine va_callv (va_runI (As := []) (rest := [.ref q_277, .ref h0]) ⟨hx, hb, hml, hown, hts⟩ (c_Rinit l D A w_278 cI cL cD (k + 1) q_277 ha_279 hn) (cwI 0 hts (gI _ mB_39) rfl rfl rfl (hts (.initialized R_S) (List.mem_cons_of_mem _ mB_16)) (hts (.methodLink R_X 9 y_S_init) (List.mem_cons_of_mem _ mB_37)) (hts (.instanceMethod y_S_init) (List.mem_cons_of_mem _ mB_38)) rfl (by decide +kernel) ⟨(Nat.le_of_ble_eq_true rfl), (Nat.le_of_ble_eq_true rfl)⟩) ⟨aPc_bl, aPc_pr hP hK hD (fun q h => hA q (Nat.le_trans hS.1 h))⟩ rfl rfl hl.1 rfl (lv_room (Nat.le_of_ble_eq_true rfl)) d_X_init_9 ⟨(Nat.le_of_ble_eq_true rfl), (Nat.le_of_ble_eq_true rfl)⟩) hS (fun _ _ h => h) (fun _ h => h) (fun u9 t H locs ht hvm e9 hB hz1 hk1 hS => ?_)
  obtain ⟨w_280, fr, up, dn, hP, hD, hR, hn, hk9⟩ := hB
  rw [ht] at hP
  have ho : w_280[k]? = some (h0, .inr (2, [.null, .null, .null, .int (0), .int (0)])) := by rw [hk9 k (by omega)]; exact ho
  have hk : ∀ j, j < k → w_280[j]? = w[j]? := fun j hj => (hk9 j (by omega)).trans (hk j hj)
  have hn : w_280.length = k + 5 := hn
  obtain ⟨hr0, hr1, hr2, hr3⟩ := hR
  refine va_putF (D := D) (ci := 2) (v := .ref q_277) (ty := (.object "DebtRows$Rates")) (C := R_X) (T := F_X) (N := 5) hx hb hts (in_X _) t_X to_X nn_X hown hK hP hD hS k ho rfl 0 (by decide) (hts (.fieldLink R_X 10 "DebtRows" "rates" "LDebtRows$Rates;") (List.mem_cons_of_mem _ mB_53)) (fun _ h9 => h9) rfl hin rfl (by decide +kernel) rfl rfl (Nat.le_of_ble_eq_true rfl) d_X_init_12 (fun H locs hP hD hS => ?_)
  have ho : (w_280.set k (h0, .inr (2, [.ref q_277, .null, .null, .int (0), .int (0)])))[k]? = some (h0, .inr (2, [.ref q_277, .null, .null, .int (0), .int (0)])) := ws_s ho
  have hr0 : (w_280.set k (h0, .inr (2, [.ref q_277, .null, .null, .int (0), .int (0)])))[k + 1]? = some (q_277, rE fr up dn rNew) := by rw [ws_n (by omega)]; exact hr0
  have hr1 : (w_280.set k (h0, .inr (2, [.ref q_277, .null, .null, .int (0), .int (0)])))[k + 1 + 1]? = some (fr, aI cI 20 (r_from rNew)) := by rw [ws_n (by omega)]; exact hr1
  have hr2 : (w_280.set k (h0, .inr (2, [.ref q_277, .null, .null, .int (0), .int (0)])))[k + 1 + 2]? = some (up, aI cI 20 (r_up rNew)) := by rw [ws_n (by omega)]; exact hr2
  have hr3 : (w_280.set k (h0, .inr (2, [.ref q_277, .null, .null, .int (0), .int (0)])))[k + 1 + 3]? = some (dn, aI cI 20 (r_down rNew)) := by rw [ws_n (by omega)]; exact hr3
  have hn : (w_280.set k (h0, .inr (2, [.ref q_277, .null, .null, .int (0), .int (0)]))).length = k + 5 := by rw [List.length_set]; exact hn
  have hk : ∀ j, j < k → (w_280.set k (h0, .inr (2, [.ref q_277, .null, .null, .int (0), .int (0)])))[j]? = w[j]? := fun j hj => (ws_n (by omega)).trans (hk j hj)
  have hP : va_P D vwCl (w_280.set k (h0, .inr (2, [.ref q_277, .null, .null, .int (0), .int (0)]))) H := hP
  have hD : va_D A (w_280.set k (h0, .inr (2, [.ref q_277, .null, .null, .int (0), .int (0)]))) := hD
  generalize w_280.set k (h0, .inr (2, [.ref q_277, .null, .null, .int (0), .int (0)])) = w_281 at hP hD ho hn hk hr0 hr1 hr2 hr3
  refine lv_aload_n hx hb d_X_init_15 rfl (lv_at hl 0 rfl) ?_
  refine lv_bipush (v := 40) hx hb d_X_init_16 (by decide) ?_
  refine va_newq (own := R_X) (index := 16) (C := "DebtRows$Debt") (n := 40) (N' := 40) hx hb hown (hts (.classLink R_X 16 R_D) (List.mem_cons_of_mem _ mB_52)) hAO hK hP hD hS hA (by decide) (by decide) (by decide) (Nat.le_of_ble_eq_true rfl) (Nat.le_of_ble_eq_true rfl) d_X_init_18 (fun q_282 cA_283 H hK1 hP hD hS => ?_)
  obtain rfl : cD = cA_283 := kQ_eq hK hK1 2 3 rfl rfl
  have ho : ((w_281 ++ [(q_282, aQ cD 40 (fun _ => none))] : va_W))[k]? = some (h0, .inr (2, [.ref q_277, .null, .null, .int (0), .int (0)])) := ap_l ho
  have hr0 : ((w_281 ++ [(q_282, aQ cD 40 (fun _ => none))] : va_W))[k + 1]? = some (q_277, rE fr up dn rNew) := ap_l hr0
  have hr1 : ((w_281 ++ [(q_282, aQ cD 40 (fun _ => none))] : va_W))[k + 1 + 1]? = some (fr, aI cI 20 (r_from rNew)) := ap_l hr1
  have hr2 : ((w_281 ++ [(q_282, aQ cD 40 (fun _ => none))] : va_W))[k + 1 + 2]? = some (up, aI cI 20 (r_up rNew)) := ap_l hr2
  have hr3 : ((w_281 ++ [(q_282, aQ cD 40 (fun _ => none))] : va_W))[k + 1 + 3]? = some (dn, aI cI 20 (r_down rNew)) := ap_l hr3
  have ha_285 : ((w_281 ++ [(q_282, aQ cD 40 (fun _ => none))] : va_W))[k + 5]? = some (q_282, aQ cD 40 (fun _ => none)) := ap_r hn
  have hk : ∀ j, j < k → ((w_281 ++ [(q_282, aQ cD 40 (fun _ => none))] : va_W))[j]? = w[j]? := fun j hj => (ap_k (by omega)).trans (hk j hj)
  have hn : ((w_281 ++ [(q_282, aQ cD 40 (fun _ => none))] : va_W)).length = k + 6 := ap_n hn
  have hP : va_P D vwCl ((w_281 ++ [(q_282, aQ cD 40 (fun _ => none))] : va_W)) H := hP
  have hD : va_D A ((w_281 ++ [(q_282, aQ cD 40 (fun _ => none))] : va_W)) := hD
  generalize (w_281 ++ [(q_282, aQ cD 40 (fun _ => none))] : va_W) = w_284 at hP hD ho hn hk hr0 hr1 hr2 hr3 ha_285
  refine va_putF (D := D) (ci := 2) (v := .ref q_282) (ty := (.array (.object "DebtRows$Debt"))) (C := R_X) (T := F_X) (N := 5) hx hb hts (in_X _) t_X to_X nn_X hown hK hP hD hS k ho rfl 1 (by decide) (hts (.fieldLink R_X 18 "DebtRows" "debts" "[LDebtRows$Debt;") (List.mem_cons_of_mem _ mB_54)) (fun _ h9 => h9) rfl hin rfl (by decide +kernel) rfl rfl (Nat.le_of_ble_eq_true rfl) d_X_init_21 (fun H locs hP hD hS => ?_)
  have ho : (w_284.set k (h0, .inr (2, [.ref q_277, .ref q_282, .null, .int (0), .int (0)])))[k]? = some (h0, .inr (2, [.ref q_277, .ref q_282, .null, .int (0), .int (0)])) := ws_s ho
  have hr0 : (w_284.set k (h0, .inr (2, [.ref q_277, .ref q_282, .null, .int (0), .int (0)])))[k + 1]? = some (q_277, rE fr up dn rNew) := by rw [ws_n (by omega)]; exact hr0
  have hr1 : (w_284.set k (h0, .inr (2, [.ref q_277, .ref q_282, .null, .int (0), .int (0)])))[k + 1 + 1]? = some (fr, aI cI 20 (r_from rNew)) := by rw [ws_n (by omega)]; exact hr1
  have hr2 : (w_284.set k (h0, .inr (2, [.ref q_277, .ref q_282, .null, .int (0), .int (0)])))[k + 1 + 2]? = some (up, aI cI 20 (r_up rNew)) := by rw [ws_n (by omega)]; exact hr2
  have hr3 : (w_284.set k (h0, .inr (2, [.ref q_277, .ref q_282, .null, .int (0), .int (0)])))[k + 1 + 3]? = some (dn, aI cI 20 (r_down rNew)) := by rw [ws_n (by omega)]; exact hr3
  have ha_285 : (w_284.set k (h0, .inr (2, [.ref q_277, .ref q_282, .null, .int (0), .int (0)])))[k + 5]? = some (q_282, aQ cD 40 (fun _ => none)) := by rw [ws_n (by omega)]; exact ha_285
  have hn : (w_284.set k (h0, .inr (2, [.ref q_277, .ref q_282, .null, .int (0), .int (0)]))).length = k + 6 := by rw [List.length_set]; exact hn
  have hk : ∀ j, j < k → (w_284.set k (h0, .inr (2, [.ref q_277, .ref q_282, .null, .int (0), .int (0)])))[j]? = w[j]? := fun j hj => (ws_n (by omega)).trans (hk j hj)
  have hP : va_P D vwCl (w_284.set k (h0, .inr (2, [.ref q_277, .ref q_282, .null, .int (0), .int (0)]))) H := hP
  have hD : va_D A (w_284.set k (h0, .inr (2, [.ref q_277, .ref q_282, .null, .int (0), .int (0)]))) := hD
  generalize w_284.set k (h0, .inr (2, [.ref q_277, .ref q_282, .null, .int (0), .int (0)])) = w_286 at hP hD ho hn hk hr0 hr1 hr2 hr3 ha_285
  refine lv_aload_n hx hb d_X_init_24 rfl (lv_at hl 0 rfl) ?_
  refine lv_bipush (v := 16) hx hb d_X_init_25 (by decide) ?_
  refine va_newa (atype := .long) (ty := .long) (n := 16) (N' := 16) (a0 := (16, .inr (.inl (fun _ => 0)))) hx hb (hts (.arrayClass .long) (List.mem_cons_of_mem _ mB_64)) rfl hK hP hD hS hA (fun _ => rfl) (by decide) (by decide) (by decide) (Nat.le_of_ble_eq_true rfl) (Nat.le_of_ble_eq_true rfl) d_X_init_27 (fun q_287 cA_288 H hK1 hP hD hS => ?_)
  obtain rfl : cL = cA_288 := kL_eq hK hK1 1 3 rfl rfl
  have ho : ((w_286 ++ [(q_287, aL cL 16 (fun _ => 0))] : va_W))[k]? = some (h0, .inr (2, [.ref q_277, .ref q_282, .null, .int (0), .int (0)])) := ap_l ho
  have hr0 : ((w_286 ++ [(q_287, aL cL 16 (fun _ => 0))] : va_W))[k + 1]? = some (q_277, rE fr up dn rNew) := ap_l hr0
  have hr1 : ((w_286 ++ [(q_287, aL cL 16 (fun _ => 0))] : va_W))[k + 1 + 1]? = some (fr, aI cI 20 (r_from rNew)) := ap_l hr1
  have hr2 : ((w_286 ++ [(q_287, aL cL 16 (fun _ => 0))] : va_W))[k + 1 + 2]? = some (up, aI cI 20 (r_up rNew)) := ap_l hr2
  have hr3 : ((w_286 ++ [(q_287, aL cL 16 (fun _ => 0))] : va_W))[k + 1 + 3]? = some (dn, aI cI 20 (r_down rNew)) := ap_l hr3
  have ha_285 : ((w_286 ++ [(q_287, aL cL 16 (fun _ => 0))] : va_W))[k + 5]? = some (q_282, aQ cD 40 (fun _ => none)) := ap_l ha_285
  have ha_290 : ((w_286 ++ [(q_287, aL cL 16 (fun _ => 0))] : va_W))[k + 6]? = some (q_287, aL cL 16 (fun _ => 0)) := ap_r hn
  have hk : ∀ j, j < k → ((w_286 ++ [(q_287, aL cL 16 (fun _ => 0))] : va_W))[j]? = w[j]? := fun j hj => (ap_k (by omega)).trans (hk j hj)
  have hn : ((w_286 ++ [(q_287, aL cL 16 (fun _ => 0))] : va_W)).length = k + 7 := ap_n hn
  have hP : va_P D vwCl ((w_286 ++ [(q_287, aL cL 16 (fun _ => 0))] : va_W)) H := hP
  have hD : va_D A ((w_286 ++ [(q_287, aL cL 16 (fun _ => 0))] : va_W)) := hD
  generalize (w_286 ++ [(q_287, aL cL 16 (fun _ => 0))] : va_W) = w_289 at hP hD ho hn hk hr0 hr1 hr2 hr3 ha_285 ha_290
  refine va_putF (D := D) (ci := 2) (v := .ref q_287) (ty := (.array .long)) (C := R_X) (T := F_X) (N := 5) hx hb hts (in_X _) t_X to_X nn_X hown hK hP hD hS k ho rfl 2 (by decide) (hts (.fieldLink R_X 22 "DebtRows" "credit" "[J") (List.mem_cons_of_mem _ mB_55)) (fun _ h9 => h9) rfl hin rfl (by decide +kernel) rfl rfl (Nat.le_of_ble_eq_true rfl) d_X_init_29 (fun H locs hP hD hS => ?_)
  have ho : (w_289.set k (h0, .inr (2, [.ref q_277, .ref q_282, .ref q_287, .int (0), .int (0)])))[k]? = some (h0, .inr (2, [.ref q_277, .ref q_282, .ref q_287, .int (0), .int (0)])) := ws_s ho
  have hr0 : (w_289.set k (h0, .inr (2, [.ref q_277, .ref q_282, .ref q_287, .int (0), .int (0)])))[k + 1]? = some (q_277, rE fr up dn rNew) := by rw [ws_n (by omega)]; exact hr0
  have hr1 : (w_289.set k (h0, .inr (2, [.ref q_277, .ref q_282, .ref q_287, .int (0), .int (0)])))[k + 1 + 1]? = some (fr, aI cI 20 (r_from rNew)) := by rw [ws_n (by omega)]; exact hr1
  have hr2 : (w_289.set k (h0, .inr (2, [.ref q_277, .ref q_282, .ref q_287, .int (0), .int (0)])))[k + 1 + 2]? = some (up, aI cI 20 (r_up rNew)) := by rw [ws_n (by omega)]; exact hr2
  have hr3 : (w_289.set k (h0, .inr (2, [.ref q_277, .ref q_282, .ref q_287, .int (0), .int (0)])))[k + 1 + 3]? = some (dn, aI cI 20 (r_down rNew)) := by rw [ws_n (by omega)]; exact hr3
  have ha_285 : (w_289.set k (h0, .inr (2, [.ref q_277, .ref q_282, .ref q_287, .int (0), .int (0)])))[k + 5]? = some (q_282, aQ cD 40 (fun _ => none)) := by rw [ws_n (by omega)]; exact ha_285
  have ha_290 : (w_289.set k (h0, .inr (2, [.ref q_277, .ref q_282, .ref q_287, .int (0), .int (0)])))[k + 6]? = some (q_287, aL cL 16 (fun _ => 0)) := by rw [ws_n (by omega)]; exact ha_290
  have hn : (w_289.set k (h0, .inr (2, [.ref q_277, .ref q_282, .ref q_287, .int (0), .int (0)]))).length = k + 7 := by rw [List.length_set]; exact hn
  have hk : ∀ j, j < k → (w_289.set k (h0, .inr (2, [.ref q_277, .ref q_282, .ref q_287, .int (0), .int (0)])))[j]? = w[j]? := fun j hj => (ws_n (by omega)).trans (hk j hj)
  have hP : va_P D vwCl (w_289.set k (h0, .inr (2, [.ref q_277, .ref q_282, .ref q_287, .int (0), .int (0)]))) H := hP
  have hD : va_D A (w_289.set k (h0, .inr (2, [.ref q_277, .ref q_282, .ref q_287, .int (0), .int (0)]))) := hD
  generalize w_289.set k (h0, .inr (2, [.ref q_277, .ref q_282, .ref q_287, .int (0), .int (0)])) = w_291 at hP hD ho hn hk hr0 hr1 hr2 hr3 ha_285 ha_290
  refine lv_aload_n hx hb d_X_init_32 rfl (lv_at hl 0 rfl) ?_
  refine lv_iconst (v := 0) hx hb d_X_init_33 (by decide) ?_
  refine va_put (D := D) (ci := 2) (v := .int (0)) (ty := .int) (C := R_X) (T := F_X) (N := 5) hx hb hts (in_X _) t_X to_X nn_X hown hK hP hD hS k ho rfl 3 (by decide) (hts (.fieldLink R_X 26 "DebtRows" "debtCount" "I") (List.mem_cons_of_mem _ mB_56)) (fun _ h9 => h9) rfl (by decide +kernel) rfl rfl (Nat.le_of_ble_eq_true rfl) d_X_init_34 (fun H locs hP hD hS => ?_)
  have ho : (w_291.set k (h0, .inr (2, [.ref q_277, .ref q_282, .ref q_287, .int (0), .int (0)])))[k]? = some (h0, .inr (2, [.ref q_277, .ref q_282, .ref q_287, .int (0), .int (0)])) := ws_s ho
  have hr0 : (w_291.set k (h0, .inr (2, [.ref q_277, .ref q_282, .ref q_287, .int (0), .int (0)])))[k + 1]? = some (q_277, rE fr up dn rNew) := by rw [ws_n (by omega)]; exact hr0
  have hr1 : (w_291.set k (h0, .inr (2, [.ref q_277, .ref q_282, .ref q_287, .int (0), .int (0)])))[k + 1 + 1]? = some (fr, aI cI 20 (r_from rNew)) := by rw [ws_n (by omega)]; exact hr1
  have hr2 : (w_291.set k (h0, .inr (2, [.ref q_277, .ref q_282, .ref q_287, .int (0), .int (0)])))[k + 1 + 2]? = some (up, aI cI 20 (r_up rNew)) := by rw [ws_n (by omega)]; exact hr2
  have hr3 : (w_291.set k (h0, .inr (2, [.ref q_277, .ref q_282, .ref q_287, .int (0), .int (0)])))[k + 1 + 3]? = some (dn, aI cI 20 (r_down rNew)) := by rw [ws_n (by omega)]; exact hr3
  have ha_285 : (w_291.set k (h0, .inr (2, [.ref q_277, .ref q_282, .ref q_287, .int (0), .int (0)])))[k + 5]? = some (q_282, aQ cD 40 (fun _ => none)) := by rw [ws_n (by omega)]; exact ha_285
  have ha_290 : (w_291.set k (h0, .inr (2, [.ref q_277, .ref q_282, .ref q_287, .int (0), .int (0)])))[k + 6]? = some (q_287, aL cL 16 (fun _ => 0)) := by rw [ws_n (by omega)]; exact ha_290
  have hn : (w_291.set k (h0, .inr (2, [.ref q_277, .ref q_282, .ref q_287, .int (0), .int (0)]))).length = k + 7 := by rw [List.length_set]; exact hn
  have hk : ∀ j, j < k → (w_291.set k (h0, .inr (2, [.ref q_277, .ref q_282, .ref q_287, .int (0), .int (0)])))[j]? = w[j]? := fun j hj => (ws_n (by omega)).trans (hk j hj)
  have hP : va_P D vwCl (w_291.set k (h0, .inr (2, [.ref q_277, .ref q_282, .ref q_287, .int (0), .int (0)]))) H := hP
  have hD : va_D A (w_291.set k (h0, .inr (2, [.ref q_277, .ref q_282, .ref q_287, .int (0), .int (0)]))) := hD
  generalize w_291.set k (h0, .inr (2, [.ref q_277, .ref q_282, .ref q_287, .int (0), .int (0)])) = w_292 at hP hD ho hn hk hr0 hr1 hr2 hr3 ha_285 ha_290
  refine lv_aload_n hx hb d_X_init_37 rfl (lv_at hl 0 rfl) ?_
  refine lv_iconst (v := 0) hx hb d_X_init_38 (by decide) ?_
  refine va_put (D := D) (ci := 2) (v := .int (0)) (ty := .int) (C := R_X) (T := F_X) (N := 5) hx hb hts (in_X _) t_X to_X nn_X hown hK hP hD hS k ho rfl 4 (by decide) (hts (.fieldLink R_X 30 "DebtRows" "today" "I") (List.mem_cons_of_mem _ mB_57)) (fun _ h9 => h9) rfl (by decide +kernel) rfl rfl (Nat.le_of_ble_eq_true rfl) d_X_init_39 (fun H locs hP hD hS => ?_)
  have ho : (w_292.set k (h0, .inr (2, [.ref q_277, .ref q_282, .ref q_287, .int (0), .int (0)])))[k]? = some (h0, .inr (2, [.ref q_277, .ref q_282, .ref q_287, .int (0), .int (0)])) := ws_s ho
  have hr0 : (w_292.set k (h0, .inr (2, [.ref q_277, .ref q_282, .ref q_287, .int (0), .int (0)])))[k + 1]? = some (q_277, rE fr up dn rNew) := by rw [ws_n (by omega)]; exact hr0
  have hr1 : (w_292.set k (h0, .inr (2, [.ref q_277, .ref q_282, .ref q_287, .int (0), .int (0)])))[k + 1 + 1]? = some (fr, aI cI 20 (r_from rNew)) := by rw [ws_n (by omega)]; exact hr1
  have hr2 : (w_292.set k (h0, .inr (2, [.ref q_277, .ref q_282, .ref q_287, .int (0), .int (0)])))[k + 1 + 2]? = some (up, aI cI 20 (r_up rNew)) := by rw [ws_n (by omega)]; exact hr2
  have hr3 : (w_292.set k (h0, .inr (2, [.ref q_277, .ref q_282, .ref q_287, .int (0), .int (0)])))[k + 1 + 3]? = some (dn, aI cI 20 (r_down rNew)) := by rw [ws_n (by omega)]; exact hr3
  have ha_285 : (w_292.set k (h0, .inr (2, [.ref q_277, .ref q_282, .ref q_287, .int (0), .int (0)])))[k + 5]? = some (q_282, aQ cD 40 (fun _ => none)) := by rw [ws_n (by omega)]; exact ha_285
  have ha_290 : (w_292.set k (h0, .inr (2, [.ref q_277, .ref q_282, .ref q_287, .int (0), .int (0)])))[k + 6]? = some (q_287, aL cL 16 (fun _ => 0)) := by rw [ws_n (by omega)]; exact ha_290
  have hn : (w_292.set k (h0, .inr (2, [.ref q_277, .ref q_282, .ref q_287, .int (0), .int (0)]))).length = k + 7 := by rw [List.length_set]; exact hn
  have hk : ∀ j, j < k → (w_292.set k (h0, .inr (2, [.ref q_277, .ref q_282, .ref q_287, .int (0), .int (0)])))[j]? = w[j]? := fun j hj => (ws_n (by omega)).trans (hk j hj)
  have hP : va_P D vwCl (w_292.set k (h0, .inr (2, [.ref q_277, .ref q_282, .ref q_287, .int (0), .int (0)]))) H := hP
  have hD : va_D A (w_292.set k (h0, .inr (2, [.ref q_277, .ref q_282, .ref q_287, .int (0), .int (0)]))) := hD
  generalize w_292.set k (h0, .inr (2, [.ref q_277, .ref q_282, .ref q_287, .int (0), .int (0)])) = w_293 at hP hD ho hn hk hr0 hr1 hr2 hr3 ha_285 ha_290
  refine W.widen (k := 6) (n := 120) (Nat.le_of_ble_eq_true rfl) (Nat.le_of_ble_eq_true rfl) ?_
  exact W.vret hx hb hr (fun t ht hW => ⟨⟨(), rfl, trivial, w_293, by rw [ht]; exact hP, hD, ⟨(h0, q_277, fr, up, dn, q_282, q_287, 0, fun _ => 0, fun _ => 0, fun _ => 0, fun _ => none), rfl, ⟨ho, ⟨hr0, hr1, hr2, hr3⟩, ha_285, ha_290⟩, ⟨Nat.zero_le _, rfl, hn, ⟨0, Nat.zero_le _, rfl⟩⟩, fun i hi => absurd hi (Nat.not_lt_zero i)⟩, hk⟩, hS.F ht⟩) hS.2.2 d_X_init_42
