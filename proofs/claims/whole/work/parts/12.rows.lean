theorem wf_lose {d : DT} {x : Int32} (h : wfD d) : wfD (f_lose d x) := h
theorem wf_runAgain {d : DT} {x : Int32} (h : wfD d) : wfD (f_runAgain d x) := h
theorem wf_fixInterest {d : DT} {r : RT} {x : Int32} (h : wfD d) : wfD (f_fixInterest d r x) := h
theorem wf_defer {d : DT} {x : Int32} {n : Int32} (h : wfD d) (h1 : ¬ n < 2) (h2 : n ≤ 12) : wfD (f_defer d x n) := by
  refine ⟨h.1, ?_⟩
  obtain ⟨j, hj, e⟩ := nI_of2 (x := n) (M := 12) (n := 12) (by decide) (fun q => h1 (by rw [Int32.lt_iff_toInt_lt] at q ⊢; rw [show (0 : Int32).toInt = 0 from by decide] at q; rw [show (2 : Int32).toInt = 2 from by decide]; omega)) h2
  exact ⟨j, hj, e⟩
theorem wf_settle {d : DT} (h : wfD d) : wfD (f_settle d) := by
  unfold f_settle
  split
  · exact h
  · split
    · split
      · exact h
      · exact h
    · exact h
theorem wf_take {d : DT} {x : Int32} {n : Int64} (h : wfD d) : wfD (f_take d x n).2 := by
  unfold f_take
  split
  · exact h
  · exact wf_settle h
theorem wf_endsBy {d : DT} {x : Int32} (h : wfD d) : wfD (f_endsBy d x).2 := by
  unfold f_endsBy
  repeat' split
  all_goals exact h
theorem wf_join {d : DT} {x : Int32} (h : wfD d) : wfD (f_join d x).2 := by
  unfold f_join
  split
  · exact h
  · rename_i h4
    split
    · refine ⟨?_, h.2⟩
      obtain ⟨m, hm, e⟩ := h.1
      have hm4 : m < 4 := by
        rcases Nat.lt_or_ge m 4 with q | q
        · exact q
        · exact absurd (by rw [e]; exact nI_le q (by omega)) h4
      exact ⟨m + 1, by omega, by show d_debtors d + 1 = _; rw [e, nI_1]⟩
    · exact h
theorem wf_append {r : RT} {x y v : Int32} (h : wfR r) : wfR (f_R_append r x y v) := by
  unfold f_R_append
  split
  · rename_i h20
    obtain ⟨m, hm, e⟩ := h
    have hm4 : m < 20 := by
      rcases Nat.lt_or_ge m 20 with q | q
      · exact q
      · exact absurd h20 (by rw [e]; exact nI_nlt q (by omega))
    exact ⟨m + 1, by omega, by show r_count r + 1 = _; rw [e, nI_1]⟩
  · exact h
def badL : List Cond := [.castable "java/lang/ArithmeticException" "java/lang/ArithmeticException", .castable "java/lang/IllegalArgumentException" "java/lang/IllegalArgumentException", .castable "java/lang/IllegalStateException" "java/lang/IllegalStateException", .castable "java/lang/IndexOutOfBoundsException" "java/lang/IndexOutOfBoundsException", .declares ⟨"java/lang/RuntimeException", "<init>", "(Ljava/lang/String;)V"⟩, .declares ⟨"java/lang/Exception", "<init>", "(Ljava/lang/String;)V"⟩, .declares ⟨"java/lang/Throwable", "<init>", "(Ljava/lang/String;)V"⟩]
def txtL : List (Nat × String) := [(35, "down is 0"), (47, "no such day for a rate"), (50, "no such rate"), (57, "no more rates"), (68, "no such sum"), (74, "no such person"), (76, "no more debts"), (120, "no such number of instalments"), (135, "no such day"), (156, "no such side"), (158, "no debtor of this debt"), (175, "no such debt"), (184, "nothing to look at")]
/-- what a throw needs of the machine: Throwable's statics, words of the tables, the texts -/
def xEnv (A : Nat → Prop) (U : State) : Prop := vx_Zq Bundle.tN "UNASSIGNED_STACK" Bundle.steD A U U.heap ∧ vx_Zq Bundle.tN "SUPPRESSED_SENTINEL" Bundle.listD A U U.heap ∧ (∀ w ∈ badL, va_Nw w U) ∧ ∀ q ∈ txtL, ∃ sa : Nat, vk_R R_X q.1 q.2 sa U
theorem bad_use {w : Cond} {s : State} {args : Array Value} (h : w ∈ badL) (q : va_Nw w s) : w.before args s = true := va_Nw.use ((by decide : ∀ w ∈ badL, w.onTables = true) w h) q
theorem bad_warm {s U : State} (hW : s.WarmedH U.vm) (h : ∀ w ∈ badL, va_Nw w s) : ∀ w ∈ badL, va_Nw w U := by
  intro w hw
  have h1 := h w hw
  simp only [badL, List.mem_cons, List.not_mem_nil, or_false] at hw
  rcases hw with rfl | rfl | rfl | rfl | rfl | rfl | rfl
  all_goals first | exact va_Nw.warmC hW h1 | exact va_Nw.warmD hW h1
theorem xEnv.mv {A : Nat → Prop} {s U : State} {H : Heap} {locs : List Loc} (h : xEnv A s) (hS : va_S A s.heap H locs) (hU : U.heap = H) (hW : s.WarmedH U.vm) : xEnv A U := by
  obtain ⟨h1, h2, h3, h4⟩ := h
  subst hU
  exact ⟨vx_Zq.moved hW.alike (h1.kept hS.2.1), vx_Zq.moved hW.alike (h2.kept hS.2.1), bad_warm hW h3, fun q hq => by obtain ⟨sa, h5⟩ := h4 q hq; exact ⟨sa, vk_R.warm hW h5⟩⟩
def ePc (D : va_G) (w : va_W) (tys : List (ClassId × FieldType)) (A : Nat → Prop) (av : List Value) : Array Value → State → Prop := va_Pc av (fun U => va_P D vwCl w U.heap ∧ va_K D vwCl tys U ∧ va_D A w ∧ xEnv A U)
theorem ePc_bl {D : va_G} {w : va_W} {tys : List (ClassId × FieldType)} {A : Nat → Prop} {av : List Value} : FrameBlind (ePc D w tys A av) := fun a U g mk q => by
  obtain ⟨q0, qP, qK, qD, qE⟩ := q
  exact ⟨q0, qP, va_K.moved (u := U) (U := U.calling g mk a) (Vm.Alike.refl U.vm) qK, qD, qE.mv (U := U.calling g mk a) (va_S.rf (A := A)) rfl (State.WarmedH.refl U)⟩
theorem ePc_pr {D : va_G} {w : va_W} {tys : List (ClassId × FieldType)} {A : Nat → Prop} {av : List Value} {s : State} {H : Heap} {locs : List Loc} (hP : va_P D vwCl w H) (hK : va_K D vwCl tys s) (hD : va_D A w) (hE : xEnv A s) (hS : va_S A s.heap H locs) : ∀ U : State, U.heap = H → s.WarmedH U.vm → ePc D w tys A av av.toArray U := fun U hU hW => ⟨rfl, by rw [hU]; exact hP, va_K.moved hW.alike hK, hD, hE.mv hS hU hW⟩
/-- the code of the exception E, by a list of names -/
def exN (ns : List String) (c : Int32) (E : String) : Prop := ∃ k : Nat, ns[k]? = some E ∧ c = nI (k + 1)

/-- a call of a method that hands back an object, or throws -/
theorem vz_callq {p : Program} {l : Launch} {e : Env} {R : Room} {s : State} {m : MethodId} {args : Array Value} {below : List Frame} {meth : Method} {c : Code} {H : Heap} {locs : List Loc} {cells slots : Nat} {Q : State → Prop} {mc ms : Nat} {free : Addr → Prop} {A0 A1 : Nat → Prop} {H0 : Heap} {a : Array Value} {pc : Nat} {ls : Array Slot} {st0 rest : List Value}
    {S SX : Type} {post : Option Nat → S → Prop} {px : SX → Prop} {B : S → State → Prop} {BX : String → SX → State → Prop} {AX : Nat → Prop}
    (hr : vx_Run p l e R s m args below meth c H locs cells slots mc ms (F0 m pc ls st0) rest (va_Qq post B A1 a) (vx_X px BX AX) free) (hS : va_S A0 H0 H locs) (hA : ∀ q, q < H.size → A1 q → A0 q) (hf : ∀ q, free q → A0 q) (hAX : ∀ q, q < H.size → AX q → A0 q)
    (kx : ∀ (E : String) (ce : Cell) (q9 : Addr) (u : SX) (t : State) (H1 : Heap) (locs1 : List Loc), t.heap = H1 → s.vm.Alike t.vm → px u → BX E u t → H.size ≤ H1.size → (∀ q : Nat, q < H.size → ¬ AX q → H1[q]? = H[q]?) → va_S A0 H0 H1 locs1 → H1[q9]? = some ce → ce.vm = .none → s.vm.findClass E = some ce.cls → vx_W p l e R s m args below meth c H1 locs1 (cells + mc) (slots + ms) Q (F0 m pc ls rest) q9)
    (kk : ∀ (r : Option Nat) (u : S) (t : State) (H1 : Heap) (locs1 : List Loc), t.heap = H1 → s.vm.Alike t.vm → post r u → B u t → H.size ≤ H1.size → (∀ q : Nat, q < H.size → ¬ A1 q → H1[q]? = H[q]?) → va_S A0 H0 H1 locs1 → W p l e R s m args below meth c H1 locs1 (cells + mc) (slots + ms) Q (F0 m (pc + 3) ls (va_rf r :: rest))) :
    W p l e R s m args below meth c H locs cells slots Q (F0 m pc ls st0) := by
  intro T hT X
  rcases hr T hT X with ⟨v, s0, t, T', L, h0, X', hL, e1, e2, ⟨⟨r, u, hv, hp, hb⟩, hF⟩, st⟩ | ⟨q, s0, t, T', L, E, ce, h0, X', hL, e1, e2, ⟨u, hp, hb, hF⟩, hce, hcv, hcl, st⟩
  · cases hv
    obtain ⟨k1, k2, k3⟩ := vx_keep h0 e1 hS hA hf hL hF
    obtain ⟨t2, a1, b1⟩ := kk r u t T'.heap (locs ++ L) e1.symm (by rw [← e2]; exact X'.warmed.alike) hp hb k1 k2 k3 T' rfl X'
    exact ⟨t2, st t2 a1, b1⟩
  · obtain ⟨k1, k2, k3⟩ := vx_keep h0 e1 hS hAX hf hL hF
    obtain ⟨t2, a1, b1⟩ := kx E ce q u t T'.heap (locs ++ L) e1.symm (by rw [← e2]; exact X'.warmed.alike) hp hb k1 k2 k3 (by rw [e1]; exact hce) hcv hcl T' rfl X'
    exact ⟨t2, st.trans a1, b1⟩
def f_isPerson (who : Int32) : Int32 :=
  if who < 0 then 0
  else if 16 ≤ who then 0
    else 1
set_option maxHeartbeats 4000000 in
set_option maxRecDepth 100000 in
theorem c_isPerson (l : Launch) (who : Int32) : Met l y_X_isPerson w_X_isPerson ({ frames := 0, cells := 0, slots := 0, locals := 0 }) (va_Pc [.int (who)] (fun _ => True)) (vp_Si (fun z9 => z9 = f_isPerson who)) 0 0 (fun _ => False) := by
  refine Met.ofW (cc := b_X_isPerson) (maxL := 1) (ret := (some .boolean)) (by decide) rfl ?_
  intro p e s m args below meth c s₁ B hml hv
  obtain ⟨rfl, -⟩ := hv
  have hx := B.exec
  have hb := B.bytes
  have hr := B.returns
  have hts := atoms_spec (ws := w_X_isPerson) B.pre
  have hown : s.vm.findClass R_X = some m.cls := findClass_of_methodNamed B.named
  have hlocks := B.notSynchronized
  have hl := lv_entry ([.int (who)]) (n := 1) (Nat.le_of_ble_eq_true rfl)
  rw [lg_entry_eq]
  generalize (lg_sl ([.int (who)]) ++ List.replicate (1 - (lg_sl ([.int (who)])).length) Slot.unset).toArray = ls at hl ⊢
  have hl : lv_has ls 1 [(0, .int (who))] := hl
  refine lv_iload_n hx hb d_X_isPerson_0 rfl (lv_at hl 0 rfl) ?_
  refine lv_if_lt (tgt := 14) hx hb d_X_isPerson_1 (by decide) (fun c_91 => ?_) (fun c_91 => ?_)
  · refine lv_iconst (v := 0) hx hb d_X_isPerson_14 (by decide) ?_
    exact W.zret (v := 0) hx hb hr rfl (fun t ht hW => ⟨_, rfl, by rw [f_isPerson, if_pos c_91], ht⟩) t_nil d_X_isPerson_15
  · refine lv_iload_n hx hb d_X_isPerson_4 rfl (lv_at hl 0 rfl) ?_
    refine lv_bipush (v := 16) hx hb d_X_isPerson_5 (by decide) ?_
    refine lv_icmp_ge (tgt := 14) hx hb d_X_isPerson_7 (by decide) (fun c_92 => ?_) (fun c_92 => ?_)
    · refine lv_iconst (v := 0) hx hb d_X_isPerson_14 (by decide) ?_
      exact W.zret (v := 0) hx hb hr rfl (fun t ht hW => ⟨_, rfl, by rw [f_isPerson, if_neg c_91, if_pos c_92], ht⟩) t_nil d_X_isPerson_15
    · refine lv_iconst (v := 1) hx hb d_X_isPerson_10 (by decide) ?_
      refine lv_goto (tgt := 15) hx hb d_X_isPerson_11 (by decide) ?_
      exact W.zret (v := 1) hx hb hr rfl (fun t ht hW => ⟨_, rfl, by rw [f_isPerson, if_neg c_91, if_neg c_92], ht⟩) t_nil d_X_isPerson_15
def f_isSum (cents : Int64) : Int32 :=
  if cents < 1 then 0
  else if 1000000000 < cents then 0
    else 1
set_option maxHeartbeats 4000000 in
set_option maxRecDepth 100000 in
theorem c_isSum (l : Launch) (cents : Int64) : Met l y_X_isSum w_X_isSum ({ frames := 0, cells := 0, slots := 0, locals := 0 }) (va_Pc [.long (cents)] (fun _ => True)) (vp_Si (fun z9 => z9 = f_isSum cents)) 0 0 (fun _ => False) := by
  refine Met.ofW (cc := b_X_isSum) (maxL := 2) (ret := (some .boolean)) (by decide) rfl ?_
  intro p e s m args below meth c s₁ B hml hv
  obtain ⟨rfl, -⟩ := hv
  have hx := B.exec
  have hb := B.bytes
  have hr := B.returns
  have hts := atoms_spec (ws := w_X_isSum) B.pre
  have hown : s.vm.findClass R_X = some m.cls := findClass_of_methodNamed B.named
  have hlocks := B.notSynchronized
  have hl := lv_entry ([.long (cents)]) (n := 2) (Nat.le_of_ble_eq_true rfl)
  rw [lg_entry_eq]
  generalize (lg_sl ([.long (cents)]) ++ List.replicate (2 - (lg_sl ([.long (cents)])).length) Slot.unset).toArray = ls at hl ⊢
  have hl : lv_has ls 2 [(0, .long (cents))] := hl
  refine lv_lload_n hx hb d_X_isSum_0 rfl (lv_at hl 0 rfl) ?_
  refine lv_lconst (v := 1) hx hb d_X_isSum_1 (by decide) ?_
  refine W.lcmp hx hb d_X_isSum_2 ?_
  refine lv_if_lt (tgt := 18) hx hb d_X_isSum_3 (by decide) (fun c_93 => ?_) (fun c_93 => ?_)
  · have c_93 : cents < 1 := (lg_cmp_lt _ _).mp c_93
    refine lv_iconst (v := 0) hx hb d_X_isSum_18 (by decide) ?_
    exact W.zret (v := 0) hx hb hr rfl (fun t ht hW => ⟨_, rfl, by rw [f_isSum, if_pos c_93], ht⟩) t_nil d_X_isSum_19
  · have c_93 : ¬ cents < 1 := fun h9 => c_93 ((lg_cmp_lt _ _).mpr h9)
    refine lv_lload_n hx hb d_X_isSum_6 rfl (lv_at hl 0 rfl) ?_
    refine lv_ldc2 (own := R_X) (index := 195) (v := 1000000000) hx hb hown (hts (.constantLong R_X 195 (1000000000)) (List.mem_cons_of_mem _ mB_202)) d_X_isSum_7 ?_
    refine W.lcmp hx hb d_X_isSum_10 ?_
    refine lv_if_gt (tgt := 18) hx hb d_X_isSum_11 (by decide) (fun c_94 => ?_) (fun c_94 => ?_)
    · have c_94 : 1000000000 < cents := (lg_cmp_gt _ _).mp c_94
      refine lv_iconst (v := 0) hx hb d_X_isSum_18 (by decide) ?_
      exact W.zret (v := 0) hx hb hr rfl (fun t ht hW => ⟨_, rfl, by rw [f_isSum, if_neg c_93, if_pos c_94], ht⟩) t_nil d_X_isSum_19
    · have c_94 : ¬ 1000000000 < cents := fun h9 => c_94 ((lg_cmp_gt _ _).mpr h9)
      refine lv_iconst (v := 1) hx hb d_X_isSum_14 (by decide) ?_
      refine lv_goto (tgt := 19) hx hb d_X_isSum_15 (by decide) ?_
      exact W.zret (v := 1) hx hb hr rfl (fun t ht hW => ⟨_, rfl, by rw [f_isSum, if_neg c_93, if_neg c_94], ht⟩) t_nil d_X_isSum_19
theorem okN_of {z : XT} {q : Int32} (h1 : ¬ q < 1) (h2 : q ≤ x_cnt z) : okN z q := ⟨by rw [Int32.le_iff_toInt_le]; rw [Int32.lt_iff_toInt_lt] at h1; omega, h2⟩
theorem okN_n1 {z : XT} {q : Int32} (h1 : q < 1) : ¬ okN z q := fun h => by
  have h2 := h.1
  rw [Int32.le_iff_toInt_le] at h2; rw [Int32.lt_iff_toInt_lt] at h1; omega
theorem in_find {z : XT} {q : Int32} {n : Nat} (h : okN z q) (e : x_cnt z = nI n) (hn : n ≤ 40) : vp_in (q - 1) 40 := by
  obtain ⟨h1, -, h3⟩ := okN_ix h e hn
  rw [h3]; exact vp_in_nI (by omega) (by decide)
set_option maxHeartbeats 4000000 in
set_option maxRecDepth 100000 in
theorem c_find (l : Launch) (D : va_G) (A : Nat → Prop) (w : va_W) (cI cL cD : ClassId) (b : Nat) (a : AD) (z : XT) (q : Int32) (hC0 : cA w b cI cL cD a z) : Met l y_X_find w_X_find ({ frames := 0, cells := 0, slots := 0, locals := 0 }) (mPc D w (tyL cI cL cD) A [.ref (a_x a), .int (q)]) (va_Sq (fun z9 => z9 = if okN z q then some (a_da a (ixN q)) else none)) 0 0 (fun _ => False) := by
  refine Met.ofW (cc := b_X_find) (maxL := 2) (ret := (some (.object "DebtRows$Debt"))) (by decide) rfl ?_
  intro p e s m args below meth c s₁ B hml hv
  obtain ⟨rfl, hP, hK, hD⟩ := hv
  have hx := B.exec
  have hb := B.bytes
  have hr := B.returns
  have hts := atoms_spec (ws := w_X_find) B.pre
  have hown : s.vm.findClass R_X = some m.cls := findClass_of_methodNamed B.named
  have hlocks := B.notSynchronized
  have hS : va_S A s.heap s.heap [] := va_S.rf
  have hC : cUpd w w b cI cL cD a z := cUpd.rf hC0
  have hl := lv_entry ([.ref (a_x a), .int (q)]) (n := 2) (Nat.le_of_ble_eq_true rfl)
  rw [lg_entry_eq]
  generalize (lg_sl ([.ref (a_x a), .int (q)]) ++ List.replicate (2 - (lg_sl ([.ref (a_x a), .int (q)])).length) Slot.unset).toArray = ls at hl ⊢
  have hl : lv_has ls 2 [(0, .ref (a_x a)), (1, .int (q))] := hl
  refine lv_iload_n hx hb d_X_find_0 rfl (lv_at hl 1 rfl) ?_
  refine lv_iconst (v := 1) hx hb d_X_find_1 (by decide) ?_
  refine lv_icmp_lt (tgt := 13) hx hb d_X_find_2 (by decide) (fun c_95 => ?_) (fun c_95 => ?_)
  · refine lv_null hx hb d_X_find_13 ?_
    exact W.aret (v := .null) (rt := .object "DebtRows$Debt") hx hb hr (Or.inl ⟨_, rfl⟩) (Or.inl rfl) (fun t ht hW => ⟨none, rfl, by rw [if_neg (okN_n1 c_95)], ht⟩) t_nil d_X_find_14
  · refine lv_iload_n hx hb d_X_find_5 rfl (lv_at hl 1 rfl) ?_
    refine lv_aload_n hx hb d_X_find_6 rfl (lv_at hl 0 rfl) ?_
    refine va_get (D := D) (ci := 2) (v := .int (x_cnt z)) (C := R_X) (T := F_X) (N := 5) hx hb hts (in_X _) hown hK hP b hC.1.x rfl 3 (by decide) (hts (.fieldLink R_X 26 "DebtRows" "debtCount" "I") (List.mem_cons_of_mem _ mB_56)) (fun _ h9 => h9) rfl d_X_find_7 ?_
    refine lv_icmp_le (tgt := 15) hx hb d_X_find_10 (by decide) (fun c_96 => ?_) (fun c_96 => ?_)
    · refine lv_aload_n hx hb d_X_find_15 rfl (lv_at hl 0 rfl) ?_
      refine va_get (D := D) (ci := 2) (v := .ref (a_ds a)) (C := R_X) (T := F_X) (N := 5) hx hb hts (in_X _) hown hK hP b hC.1.x rfl 1 (by decide) (hts (.fieldLink R_X 18 "DebtRows" "debts" "[LDebtRows$Debt;") (List.mem_cons_of_mem _ mB_54)) (fun _ h9 => h9) rfl d_X_find_16 ?_
      refine lv_iload_n hx hb d_X_find_19 rfl (lv_at hl 1 rfl) ?_
      refine lv_iconst (v := 1) hx hb d_X_find_20 (by decide) ?_
      refine lv_isub hx hb d_X_find_21 ?_
      refine va_aldq hx hb hK hP (b + 5) 2 hC.1.ds rfl (in_find (okN_of c_95 c_96) hC.1.en hC.1.n) d_X_find_22 ?_
      have hok : okN z q := okN_of c_95 c_96
      obtain ⟨hi9, -, ei9⟩ := okN_ix hok hC.1.en hC.1.n
      rw [show ((q - 1)).toNatClampNeg = ixN q from rfl, hC.1.g hi9]
      exact W.aret (v := .ref (a_da a (ixN q))) (rt := .object "DebtRows$Debt") hx hb hr (Or.inl ⟨_, rfl⟩) (Or.inr ⟨_, rfl⟩) (fun t ht hW => ⟨some (a_da a (ixN q)), rfl, by rw [if_pos hok], ht⟩) t_nil d_X_find_23
    · refine lv_null hx hb d_X_find_13 ?_
      exact W.aret (v := .null) (rt := .object "DebtRows$Debt") hx hb hr (Or.inl ⟨_, rfl⟩) (Or.inl rfl) (fun t ht hW => ⟨none, rfl, by rw [if_neg (fun h9 => c_96 h9.2)], ht⟩) t_nil d_X_find_14

set_option maxHeartbeats 4000000 in
set_option maxRecDepth 100000 in
theorem c_findOrRefuse (l : Launch) (hl9 : l.stackTraces = false) (D : va_G) (A : Nat → Prop) (w : va_W) (cI cL cD : ClassId) (b : Nat) (a : AD) (z : XT) (q : Int32) (hC0 : cA w b cI cL cD a z) : vx_Met l y_X_findOrRefuse w_X_findOrRefuse ({ frames := 6, cells := 1, slots := 6, locals := 90 }) (ePc D w (tyL cI cL cD) A [.ref (a_x a), .int (q)]) (va_Qq (fun z9 (_ : Unit) => okN z q ∧ z9 = some (a_da a (ixN q))) (fun (_ : Unit) t => va_P D vwCl w t.heap) A) (vx_X (fun _ : Unit => True) (fun E9 _ t => E9 = "java/lang/IllegalArgumentException" ∧ ¬ okN z q ∧ va_P D vwCl w t.heap) A) 1 6 A := by
  refine vx_ofW (cc := b_X_findOrRefuse) (maxL := 3) (ret := (some (.object "DebtRows$Debt"))) (by decide) rfl ?_
  intro p e s m args below meth c s₁ B hml hEx hv
  obtain ⟨rfl, hP, hK, hD, hE⟩ := hv
  have hx := B.exec
  have hb := B.bytes
  have hr := B.returns
  have hts := atoms_spec (ws := w_X_findOrRefuse) B.pre
  have hown : s.vm.findClass R_X = some m.cls := findClass_of_methodNamed B.named
  have hlocks := B.notSynchronized
  have hS : va_S A s.heap s.heap [] := va_S.rf
  have hC : cUpd w w b cI cL cD a z := cUpd.rf hC0
  have hl := lv_entry ([.ref (a_x a), .int (q)]) (n := 3) (Nat.le_of_ble_eq_true rfl)
  rw [lg_entry_eq]
  generalize (lg_sl ([.ref (a_x a), .int (q)]) ++ List.replicate (3 - (lg_sl ([.ref (a_x a), .int (q)])).length) Slot.unset).toArray = ls at hl ⊢
  have hl : lv_has ls 3 [(0, .ref (a_x a)), (1, .int (q))] := hl
  refine lv_aload_n hx hb d_X_findOrRefuse_0 rfl (lv_at hl 0 rfl) ?_
  refine lv_iload_n hx hb d_X_findOrRefuse_1 rfl (lv_at hl 1 rfl) ?_
  refine va_csq (W.runV (As := [.int (q)]) (rest := []) ⟨hx, hb, hml, hown, hts⟩ (c_find l D A w cI cL cD b a (z) (q) hC.1) (cwV 1 hts (gV _ mB_69 mB_70 mB_0 mB_15 mB_71) rfl rfl rfl (by decide +kernel) ⟨(Nat.le_of_ble_eq_true rfl), (Nat.le_of_ble_eq_true rfl)⟩) ⟨mPc_bl, va_recv hK hP (ci := 2) (q0 := b) rfl hC.1.x, mPc_pr hP hK hD⟩ rfl rfl hl.1 rfl (lv_room (Nat.le_of_ble_eq_true rfl)) d_X_findOrRefuse_2 ⟨(Nat.le_of_ble_eq_true rfl), (Nat.le_of_ble_eq_true rfl)⟩) (fun v_97 ev_97 => ?_)
  rcases Decidable.em (okN (z) (q)) with c_98 | c_98
  · rw [if_pos c_98] at ev_97
    subst ev_97
    have hi_99 : ixN (q) < a_n a := (okN_ix c_98 hC.1.en hC.1.n).1
    have hU : dUpd w w (b + 7 + 3 * (ixN (q))) cI cL (a_da a (ixN (q))) (a_pa a (ixN (q))) (a_qa a (ixN (q))) (x_debts z (ixN (q))) := dUpd.rf (hC.1.d hi_99)
    have hw : wfD (x_debts z (ixN (q))) := hC.1.wd hi_99
    refine lv_astore_n (lv' := [(2, .ref (a_da a (ixN (q)))), (0, .ref (a_x a)), (1, .int (q))]) hx hb d_X_findOrRefuse_5 rfl hl (by decide) rfl (fun ls hl => ?_)
    refine lv_aload_n hx hb d_X_findOrRefuse_6 rfl (lv_at hl 0 rfl) ?_
    refine lv_ifnonnull (tgt := 20) hx hb d_X_findOrRefuse_7 (by decide) ?_
    refine lv_aload_n hx hb d_X_findOrRefuse_20 rfl (lv_at hl 0 rfl) ?_
    refine vx_ret (W.widen (k := 1) (n := 6) (Nat.le_of_ble_eq_true rfl) (Nat.le_of_ble_eq_true rfl) ?_)
    exact W.aret (v := .ref (a_da a (ixN (q)))) (rt := .object "DebtRows$Debt") hx hb hr (Or.inl ⟨_, rfl⟩) (Or.inr ⟨_, rfl⟩) (fun t ht hW => ⟨⟨some (a_da a (ixN (q))), (), rfl, ⟨c_98, rfl⟩, by show va_P D vwCl w t.heap; rw [ht]; exact hP⟩, hS.F ht⟩) hS.2.2 d_X_findOrRefuse_21
  · rw [if_neg c_98] at ev_97
    subst ev_97
    refine lv_astore_nN (lv' := [(2, .null), (0, .ref (a_x a)), (1, .int (q))]) hx hb d_X_findOrRefuse_5 rfl hl (by decide) rfl (fun ls hl => ?_)
    refine lv_aload_nN hx hb d_X_findOrRefuse_6 rfl (lv_at hl 0 rfl) ?_
    refine lv_ifnonnullN hx hb d_X_findOrRefuse_7 ?_
    obtain ⟨sa9, hz9⟩ := hE.2.2.2 (175, "no such debt") (by decide)
    exact vx_throwS (own := R_X) (cls := "java/lang/IllegalArgumentException") (names := ["java/lang/RuntimeException", "java/lang/Exception"]) hx hb hl9 hown (by decide +kernel) (by decide +kernel) (hts (.classLink R_X 45 "java/lang/IllegalArgumentException") (List.mem_cons_of_mem _ mB_161)) (hts (.initialized "java/lang/IllegalArgumentException") (List.mem_cons_of_mem _ mB_22)) hz9 (vx_hat (B := badL) (fun w hw => hts w ((by decide +kernel : ∀ w ∈ (vx_atS R_X 49 "java/lang/IllegalArgumentException" ["java/lang/RuntimeException", "java/lang/Exception"]).filter goodWord, w ∈ w_X_findOrRefuse) w hw)) (by decide +kernel) (fun w hw => bad_use hw (hE.2.2.1 w hw))) (by decide +kernel) hE.1 hE.2.1 hS (hl.1.trans hml.symm) d_X_findOrRefuse_10 d_X_findOrRefuse_13 d_X_findOrRefuse_14 d_X_findOrRefuse_16 d_X_findOrRefuse_19 (fun x hx => (hEx x hx).elim) (Nat.le_of_ble_eq_true rfl) (Nat.le_of_ble_eq_true rfl) (Nat.le_of_ble_eq_true rfl) (Nat.le_of_ble_eq_true rfl) hlocks (fun t ha hsz hk => ⟨(), trivial, ⟨rfl, c_98, hP.kept (fun k q hq => hk q.1 (hP k q hq).lt)⟩, Nat.le_trans hS.1 hsz, fun q h1 h2 => (hk q (Nat.lt_of_lt_of_le h1 hS.1)).trans (hS.2.1 q h1 h2)⟩) hS.2.2 (Nat.le_of_ble_eq_true rfl) (Nat.le_of_ble_eq_true rfl)
def ovL (z : XT) (wh : Int32) : Nat → Nat → Int64 → Int64
  | _, 0, t => t
  | i, n + 1, t => ovL z wh (i + 1) n (t + f_part (x_debts z i) wh)
def f_overAllDebts (z : XT) (wh : Int32) : Int64 := ovL z wh 0 (x_cnt z).toNatClampNeg 0
set_option maxHeartbeats 4000000 in
set_option maxRecDepth 100000 in
theorem c_overAllDebts (l : Launch) (D : va_G) (A : Nat → Prop) (w : va_W) (cI cL cD : ClassId) (b : Nat) (a : AD) (z : XT) (wh : Int32) (hC0 : cA w b cI cL cD a z) : Met l y_X_overAllDebts w_X_overAllDebts ({ frames := 1, cells := 0, slots := 0, locals := 21 }) (mPc D w (tyL cI cL cD) A [.ref (a_x a), .int (wh)]) (vp_Sl (fun z9 => z9 = f_overAllDebts z wh)) 0 0 (fun _ => False) := by
  refine Met.ofW (cc := b_X_overAllDebts) (maxL := 6) (ret := (some .long)) (by decide) rfl ?_
  intro p e s m args below meth c s₁ B hml hv
  obtain ⟨rfl, hP, hK, hD⟩ := hv
  have hx := B.exec
  have hb := B.bytes
  have hr := B.returns
  have hts := atoms_spec (ws := w_X_overAllDebts) B.pre
  have hown : s.vm.findClass R_X = some m.cls := findClass_of_methodNamed B.named
  have hlocks := B.notSynchronized
  have hS : va_S A s.heap s.heap [] := va_S.rf
  have hC : cUpd w w b cI cL cD a z := cUpd.rf hC0
  have hl := lv_entry ([.ref (a_x a), .int (wh)]) (n := 6) (Nat.le_of_ble_eq_true rfl)
  rw [lg_entry_eq]
  generalize (lg_sl ([.ref (a_x a), .int (wh)]) ++ List.replicate (6 - (lg_sl ([.ref (a_x a), .int (wh)])).length) Slot.unset).toArray = ls at hl ⊢
  have hl : lv_has ls 6 [(0, .ref (a_x a)), (1, .int (wh))] := hl
  refine lv_lconst (v := 0) hx hb d_X_overAllDebts_0 (by decide) ?_
  refine lv_lstore_n (lv' := [(2, .long (0)), (0, .ref (a_x a)), (1, .int (wh))]) hx hb d_X_overAllDebts_1 rfl hl (by decide) rfl (fun ls hl => ?_)
  refine lv_iconst (v := 0) hx hb d_X_overAllDebts_2 (by decide) ?_
  refine lv_istore (lv' := [(4, .int (0)), (2, .long (0)), (0, .ref (a_x a)), (1, .int (wh))]) hx hb d_X_overAllDebts_3 hl (by decide) rfl (fun ls hl => ?_)
  have loop : ∀ (n i : Nat) (t0 : Int64), i + n = a_n a → ovL z wh i n t0 = f_overAllDebts z wh → ∀ (ls : Array Slot), lv_has ls 6 [(4, .int (nI i)), (2, .long (t0)), (0, .ref (a_x a)), (1, .int (wh))] → W p l e (headSpec w_X_overAllDebts ({ frames := 1, cells := 0, slots := 0, locals := 21 })).room s m [.ref (a_x a), .int (wh)].toArray below meth c s.heap [] 0 0 (MQ below (vp_Sl (fun z9 => z9 = f_overAllDebts z wh)) [.ref (a_x a), .int (wh)].toArray s 0 0 (fun _ => False)) (F0 m 5 ls []) := by
    intro n
    induction n with
    | zero =>
      intro i t0 hin hv ls hl
      refine lv_iload hx hb d_X_overAllDebts_5 (lv_at hl 0 rfl) ?_
      refine lv_aload_n hx hb d_X_overAllDebts_7 rfl (lv_at hl 2 rfl) ?_
      refine va_get (D := D) (ci := 2) (v := .int (x_cnt z)) (C := R_X) (T := F_X) (N := 5) hx hb hts (in_X _) hown hK hP b hC.1.x rfl 3 (by decide) (hts (.fieldLink R_X 26 "DebtRows" "debtCount" "I") (List.mem_cons_of_mem _ mB_56)) (fun _ h9 => h9) rfl d_X_overAllDebts_8 ?_
      refine lv_icmp_ge (tgt := 43) hx hb d_X_overAllDebts_11 (by decide) (fun c_100 => ?_) (fun c_100 => ?_)
      · refine lv_lload_n hx hb d_X_overAllDebts_43 rfl (lv_at hl 1 rfl) ?_
        exact W.lret (v := t0) hx hb hr (fun t ht hW => ⟨_, rfl, by rw [← hv]; rfl, ht⟩) t_nil d_X_overAllDebts_44
      · exact absurd (by rw [hC.1.en]; exact nI_le (by omega) (by have := hC.1.n; omega)) c_100
    | succ n ih =>
      intro i t0 hin hv ls hl
      refine lv_iload hx hb d_X_overAllDebts_5 (lv_at hl 0 rfl) ?_
      refine lv_aload_n hx hb d_X_overAllDebts_7 rfl (lv_at hl 2 rfl) ?_
      refine va_get (D := D) (ci := 2) (v := .int (x_cnt z)) (C := R_X) (T := F_X) (N := 5) hx hb hts (in_X _) hown hK hP b hC.1.x rfl 3 (by decide) (hts (.fieldLink R_X 26 "DebtRows" "debtCount" "I") (List.mem_cons_of_mem _ mB_56)) (fun _ h9 => h9) rfl d_X_overAllDebts_8 ?_
      refine lv_icmp_ge (tgt := 43) hx hb d_X_overAllDebts_11 (by decide) (fun c_101 => ?_) (fun c_101 => ?_)
      · exact absurd c_101 (by rw [hC.1.en]; exact nI_ge (by omega) (by have := hC.1.n; omega))
      · refine lv_aload_n hx hb d_X_overAllDebts_14 rfl (lv_at hl 2 rfl) ?_
        refine va_get (D := D) (ci := 2) (v := .ref (a_ds a)) (C := R_X) (T := F_X) (N := 5) hx hb hts (in_X _) hown hK hP b hC.1.x rfl 1 (by decide) (hts (.fieldLink R_X 18 "DebtRows" "debts" "[LDebtRows$Debt;") (List.mem_cons_of_mem _ mB_54)) (fun _ h9 => h9) rfl d_X_overAllDebts_15 ?_
        refine lv_iload hx hb d_X_overAllDebts_18 (lv_at hl 0 rfl) ?_
        refine va_aldq hx hb hK hP (b + 5) 2 hC.1.ds rfl (vp_in_nI (by have := hC.1.n; omega) (by decide)) d_X_overAllDebts_20 ?_
        have hi9 : i < a_n a := by omega
        rw [nI_clamp (by have := hC.1.n; omega), hC.1.g hi9]
        have hU : dUpd w w (b + 7 + 3 * i) cI cL (a_da a i) (a_pa a i) (a_qa a i) (x_debts z i) := dUpd.rf (hC.1.d hi9)
        have hw : wfD (x_debts z i) := hC.1.wd hi9
        refine lv_astore (lv' := [(5, .ref (a_da a i)), (4, .int (nI i)), (2, .long (t0)), (0, .ref (a_x a)), (1, .int (wh))]) hx hb d_X_overAllDebts_21 hl (by decide) rfl (fun ls hl => ?_)
        refine lv_aload hx hb d_X_overAllDebts_23 (lv_at hl 0 rfl) ?_
        refine lv_ifnull hx hb d_X_overAllDebts_25 ?_
        refine lv_lload_n hx hb d_X_overAllDebts_28 rfl (lv_at hl 2 rfl) ?_
        refine lv_aload hx hb d_X_overAllDebts_29 (lv_at hl 0 rfl) ?_
        refine lv_iload_n hx hb d_X_overAllDebts_31 rfl (lv_at hl 4 rfl) ?_
        refine vp_callSl (W.runV (As := [.int (wh)]) (rest := [.long (t0)]) ⟨hx, hb, hml, hown, hts⟩ (c_part l D A w cI cL cD (b + 7 + 3 * i) (a_da a i) (a_pa a i) (a_qa a i) (x_debts z i) (wh) hU.1) (cwV 1 hts (gV _ mB_90 mB_91 mB_92 mB_24 mB_93) rfl rfl rfl (by decide +kernel) ⟨(Nat.le_of_ble_eq_true rfl), (Nat.le_of_ble_eq_true rfl)⟩) ⟨mPc_bl, va_recv hK hP (ci := 0) (q0 := (b + 7 + 3 * i)) rfl hU.o, mPc_pr hP hK hD⟩ rfl rfl hl.1 rfl (lv_room (Nat.le_of_ble_eq_true rfl)) d_X_overAllDebts_32 ⟨Nat.zero_le _, Nat.zero_le _⟩) (fun v_102 ev_102 => ?_)
        subst ev_102
        refine lv_ladd hx hb d_X_overAllDebts_35 ?_
        refine lv_lstore_n (lv' := [(2, .long ((t0 + (f_part (x_debts z i) (wh))))), (5, .ref (a_da a i)), (4, .int (nI i)), (0, .ref (a_x a)), (1, .int (wh))]) hx hb d_X_overAllDebts_36 rfl hl (by decide) rfl (fun ls hl => ?_)
        refine lv_iinc (v := nI (i + 1)) (lv' := [(4, .int (nI (i + 1))), (2, .long ((t0 + (f_part (x_debts z i) (wh))))), (5, .ref (a_da a i)), (0, .ref (a_x a)), (1, .int (wh))]) hx hb d_X_overAllDebts_37 hl (k := 2) rfl (nI_inc i) (by decide) rfl (fun ls hl => ?_)
        refine lv_goto (tgt := 5) hx hb d_X_overAllDebts_40 (by decide) ?_
        exact ih (i + 1) ((t0 + (f_part (x_debts z i) (wh)))) (by omega) (by rw [← hv]; rfl) ls (lv_sub hl [0, 1, 3, 4] rfl)
  exact loop (a_n a) 0 0 (by omega) (by rw [f_overAllDebts, hC.1.en, nI_clamp (by have := hC.1.n; omega)]) ls hl
theorem in_credit {x : Int32} (h1 : ¬ x < 20) (h2 : ¬ 36 ≤ x) : vp_in (x - 20) 16 := by
  rw [Int32.lt_iff_toInt_lt, show (20 : Int32).toInt = 20 from by decide] at h1
  rw [Int32.le_iff_toInt_le, show (36 : Int32).toInt = 36 from by decide] at h2
  obtain ⟨j, hj, rfl⟩ := nI_of (x := x) (fun h => by rw [Int32.lt_iff_toInt_lt, show (0 : Int32).toInt = 0 from by decide] at h; omega)
  rw [nI_toInt hj] at h1 h2
  rw [show (20 : Int32) = nI 20 from rfl, pk_sub (by omega)]
  exact vp_in_nI (by omega) (by decide)
def f_sum (z : XT) (wh : Int32) : Int64 :=
  if wh < 20 then (if wh = 0 then (f_overAllDebts (z) (wh))
    else if wh = 1 then (f_overAllDebts (z) (wh))
      else if wh = 2 then (f_overAllDebts (z) (wh))
        else if wh = 3 then (f_overAllDebts (z) (wh))
          else if wh = 4 then (f_overAllDebts (z) (wh))
            else if wh = 5 then (x_cnt z : Int32).toInt64
              else if wh = 6 then (x_today z : Int32).toInt64
                else if wh = 7 then (r_count (x_rates z) : Int32).toInt64
                  else -1)
  else if 36 ≤ wh then (if wh = 0 then (f_overAllDebts (z) (wh))
      else if wh = 1 then (f_overAllDebts (z) (wh))
        else if wh = 2 then (f_overAllDebts (z) (wh))
          else if wh = 3 then (f_overAllDebts (z) (wh))
            else if wh = 4 then (f_overAllDebts (z) (wh))
              else if wh = 5 then (x_cnt z : Int32).toInt64
                else if wh = 6 then (x_today z : Int32).toInt64
                  else if wh = 7 then (r_count (x_rates z) : Int32).toInt64
                    else -1)
    else (x_credit z ((wh - 20)).toNatClampNeg)
set_option maxHeartbeats 4000000 in
set_option maxRecDepth 100000 in
theorem c_sum (l : Launch) (D : va_G) (A : Nat → Prop) (w : va_W) (cI cL cD : ClassId) (b : Nat) (a : AD) (z : XT) (wh : Int32) (hC0 : cA w b cI cL cD a z) : Met l y_X_sum w_X_sum ({ frames := 2, cells := 0, slots := 0, locals := 46 }) (mPc D w (tyL cI cL cD) A [.ref (a_x a), .int (wh)]) (vp_Sl (fun z9 => z9 = f_sum z wh)) 0 0 (fun _ => False) := by
  refine Met.ofW (cc := b_X_sum) (maxL := 2) (ret := (some .long)) (by decide) rfl ?_
  intro p e s m args below meth c s₁ B hml hv
  obtain ⟨rfl, hP, hK, hD⟩ := hv
  have hx := B.exec
  have hb := B.bytes
  have hr := B.returns
  have hts := atoms_spec (ws := w_X_sum) B.pre
  have hown : s.vm.findClass R_X = some m.cls := findClass_of_methodNamed B.named
  have hlocks := B.notSynchronized
  have hS : va_S A s.heap s.heap [] := va_S.rf
  have hC : cUpd w w b cI cL cD a z := cUpd.rf hC0
  have hl := lv_entry ([.ref (a_x a), .int (wh)]) (n := 2) (Nat.le_of_ble_eq_true rfl)
  rw [lg_entry_eq]
  generalize (lg_sl ([.ref (a_x a), .int (wh)]) ++ List.replicate (2 - (lg_sl ([.ref (a_x a), .int (wh)])).length) Slot.unset).toArray = ls at hl ⊢
  have hl : lv_has ls 2 [(0, .ref (a_x a)), (1, .int (wh))] := hl
  refine lv_iload_n hx hb d_X_sum_0 rfl (lv_at hl 1 rfl) ?_
  refine lv_bipush (v := 20) hx hb d_X_sum_1 (by decide) ?_
  refine lv_icmp_lt (tgt := 22) hx hb d_X_sum_3 (by decide) (fun c_103 => ?_) (fun c_103 => ?_)
  · refine lv_iload_n hx hb d_X_sum_22 rfl (lv_at hl 1 rfl) ?_
    rcases Decidable.em (wh = (0 : Int32)) with c_104 | c_104
    · refine lv_tableIn (tgt := 68) hx hb d_X_sum_23 (by rw [c_104]; decide) (by rw [c_104]; decide) (by rw [c_104]; rfl) (by decide) ?_
      refine lv_aload_n hx hb d_X_sum_68 rfl (lv_at hl 0 rfl) ?_
      refine lv_iload_n hx hb d_X_sum_69 rfl (lv_at hl 1 rfl) ?_
      refine vp_callSl (W.runV (As := [.int (wh)]) (rest := []) ⟨hx, hb, hml, hown, hts⟩ (c_overAllDebts l D A w cI cL cD b a (z) (wh) hC.1) (cwV 1 hts (gV _ mB_87 mB_88 mB_1 mB_15 mB_89) rfl rfl rfl (by decide +kernel) ⟨(Nat.le_of_ble_eq_true rfl), (Nat.le_of_ble_eq_true rfl)⟩) ⟨mPc_bl, va_recv hK hP (ci := 2) (q0 := b) rfl hC.1.x, mPc_pr hP hK hD⟩ rfl rfl hl.1 rfl (lv_room (Nat.le_of_ble_eq_true rfl)) d_X_sum_70 ⟨Nat.zero_le _, Nat.zero_le _⟩) (fun v_105 ev_105 => ?_)
      subst ev_105
      exact W.lret (v := (f_overAllDebts (z) (wh))) hx hb hr (fun t ht hW => ⟨_, rfl, by rw [f_sum, if_pos c_103, if_pos c_104], ht⟩) t_nil d_X_sum_73
    · rcases Decidable.em (wh = (1 : Int32)) with c_106 | c_106
      · refine lv_tableIn (tgt := 68) hx hb d_X_sum_23 (by rw [c_106]; decide) (by rw [c_106]; decide) (by rw [c_106]; rfl) (by decide) ?_
        refine lv_aload_n hx hb d_X_sum_68 rfl (lv_at hl 0 rfl) ?_
        refine lv_iload_n hx hb d_X_sum_69 rfl (lv_at hl 1 rfl) ?_
        refine vp_callSl (W.runV (As := [.int (wh)]) (rest := []) ⟨hx, hb, hml, hown, hts⟩ (c_overAllDebts l D A w cI cL cD b a (z) (wh) hC.1) (cwV 1 hts (gV _ mB_87 mB_88 mB_1 mB_15 mB_89) rfl rfl rfl (by decide +kernel) ⟨(Nat.le_of_ble_eq_true rfl), (Nat.le_of_ble_eq_true rfl)⟩) ⟨mPc_bl, va_recv hK hP (ci := 2) (q0 := b) rfl hC.1.x, mPc_pr hP hK hD⟩ rfl rfl hl.1 rfl (lv_room (Nat.le_of_ble_eq_true rfl)) d_X_sum_70 ⟨Nat.zero_le _, Nat.zero_le _⟩) (fun v_107 ev_107 => ?_)
        subst ev_107
        exact W.lret (v := (f_overAllDebts (z) (wh))) hx hb hr (fun t ht hW => ⟨_, rfl, by rw [f_sum, if_pos c_103, if_neg c_104, if_pos c_106], ht⟩) t_nil d_X_sum_73
      · rcases Decidable.em (wh = (2 : Int32)) with c_108 | c_108
        · refine lv_tableIn (tgt := 68) hx hb d_X_sum_23 (by rw [c_108]; decide) (by rw [c_108]; decide) (by rw [c_108]; rfl) (by decide) ?_
          refine lv_aload_n hx hb d_X_sum_68 rfl (lv_at hl 0 rfl) ?_
          refine lv_iload_n hx hb d_X_sum_69 rfl (lv_at hl 1 rfl) ?_
          refine vp_callSl (W.runV (As := [.int (wh)]) (rest := []) ⟨hx, hb, hml, hown, hts⟩ (c_overAllDebts l D A w cI cL cD b a (z) (wh) hC.1) (cwV 1 hts (gV _ mB_87 mB_88 mB_1 mB_15 mB_89) rfl rfl rfl (by decide +kernel) ⟨(Nat.le_of_ble_eq_true rfl), (Nat.le_of_ble_eq_true rfl)⟩) ⟨mPc_bl, va_recv hK hP (ci := 2) (q0 := b) rfl hC.1.x, mPc_pr hP hK hD⟩ rfl rfl hl.1 rfl (lv_room (Nat.le_of_ble_eq_true rfl)) d_X_sum_70 ⟨Nat.zero_le _, Nat.zero_le _⟩) (fun v_109 ev_109 => ?_)
          subst ev_109
          exact W.lret (v := (f_overAllDebts (z) (wh))) hx hb hr (fun t ht hW => ⟨_, rfl, by rw [f_sum, if_pos c_103, if_neg c_104, if_neg c_106, if_pos c_108], ht⟩) t_nil d_X_sum_73
        · rcases Decidable.em (wh = (3 : Int32)) with c_110 | c_110
          · refine lv_tableIn (tgt := 68) hx hb d_X_sum_23 (by rw [c_110]; decide) (by rw [c_110]; decide) (by rw [c_110]; rfl) (by decide) ?_
            refine lv_aload_n hx hb d_X_sum_68 rfl (lv_at hl 0 rfl) ?_
            refine lv_iload_n hx hb d_X_sum_69 rfl (lv_at hl 1 rfl) ?_
            refine vp_callSl (W.runV (As := [.int (wh)]) (rest := []) ⟨hx, hb, hml, hown, hts⟩ (c_overAllDebts l D A w cI cL cD b a (z) (wh) hC.1) (cwV 1 hts (gV _ mB_87 mB_88 mB_1 mB_15 mB_89) rfl rfl rfl (by decide +kernel) ⟨(Nat.le_of_ble_eq_true rfl), (Nat.le_of_ble_eq_true rfl)⟩) ⟨mPc_bl, va_recv hK hP (ci := 2) (q0 := b) rfl hC.1.x, mPc_pr hP hK hD⟩ rfl rfl hl.1 rfl (lv_room (Nat.le_of_ble_eq_true rfl)) d_X_sum_70 ⟨Nat.zero_le _, Nat.zero_le _⟩) (fun v_111 ev_111 => ?_)
            subst ev_111
            exact W.lret (v := (f_overAllDebts (z) (wh))) hx hb hr (fun t ht hW => ⟨_, rfl, by rw [f_sum, if_pos c_103, if_neg c_104, if_neg c_106, if_neg c_108, if_pos c_110], ht⟩) t_nil d_X_sum_73
          · rcases Decidable.em (wh = (4 : Int32)) with c_112 | c_112
            · refine lv_tableIn (tgt := 68) hx hb d_X_sum_23 (by rw [c_112]; decide) (by rw [c_112]; decide) (by rw [c_112]; rfl) (by decide) ?_
              refine lv_aload_n hx hb d_X_sum_68 rfl (lv_at hl 0 rfl) ?_
              refine lv_iload_n hx hb d_X_sum_69 rfl (lv_at hl 1 rfl) ?_
              refine vp_callSl (W.runV (As := [.int (wh)]) (rest := []) ⟨hx, hb, hml, hown, hts⟩ (c_overAllDebts l D A w cI cL cD b a (z) (wh) hC.1) (cwV 1 hts (gV _ mB_87 mB_88 mB_1 mB_15 mB_89) rfl rfl rfl (by decide +kernel) ⟨(Nat.le_of_ble_eq_true rfl), (Nat.le_of_ble_eq_true rfl)⟩) ⟨mPc_bl, va_recv hK hP (ci := 2) (q0 := b) rfl hC.1.x, mPc_pr hP hK hD⟩ rfl rfl hl.1 rfl (lv_room (Nat.le_of_ble_eq_true rfl)) d_X_sum_70 ⟨Nat.zero_le _, Nat.zero_le _⟩) (fun v_113 ev_113 => ?_)
              subst ev_113
              exact W.lret (v := (f_overAllDebts (z) (wh))) hx hb hr (fun t ht hW => ⟨_, rfl, by rw [f_sum, if_pos c_103, if_neg c_104, if_neg c_106, if_neg c_108, if_neg c_110, if_pos c_112], ht⟩) t_nil d_X_sum_73
            · rcases Decidable.em (wh = (5 : Int32)) with c_114 | c_114
              · refine lv_tableIn (tgt := 74) hx hb d_X_sum_23 (by rw [c_114]; decide) (by rw [c_114]; decide) (by rw [c_114]; rfl) (by decide) ?_
                refine lv_aload_n hx hb d_X_sum_74 rfl (lv_at hl 0 rfl) ?_
                refine va_get (D := D) (ci := 2) (v := .int (x_cnt z)) (C := R_X) (T := F_X) (N := 5) hx hb hts (in_X _) hown hK hP b hC.1.x rfl 3 (by decide) (hts (.fieldLink R_X 26 "DebtRows" "debtCount" "I") (List.mem_cons_of_mem _ mB_56)) (fun _ h9 => h9) rfl d_X_sum_75 ?_
                refine lv_i2l hx hb d_X_sum_78 rfl ?_
                exact W.lret (v := (x_cnt z : Int32).toInt64) hx hb hr (fun t ht hW => ⟨_, rfl, by rw [f_sum, if_pos c_103, if_neg c_104, if_neg c_106, if_neg c_108, if_neg c_110, if_neg c_112, if_pos c_114], ht⟩) t_nil d_X_sum_79
              · rcases Decidable.em (wh = (6 : Int32)) with c_115 | c_115
                · refine lv_tableIn (tgt := 80) hx hb d_X_sum_23 (by rw [c_115]; decide) (by rw [c_115]; decide) (by rw [c_115]; rfl) (by decide) ?_
                  refine lv_aload_n hx hb d_X_sum_80 rfl (lv_at hl 0 rfl) ?_
                  refine va_get (D := D) (ci := 2) (v := .int (x_today z)) (C := R_X) (T := F_X) (N := 5) hx hb hts (in_X _) hown hK hP b hC.1.x rfl 4 (by decide) (hts (.fieldLink R_X 30 "DebtRows" "today" "I") (List.mem_cons_of_mem _ mB_57)) (fun _ h9 => h9) rfl d_X_sum_81 ?_
                  refine lv_i2l hx hb d_X_sum_84 rfl ?_
                  exact W.lret (v := (x_today z : Int32).toInt64) hx hb hr (fun t ht hW => ⟨_, rfl, by rw [f_sum, if_pos c_103, if_neg c_104, if_neg c_106, if_neg c_108, if_neg c_110, if_neg c_112, if_neg c_114, if_pos c_115], ht⟩) t_nil d_X_sum_85
                · rcases Decidable.em (wh = (7 : Int32)) with c_116 | c_116
                  · refine lv_tableIn (tgt := 86) hx hb d_X_sum_23 (by rw [c_116]; decide) (by rw [c_116]; decide) (by rw [c_116]; rfl) (by decide) ?_
                    refine lv_aload_n hx hb d_X_sum_86 rfl (lv_at hl 0 rfl) ?_
                    refine va_get (D := D) (ci := 2) (v := .ref (a_r0 a)) (C := R_X) (T := F_X) (N := 5) hx hb hts (in_X _) hown hK hP b hC.1.x rfl 0 (by decide) (hts (.fieldLink R_X 10 "DebtRows" "rates" "LDebtRows$Rates;") (List.mem_cons_of_mem _ mB_53)) (fun _ h9 => h9) rfl d_X_sum_87 ?_
                    refine va_get (D := D) (ci := 1) (v := .int (r_count (x_rates z))) (C := R_S) (T := F_S) (N := 4) hx hb hts (in_S _) hown hK hP (b + 1) hC.1.r.1 rfl 3 (by decide) (hts (.fieldLink R_X 52 "DebtRows$Rates" "count" "I") (List.mem_cons_of_mem _ mB_45)) (fun _ h9 => h9) rfl d_X_sum_90 ?_
                    refine lv_i2l hx hb d_X_sum_93 rfl ?_
                    exact W.lret (v := (r_count (x_rates z) : Int32).toInt64) hx hb hr (fun t ht hW => ⟨_, rfl, by rw [f_sum, if_pos c_103, if_neg c_104, if_neg c_106, if_neg c_108, if_neg c_110, if_neg c_112, if_neg c_114, if_neg c_115, if_pos c_116], ht⟩) t_nil d_X_sum_94
                  · refine lv_tableOut (tgt := 95) hx hb d_X_sum_23 (tsw8 c_104 c_106 c_108 c_110 c_112 c_114 c_115 c_116) (by decide) ?_
                    refine lv_ldc2 (own := R_X) (index := 126) (v := -1) hx hb hown (hts (.constantLong R_X 126 (-1)) (List.mem_cons_of_mem _ mB_94)) d_X_sum_95 ?_
                    exact W.lret (v := -1) hx hb hr (fun t ht hW => ⟨_, rfl, by rw [f_sum, if_pos c_103, if_neg c_104, if_neg c_106, if_neg c_108, if_neg c_110, if_neg c_112, if_neg c_114, if_neg c_115, if_neg c_116], ht⟩) t_nil d_X_sum_98
  · refine lv_iload_n hx hb d_X_sum_6 rfl (lv_at hl 1 rfl) ?_
    refine lv_bipush (v := 36) hx hb d_X_sum_7 (by decide) ?_
    refine lv_icmp_ge (tgt := 22) hx hb d_X_sum_9 (by decide) (fun c_117 => ?_) (fun c_117 => ?_)
    · refine lv_iload_n hx hb d_X_sum_22 rfl (lv_at hl 1 rfl) ?_
      rcases Decidable.em (wh = (0 : Int32)) with c_118 | c_118
      · refine lv_tableIn (tgt := 68) hx hb d_X_sum_23 (by rw [c_118]; decide) (by rw [c_118]; decide) (by rw [c_118]; rfl) (by decide) ?_
        refine lv_aload_n hx hb d_X_sum_68 rfl (lv_at hl 0 rfl) ?_
        refine lv_iload_n hx hb d_X_sum_69 rfl (lv_at hl 1 rfl) ?_
        refine vp_callSl (W.runV (As := [.int (wh)]) (rest := []) ⟨hx, hb, hml, hown, hts⟩ (c_overAllDebts l D A w cI cL cD b a (z) (wh) hC.1) (cwV 1 hts (gV _ mB_87 mB_88 mB_1 mB_15 mB_89) rfl rfl rfl (by decide +kernel) ⟨(Nat.le_of_ble_eq_true rfl), (Nat.le_of_ble_eq_true rfl)⟩) ⟨mPc_bl, va_recv hK hP (ci := 2) (q0 := b) rfl hC.1.x, mPc_pr hP hK hD⟩ rfl rfl hl.1 rfl (lv_room (Nat.le_of_ble_eq_true rfl)) d_X_sum_70 ⟨Nat.zero_le _, Nat.zero_le _⟩) (fun v_119 ev_119 => ?_)
        subst ev_119
        exact W.lret (v := (f_overAllDebts (z) (wh))) hx hb hr (fun t ht hW => ⟨_, rfl, by rw [f_sum, if_neg c_103, if_pos c_117, if_pos c_118], ht⟩) t_nil d_X_sum_73
      · rcases Decidable.em (wh = (1 : Int32)) with c_120 | c_120
        · refine lv_tableIn (tgt := 68) hx hb d_X_sum_23 (by rw [c_120]; decide) (by rw [c_120]; decide) (by rw [c_120]; rfl) (by decide) ?_
          refine lv_aload_n hx hb d_X_sum_68 rfl (lv_at hl 0 rfl) ?_
          refine lv_iload_n hx hb d_X_sum_69 rfl (lv_at hl 1 rfl) ?_
          refine vp_callSl (W.runV (As := [.int (wh)]) (rest := []) ⟨hx, hb, hml, hown, hts⟩ (c_overAllDebts l D A w cI cL cD b a (z) (wh) hC.1) (cwV 1 hts (gV _ mB_87 mB_88 mB_1 mB_15 mB_89) rfl rfl rfl (by decide +kernel) ⟨(Nat.le_of_ble_eq_true rfl), (Nat.le_of_ble_eq_true rfl)⟩) ⟨mPc_bl, va_recv hK hP (ci := 2) (q0 := b) rfl hC.1.x, mPc_pr hP hK hD⟩ rfl rfl hl.1 rfl (lv_room (Nat.le_of_ble_eq_true rfl)) d_X_sum_70 ⟨Nat.zero_le _, Nat.zero_le _⟩) (fun v_121 ev_121 => ?_)
          subst ev_121
          exact W.lret (v := (f_overAllDebts (z) (wh))) hx hb hr (fun t ht hW => ⟨_, rfl, by rw [f_sum, if_neg c_103, if_pos c_117, if_neg c_118, if_pos c_120], ht⟩) t_nil d_X_sum_73
        · rcases Decidable.em (wh = (2 : Int32)) with c_122 | c_122
          · refine lv_tableIn (tgt := 68) hx hb d_X_sum_23 (by rw [c_122]; decide) (by rw [c_122]; decide) (by rw [c_122]; rfl) (by decide) ?_
            refine lv_aload_n hx hb d_X_sum_68 rfl (lv_at hl 0 rfl) ?_
            refine lv_iload_n hx hb d_X_sum_69 rfl (lv_at hl 1 rfl) ?_
            refine vp_callSl (W.runV (As := [.int (wh)]) (rest := []) ⟨hx, hb, hml, hown, hts⟩ (c_overAllDebts l D A w cI cL cD b a (z) (wh) hC.1) (cwV 1 hts (gV _ mB_87 mB_88 mB_1 mB_15 mB_89) rfl rfl rfl (by decide +kernel) ⟨(Nat.le_of_ble_eq_true rfl), (Nat.le_of_ble_eq_true rfl)⟩) ⟨mPc_bl, va_recv hK hP (ci := 2) (q0 := b) rfl hC.1.x, mPc_pr hP hK hD⟩ rfl rfl hl.1 rfl (lv_room (Nat.le_of_ble_eq_true rfl)) d_X_sum_70 ⟨Nat.zero_le _, Nat.zero_le _⟩) (fun v_123 ev_123 => ?_)
            subst ev_123
            exact W.lret (v := (f_overAllDebts (z) (wh))) hx hb hr (fun t ht hW => ⟨_, rfl, by rw [f_sum, if_neg c_103, if_pos c_117, if_neg c_118, if_neg c_120, if_pos c_122], ht⟩) t_nil d_X_sum_73
          · rcases Decidable.em (wh = (3 : Int32)) with c_124 | c_124
            · refine lv_tableIn (tgt := 68) hx hb d_X_sum_23 (by rw [c_124]; decide) (by rw [c_124]; decide) (by rw [c_124]; rfl) (by decide) ?_
              refine lv_aload_n hx hb d_X_sum_68 rfl (lv_at hl 0 rfl) ?_
              refine lv_iload_n hx hb d_X_sum_69 rfl (lv_at hl 1 rfl) ?_
              refine vp_callSl (W.runV (As := [.int (wh)]) (rest := []) ⟨hx, hb, hml, hown, hts⟩ (c_overAllDebts l D A w cI cL cD b a (z) (wh) hC.1) (cwV 1 hts (gV _ mB_87 mB_88 mB_1 mB_15 mB_89) rfl rfl rfl (by decide +kernel) ⟨(Nat.le_of_ble_eq_true rfl), (Nat.le_of_ble_eq_true rfl)⟩) ⟨mPc_bl, va_recv hK hP (ci := 2) (q0 := b) rfl hC.1.x, mPc_pr hP hK hD⟩ rfl rfl hl.1 rfl (lv_room (Nat.le_of_ble_eq_true rfl)) d_X_sum_70 ⟨Nat.zero_le _, Nat.zero_le _⟩) (fun v_125 ev_125 => ?_)
              subst ev_125
              exact W.lret (v := (f_overAllDebts (z) (wh))) hx hb hr (fun t ht hW => ⟨_, rfl, by rw [f_sum, if_neg c_103, if_pos c_117, if_neg c_118, if_neg c_120, if_neg c_122, if_pos c_124], ht⟩) t_nil d_X_sum_73
            · rcases Decidable.em (wh = (4 : Int32)) with c_126 | c_126
              · refine lv_tableIn (tgt := 68) hx hb d_X_sum_23 (by rw [c_126]; decide) (by rw [c_126]; decide) (by rw [c_126]; rfl) (by decide) ?_
                refine lv_aload_n hx hb d_X_sum_68 rfl (lv_at hl 0 rfl) ?_
                refine lv_iload_n hx hb d_X_sum_69 rfl (lv_at hl 1 rfl) ?_
                refine vp_callSl (W.runV (As := [.int (wh)]) (rest := []) ⟨hx, hb, hml, hown, hts⟩ (c_overAllDebts l D A w cI cL cD b a (z) (wh) hC.1) (cwV 1 hts (gV _ mB_87 mB_88 mB_1 mB_15 mB_89) rfl rfl rfl (by decide +kernel) ⟨(Nat.le_of_ble_eq_true rfl), (Nat.le_of_ble_eq_true rfl)⟩) ⟨mPc_bl, va_recv hK hP (ci := 2) (q0 := b) rfl hC.1.x, mPc_pr hP hK hD⟩ rfl rfl hl.1 rfl (lv_room (Nat.le_of_ble_eq_true rfl)) d_X_sum_70 ⟨Nat.zero_le _, Nat.zero_le _⟩) (fun v_127 ev_127 => ?_)
                subst ev_127
                exact W.lret (v := (f_overAllDebts (z) (wh))) hx hb hr (fun t ht hW => ⟨_, rfl, by rw [f_sum, if_neg c_103, if_pos c_117, if_neg c_118, if_neg c_120, if_neg c_122, if_neg c_124, if_pos c_126], ht⟩) t_nil d_X_sum_73
              · rcases Decidable.em (wh = (5 : Int32)) with c_128 | c_128
                · refine lv_tableIn (tgt := 74) hx hb d_X_sum_23 (by rw [c_128]; decide) (by rw [c_128]; decide) (by rw [c_128]; rfl) (by decide) ?_
                  refine lv_aload_n hx hb d_X_sum_74 rfl (lv_at hl 0 rfl) ?_
                  refine va_get (D := D) (ci := 2) (v := .int (x_cnt z)) (C := R_X) (T := F_X) (N := 5) hx hb hts (in_X _) hown hK hP b hC.1.x rfl 3 (by decide) (hts (.fieldLink R_X 26 "DebtRows" "debtCount" "I") (List.mem_cons_of_mem _ mB_56)) (fun _ h9 => h9) rfl d_X_sum_75 ?_
                  refine lv_i2l hx hb d_X_sum_78 rfl ?_
                  exact W.lret (v := (x_cnt z : Int32).toInt64) hx hb hr (fun t ht hW => ⟨_, rfl, by rw [f_sum, if_neg c_103, if_pos c_117, if_neg c_118, if_neg c_120, if_neg c_122, if_neg c_124, if_neg c_126, if_pos c_128], ht⟩) t_nil d_X_sum_79
                · rcases Decidable.em (wh = (6 : Int32)) with c_129 | c_129
                  · refine lv_tableIn (tgt := 80) hx hb d_X_sum_23 (by rw [c_129]; decide) (by rw [c_129]; decide) (by rw [c_129]; rfl) (by decide) ?_
                    refine lv_aload_n hx hb d_X_sum_80 rfl (lv_at hl 0 rfl) ?_
                    refine va_get (D := D) (ci := 2) (v := .int (x_today z)) (C := R_X) (T := F_X) (N := 5) hx hb hts (in_X _) hown hK hP b hC.1.x rfl 4 (by decide) (hts (.fieldLink R_X 30 "DebtRows" "today" "I") (List.mem_cons_of_mem _ mB_57)) (fun _ h9 => h9) rfl d_X_sum_81 ?_
                    refine lv_i2l hx hb d_X_sum_84 rfl ?_
                    exact W.lret (v := (x_today z : Int32).toInt64) hx hb hr (fun t ht hW => ⟨_, rfl, by rw [f_sum, if_neg c_103, if_pos c_117, if_neg c_118, if_neg c_120, if_neg c_122, if_neg c_124, if_neg c_126, if_neg c_128, if_pos c_129], ht⟩) t_nil d_X_sum_85
                  · rcases Decidable.em (wh = (7 : Int32)) with c_130 | c_130
                    · refine lv_tableIn (tgt := 86) hx hb d_X_sum_23 (by rw [c_130]; decide) (by rw [c_130]; decide) (by rw [c_130]; rfl) (by decide) ?_
                      refine lv_aload_n hx hb d_X_sum_86 rfl (lv_at hl 0 rfl) ?_
                      refine va_get (D := D) (ci := 2) (v := .ref (a_r0 a)) (C := R_X) (T := F_X) (N := 5) hx hb hts (in_X _) hown hK hP b hC.1.x rfl 0 (by decide) (hts (.fieldLink R_X 10 "DebtRows" "rates" "LDebtRows$Rates;") (List.mem_cons_of_mem _ mB_53)) (fun _ h9 => h9) rfl d_X_sum_87 ?_
                      refine va_get (D := D) (ci := 1) (v := .int (r_count (x_rates z))) (C := R_S) (T := F_S) (N := 4) hx hb hts (in_S _) hown hK hP (b + 1) hC.1.r.1 rfl 3 (by decide) (hts (.fieldLink R_X 52 "DebtRows$Rates" "count" "I") (List.mem_cons_of_mem _ mB_45)) (fun _ h9 => h9) rfl d_X_sum_90 ?_
                      refine lv_i2l hx hb d_X_sum_93 rfl ?_
                      exact W.lret (v := (r_count (x_rates z) : Int32).toInt64) hx hb hr (fun t ht hW => ⟨_, rfl, by rw [f_sum, if_neg c_103, if_pos c_117, if_neg c_118, if_neg c_120, if_neg c_122, if_neg c_124, if_neg c_126, if_neg c_128, if_neg c_129, if_pos c_130], ht⟩) t_nil d_X_sum_94
                    · refine lv_tableOut (tgt := 95) hx hb d_X_sum_23 (tsw8 c_118 c_120 c_122 c_124 c_126 c_128 c_129 c_130) (by decide) ?_
                      refine lv_ldc2 (own := R_X) (index := 126) (v := -1) hx hb hown (hts (.constantLong R_X 126 (-1)) (List.mem_cons_of_mem _ mB_94)) d_X_sum_95 ?_
                      exact W.lret (v := -1) hx hb hr (fun t ht hW => ⟨_, rfl, by rw [f_sum, if_neg c_103, if_pos c_117, if_neg c_118, if_neg c_120, if_neg c_122, if_neg c_124, if_neg c_126, if_neg c_128, if_neg c_129, if_neg c_130], ht⟩) t_nil d_X_sum_98
    · refine lv_aload_n hx hb d_X_sum_12 rfl (lv_at hl 0 rfl) ?_
      refine va_get (D := D) (ci := 2) (v := .ref (a_cr a)) (C := R_X) (T := F_X) (N := 5) hx hb hts (in_X _) hown hK hP b hC.1.x rfl 2 (by decide) (hts (.fieldLink R_X 22 "DebtRows" "credit" "[J") (List.mem_cons_of_mem _ mB_55)) (fun _ h9 => h9) rfl d_X_sum_13 ?_
      refine lv_iload_n hx hb d_X_sum_16 rfl (lv_at hl 1 rfl) ?_
      refine lv_bipush (v := 20) hx hb d_X_sum_17 (by decide) ?_
      refine lv_isub hx hb d_X_sum_19 ?_
      refine va_lald hx hb hK hP (b + 6) 1 hC.1.cr rfl (in_credit c_103 c_117) d_X_sum_20 ?_
      exact W.lret (v := (x_credit z ((wh - 20)).toNatClampNeg)) hx hb hr (fun t ht hW => ⟨_, rfl, by rw [f_sum, if_neg c_103, if_neg c_117], ht⟩) t_nil d_X_sum_21
def f_debtor (z : XT) (q : Int32) (who : Int32) : Int32 × XT :=
  if okN (z) (q) then (if (f_isPerson (who)) = 0 then (0, z)
    else if d_state (x_debts z (ixN (q))) = 0 then (if (f_join (x_debts z (ixN (q))) (who)).1 = 0 then (0, y_debt (z) (ixN (q)) (f_join (x_debts z (ixN (q))) (who)).2)
        else (1, y_debt (z) (ixN (q)) (f_join (x_debts z (ixN (q))) (who)).2))
      else (0, z))
  else (0, z)
set_option maxHeartbeats 4000000 in
set_option maxRecDepth 100000 in
theorem c_debtor (l : Launch) (D : va_G) (A : Nat → Prop) (w : va_W) (cI cL cD : ClassId) (b : Nat) (a : AD) (z : XT) (q : Int32) (who : Int32) (hC0 : cA w b cI cL cD a z) : Met l y_X_debtor w_X_debtor ({ frames := 2, cells := 0, slots := 0, locals := 43 }) (mPc D w (tyL cI cL cD) A [.ref (a_x a), .int (q), .int (who)]) (va_Qi (fun z9 (_ : Unit) => z9 = (f_debtor z q who).1) (fun (_ : Unit) t => ∃ w9 : va_W, va_P D vwCl w9 t.heap ∧ va_D A w9 ∧ cAt w9 b cI cL cD (a_x a) ((f_debtor z q who).2) ∧ ∀ j, j < b → w9[j]? = w[j]?) A) 0 0 A := by
  refine Met.ofW (cc := b_X_debtor) (maxL := 4) (ret := (some .boolean)) (by decide) rfl ?_
  intro p e s m args below meth c s₁ B hml hv
  obtain ⟨rfl, hP, hK, hD⟩ := hv
  have hx := B.exec
  have hb := B.bytes
  have hr := B.returns
  have hts := atoms_spec (ws := w_X_debtor) B.pre
  have hown : s.vm.findClass R_X = some m.cls := findClass_of_methodNamed B.named
  have hlocks := B.notSynchronized
  have hS : va_S A s.heap s.heap [] := va_S.rf
  have hC : cUpd w w b cI cL cD a z := cUpd.rf hC0
  have hl := lv_entry ([.ref (a_x a), .int (q), .int (who)]) (n := 4) (Nat.le_of_ble_eq_true rfl)
  rw [lg_entry_eq]
  generalize (lg_sl ([.ref (a_x a), .int (q), .int (who)]) ++ List.replicate (4 - (lg_sl ([.ref (a_x a), .int (q), .int (who)])).length) Slot.unset).toArray = ls at hl ⊢
  have hl : lv_has ls 4 [(0, .ref (a_x a)), (1, .int (q)), (2, .int (who))] := hl
  refine lv_aload_n hx hb d_X_debtor_0 rfl (lv_at hl 0 rfl) ?_
  refine lv_iload_n hx hb d_X_debtor_1 rfl (lv_at hl 1 rfl) ?_
  refine va_csq (W.runV (As := [.int (q)]) (rest := []) ⟨hx, hb, hml, hown, hts⟩ (c_find l D A w cI cL cD b a (z) (q) hC.1) (cwV 1 hts (gV _ mB_69 mB_70 mB_0 mB_15 mB_71) rfl rfl rfl (by decide +kernel) ⟨(Nat.le_of_ble_eq_true rfl), (Nat.le_of_ble_eq_true rfl)⟩) ⟨mPc_bl, va_recv hK hP (ci := 2) (q0 := b) rfl hC.1.x, mPc_pr hP hK hD⟩ rfl rfl hl.1 rfl (lv_room (Nat.le_of_ble_eq_true rfl)) d_X_debtor_2 ⟨Nat.zero_le _, Nat.zero_le _⟩) (fun v_131 ev_131 => ?_)
  rcases Decidable.em (okN (z) (q)) with c_132 | c_132
  · rw [if_pos c_132] at ev_131
    subst ev_131
    have hi_133 : ixN (q) < a_n a := (okN_ix c_132 hC.1.en hC.1.n).1
    have hU : dUpd w w (b + 7 + 3 * (ixN (q))) cI cL (a_da a (ixN (q))) (a_pa a (ixN (q))) (a_qa a (ixN (q))) (x_debts z (ixN (q))) := dUpd.rf (hC.1.d hi_133)
    have hw : wfD (x_debts z (ixN (q))) := hC.1.wd hi_133
    refine lv_astore_n (lv' := [(3, .ref (a_da a (ixN (q)))), (0, .ref (a_x a)), (1, .int (q)), (2, .int (who))]) hx hb d_X_debtor_5 rfl hl (by decide) rfl (fun ls hl => ?_)
    refine lv_aload_n hx hb d_X_debtor_6 rfl (lv_at hl 0 rfl) ?_
    refine lv_ifnull hx hb d_X_debtor_7 ?_
    refine lv_iload_n hx hb d_X_debtor_10 rfl (lv_at hl 3 rfl) ?_
    refine vp_callSi (W.runS (As := [.int (who)]) (rest := []) ⟨hx, hb, hml, hown, hts⟩ (c_isPerson l (who)) (cwS 1 hts (gS _ mB_72 mB_73 mB_15 mB_74) rfl rfl rfl (by decide +kernel) ⟨(Nat.le_of_ble_eq_true rfl), (Nat.le_of_ble_eq_true rfl)⟩) ⟨fun _ _ _ _ q => q, fun U _ _ => ⟨rfl, trivial⟩⟩ rfl rfl hl.1 rfl (lv_room (Nat.le_of_ble_eq_true rfl)) d_X_debtor_11 ⟨Nat.zero_le _, Nat.zero_le _⟩) (fun v_134 ev_134 => ?_)
    subst ev_134
    refine lv_if_ne (tgt := 19) hx hb d_X_debtor_14 (by decide) (fun c_135 => ?_) (fun c_135 => ?_)
    · refine lv_aload_n hx hb d_X_debtor_19 rfl (lv_at hl 0 rfl) ?_
      refine va_get (D := D) (ci := 0) (v := .int (d_state (x_debts z (ixN (q))))) (C := R_D) (T := F_D) (N := 15) hx hb hts (in_D _) hown hK hP (b + 7 + 3 * (ixN (q))) hU.o rfl 5 (by decide) (hts (.fieldLink R_X 88 "DebtRows$Debt" "state" "I") (List.mem_cons_of_mem _ mB_217)) (fun _ h9 => h9) rfl d_X_debtor_20 ?_
      refine lv_if_ne (tgt := 38) hx hb d_X_debtor_23 (by decide) (fun c_136 => ?_) (fun c_136 => ?_)
      · refine lv_iconst (v := 0) hx hb d_X_debtor_38 (by decide) ?_
        exact W.zret (v := 0) hx hb hr rfl (fun t ht hW => ⟨⟨_, (), rfl, by rw [f_debtor, if_pos c_132, if_neg c_135, if_neg c_136], w, by rw [ht]; exact hP, hD, by rw [f_debtor, if_pos c_132, if_neg c_135, if_neg c_136]; exact hC.at, hC.2⟩, hS.F ht⟩) hS.2.2 d_X_debtor_39
      · refine lv_aload_n hx hb d_X_debtor_26 rfl (lv_at hl 0 rfl) ?_
        refine lv_iload_n hx hb d_X_debtor_27 rfl (lv_at hl 3 rfl) ?_
        refine va_calli (va_runV (As := [.int (who)]) (rest := []) ⟨hx, hb, hml, hown, hts⟩ (c_join l D A w cI cL cD (b + 7 + 3 * (ixN (q))) (a_da a (ixN (q))) (a_pa a (ixN (q))) (a_qa a (ixN (q))) (x_debts z (ixN (q))) (who) hU.1 hw) (cwV 1 hts (gV _ mB_75 mB_76 mB_77 mB_24 mB_78) rfl rfl rfl (by decide +kernel) ⟨(Nat.le_of_ble_eq_true rfl), (Nat.le_of_ble_eq_true rfl)⟩) ⟨mPc_bl, va_recv hK hP (ci := 0) (q0 := (b + 7 + 3 * (ixN (q)))) rfl hU.o, mPc_pr hP hK hD⟩ rfl rfl hl.1 rfl (lv_room (Nat.le_of_ble_eq_true rfl)) d_X_debtor_28 ⟨Nat.zero_le _, Nat.zero_le _⟩) hS (fun _ _ h => h) (fun _ h => h) (fun v_137 u9 t H locs ht hvm ev_137 hB hz1 hk1 hS => ?_)
        obtain ⟨w_138, hP, hD, hU1⟩ := hB
        rw [ht] at hP
        have hU := hU.tr hU1
        have hw : wfD ((f_join (x_debts z (ixN (q))) (who)).2) := wf_join hw
        subst ev_137
        refine lv_if_eq (tgt := 38) hx hb d_X_debtor_31 (by decide) (fun c_139 => ?_) (fun c_139 => ?_)
        · refine lv_iconst (v := 0) hx hb d_X_debtor_38 (by decide) ?_
          have hC := hC.d hi_133 hU hw
          exact W.zret (v := 0) hx hb hr rfl (fun t ht hW => ⟨⟨_, (), rfl, by rw [f_debtor, if_pos c_132, if_neg c_135, if_pos c_136, if_pos c_139], w_138, by rw [ht]; exact hP, hD, by rw [f_debtor, if_pos c_132, if_neg c_135, if_pos c_136, if_pos c_139]; exact hC.at, hC.2⟩, hS.F ht⟩) hS.2.2 d_X_debtor_39
        · refine lv_iconst (v := 1) hx hb d_X_debtor_34 (by decide) ?_
          refine lv_goto (tgt := 39) hx hb d_X_debtor_35 (by decide) ?_
          have hC := hC.d hi_133 hU hw
          exact W.zret (v := 1) hx hb hr rfl (fun t ht hW => ⟨⟨_, (), rfl, by rw [f_debtor, if_pos c_132, if_neg c_135, if_pos c_136, if_neg c_139], w_138, by rw [ht]; exact hP, hD, by rw [f_debtor, if_pos c_132, if_neg c_135, if_pos c_136, if_neg c_139]; exact hC.at, hC.2⟩, hS.F ht⟩) hS.2.2 d_X_debtor_39
    · refine lv_iconst (v := 0) hx hb d_X_debtor_17 (by decide) ?_
      exact W.zret (v := 0) hx hb hr rfl (fun t ht hW => ⟨⟨_, (), rfl, by rw [f_debtor, if_pos c_132, if_pos c_135], w, by rw [ht]; exact hP, hD, by rw [f_debtor, if_pos c_132, if_pos c_135]; exact hC.at, hC.2⟩, hS.F ht⟩) hS.2.2 d_X_debtor_18
  · rw [if_neg c_132] at ev_131
    subst ev_131
    refine lv_astore_nN (lv' := [(3, .null), (0, .ref (a_x a)), (1, .int (q)), (2, .int (who))]) hx hb d_X_debtor_5 rfl hl (by decide) rfl (fun ls hl => ?_)
    refine lv_aload_nN hx hb d_X_debtor_6 rfl (lv_at hl 0 rfl) ?_
    refine lv_ifnullN (tgt := 17) hx hb d_X_debtor_7 (by decide) ?_
    refine lv_iconst (v := 0) hx hb d_X_debtor_17 (by decide) ?_
    exact W.zret (v := 0) hx hb hr rfl (fun t ht hW => ⟨⟨_, (), rfl, by rw [f_debtor, if_neg c_132], w, by rw [ht]; exact hP, hD, by rw [f_debtor, if_neg c_132]; exact hC.at, hC.2⟩, hS.F ht⟩) hS.2.2 d_X_debtor_18
def f_notified (z : XT) (q : Int32) : Int32 × Int32 × XT :=
  if okN (z) (q) then (if d_state (x_debts z (ixN (q))) = 0 then (if (f_isTooLate (x_debts z (ixN (q))) (x_today z)) = 0 then (0, d_due (f_runAgain (s_due (x_debts z (ixN (q))) ((x_today z + 10))) (x_today z)), y_debt (z) (ixN (q)) (f_runAgain (s_due (x_debts z (ixN (q))) ((x_today z + 10))) (x_today z)))
      else (0, 0, z))
    else (0, 0, z))
  else (1, 0, z)
set_option maxHeartbeats 4000000 in
set_option maxRecDepth 100000 in
theorem c_notified (l : Launch) (hl9 : l.stackTraces = false) (D : va_G) (A : Nat → Prop) (w : va_W) (cI cL cD : ClassId) (b : Nat) (a : AD) (z : XT) (q : Int32) (hC0 : cA w b cI cL cD a z) : vx_Met l y_X_notified w_X_notified ({ frames := 7, cells := 1, slots := 6, locals := 112 }) (ePc D w (tyL cI cL cD) A [.ref (a_x a), .int (q)]) (va_Qi (fun z9 (_ : Unit) => (f_notified z q).1 = 0 ∧ z9 = (f_notified z q).2.1) (fun (_ : Unit) t => ∃ w9 : va_W, va_P D vwCl w9 t.heap ∧ va_D A w9 ∧ cAt w9 b cI cL cD (a_x a) ((f_notified z q).2.2) ∧ ∀ j, j < b → w9[j]? = w[j]?) A) (vx_X (fun _ : Unit => True) (fun E9 _ t => exN ["java/lang/IllegalArgumentException"] (f_notified z q).1 E9 ∧ va_P D vwCl w t.heap) A) 1 6 A := by
  refine vx_ofW (cc := b_X_notified) (maxL := 3) (ret := (some .int)) (by decide) rfl ?_
  intro p e s m args below meth c s₁ B hml hEx hv
  obtain ⟨rfl, hP, hK, hD, hE⟩ := hv
  have hx := B.exec
  have hb := B.bytes
  have hr := B.returns
  have hts := atoms_spec (ws := w_X_notified) B.pre
  have hown : s.vm.findClass R_X = some m.cls := findClass_of_methodNamed B.named
  have hlocks := B.notSynchronized
  have hS : va_S A s.heap s.heap [] := va_S.rf
  have hC : cUpd w w b cI cL cD a z := cUpd.rf hC0
  have hl := lv_entry ([.ref (a_x a), .int (q)]) (n := 3) (Nat.le_of_ble_eq_true rfl)
  rw [lg_entry_eq]
  generalize (lg_sl ([.ref (a_x a), .int (q)]) ++ List.replicate (3 - (lg_sl ([.ref (a_x a), .int (q)])).length) Slot.unset).toArray = ls at hl ⊢
  have hl : lv_has ls 3 [(0, .ref (a_x a)), (1, .int (q))] := hl
  refine lv_aload_n hx hb d_X_notified_0 rfl (lv_at hl 0 rfl) ?_
  refine lv_iload_n hx hb d_X_notified_1 rfl (lv_at hl 1 rfl) ?_
  refine vz_callq (vx_runV (As := [.int (q)]) (rest := []) ⟨hx, hb, hml, hown, hts⟩ (c_findOrRefuse l hl9 D A w cI cL cD b a (z) (q) hC.1) (cwV 1 hts (gV _ mB_254 mB_255 mB_3 mB_15 mB_256) rfl rfl rfl (by decide +kernel) ⟨(Nat.le_of_ble_eq_true rfl), (Nat.le_of_ble_eq_true rfl)⟩) ⟨ePc_bl, va_recv hK hP (ci := 2) (q0 := b) rfl hC.1.x, ePc_pr hP hK hD hE hS⟩ rfl rfl hl.1 rfl (lv_room (Nat.le_of_ble_eq_true rfl)) d_X_notified_2 ⟨(Nat.le_of_ble_eq_true rfl), (Nat.le_of_ble_eq_true rfl)⟩) hS (fun _ _ h => h) (fun _ h => h) (fun _ _ h => h) (fun E9 ce q9 u9 t H locs ht hvm hp9 hB hz1 hk1 hS hce hcv hcl => ?_) (fun v_140 u9 t H locs ht hvm hp9 hB hz1 hk1 hS => ?_)
  · obtain ⟨rfl, c_141, hP⟩ := hB
    rw [ht] at hP
    exact vx_out (E := "java/lang/IllegalArgumentException") (fun x hx => (hEx x hx).elim) hlocks hce hcv hcl (fun t ht ha => ⟨(), trivial, ⟨⟨0, rfl, by rw [f_notified, if_neg c_141]; rfl⟩, by rw [ht]; exact hP⟩, hS.F ht⟩) hS.2.2 (Nat.le_of_ble_eq_true rfl) (Nat.le_of_ble_eq_true rfl)
  · obtain ⟨c_141, ev_140⟩ := hp9
    subst ev_140
    have hP := hB
    rw [ht] at hP
    have hi_142 : ixN (q) < a_n a := (okN_ix c_141 hC.1.en hC.1.n).1
    have hU : dUpd w w (b + 7 + 3 * (ixN (q))) cI cL (a_da a (ixN (q))) (a_pa a (ixN (q))) (a_qa a (ixN (q))) (x_debts z (ixN (q))) := dUpd.rf (hC.1.d hi_142)
    have hw : wfD (x_debts z (ixN (q))) := hC.1.wd hi_142
    refine lv_astore_n (lv' := [(2, .ref (a_da a (ixN (q)))), (0, .ref (a_x a)), (1, .int (q))]) hx hb d_X_notified_5 rfl hl (by decide) rfl (fun ls hl => ?_)
    refine lv_aload_n hx hb d_X_notified_6 rfl (lv_at hl 0 rfl) ?_
    refine va_get (D := D) (ci := 0) (v := .int (d_state (x_debts z (ixN (q))))) (C := R_D) (T := F_D) (N := 15) hx hb hts (in_D _) hown hK hP (b + 7 + 3 * (ixN (q))) hU.o rfl 5 (by decide) (hts (.fieldLink R_X 88 "DebtRows$Debt" "state" "I") (List.mem_cons_of_mem _ mB_217)) (fun _ h9 => h9) rfl d_X_notified_7 ?_
    refine lv_if_ne (tgt := 24) hx hb d_X_notified_10 (by decide) (fun c_143 => ?_) (fun c_143 => ?_)
    · refine lv_iconst (v := 0) hx hb d_X_notified_24 (by decide) ?_
      refine vx_ret (W.widen (k := 1) (n := 6) (Nat.le_of_ble_eq_true rfl) (Nat.le_of_ble_eq_true rfl) ?_)
      exact W.iret (v := 0) hx hb hr (fun t ht hW => ⟨⟨_, (), rfl, ⟨by rw [f_notified, if_pos c_141, if_neg c_143], by rw [f_notified, if_pos c_141, if_neg c_143]⟩, w, by rw [ht]; exact hP, hD, by rw [f_notified, if_pos c_141, if_neg c_143]; exact hC.at, hC.2⟩, hS.F ht⟩) hS.2.2 d_X_notified_25
    · refine lv_aload_n hx hb d_X_notified_13 rfl (lv_at hl 0 rfl) ?_
      refine lv_aload_n hx hb d_X_notified_14 rfl (lv_at hl 1 rfl) ?_
      refine va_get (D := D) (ci := 2) (v := .int (x_today z)) (C := R_X) (T := F_X) (N := 5) hx hb hts (in_X _) hown hK hP b hC.1.x rfl 4 (by decide) (hts (.fieldLink R_X 30 "DebtRows" "today" "I") (List.mem_cons_of_mem _ mB_57)) (fun _ h9 => h9) rfl d_X_notified_15 ?_
      refine vp_callSi (W.runV (As := [.int (x_today z)]) (rest := []) ⟨hx, hb, hml, hown, hts⟩ (c_isTooLate l D A w cI cL cD (b + 7 + 3 * (ixN (q))) (a_da a (ixN (q))) (a_pa a (ixN (q))) (a_qa a (ixN (q))) (x_debts z (ixN (q))) (x_today z) hU.1) (cwV 1 hts (gV _ mB_257 mB_258 mB_259 mB_24 mB_260) rfl rfl rfl (by decide +kernel) ⟨(Nat.le_of_ble_eq_true rfl), (Nat.le_of_ble_eq_true rfl)⟩) ⟨mPc_bl, va_recv hK hP (ci := 0) (q0 := (b + 7 + 3 * (ixN (q)))) rfl hU.o, mPc_pr hP hK hD⟩ rfl rfl hl.1 rfl (lv_room (Nat.le_of_ble_eq_true rfl)) d_X_notified_18 ⟨(Nat.le_of_ble_eq_true rfl), (Nat.le_of_ble_eq_true rfl)⟩) (fun v_144 ev_144 => ?_)
      subst ev_144
      refine lv_if_eq (tgt := 26) hx hb d_X_notified_21 (by decide) (fun c_145 => ?_) (fun c_145 => ?_)
      · refine lv_aload_n hx hb d_X_notified_26 rfl (lv_at hl 0 rfl) ?_
        refine lv_aload_n hx hb d_X_notified_27 rfl (lv_at hl 1 rfl) ?_
        refine va_get (D := D) (ci := 2) (v := .int (x_today z)) (C := R_X) (T := F_X) (N := 5) hx hb hts (in_X _) hown hK hP b hC.1.x rfl 4 (by decide) (hts (.fieldLink R_X 30 "DebtRows" "today" "I") (List.mem_cons_of_mem _ mB_57)) (fun _ h9 => h9) rfl d_X_notified_28 ?_
        refine lv_bipush (v := 10) hx hb d_X_notified_31 (by decide) ?_
        refine lv_iadd hx hb d_X_notified_33 ?_
        refine va_put (D := D) (ci := 0) (v := .int ((x_today z + 10))) (ty := .int) (C := R_D) (T := F_D) (N := 15) hx hb hts (in_D _) t_D to_D nn_D hown hK hP hD hS (b + 7 + 3 * (ixN (q))) hU.o rfl 6 (by decide) (hts (.fieldLink R_X 97 "DebtRows$Debt" "dueDay" "I") (List.mem_cons_of_mem _ mB_219)) (fun _ h9 => h9) rfl (by decide +kernel) rfl rfl (Nat.le_of_ble_eq_true rfl) d_X_notified_34 (fun H locs hP hD hS => ?_)
        have hU := hU.so (s_due (x_debts z (ixN (q))) ((x_today z + 10))) rfl rfl
        have hP : va_P D vwCl (w.set (b + 7 + 3 * (ixN (q))) ((a_da a (ixN (q))), dE (a_pa a (ixN (q))) (a_qa a (ixN (q))) (s_due (x_debts z (ixN (q))) ((x_today z + 10))))) H := hP
        have hD : va_D A (w.set (b + 7 + 3 * (ixN (q))) ((a_da a (ixN (q))), dE (a_pa a (ixN (q))) (a_qa a (ixN (q))) (s_due (x_debts z (ixN (q))) ((x_today z + 10))))) := hD
        generalize w.set (b + 7 + 3 * (ixN (q))) ((a_da a (ixN (q))), dE (a_pa a (ixN (q))) (a_qa a (ixN (q))) (s_due (x_debts z (ixN (q))) ((x_today z + 10)))) = w_146 at hP hD hU
        have hw : wfD (s_due (x_debts z (ixN (q))) ((x_today z + 10))) := hw
        refine lv_aload_n hx hb d_X_notified_37 rfl (lv_at hl 0 rfl) ?_
        refine lv_aload_n hx hb d_X_notified_38 rfl (lv_at hl 1 rfl) ?_
        refine va_get (D := D) (ci := 2) (v := .int (x_today z)) (C := R_X) (T := F_X) (N := 5) hx hb hts (in_X _) hown hK hP b (hU.out hC.1.x (by omega)) rfl 4 (by decide) (hts (.fieldLink R_X 30 "DebtRows" "today" "I") (List.mem_cons_of_mem _ mB_57)) (fun _ h9 => h9) rfl d_X_notified_39 ?_
        refine va_callv (va_runV (As := [.int (x_today z)]) (rest := []) ⟨hx, hb, hml, hown, hts⟩ (c_runAgain l D A w_146 cI cL cD (b + 7 + 3 * (ixN (q))) (a_da a (ixN (q))) (a_pa a (ixN (q))) (a_qa a (ixN (q))) (s_due (x_debts z (ixN (q))) ((x_today z + 10))) (x_today z) hU.1) (cwV 1 hts (gV _ mB_261 mB_262 mB_263 mB_24 mB_264) rfl rfl rfl (by decide +kernel) ⟨(Nat.le_of_ble_eq_true rfl), (Nat.le_of_ble_eq_true rfl)⟩) ⟨mPc_bl, va_recv hK hP (ci := 0) (q0 := (b + 7 + 3 * (ixN (q)))) rfl hU.o, mPc_pr hP hK hD⟩ rfl rfl hl.1 rfl (lv_room (Nat.le_of_ble_eq_true rfl)) d_X_notified_42 ⟨(Nat.le_of_ble_eq_true rfl), (Nat.le_of_ble_eq_true rfl)⟩) hS (fun _ _ h => h) (fun _ h => h) (fun u9 t H locs ht hvm ev_147 hB hz1 hk1 hS => ?_)
        obtain ⟨w_148, hP, hD, hU1⟩ := hB
        rw [ht] at hP
        have hU := hU.tr hU1
        have hw : wfD ((f_runAgain (s_due (x_debts z (ixN (q))) ((x_today z + 10))) (x_today z))) := wf_runAgain hw
        refine lv_aload_n hx hb d_X_notified_45 rfl (lv_at hl 0 rfl) ?_
        refine va_get (D := D) (ci := 0) (v := .int (d_due (f_runAgain (s_due (x_debts z (ixN (q))) ((x_today z + 10))) (x_today z)))) (C := R_D) (T := F_D) (N := 15) hx hb hts (in_D _) hown hK hP (b + 7 + 3 * (ixN (q))) hU.o rfl 6 (by decide) (hts (.fieldLink R_X 97 "DebtRows$Debt" "dueDay" "I") (List.mem_cons_of_mem _ mB_219)) (fun _ h9 => h9) rfl d_X_notified_46 ?_
        have hC := hC.d hi_142 hU hw
        refine vx_ret (W.widen (k := 1) (n := 6) (Nat.le_of_ble_eq_true rfl) (Nat.le_of_ble_eq_true rfl) ?_)
        exact W.iret (v := d_due (f_runAgain (s_due (x_debts z (ixN (q))) ((x_today z + 10))) (x_today z))) hx hb hr (fun t ht hW => ⟨⟨_, (), rfl, ⟨by rw [f_notified, if_pos c_141, if_pos c_143, if_pos c_145], by rw [f_notified, if_pos c_141, if_pos c_143, if_pos c_145]⟩, w_148, by rw [ht]; exact hP, hD, by rw [f_notified, if_pos c_141, if_pos c_143, if_pos c_145]; exact hC.at, hC.2⟩, hS.F ht⟩) hS.2.2 d_X_notified_49
      · refine lv_iconst (v := 0) hx hb d_X_notified_24 (by decide) ?_
        refine vx_ret (W.widen (k := 1) (n := 6) (Nat.le_of_ble_eq_true rfl) (Nat.le_of_ble_eq_true rfl) ?_)
        exact W.iret (v := 0) hx hb hr (fun t ht hW => ⟨⟨_, (), rfl, ⟨by rw [f_notified, if_pos c_141, if_pos c_143, if_neg c_145], by rw [f_notified, if_pos c_141, if_pos c_143, if_neg c_145]⟩, w, by rw [ht]; exact hP, hD, by rw [f_notified, if_pos c_141, if_pos c_143, if_neg c_145]; exact hC.at, hC.2⟩, hS.F ht⟩) hS.2.2 d_X_notified_25
def f_instalments (z : XT) (q : Int32) (n : Int32) : Int32 × Int32 × XT :=
  if okN (z) (q) then (if n < 2 then (1, 0, z)
    else if n ≤ 12 then (if d_state (x_debts z (ixN (q))) = 1 then (0, 1, y_debt (z) (ixN (q)) (f_defer (f_fixInterest (x_debts z (ixN (q))) (x_rates z) (x_today z)) (x_today z) (n)))
        else (0, 0, z))
      else (1, 0, z))
  else (1, 0, z)
set_option maxHeartbeats 4000000 in
set_option maxRecDepth 100000 in
theorem c_instalments (l : Launch) (hl9 : l.stackTraces = false) (D : va_G) (A : Nat → Prop) (w : va_W) (cI cL cD : ClassId) (b : Nat) (a : AD) (z : XT) (q : Int32) (n : Int32) (hC0 : cA w b cI cL cD a z) : vx_Met l y_X_instalments w_X_instalments ({ frames := 7, cells := 2, slots := 12, locals := 112 }) (ePc D w (tyL cI cL cD) A [.ref (a_x a), .int (q), .int (n)]) (va_Qi (fun z9 (_ : Unit) => (f_instalments z q n).1 = 0 ∧ z9 = (f_instalments z q n).2.1) (fun (_ : Unit) t => ∃ w9 : va_W, va_P D vwCl w9 t.heap ∧ va_D A w9 ∧ cAt w9 b cI cL cD (a_x a) ((f_instalments z q n).2.2) ∧ ∀ j, j < b → w9[j]? = w[j]?) A) (vx_X (fun _ : Unit => True) (fun E9 _ t => exN ["java/lang/IllegalArgumentException"] (f_instalments z q n).1 E9 ∧ va_P D vwCl w t.heap) A) 2 12 A := by
  refine vx_ofW (cc := b_X_instalments) (maxL := 4) (ret := (some .int)) (by decide) rfl ?_
  intro p e s m args below meth c s₁ B hml hEx hv
  obtain ⟨rfl, hP, hK, hD, hE⟩ := hv
  have hx := B.exec
  have hb := B.bytes
  have hr := B.returns
  have hts := atoms_spec (ws := w_X_instalments) B.pre
  have hown : s.vm.findClass R_X = some m.cls := findClass_of_methodNamed B.named
  have hlocks := B.notSynchronized
  have hS : va_S A s.heap s.heap [] := va_S.rf
  have hC : cUpd w w b cI cL cD a z := cUpd.rf hC0
  have hl := lv_entry ([.ref (a_x a), .int (q), .int (n)]) (n := 4) (Nat.le_of_ble_eq_true rfl)
  rw [lg_entry_eq]
  generalize (lg_sl ([.ref (a_x a), .int (q), .int (n)]) ++ List.replicate (4 - (lg_sl ([.ref (a_x a), .int (q), .int (n)])).length) Slot.unset).toArray = ls at hl ⊢
  have hl : lv_has ls 4 [(0, .ref (a_x a)), (1, .int (q)), (2, .int (n))] := hl
  refine lv_aload_n hx hb d_X_instalments_0 rfl (lv_at hl 0 rfl) ?_
  refine lv_iload_n hx hb d_X_instalments_1 rfl (lv_at hl 1 rfl) ?_
  refine vz_callq (vx_runV (As := [.int (q)]) (rest := []) ⟨hx, hb, hml, hown, hts⟩ (c_findOrRefuse l hl9 D A w cI cL cD b a (z) (q) hC.1) (cwV 1 hts (gV _ mB_254 mB_255 mB_3 mB_15 mB_256) rfl rfl rfl (by decide +kernel) ⟨(Nat.le_of_ble_eq_true rfl), (Nat.le_of_ble_eq_true rfl)⟩) ⟨ePc_bl, va_recv hK hP (ci := 2) (q0 := b) rfl hC.1.x, ePc_pr hP hK hD hE hS⟩ rfl rfl hl.1 rfl (lv_room (Nat.le_of_ble_eq_true rfl)) d_X_instalments_2 ⟨(Nat.le_of_ble_eq_true rfl), (Nat.le_of_ble_eq_true rfl)⟩) hS (fun _ _ h => h) (fun _ h => h) (fun _ _ h => h) (fun E9 ce q9 u9 t H locs ht hvm hp9 hB hz1 hk1 hS hce hcv hcl => ?_) (fun v_149 u9 t H locs ht hvm hp9 hB hz1 hk1 hS => ?_)
  · obtain ⟨rfl, c_150, hP⟩ := hB
    rw [ht] at hP
    exact vx_out (E := "java/lang/IllegalArgumentException") (fun x hx => (hEx x hx).elim) hlocks hce hcv hcl (fun t ht ha => ⟨(), trivial, ⟨⟨0, rfl, by rw [f_instalments, if_neg c_150]; rfl⟩, by rw [ht]; exact hP⟩, hS.F ht⟩) hS.2.2 (Nat.le_of_ble_eq_true rfl) (Nat.le_of_ble_eq_true rfl)
  · obtain ⟨c_150, ev_149⟩ := hp9
    subst ev_149
    have hP := hB
    rw [ht] at hP
    have hi_151 : ixN (q) < a_n a := (okN_ix c_150 hC.1.en hC.1.n).1
    have hU : dUpd w w (b + 7 + 3 * (ixN (q))) cI cL (a_da a (ixN (q))) (a_pa a (ixN (q))) (a_qa a (ixN (q))) (x_debts z (ixN (q))) := dUpd.rf (hC.1.d hi_151)
    have hw : wfD (x_debts z (ixN (q))) := hC.1.wd hi_151
    refine lv_astore_n (lv' := [(3, .ref (a_da a (ixN (q)))), (0, .ref (a_x a)), (1, .int (q)), (2, .int (n))]) hx hb d_X_instalments_5 rfl hl (by decide) rfl (fun ls hl => ?_)
    refine lv_iload_n hx hb d_X_instalments_6 rfl (lv_at hl 3 rfl) ?_
    refine lv_iconst (v := 2) hx hb d_X_instalments_7 (by decide) ?_
    refine lv_icmp_lt (tgt := 17) hx hb d_X_instalments_8 (by decide) (fun c_152 => ?_) (fun c_152 => ?_)
    · obtain ⟨sa9, hz9⟩ := hE.2.2.2 (120, "no such number of instalments") (by decide)
      exact vx_throwS (own := R_X) (cls := "java/lang/IllegalArgumentException") (names := ["java/lang/RuntimeException", "java/lang/Exception"]) hx hb hl9 hown (by decide +kernel) (by decide +kernel) (hts (.classLink R_X 45 "java/lang/IllegalArgumentException") (List.mem_cons_of_mem _ mB_161)) (hts (.initialized "java/lang/IllegalArgumentException") (List.mem_cons_of_mem _ mB_22)) hz9 (vx_hat (B := badL) (fun w hw => hts w ((by decide +kernel : ∀ w ∈ (vx_atS R_X 49 "java/lang/IllegalArgumentException" ["java/lang/RuntimeException", "java/lang/Exception"]).filter goodWord, w ∈ w_X_instalments) w hw)) (by decide +kernel) (fun w hw => bad_use hw (hE.2.2.1 w hw))) (by decide +kernel) hE.1 hE.2.1 hS (hl.1.trans hml.symm) d_X_instalments_17 d_X_instalments_20 d_X_instalments_21 d_X_instalments_23 d_X_instalments_26 (fun x hx => (hEx x hx).elim) (Nat.le_of_ble_eq_true rfl) (Nat.le_of_ble_eq_true rfl) (Nat.le_of_ble_eq_true rfl) (Nat.le_of_ble_eq_true rfl) hlocks (fun t ha hsz hk => ⟨(), trivial, ⟨⟨0, rfl, by rw [f_instalments, if_pos c_150, if_pos c_152]; rfl⟩, hP.kept (fun k q hq => hk q.1 (hP k q hq).lt)⟩, Nat.le_trans hS.1 hsz, fun q h1 h2 => (hk q (Nat.lt_of_lt_of_le h1 hS.1)).trans (hS.2.1 q h1 h2)⟩) hS.2.2 (Nat.le_of_ble_eq_true rfl) (Nat.le_of_ble_eq_true rfl)
    · refine lv_iload_n hx hb d_X_instalments_11 rfl (lv_at hl 3 rfl) ?_
      refine lv_bipush (v := 12) hx hb d_X_instalments_12 (by decide) ?_
      refine lv_icmp_le (tgt := 27) hx hb d_X_instalments_14 (by decide) (fun c_153 => ?_) (fun c_153 => ?_)
      · refine lv_aload_n hx hb d_X_instalments_27 rfl (lv_at hl 0 rfl) ?_
        refine va_get (D := D) (ci := 0) (v := .int (d_state (x_debts z (ixN (q))))) (C := R_D) (T := F_D) (N := 15) hx hb hts (in_D _) hown hK hP (b + 7 + 3 * (ixN (q))) hU.o rfl 5 (by decide) (hts (.fieldLink R_X 88 "DebtRows$Debt" "state" "I") (List.mem_cons_of_mem _ mB_217)) (fun _ h9 => h9) rfl d_X_instalments_28 ?_
        refine lv_iconst (v := 1) hx hb d_X_instalments_31 (by decide) ?_
        refine lv_icmp_eq (tgt := 37) hx hb d_X_instalments_32 (by decide) (fun c_154 => ?_) (fun c_154 => ?_)
        · refine lv_aload_n hx hb d_X_instalments_37 rfl (lv_at hl 0 rfl) ?_
          refine lv_aload_n hx hb d_X_instalments_38 rfl (lv_at hl 1 rfl) ?_
          refine va_get (D := D) (ci := 2) (v := .ref (a_r0 a)) (C := R_X) (T := F_X) (N := 5) hx hb hts (in_X _) hown hK hP b hC.1.x rfl 0 (by decide) (hts (.fieldLink R_X 10 "DebtRows" "rates" "LDebtRows$Rates;") (List.mem_cons_of_mem _ mB_53)) (fun _ h9 => h9) rfl d_X_instalments_39 ?_
          refine lv_aload_n hx hb d_X_instalments_42 rfl (lv_at hl 1 rfl) ?_
          refine va_get (D := D) (ci := 2) (v := .int (x_today z)) (C := R_X) (T := F_X) (N := 5) hx hb hts (in_X _) hown hK hP b hC.1.x rfl 4 (by decide) (hts (.fieldLink R_X 30 "DebtRows" "today" "I") (List.mem_cons_of_mem _ mB_57)) (fun _ h9 => h9) rfl d_X_instalments_43 ?_
          refine va_callv (va_runV (As := [.ref (a_r0 a), .int (x_today z)]) (rest := []) ⟨hx, hb, hml, hown, hts⟩ (c_fixInterest l D A w cI cL cD (b + 7 + 3 * (ixN (q))) (a_da a (ixN (q))) (a_pa a (ixN (q))) (a_qa a (ixN (q))) (x_debts z (ixN (q))) (b + 1) (a_r0 a) (a_fr a) (a_up a) (a_dn a) (x_rates z) (x_today z) hU.1 hC.1.r (by omega) hC.1.wr) (cwV 2 hts (gV _ mB_279 mB_280 mB_281 mB_24 mB_282) rfl rfl rfl (by decide +kernel) ⟨(Nat.le_of_ble_eq_true rfl), (Nat.le_of_ble_eq_true rfl)⟩) ⟨mPc_bl, va_recv hK hP (ci := 0) (q0 := (b + 7 + 3 * (ixN (q)))) rfl hU.o, mPc_pr hP hK hD⟩ rfl rfl hl.1 rfl (lv_room (Nat.le_of_ble_eq_true rfl)) d_X_instalments_46 ⟨(Nat.le_of_ble_eq_true rfl), (Nat.le_of_ble_eq_true rfl)⟩) hS (fun _ _ h => h) (fun _ h => h) (fun u9 t H locs ht hvm ev_155 hB hz1 hk1 hS => ?_)
          obtain ⟨w_156, hP, hD, hU1⟩ := hB
          rw [ht] at hP
          have hU := hU.tr hU1
          have hw : wfD ((f_fixInterest (x_debts z (ixN (q))) (x_rates z) (x_today z))) := wf_fixInterest hw
          refine lv_aload_n hx hb d_X_instalments_49 rfl (lv_at hl 0 rfl) ?_
          refine lv_aload_n hx hb d_X_instalments_50 rfl (lv_at hl 1 rfl) ?_
          refine va_get (D := D) (ci := 2) (v := .int (x_today z)) (C := R_X) (T := F_X) (N := 5) hx hb hts (in_X _) hown hK hP b (hU.out hC.1.x (by omega)) rfl 4 (by decide) (hts (.fieldLink R_X 30 "DebtRows" "today" "I") (List.mem_cons_of_mem _ mB_57)) (fun _ h9 => h9) rfl d_X_instalments_51 ?_
          refine lv_iload_n hx hb d_X_instalments_54 rfl (lv_at hl 3 rfl) ?_
          refine va_callv (va_runV (As := [.int (x_today z), .int (n)]) (rest := []) ⟨hx, hb, hml, hown, hts⟩ (c_defer l D A w_156 cI cL cD (b + 7 + 3 * (ixN (q))) (a_da a (ixN (q))) (a_pa a (ixN (q))) (a_qa a (ixN (q))) (f_fixInterest (x_debts z (ixN (q))) (x_rates z) (x_today z)) (x_today z) (n) hU.1) (cwV 2 hts (gV _ mB_322 mB_323 mB_324 mB_24 mB_325) rfl rfl rfl (by decide +kernel) ⟨(Nat.le_of_ble_eq_true rfl), (Nat.le_of_ble_eq_true rfl)⟩) ⟨mPc_bl, va_recv hK hP (ci := 0) (q0 := (b + 7 + 3 * (ixN (q)))) rfl hU.o, mPc_pr hP hK hD⟩ rfl rfl hl.1 rfl (lv_room (Nat.le_of_ble_eq_true rfl)) d_X_instalments_55 ⟨(Nat.le_of_ble_eq_true rfl), (Nat.le_of_ble_eq_true rfl)⟩) hS (fun _ _ h => h) (fun _ h => h) (fun u9 t H locs ht hvm ev_157 hB hz1 hk1 hS => ?_)
          obtain ⟨w_158, hP, hD, hU1⟩ := hB
          rw [ht] at hP
          have hU := hU.tr hU1
          have hw : wfD ((f_defer (f_fixInterest (x_debts z (ixN (q))) (x_rates z) (x_today z)) (x_today z) (n))) := wf_defer hw c_152 c_153
          refine lv_iconst (v := 1) hx hb d_X_instalments_58 (by decide) ?_
          have hC := hC.d hi_151 hU hw
          refine vx_ret (W.widen (k := 2) (n := 12) (Nat.le_of_ble_eq_true rfl) (Nat.le_of_ble_eq_true rfl) ?_)
          exact W.iret (v := 1) hx hb hr (fun t ht hW => ⟨⟨_, (), rfl, ⟨by rw [f_instalments, if_pos c_150, if_neg c_152, if_pos c_153, if_pos c_154], by rw [f_instalments, if_pos c_150, if_neg c_152, if_pos c_153, if_pos c_154]⟩, w_158, by rw [ht]; exact hP, hD, by rw [f_instalments, if_pos c_150, if_neg c_152, if_pos c_153, if_pos c_154]; exact hC.at, hC.2⟩, hS.F ht⟩) hS.2.2 d_X_instalments_59
        · refine lv_iconst (v := 0) hx hb d_X_instalments_35 (by decide) ?_
          refine vx_ret (W.widen (k := 2) (n := 12) (Nat.le_of_ble_eq_true rfl) (Nat.le_of_ble_eq_true rfl) ?_)
          exact W.iret (v := 0) hx hb hr (fun t ht hW => ⟨⟨_, (), rfl, ⟨by rw [f_instalments, if_pos c_150, if_neg c_152, if_pos c_153, if_neg c_154], by rw [f_instalments, if_pos c_150, if_neg c_152, if_pos c_153, if_neg c_154]⟩, w, by rw [ht]; exact hP, hD, by rw [f_instalments, if_pos c_150, if_neg c_152, if_pos c_153, if_neg c_154]; exact hC.at, hC.2⟩, hS.F ht⟩) hS.2.2 d_X_instalments_36
      · obtain ⟨sa9, hz9⟩ := hE.2.2.2 (120, "no such number of instalments") (by decide)
        exact vx_throwS (own := R_X) (cls := "java/lang/IllegalArgumentException") (names := ["java/lang/RuntimeException", "java/lang/Exception"]) hx hb hl9 hown (by decide +kernel) (by decide +kernel) (hts (.classLink R_X 45 "java/lang/IllegalArgumentException") (List.mem_cons_of_mem _ mB_161)) (hts (.initialized "java/lang/IllegalArgumentException") (List.mem_cons_of_mem _ mB_22)) hz9 (vx_hat (B := badL) (fun w hw => hts w ((by decide +kernel : ∀ w ∈ (vx_atS R_X 49 "java/lang/IllegalArgumentException" ["java/lang/RuntimeException", "java/lang/Exception"]).filter goodWord, w ∈ w_X_instalments) w hw)) (by decide +kernel) (fun w hw => bad_use hw (hE.2.2.1 w hw))) (by decide +kernel) hE.1 hE.2.1 hS (hl.1.trans hml.symm) d_X_instalments_17 d_X_instalments_20 d_X_instalments_21 d_X_instalments_23 d_X_instalments_26 (fun x hx => (hEx x hx).elim) (Nat.le_of_ble_eq_true rfl) (Nat.le_of_ble_eq_true rfl) (Nat.le_of_ble_eq_true rfl) (Nat.le_of_ble_eq_true rfl) hlocks (fun t ha hsz hk => ⟨(), trivial, ⟨⟨0, rfl, by rw [f_instalments, if_pos c_150, if_neg c_152, if_neg c_153]; rfl⟩, hP.kept (fun k q hq => hk q.1 (hP k q hq).lt)⟩, Nat.le_trans hS.1 hsz, fun q h1 h2 => (hk q (Nat.lt_of_lt_of_le h1 hS.1)).trans (hS.2.1 q h1 h2)⟩) hS.2.2 (Nat.le_of_ble_eq_true rfl) (Nat.le_of_ble_eq_true rfl)
def f_appeal (z : XT) (q : Int32) : Int32 × Int32 × XT :=
  if okN (z) (q) then (if (f_isPayable (x_debts z (ixN (q)))) = 0 then (0, 0, z)
    else (0, 1, y_debt (z) (ixN (q)) (s_state (f_fixInterest (x_debts z (ixN (q))) (x_rates z) (x_today z)) (3))))
  else (1, 0, z)
set_option maxHeartbeats 4000000 in
set_option maxRecDepth 100000 in
theorem c_appeal (l : Launch) (hl9 : l.stackTraces = false) (D : va_G) (A : Nat → Prop) (w : va_W) (cI cL cD : ClassId) (b : Nat) (a : AD) (z : XT) (q : Int32) (hC0 : cA w b cI cL cD a z) : vx_Met l y_X_appeal w_X_appeal ({ frames := 7, cells := 1, slots := 6, locals := 112 }) (ePc D w (tyL cI cL cD) A [.ref (a_x a), .int (q)]) (va_Qi (fun z9 (_ : Unit) => (f_appeal z q).1 = 0 ∧ z9 = (f_appeal z q).2.1) (fun (_ : Unit) t => ∃ w9 : va_W, va_P D vwCl w9 t.heap ∧ va_D A w9 ∧ cAt w9 b cI cL cD (a_x a) ((f_appeal z q).2.2) ∧ ∀ j, j < b → w9[j]? = w[j]?) A) (vx_X (fun _ : Unit => True) (fun E9 _ t => exN ["java/lang/IllegalArgumentException"] (f_appeal z q).1 E9 ∧ va_P D vwCl w t.heap) A) 1 6 A := by
  refine vx_ofW (cc := b_X_appeal) (maxL := 3) (ret := (some .int)) (by decide) rfl ?_
  intro p e s m args below meth c s₁ B hml hEx hv
  obtain ⟨rfl, hP, hK, hD, hE⟩ := hv
  have hx := B.exec
  have hb := B.bytes
  have hr := B.returns
  have hts := atoms_spec (ws := w_X_appeal) B.pre
  have hown : s.vm.findClass R_X = some m.cls := findClass_of_methodNamed B.named
  have hlocks := B.notSynchronized
  have hS : va_S A s.heap s.heap [] := va_S.rf
  have hC : cUpd w w b cI cL cD a z := cUpd.rf hC0
  have hl := lv_entry ([.ref (a_x a), .int (q)]) (n := 3) (Nat.le_of_ble_eq_true rfl)
  rw [lg_entry_eq]
  generalize (lg_sl ([.ref (a_x a), .int (q)]) ++ List.replicate (3 - (lg_sl ([.ref (a_x a), .int (q)])).length) Slot.unset).toArray = ls at hl ⊢
  have hl : lv_has ls 3 [(0, .ref (a_x a)), (1, .int (q))] := hl
  refine lv_aload_n hx hb d_X_appeal_0 rfl (lv_at hl 0 rfl) ?_
  refine lv_iload_n hx hb d_X_appeal_1 rfl (lv_at hl 1 rfl) ?_
  refine vz_callq (vx_runV (As := [.int (q)]) (rest := []) ⟨hx, hb, hml, hown, hts⟩ (c_findOrRefuse l hl9 D A w cI cL cD b a (z) (q) hC.1) (cwV 1 hts (gV _ mB_254 mB_255 mB_3 mB_15 mB_256) rfl rfl rfl (by decide +kernel) ⟨(Nat.le_of_ble_eq_true rfl), (Nat.le_of_ble_eq_true rfl)⟩) ⟨ePc_bl, va_recv hK hP (ci := 2) (q0 := b) rfl hC.1.x, ePc_pr hP hK hD hE hS⟩ rfl rfl hl.1 rfl (lv_room (Nat.le_of_ble_eq_true rfl)) d_X_appeal_2 ⟨(Nat.le_of_ble_eq_true rfl), (Nat.le_of_ble_eq_true rfl)⟩) hS (fun _ _ h => h) (fun _ h => h) (fun _ _ h => h) (fun E9 ce q9 u9 t H locs ht hvm hp9 hB hz1 hk1 hS hce hcv hcl => ?_) (fun v_159 u9 t H locs ht hvm hp9 hB hz1 hk1 hS => ?_)
  · obtain ⟨rfl, c_160, hP⟩ := hB
    rw [ht] at hP
    exact vx_out (E := "java/lang/IllegalArgumentException") (fun x hx => (hEx x hx).elim) hlocks hce hcv hcl (fun t ht ha => ⟨(), trivial, ⟨⟨0, rfl, by rw [f_appeal, if_neg c_160]; rfl⟩, by rw [ht]; exact hP⟩, hS.F ht⟩) hS.2.2 (Nat.le_of_ble_eq_true rfl) (Nat.le_of_ble_eq_true rfl)
  · obtain ⟨c_160, ev_159⟩ := hp9
    subst ev_159
    have hP := hB
    rw [ht] at hP
    have hi_161 : ixN (q) < a_n a := (okN_ix c_160 hC.1.en hC.1.n).1
    have hU : dUpd w w (b + 7 + 3 * (ixN (q))) cI cL (a_da a (ixN (q))) (a_pa a (ixN (q))) (a_qa a (ixN (q))) (x_debts z (ixN (q))) := dUpd.rf (hC.1.d hi_161)
    have hw : wfD (x_debts z (ixN (q))) := hC.1.wd hi_161
    refine lv_astore_n (lv' := [(2, .ref (a_da a (ixN (q)))), (0, .ref (a_x a)), (1, .int (q))]) hx hb d_X_appeal_5 rfl hl (by decide) rfl (fun ls hl => ?_)
    refine lv_aload_n hx hb d_X_appeal_6 rfl (lv_at hl 0 rfl) ?_
    refine vp_callSi (W.runV (As := []) (rest := []) ⟨hx, hb, hml, hown, hts⟩ (c_isPayable l D A w cI cL cD (b + 7 + 3 * (ixN (q))) (a_da a (ixN (q))) (a_pa a (ixN (q))) (a_qa a (ixN (q))) (x_debts z (ixN (q))) hU.1) (cwV 0 hts (gV _ mB_274 mB_275 mB_276 mB_24 mB_277) rfl rfl rfl (by decide +kernel) ⟨(Nat.le_of_ble_eq_true rfl), (Nat.le_of_ble_eq_true rfl)⟩) ⟨mPc_bl, va_recv hK hP (ci := 0) (q0 := (b + 7 + 3 * (ixN (q)))) rfl hU.o, mPc_pr hP hK hD⟩ rfl rfl hl.1 rfl (lv_room (Nat.le_of_ble_eq_true rfl)) d_X_appeal_7 ⟨(Nat.le_of_ble_eq_true rfl), (Nat.le_of_ble_eq_true rfl)⟩) (fun v_162 ev_162 => ?_)
    subst ev_162
    refine lv_if_ne (tgt := 15) hx hb d_X_appeal_10 (by decide) (fun c_163 => ?_) (fun c_163 => ?_)
    · refine lv_aload_n hx hb d_X_appeal_15 rfl (lv_at hl 0 rfl) ?_
      refine lv_aload_n hx hb d_X_appeal_16 rfl (lv_at hl 1 rfl) ?_
      refine va_get (D := D) (ci := 2) (v := .ref (a_r0 a)) (C := R_X) (T := F_X) (N := 5) hx hb hts (in_X _) hown hK hP b hC.1.x rfl 0 (by decide) (hts (.fieldLink R_X 10 "DebtRows" "rates" "LDebtRows$Rates;") (List.mem_cons_of_mem _ mB_53)) (fun _ h9 => h9) rfl d_X_appeal_17 ?_
      refine lv_aload_n hx hb d_X_appeal_20 rfl (lv_at hl 1 rfl) ?_
      refine va_get (D := D) (ci := 2) (v := .int (x_today z)) (C := R_X) (T := F_X) (N := 5) hx hb hts (in_X _) hown hK hP b hC.1.x rfl 4 (by decide) (hts (.fieldLink R_X 30 "DebtRows" "today" "I") (List.mem_cons_of_mem _ mB_57)) (fun _ h9 => h9) rfl d_X_appeal_21 ?_
      refine va_callv (va_runV (As := [.ref (a_r0 a), .int (x_today z)]) (rest := []) ⟨hx, hb, hml, hown, hts⟩ (c_fixInterest l D A w cI cL cD (b + 7 + 3 * (ixN (q))) (a_da a (ixN (q))) (a_pa a (ixN (q))) (a_qa a (ixN (q))) (x_debts z (ixN (q))) (b + 1) (a_r0 a) (a_fr a) (a_up a) (a_dn a) (x_rates z) (x_today z) hU.1 hC.1.r (by omega) hC.1.wr) (cwV 2 hts (gV _ mB_279 mB_280 mB_281 mB_24 mB_282) rfl rfl rfl (by decide +kernel) ⟨(Nat.le_of_ble_eq_true rfl), (Nat.le_of_ble_eq_true rfl)⟩) ⟨mPc_bl, va_recv hK hP (ci := 0) (q0 := (b + 7 + 3 * (ixN (q)))) rfl hU.o, mPc_pr hP hK hD⟩ rfl rfl hl.1 rfl (lv_room (Nat.le_of_ble_eq_true rfl)) d_X_appeal_24 ⟨(Nat.le_of_ble_eq_true rfl), (Nat.le_of_ble_eq_true rfl)⟩) hS (fun _ _ h => h) (fun _ h => h) (fun u9 t H locs ht hvm ev_164 hB hz1 hk1 hS => ?_)
      obtain ⟨w_165, hP, hD, hU1⟩ := hB
      rw [ht] at hP
      have hU := hU.tr hU1
      have hw : wfD ((f_fixInterest (x_debts z (ixN (q))) (x_rates z) (x_today z))) := wf_fixInterest hw
      refine lv_aload_n hx hb d_X_appeal_27 rfl (lv_at hl 0 rfl) ?_
      refine lv_iconst (v := 3) hx hb d_X_appeal_28 (by decide) ?_
      refine va_put (D := D) (ci := 0) (v := .int (3)) (ty := .int) (C := R_D) (T := F_D) (N := 15) hx hb hts (in_D _) t_D to_D nn_D hown hK hP hD hS (b + 7 + 3 * (ixN (q))) hU.o rfl 5 (by decide) (hts (.fieldLink R_X 88 "DebtRows$Debt" "state" "I") (List.mem_cons_of_mem _ mB_217)) (fun _ h9 => h9) rfl (by decide +kernel) rfl rfl (Nat.le_of_ble_eq_true rfl) d_X_appeal_29 (fun H locs hP hD hS => ?_)
      have hU := hU.so (s_state (f_fixInterest (x_debts z (ixN (q))) (x_rates z) (x_today z)) (3)) rfl rfl
      have hP : va_P D vwCl (w_165.set (b + 7 + 3 * (ixN (q))) ((a_da a (ixN (q))), dE (a_pa a (ixN (q))) (a_qa a (ixN (q))) (s_state (f_fixInterest (x_debts z (ixN (q))) (x_rates z) (x_today z)) (3)))) H := hP
      have hD : va_D A (w_165.set (b + 7 + 3 * (ixN (q))) ((a_da a (ixN (q))), dE (a_pa a (ixN (q))) (a_qa a (ixN (q))) (s_state (f_fixInterest (x_debts z (ixN (q))) (x_rates z) (x_today z)) (3)))) := hD
      generalize w_165.set (b + 7 + 3 * (ixN (q))) ((a_da a (ixN (q))), dE (a_pa a (ixN (q))) (a_qa a (ixN (q))) (s_state (f_fixInterest (x_debts z (ixN (q))) (x_rates z) (x_today z)) (3))) = w_166 at hP hD hU
      have hw : wfD (s_state (f_fixInterest (x_debts z (ixN (q))) (x_rates z) (x_today z)) (3)) := hw
      refine lv_iconst (v := 1) hx hb d_X_appeal_32 (by decide) ?_
      have hC := hC.d hi_161 hU hw
      refine vx_ret (W.widen (k := 1) (n := 6) (Nat.le_of_ble_eq_true rfl) (Nat.le_of_ble_eq_true rfl) ?_)
      exact W.iret (v := 1) hx hb hr (fun t ht hW => ⟨⟨_, (), rfl, ⟨by rw [f_appeal, if_pos c_160, if_neg c_163], by rw [f_appeal, if_pos c_160, if_neg c_163]⟩, w_166, by rw [ht]; exact hP, hD, by rw [f_appeal, if_pos c_160, if_neg c_163]; exact hC.at, hC.2⟩, hS.F ht⟩) hS.2.2 d_X_appeal_33
    · refine lv_iconst (v := 0) hx hb d_X_appeal_13 (by decide) ?_
      refine vx_ret (W.widen (k := 1) (n := 6) (Nat.le_of_ble_eq_true rfl) (Nat.le_of_ble_eq_true rfl) ?_)
      exact W.iret (v := 0) hx hb hr (fun t ht hW => ⟨⟨_, (), rfl, ⟨by rw [f_appeal, if_pos c_160, if_pos c_163], by rw [f_appeal, if_pos c_160, if_pos c_163]⟩, w, by rw [ht]; exact hP, hD, by rw [f_appeal, if_pos c_160, if_pos c_163]; exact hC.at, hC.2⟩, hS.F ht⟩) hS.2.2 d_X_appeal_14
def f_decide (z : XT) (q : Int32) (fd : Int32) : Int32 × Int64 × XT :=
  if okN (z) (q) then (if d_state (x_debts z (ixN (q))) = 3 then (if fd = 0 then (0, 0, y_debt (z) (ixN (q)) (f_runAgain (x_debts z (ixN (q))) (x_today z)))
      else (0, d_lost (f_lose (x_debts z (ixN (q))) (5)), y_debt (z) (ixN (q)) (f_lose (x_debts z (ixN (q))) (5))))
    else (0, -1, z))
  else (1, 0, z)
set_option maxHeartbeats 4000000 in
set_option maxRecDepth 100000 in
theorem c_decide (l : Launch) (hl9 : l.stackTraces = false) (D : va_G) (A : Nat → Prop) (w : va_W) (cI cL cD : ClassId) (b : Nat) (a : AD) (z : XT) (q : Int32) (fd : Int32) (hC0 : cA w b cI cL cD a z) : vx_Met l y_X_decide w_X_decide ({ frames := 7, cells := 1, slots := 6, locals := 112 }) (ePc D w (tyL cI cL cD) A [.ref (a_x a), .int (q), .int (fd)]) (va_Ql (fun z9 (_ : Unit) => (f_decide z q fd).1 = 0 ∧ z9 = (f_decide z q fd).2.1) (fun (_ : Unit) t => ∃ w9 : va_W, va_P D vwCl w9 t.heap ∧ va_D A w9 ∧ cAt w9 b cI cL cD (a_x a) ((f_decide z q fd).2.2) ∧ ∀ j, j < b → w9[j]? = w[j]?) A) (vx_X (fun _ : Unit => True) (fun E9 _ t => exN ["java/lang/IllegalArgumentException"] (f_decide z q fd).1 E9 ∧ va_P D vwCl w t.heap) A) 1 6 A := by
  refine vx_ofW (cc := b_X_decide) (maxL := 4) (ret := (some .long)) (by decide) rfl ?_
  intro p e s m args below meth c s₁ B hml hEx hv
  obtain ⟨rfl, hP, hK, hD, hE⟩ := hv
  have hx := B.exec
  have hb := B.bytes
  have hr := B.returns
  have hts := atoms_spec (ws := w_X_decide) B.pre
  have hown : s.vm.findClass R_X = some m.cls := findClass_of_methodNamed B.named
  have hlocks := B.notSynchronized
  have hS : va_S A s.heap s.heap [] := va_S.rf
  have hC : cUpd w w b cI cL cD a z := cUpd.rf hC0
  have hl := lv_entry ([.ref (a_x a), .int (q), .int (fd)]) (n := 4) (Nat.le_of_ble_eq_true rfl)
  rw [lg_entry_eq]
  generalize (lg_sl ([.ref (a_x a), .int (q), .int (fd)]) ++ List.replicate (4 - (lg_sl ([.ref (a_x a), .int (q), .int (fd)])).length) Slot.unset).toArray = ls at hl ⊢
  have hl : lv_has ls 4 [(0, .ref (a_x a)), (1, .int (q)), (2, .int (fd))] := hl
  refine lv_aload_n hx hb d_X_decide_0 rfl (lv_at hl 0 rfl) ?_
  refine lv_iload_n hx hb d_X_decide_1 rfl (lv_at hl 1 rfl) ?_
  refine vz_callq (vx_runV (As := [.int (q)]) (rest := []) ⟨hx, hb, hml, hown, hts⟩ (c_findOrRefuse l hl9 D A w cI cL cD b a (z) (q) hC.1) (cwV 1 hts (gV _ mB_254 mB_255 mB_3 mB_15 mB_256) rfl rfl rfl (by decide +kernel) ⟨(Nat.le_of_ble_eq_true rfl), (Nat.le_of_ble_eq_true rfl)⟩) ⟨ePc_bl, va_recv hK hP (ci := 2) (q0 := b) rfl hC.1.x, ePc_pr hP hK hD hE hS⟩ rfl rfl hl.1 rfl (lv_room (Nat.le_of_ble_eq_true rfl)) d_X_decide_2 ⟨(Nat.le_of_ble_eq_true rfl), (Nat.le_of_ble_eq_true rfl)⟩) hS (fun _ _ h => h) (fun _ h => h) (fun _ _ h => h) (fun E9 ce q9 u9 t H locs ht hvm hp9 hB hz1 hk1 hS hce hcv hcl => ?_) (fun v_167 u9 t H locs ht hvm hp9 hB hz1 hk1 hS => ?_)
  · obtain ⟨rfl, c_168, hP⟩ := hB
    rw [ht] at hP
    exact vx_out (E := "java/lang/IllegalArgumentException") (fun x hx => (hEx x hx).elim) hlocks hce hcv hcl (fun t ht ha => ⟨(), trivial, ⟨⟨0, rfl, by rw [f_decide, if_neg c_168]; rfl⟩, by rw [ht]; exact hP⟩, hS.F ht⟩) hS.2.2 (Nat.le_of_ble_eq_true rfl) (Nat.le_of_ble_eq_true rfl)
  · obtain ⟨c_168, ev_167⟩ := hp9
    subst ev_167
    have hP := hB
    rw [ht] at hP
    have hi_169 : ixN (q) < a_n a := (okN_ix c_168 hC.1.en hC.1.n).1
    have hU : dUpd w w (b + 7 + 3 * (ixN (q))) cI cL (a_da a (ixN (q))) (a_pa a (ixN (q))) (a_qa a (ixN (q))) (x_debts z (ixN (q))) := dUpd.rf (hC.1.d hi_169)
    have hw : wfD (x_debts z (ixN (q))) := hC.1.wd hi_169
    refine lv_astore_n (lv' := [(3, .ref (a_da a (ixN (q)))), (0, .ref (a_x a)), (1, .int (q)), (2, .int (fd))]) hx hb d_X_decide_5 rfl hl (by decide) rfl (fun ls hl => ?_)
    refine lv_aload_n hx hb d_X_decide_6 rfl (lv_at hl 0 rfl) ?_
    refine va_get (D := D) (ci := 0) (v := .int (d_state (x_debts z (ixN (q))))) (C := R_D) (T := F_D) (N := 15) hx hb hts (in_D _) hown hK hP (b + 7 + 3 * (ixN (q))) hU.o rfl 5 (by decide) (hts (.fieldLink R_X 88 "DebtRows$Debt" "state" "I") (List.mem_cons_of_mem _ mB_217)) (fun _ h9 => h9) rfl d_X_decide_7 ?_
    refine lv_iconst (v := 3) hx hb d_X_decide_10 (by decide) ?_
    refine lv_icmp_eq (tgt := 18) hx hb d_X_decide_11 (by decide) (fun c_170 => ?_) (fun c_170 => ?_)
    · refine lv_iload_n hx hb d_X_decide_18 rfl (lv_at hl 3 rfl) ?_
      refine lv_if_ne (tgt := 32) hx hb d_X_decide_19 (by decide) (fun c_171 => ?_) (fun c_171 => ?_)
      · refine lv_aload_n hx hb d_X_decide_32 rfl (lv_at hl 0 rfl) ?_
        refine lv_iconst (v := 5) hx hb d_X_decide_33 (by decide) ?_
        refine va_callv (va_runV (As := [.int (5)]) (rest := []) ⟨hx, hb, hml, hown, hts⟩ (c_lose l D A w cI cL cD (b + 7 + 3 * (ixN (q))) (a_da a (ixN (q))) (a_pa a (ixN (q))) (a_qa a (ixN (q))) (x_debts z (ixN (q))) (5) hU.1) (cwV 1 hts (gV _ mB_338 mB_313 mB_314 mB_24 mB_315) rfl rfl rfl (by decide +kernel) ⟨(Nat.le_of_ble_eq_true rfl), (Nat.le_of_ble_eq_true rfl)⟩) ⟨mPc_bl, va_recv hK hP (ci := 0) (q0 := (b + 7 + 3 * (ixN (q)))) rfl hU.o, mPc_pr hP hK hD⟩ rfl rfl hl.1 rfl (lv_room (Nat.le_of_ble_eq_true rfl)) d_X_decide_34 ⟨(Nat.le_of_ble_eq_true rfl), (Nat.le_of_ble_eq_true rfl)⟩) hS (fun _ _ h => h) (fun _ h => h) (fun u9 t H locs ht hvm ev_172 hB hz1 hk1 hS => ?_)
        obtain ⟨w_173, hP, hD, hU1⟩ := hB
        rw [ht] at hP
        have hU := hU.tr hU1
        have hw : wfD ((f_lose (x_debts z (ixN (q))) (5))) := wf_lose hw
        refine lv_aload_n hx hb d_X_decide_37 rfl (lv_at hl 0 rfl) ?_
        refine va_get (D := D) (ci := 0) (v := .long (d_lost (f_lose (x_debts z (ixN (q))) (5)))) (C := R_D) (T := F_D) (N := 15) hx hb hts (in_D _) hown hK hP (b + 7 + 3 * (ixN (q))) hU.o rfl 9 (by decide) (hts (.fieldLink R_X 131 "DebtRows$Debt" "lost" "J") (List.mem_cons_of_mem _ mB_223)) (fun _ h9 => h9) rfl d_X_decide_38 ?_
        have hC := hC.d hi_169 hU hw
        refine vx_ret (W.widen (k := 1) (n := 6) (Nat.le_of_ble_eq_true rfl) (Nat.le_of_ble_eq_true rfl) ?_)
        exact W.lret (v := d_lost (f_lose (x_debts z (ixN (q))) (5))) hx hb hr (fun t ht hW => ⟨⟨_, (), rfl, ⟨by rw [f_decide, if_pos c_168, if_pos c_170, if_neg c_171], by rw [f_decide, if_pos c_168, if_pos c_170, if_neg c_171]⟩, w_173, by rw [ht]; exact hP, hD, by rw [f_decide, if_pos c_168, if_pos c_170, if_neg c_171]; exact hC.at, hC.2⟩, hS.F ht⟩) hS.2.2 d_X_decide_41
      · refine lv_aload_n hx hb d_X_decide_22 rfl (lv_at hl 0 rfl) ?_
        refine lv_aload_n hx hb d_X_decide_23 rfl (lv_at hl 1 rfl) ?_
        refine va_get (D := D) (ci := 2) (v := .int (x_today z)) (C := R_X) (T := F_X) (N := 5) hx hb hts (in_X _) hown hK hP b hC.1.x rfl 4 (by decide) (hts (.fieldLink R_X 30 "DebtRows" "today" "I") (List.mem_cons_of_mem _ mB_57)) (fun _ h9 => h9) rfl d_X_decide_24 ?_
        refine va_callv (va_runV (As := [.int (x_today z)]) (rest := []) ⟨hx, hb, hml, hown, hts⟩ (c_runAgain l D A w cI cL cD (b + 7 + 3 * (ixN (q))) (a_da a (ixN (q))) (a_pa a (ixN (q))) (a_qa a (ixN (q))) (x_debts z (ixN (q))) (x_today z) hU.1) (cwV 1 hts (gV _ mB_261 mB_262 mB_263 mB_24 mB_264) rfl rfl rfl (by decide +kernel) ⟨(Nat.le_of_ble_eq_true rfl), (Nat.le_of_ble_eq_true rfl)⟩) ⟨mPc_bl, va_recv hK hP (ci := 0) (q0 := (b + 7 + 3 * (ixN (q)))) rfl hU.o, mPc_pr hP hK hD⟩ rfl rfl hl.1 rfl (lv_room (Nat.le_of_ble_eq_true rfl)) d_X_decide_27 ⟨(Nat.le_of_ble_eq_true rfl), (Nat.le_of_ble_eq_true rfl)⟩) hS (fun _ _ h => h) (fun _ h => h) (fun u9 t H locs ht hvm ev_174 hB hz1 hk1 hS => ?_)
        obtain ⟨w_175, hP, hD, hU1⟩ := hB
        rw [ht] at hP
        have hU := hU.tr hU1
        have hw : wfD ((f_runAgain (x_debts z (ixN (q))) (x_today z))) := wf_runAgain hw
        refine lv_lconst (v := 0) hx hb d_X_decide_30 (by decide) ?_
        have hC := hC.d hi_169 hU hw
        refine vx_ret (W.widen (k := 1) (n := 6) (Nat.le_of_ble_eq_true rfl) (Nat.le_of_ble_eq_true rfl) ?_)
        exact W.lret (v := 0) hx hb hr (fun t ht hW => ⟨⟨_, (), rfl, ⟨by rw [f_decide, if_pos c_168, if_pos c_170, if_pos c_171], by rw [f_decide, if_pos c_168, if_pos c_170, if_pos c_171]⟩, w_175, by rw [ht]; exact hP, hD, by rw [f_decide, if_pos c_168, if_pos c_170, if_pos c_171]; exact hC.at, hC.2⟩, hS.F ht⟩) hS.2.2 d_X_decide_31
    · refine lv_ldc2 (own := R_X) (index := 126) (v := -1) hx hb hown (hts (.constantLong R_X 126 (-1)) (List.mem_cons_of_mem _ mB_94)) d_X_decide_14 ?_
      refine vx_ret (W.widen (k := 1) (n := 6) (Nat.le_of_ble_eq_true rfl) (Nat.le_of_ble_eq_true rfl) ?_)
      exact W.lret (v := -1) hx hb hr (fun t ht hW => ⟨⟨_, (), rfl, ⟨by rw [f_decide, if_pos c_168, if_neg c_170], by rw [f_decide, if_pos c_168, if_neg c_170]⟩, w, by rw [ht]; exact hP, hD, by rw [f_decide, if_pos c_168, if_neg c_170]; exact hC.at, hC.2⟩, hS.F ht⟩) hS.2.2 d_X_decide_17
def f_due (z : XT) (q : Int32) (sd : Int32) : Int32 × Int64 × XT :=
  if okN (z) (q) then (if sd = 0 then (0, d_open (x_debts z (ixN (q))), z)
    else if sd = 1 then (0, (d_fixed (x_debts z (ixN (q))) + (f_runningInterest (x_debts z (ixN (q))) (x_rates z) (x_today z))), z)
      else if sd = 2 then (0, d_cents (x_debts z (ixN (q))), z)
        else if sd = 3 then (0, d_lost (x_debts z (ixN (q))), z)
          else if sd = 4 then (0, d_paidI (x_debts z (ixN (q))), z)
            else (1, 0, z))
  else (1, 0, z)
set_option maxHeartbeats 4000000 in
set_option maxRecDepth 100000 in
theorem c_due (l : Launch) (hl9 : l.stackTraces = false) (D : va_G) (A : Nat → Prop) (w : va_W) (cI cL cD : ClassId) (b : Nat) (a : AD) (z : XT) (q : Int32) (sd : Int32) (hC0 : cA w b cI cL cD a z) : vx_Met l y_X_due w_X_due ({ frames := 7, cells := 2, slots := 12, locals := 112 }) (ePc D w (tyL cI cL cD) A [.ref (a_x a), .int (q), .int (sd)]) (va_Ql (fun z9 (_ : Unit) => (f_due z q sd).1 = 0 ∧ z9 = (f_due z q sd).2.1) (fun (_ : Unit) t => ∃ w9 : va_W, va_P D vwCl w9 t.heap ∧ va_D A w9 ∧ cAt w9 b cI cL cD (a_x a) ((f_due z q sd).2.2) ∧ ∀ j, j < b → w9[j]? = w[j]?) A) (vx_X (fun _ : Unit => True) (fun E9 _ t => exN ["java/lang/IllegalArgumentException"] (f_due z q sd).1 E9 ∧ va_P D vwCl w t.heap) A) 2 12 A := by
  refine vx_ofW (cc := b_X_due) (maxL := 4) (ret := (some .long)) (by decide) rfl ?_
  intro p e s m args below meth c s₁ B hml hEx hv
  obtain ⟨rfl, hP, hK, hD, hE⟩ := hv
  have hx := B.exec
  have hb := B.bytes
  have hr := B.returns
  have hts := atoms_spec (ws := w_X_due) B.pre
  have hown : s.vm.findClass R_X = some m.cls := findClass_of_methodNamed B.named
  have hlocks := B.notSynchronized
  have hS : va_S A s.heap s.heap [] := va_S.rf
  have hC : cUpd w w b cI cL cD a z := cUpd.rf hC0
  have hl := lv_entry ([.ref (a_x a), .int (q), .int (sd)]) (n := 4) (Nat.le_of_ble_eq_true rfl)
  rw [lg_entry_eq]
  generalize (lg_sl ([.ref (a_x a), .int (q), .int (sd)]) ++ List.replicate (4 - (lg_sl ([.ref (a_x a), .int (q), .int (sd)])).length) Slot.unset).toArray = ls at hl ⊢
  have hl : lv_has ls 4 [(0, .ref (a_x a)), (1, .int (q)), (2, .int (sd))] := hl
  refine lv_aload_n hx hb d_X_due_0 rfl (lv_at hl 0 rfl) ?_
  refine lv_iload_n hx hb d_X_due_1 rfl (lv_at hl 1 rfl) ?_
  refine vz_callq (vx_runV (As := [.int (q)]) (rest := []) ⟨hx, hb, hml, hown, hts⟩ (c_findOrRefuse l hl9 D A w cI cL cD b a (z) (q) hC.1) (cwV 1 hts (gV _ mB_254 mB_255 mB_3 mB_15 mB_256) rfl rfl rfl (by decide +kernel) ⟨(Nat.le_of_ble_eq_true rfl), (Nat.le_of_ble_eq_true rfl)⟩) ⟨ePc_bl, va_recv hK hP (ci := 2) (q0 := b) rfl hC.1.x, ePc_pr hP hK hD hE hS⟩ rfl rfl hl.1 rfl (lv_room (Nat.le_of_ble_eq_true rfl)) d_X_due_2 ⟨(Nat.le_of_ble_eq_true rfl), (Nat.le_of_ble_eq_true rfl)⟩) hS (fun _ _ h => h) (fun _ h => h) (fun _ _ h => h) (fun E9 ce q9 u9 t H locs ht hvm hp9 hB hz1 hk1 hS hce hcv hcl => ?_) (fun v_176 u9 t H locs ht hvm hp9 hB hz1 hk1 hS => ?_)
  · obtain ⟨rfl, c_177, hP⟩ := hB
    rw [ht] at hP
    exact vx_out (E := "java/lang/IllegalArgumentException") (fun x hx => (hEx x hx).elim) hlocks hce hcv hcl (fun t ht ha => ⟨(), trivial, ⟨⟨0, rfl, by rw [f_due, if_neg c_177]; rfl⟩, by rw [ht]; exact hP⟩, hS.F ht⟩) hS.2.2 (Nat.le_of_ble_eq_true rfl) (Nat.le_of_ble_eq_true rfl)
  · obtain ⟨c_177, ev_176⟩ := hp9
    subst ev_176
    have hP := hB
    rw [ht] at hP
    have hi_178 : ixN (q) < a_n a := (okN_ix c_177 hC.1.en hC.1.n).1
    have hU : dUpd w w (b + 7 + 3 * (ixN (q))) cI cL (a_da a (ixN (q))) (a_pa a (ixN (q))) (a_qa a (ixN (q))) (x_debts z (ixN (q))) := dUpd.rf (hC.1.d hi_178)
    have hw : wfD (x_debts z (ixN (q))) := hC.1.wd hi_178
    refine lv_astore_n (lv' := [(3, .ref (a_da a (ixN (q)))), (0, .ref (a_x a)), (1, .int (q)), (2, .int (sd))]) hx hb d_X_due_5 rfl hl (by decide) rfl (fun ls hl => ?_)
    refine lv_iload_n hx hb d_X_due_6 rfl (lv_at hl 3 rfl) ?_
    rcases Decidable.em (sd = (0 : Int32)) with c_179 | c_179
    · refine lv_tableIn (tgt := 40) hx hb d_X_due_7 (by rw [c_179]; decide) (by rw [c_179]; decide) (by rw [c_179]; rfl) (by decide) ?_
      refine lv_aload_n hx hb d_X_due_40 rfl (lv_at hl 0 rfl) ?_
      refine va_get (D := D) (ci := 0) (v := .long (d_open (x_debts z (ixN (q))))) (C := R_D) (T := F_D) (N := 15) hx hb hts (in_D _) hown hK hP (b + 7 + 3 * (ixN (q))) hU.o rfl 8 (by decide) (hts (.fieldLink R_X 140 "DebtRows$Debt" "open" "J") (List.mem_cons_of_mem _ mB_222)) (fun _ h9 => h9) rfl d_X_due_41 ?_
      refine vx_ret (W.widen (k := 2) (n := 12) (Nat.le_of_ble_eq_true rfl) (Nat.le_of_ble_eq_true rfl) ?_)
      exact W.lret (v := d_open (x_debts z (ixN (q)))) hx hb hr (fun t ht hW => ⟨⟨_, (), rfl, ⟨by rw [f_due, if_pos c_177, if_pos c_179], by rw [f_due, if_pos c_177, if_pos c_179]⟩, w, by rw [ht]; exact hP, hD, by rw [f_due, if_pos c_177, if_pos c_179]; exact hC.at, hC.2⟩, hS.F ht⟩) hS.2.2 d_X_due_44
    · rcases Decidable.em (sd = (1 : Int32)) with c_180 | c_180
      · refine lv_tableIn (tgt := 45) hx hb d_X_due_7 (by rw [c_180]; decide) (by rw [c_180]; decide) (by rw [c_180]; rfl) (by decide) ?_
        refine lv_aload_n hx hb d_X_due_45 rfl (lv_at hl 0 rfl) ?_
        refine va_get (D := D) (ci := 0) (v := .long (d_fixed (x_debts z (ixN (q))))) (C := R_D) (T := F_D) (N := 15) hx hb hts (in_D _) hown hK hP (b + 7 + 3 * (ixN (q))) hU.o rfl 10 (by decide) (hts (.fieldLink R_X 143 "DebtRows$Debt" "fixedInterest" "J") (List.mem_cons_of_mem _ mB_225)) (fun _ h9 => h9) rfl d_X_due_46 ?_
        refine lv_aload_n hx hb d_X_due_49 rfl (lv_at hl 0 rfl) ?_
        refine lv_aload_n hx hb d_X_due_50 rfl (lv_at hl 1 rfl) ?_
        refine va_get (D := D) (ci := 2) (v := .ref (a_r0 a)) (C := R_X) (T := F_X) (N := 5) hx hb hts (in_X _) hown hK hP b hC.1.x rfl 0 (by decide) (hts (.fieldLink R_X 10 "DebtRows" "rates" "LDebtRows$Rates;") (List.mem_cons_of_mem _ mB_53)) (fun _ h9 => h9) rfl d_X_due_51 ?_
        refine lv_aload_n hx hb d_X_due_54 rfl (lv_at hl 1 rfl) ?_
        refine va_get (D := D) (ci := 2) (v := .int (x_today z)) (C := R_X) (T := F_X) (N := 5) hx hb hts (in_X _) hown hK hP b hC.1.x rfl 4 (by decide) (hts (.fieldLink R_X 30 "DebtRows" "today" "I") (List.mem_cons_of_mem _ mB_57)) (fun _ h9 => h9) rfl d_X_due_55 ?_
        refine vp_callSl (W.runV (As := [.ref (a_r0 a), .int (x_today z)]) (rest := [.long (d_fixed (x_debts z (ixN (q))))]) ⟨hx, hb, hml, hown, hts⟩ (c_runningInterest l D A w cI cL cD (b + 7 + 3 * (ixN (q))) (a_da a (ixN (q))) (a_pa a (ixN (q))) (a_qa a (ixN (q))) (x_debts z (ixN (q))) (b + 1) (a_r0 a) (a_fr a) (a_up a) (a_dn a) (x_rates z) (x_today z) hU.1 hC.1.r (by omega) hC.1.wr) (cwV 2 hts (gV _ mB_365 mB_284 mB_285 mB_24 mB_286) rfl rfl rfl (by decide +kernel) ⟨(Nat.le_of_ble_eq_true rfl), (Nat.le_of_ble_eq_true rfl)⟩) ⟨mPc_bl, va_recv hK hP (ci := 0) (q0 := (b + 7 + 3 * (ixN (q)))) rfl hU.o, mPc_pr hP hK hD⟩ rfl rfl hl.1 rfl (lv_room (Nat.le_of_ble_eq_true rfl)) d_X_due_58 ⟨(Nat.le_of_ble_eq_true rfl), (Nat.le_of_ble_eq_true rfl)⟩) (fun v_181 ev_181 => ?_)
        subst ev_181
        refine lv_ladd hx hb d_X_due_61 ?_
        refine vx_ret (W.widen (k := 2) (n := 12) (Nat.le_of_ble_eq_true rfl) (Nat.le_of_ble_eq_true rfl) ?_)
        exact W.lret (v := (d_fixed (x_debts z (ixN (q))) + (f_runningInterest (x_debts z (ixN (q))) (x_rates z) (x_today z)))) hx hb hr (fun t ht hW => ⟨⟨_, (), rfl, ⟨by rw [f_due, if_pos c_177, if_neg c_179, if_pos c_180], by rw [f_due, if_pos c_177, if_neg c_179, if_pos c_180]⟩, w, by rw [ht]; exact hP, hD, by rw [f_due, if_pos c_177, if_neg c_179, if_pos c_180]; exact hC.at, hC.2⟩, hS.F ht⟩) hS.2.2 d_X_due_62
      · rcases Decidable.em (sd = (2 : Int32)) with c_182 | c_182
        · refine lv_tableIn (tgt := 63) hx hb d_X_due_7 (by rw [c_182]; decide) (by rw [c_182]; decide) (by rw [c_182]; rfl) (by decide) ?_
          refine lv_aload_n hx hb d_X_due_63 rfl (lv_at hl 0 rfl) ?_
          refine va_get (D := D) (ci := 0) (v := .long (d_cents (x_debts z (ixN (q))))) (C := R_D) (T := F_D) (N := 15) hx hb hts (in_D _) hown hK hP (b + 7 + 3 * (ixN (q))) hU.o rfl 0 (by decide) (hts (.fieldLink R_X 150 "DebtRows$Debt" "cents" "J") (List.mem_cons_of_mem _ mB_209)) (fun _ h9 => h9) rfl d_X_due_64 ?_
          refine vx_ret (W.widen (k := 2) (n := 12) (Nat.le_of_ble_eq_true rfl) (Nat.le_of_ble_eq_true rfl) ?_)
          exact W.lret (v := d_cents (x_debts z (ixN (q)))) hx hb hr (fun t ht hW => ⟨⟨_, (), rfl, ⟨by rw [f_due, if_pos c_177, if_neg c_179, if_neg c_180, if_pos c_182], by rw [f_due, if_pos c_177, if_neg c_179, if_neg c_180, if_pos c_182]⟩, w, by rw [ht]; exact hP, hD, by rw [f_due, if_pos c_177, if_neg c_179, if_neg c_180, if_pos c_182]; exact hC.at, hC.2⟩, hS.F ht⟩) hS.2.2 d_X_due_67
        · rcases Decidable.em (sd = (3 : Int32)) with c_183 | c_183
          · refine lv_tableIn (tgt := 68) hx hb d_X_due_7 (by rw [c_183]; decide) (by rw [c_183]; decide) (by rw [c_183]; rfl) (by decide) ?_
            refine lv_aload_n hx hb d_X_due_68 rfl (lv_at hl 0 rfl) ?_
            refine va_get (D := D) (ci := 0) (v := .long (d_lost (x_debts z (ixN (q))))) (C := R_D) (T := F_D) (N := 15) hx hb hts (in_D _) hown hK hP (b + 7 + 3 * (ixN (q))) hU.o rfl 9 (by decide) (hts (.fieldLink R_X 131 "DebtRows$Debt" "lost" "J") (List.mem_cons_of_mem _ mB_223)) (fun _ h9 => h9) rfl d_X_due_69 ?_
            refine vx_ret (W.widen (k := 2) (n := 12) (Nat.le_of_ble_eq_true rfl) (Nat.le_of_ble_eq_true rfl) ?_)
            exact W.lret (v := d_lost (x_debts z (ixN (q)))) hx hb hr (fun t ht hW => ⟨⟨_, (), rfl, ⟨by rw [f_due, if_pos c_177, if_neg c_179, if_neg c_180, if_neg c_182, if_pos c_183], by rw [f_due, if_pos c_177, if_neg c_179, if_neg c_180, if_neg c_182, if_pos c_183]⟩, w, by rw [ht]; exact hP, hD, by rw [f_due, if_pos c_177, if_neg c_179, if_neg c_180, if_neg c_182, if_pos c_183]; exact hC.at, hC.2⟩, hS.F ht⟩) hS.2.2 d_X_due_72
          · rcases Decidable.em (sd = (4 : Int32)) with c_184 | c_184
            · refine lv_tableIn (tgt := 73) hx hb d_X_due_7 (by rw [c_184]; decide) (by rw [c_184]; decide) (by rw [c_184]; rfl) (by decide) ?_
              refine lv_aload_n hx hb d_X_due_73 rfl (lv_at hl 0 rfl) ?_
              refine va_get (D := D) (ci := 0) (v := .long (d_paidI (x_debts z (ixN (q))))) (C := R_D) (T := F_D) (N := 15) hx hb hts (in_D _) hown hK hP (b + 7 + 3 * (ixN (q))) hU.o rfl 11 (by decide) (hts (.fieldLink R_X 153 "DebtRows$Debt" "paidInterest" "J") (List.mem_cons_of_mem _ mB_227)) (fun _ h9 => h9) rfl d_X_due_74 ?_
              refine vx_ret (W.widen (k := 2) (n := 12) (Nat.le_of_ble_eq_true rfl) (Nat.le_of_ble_eq_true rfl) ?_)
              exact W.lret (v := d_paidI (x_debts z (ixN (q)))) hx hb hr (fun t ht hW => ⟨⟨_, (), rfl, ⟨by rw [f_due, if_pos c_177, if_neg c_179, if_neg c_180, if_neg c_182, if_neg c_183, if_pos c_184], by rw [f_due, if_pos c_177, if_neg c_179, if_neg c_180, if_neg c_182, if_neg c_183, if_pos c_184]⟩, w, by rw [ht]; exact hP, hD, by rw [f_due, if_pos c_177, if_neg c_179, if_neg c_180, if_neg c_182, if_neg c_183, if_pos c_184]; exact hC.at, hC.2⟩, hS.F ht⟩) hS.2.2 d_X_due_77
            · refine lv_tableOut (tgt := 78) hx hb d_X_due_7 (tsw5 c_179 c_180 c_182 c_183 c_184) (by decide) ?_
              obtain ⟨sa9, hz9⟩ := hE.2.2.2 (156, "no such side") (by decide)
              exact vx_throwS (own := R_X) (cls := "java/lang/IllegalArgumentException") (names := ["java/lang/RuntimeException", "java/lang/Exception"]) hx hb hl9 hown (by decide +kernel) (by decide +kernel) (hts (.classLink R_X 45 "java/lang/IllegalArgumentException") (List.mem_cons_of_mem _ mB_161)) (hts (.initialized "java/lang/IllegalArgumentException") (List.mem_cons_of_mem _ mB_22)) hz9 (vx_hat (B := badL) (fun w hw => hts w ((by decide +kernel : ∀ w ∈ (vx_atS R_X 49 "java/lang/IllegalArgumentException" ["java/lang/RuntimeException", "java/lang/Exception"]).filter goodWord, w ∈ w_X_due) w hw)) (by decide +kernel) (fun w hw => bad_use hw (hE.2.2.1 w hw))) (by decide +kernel) hE.1 hE.2.1 hS (hl.1.trans hml.symm) d_X_due_78 d_X_due_81 d_X_due_82 d_X_due_84 d_X_due_87 (fun x hx => (hEx x hx).elim) (Nat.le_of_ble_eq_true rfl) (Nat.le_of_ble_eq_true rfl) (Nat.le_of_ble_eq_true rfl) (Nat.le_of_ble_eq_true rfl) hlocks (fun t ha hsz hk => ⟨(), trivial, ⟨⟨0, rfl, by rw [f_due, if_pos c_177, if_neg c_179, if_neg c_180, if_neg c_182, if_neg c_183, if_neg c_184]; rfl⟩, hP.kept (fun k q hq => hk q.1 (hP k q hq).lt)⟩, Nat.le_trans hS.1 hsz, fun q h1 h2 => (hk q (Nat.lt_of_lt_of_le h1 hS.1)).trans (hS.2.1 q h1 h2)⟩) hS.2.2 (Nat.le_of_ble_eq_true rfl) (Nat.le_of_ble_eq_true rfl)
def f_recourse (z : XT) (q : Int32) (who : Int32) (sd : Int32) : Int32 × Int64 × XT :=
  if okN (z) (q) then (if (f_placeOf (x_debts z (ixN (q))) (who)) = -1 then (1, 0, z)
    else if sd = 0 then (0, (f_paidBy (x_debts z (ixN (q))) ((f_placeOf (x_debts z (ixN (q))) (who)))), z)
      else if sd = 1 then (0, (f_shareOf (x_debts z (ixN (q))) ((f_placeOf (x_debts z (ixN (q))) (who)))), z)
        else if sd = 2 then (0, (jMax (0) (((f_paidBy (x_debts z (ixN (q))) ((f_placeOf (x_debts z (ixN (q))) (who)))) - (f_shareOf (x_debts z (ixN (q))) ((f_placeOf (x_debts z (ixN (q))) (who))))))), z)
          else (1, 0, z))
  else (1, 0, z)
set_option maxHeartbeats 4000000 in
set_option maxRecDepth 100000 in
theorem c_recourse (l : Launch) (hl9 : l.stackTraces = false) (D : va_G) (A : Nat → Prop) (w : va_W) (cI cL cD : ClassId) (b : Nat) (a : AD) (z : XT) (q : Int32) (who : Int32) (sd : Int32) (hC0 : cA w b cI cL cD a z) : vx_Met l y_X_recourse w_X_recourse ({ frames := 7, cells := 2, slots := 12, locals := 112 }) (ePc D w (tyL cI cL cD) A [.ref (a_x a), .int (q), .int (who), .int (sd)]) (va_Ql (fun z9 (_ : Unit) => (f_recourse z q who sd).1 = 0 ∧ z9 = (f_recourse z q who sd).2.1) (fun (_ : Unit) t => ∃ w9 : va_W, va_P D vwCl w9 t.heap ∧ va_D A w9 ∧ cAt w9 b cI cL cD (a_x a) ((f_recourse z q who sd).2.2) ∧ ∀ j, j < b → w9[j]? = w[j]?) A) (vx_X (fun _ : Unit => True) (fun E9 _ t => exN ["java/lang/IllegalArgumentException"] (f_recourse z q who sd).1 E9 ∧ va_P D vwCl w t.heap) A) 2 12 A := by
  refine vx_ofW (cc := b_X_recourse) (maxL := 6) (ret := (some .long)) (by decide) rfl ?_
  intro p e s m args below meth c s₁ B hml hEx hv
  obtain ⟨rfl, hP, hK, hD, hE⟩ := hv
  have hx := B.exec
  have hb := B.bytes
  have hr := B.returns
  have hts := atoms_spec (ws := w_X_recourse) B.pre
  have hown : s.vm.findClass R_X = some m.cls := findClass_of_methodNamed B.named
  have hlocks := B.notSynchronized
  have hS : va_S A s.heap s.heap [] := va_S.rf
  have hC : cUpd w w b cI cL cD a z := cUpd.rf hC0
  have hl := lv_entry ([.ref (a_x a), .int (q), .int (who), .int (sd)]) (n := 6) (Nat.le_of_ble_eq_true rfl)
  rw [lg_entry_eq]
  generalize (lg_sl ([.ref (a_x a), .int (q), .int (who), .int (sd)]) ++ List.replicate (6 - (lg_sl ([.ref (a_x a), .int (q), .int (who), .int (sd)])).length) Slot.unset).toArray = ls at hl ⊢
  have hl : lv_has ls 6 [(0, .ref (a_x a)), (1, .int (q)), (2, .int (who)), (3, .int (sd))] := hl
  refine lv_aload_n hx hb d_X_recourse_0 rfl (lv_at hl 0 rfl) ?_
  refine lv_iload_n hx hb d_X_recourse_1 rfl (lv_at hl 1 rfl) ?_
  refine vz_callq (vx_runV (As := [.int (q)]) (rest := []) ⟨hx, hb, hml, hown, hts⟩ (c_findOrRefuse l hl9 D A w cI cL cD b a (z) (q) hC.1) (cwV 1 hts (gV _ mB_254 mB_255 mB_3 mB_15 mB_256) rfl rfl rfl (by decide +kernel) ⟨(Nat.le_of_ble_eq_true rfl), (Nat.le_of_ble_eq_true rfl)⟩) ⟨ePc_bl, va_recv hK hP (ci := 2) (q0 := b) rfl hC.1.x, ePc_pr hP hK hD hE hS⟩ rfl rfl hl.1 rfl (lv_room (Nat.le_of_ble_eq_true rfl)) d_X_recourse_2 ⟨(Nat.le_of_ble_eq_true rfl), (Nat.le_of_ble_eq_true rfl)⟩) hS (fun _ _ h => h) (fun _ h => h) (fun _ _ h => h) (fun E9 ce q9 u9 t H locs ht hvm hp9 hB hz1 hk1 hS hce hcv hcl => ?_) (fun v_185 u9 t H locs ht hvm hp9 hB hz1 hk1 hS => ?_)
  · obtain ⟨rfl, c_186, hP⟩ := hB
    rw [ht] at hP
    exact vx_out (E := "java/lang/IllegalArgumentException") (fun x hx => (hEx x hx).elim) hlocks hce hcv hcl (fun t ht ha => ⟨(), trivial, ⟨⟨0, rfl, by rw [f_recourse, if_neg c_186]; rfl⟩, by rw [ht]; exact hP⟩, hS.F ht⟩) hS.2.2 (Nat.le_of_ble_eq_true rfl) (Nat.le_of_ble_eq_true rfl)
  · obtain ⟨c_186, ev_185⟩ := hp9
    subst ev_185
    have hP := hB
    rw [ht] at hP
    have hi_187 : ixN (q) < a_n a := (okN_ix c_186 hC.1.en hC.1.n).1
    have hU : dUpd w w (b + 7 + 3 * (ixN (q))) cI cL (a_da a (ixN (q))) (a_pa a (ixN (q))) (a_qa a (ixN (q))) (x_debts z (ixN (q))) := dUpd.rf (hC.1.d hi_187)
    have hw : wfD (x_debts z (ixN (q))) := hC.1.wd hi_187
    refine lv_astore (lv' := [(4, .ref (a_da a (ixN (q)))), (0, .ref (a_x a)), (1, .int (q)), (2, .int (who)), (3, .int (sd))]) hx hb d_X_recourse_5 hl (by decide) rfl (fun ls hl => ?_)
    refine lv_aload hx hb d_X_recourse_7 (lv_at hl 0 rfl) ?_
    refine lv_iload_n hx hb d_X_recourse_9 rfl (lv_at hl 3 rfl) ?_
    refine vp_callSi (W.runV (As := [.int (who)]) (rest := []) ⟨hx, hb, hml, hown, hts⟩ (c_placeOf l D A w cI cL cD (b + 7 + 3 * (ixN (q))) (a_da a (ixN (q))) (a_pa a (ixN (q))) (a_qa a (ixN (q))) (x_debts z (ixN (q))) (who) hU.1 hw) (cwV 1 hts (gV _ mB_278 mB_80 mB_81 mB_24 mB_82) rfl rfl rfl (by decide +kernel) ⟨(Nat.le_of_ble_eq_true rfl), (Nat.le_of_ble_eq_true rfl)⟩) ⟨mPc_bl, va_recv hK hP (ci := 0) (q0 := (b + 7 + 3 * (ixN (q)))) rfl hU.o, mPc_pr hP hK hD⟩ rfl rfl hl.1 rfl (lv_room (Nat.le_of_ble_eq_true rfl)) d_X_recourse_10 ⟨(Nat.le_of_ble_eq_true rfl), (Nat.le_of_ble_eq_true rfl)⟩) (fun v_188 ev_188 => ?_)
    subst ev_188
    refine lv_istore (lv' := [(5, .int ((f_placeOf (x_debts z (ixN (q))) (who)))), (4, .ref (a_da a (ixN (q)))), (0, .ref (a_x a)), (1, .int (q)), (2, .int (who)), (3, .int (sd))]) hx hb d_X_recourse_13 hl (by decide) rfl (fun ls hl => ?_)
    refine lv_iload hx hb d_X_recourse_15 (lv_at hl 0 rfl) ?_
    refine lv_iconst (v := -1) hx hb d_X_recourse_17 (by decide) ?_
    refine lv_icmp_ne (tgt := 31) hx hb d_X_recourse_18 (by decide) (fun c_189 => ?_) (fun c_189 => ?_)
    · refine lv_iload_n hx hb d_X_recourse_31 rfl (lv_at hl 5 rfl) ?_
      rcases Decidable.em (sd = (0 : Int32)) with c_190 | c_190
      · refine lv_tableIn (tgt := 60) hx hb d_X_recourse_32 (by rw [c_190]; decide) (by rw [c_190]; decide) (by rw [c_190]; rfl) (by decide) ?_
        refine lv_aload hx hb d_X_recourse_60 (lv_at hl 1 rfl) ?_
        refine lv_iload hx hb d_X_recourse_62 (lv_at hl 0 rfl) ?_
        refine vp_callSl (W.runV (As := [.int ((f_placeOf (x_debts z (ixN (q))) (who)))]) (rest := []) ⟨hx, hb, hml, hown, hts⟩ (c_paidBy l D A w cI cL cD (b + 7 + 3 * (ixN (q))) (a_da a (ixN (q))) (a_pa a (ixN (q))) (a_qa a (ixN (q))) (x_debts z (ixN (q))) ((f_placeOf (x_debts z (ixN (q))) (who))) hU.1 hw) (cwV 1 hts (gV _ mB_372 mB_373 mB_374 mB_24 mB_375) rfl rfl rfl (by decide +kernel) ⟨(Nat.le_of_ble_eq_true rfl), (Nat.le_of_ble_eq_true rfl)⟩) ⟨mPc_bl, va_recv hK hP (ci := 0) (q0 := (b + 7 + 3 * (ixN (q)))) rfl hU.o, mPc_pr hP hK hD⟩ rfl rfl hl.1 rfl (lv_room (Nat.le_of_ble_eq_true rfl)) d_X_recourse_64 ⟨(Nat.le_of_ble_eq_true rfl), (Nat.le_of_ble_eq_true rfl)⟩) (fun v_191 ev_191 => ?_)
        subst ev_191
        refine vx_ret (W.widen (k := 2) (n := 12) (Nat.le_of_ble_eq_true rfl) (Nat.le_of_ble_eq_true rfl) ?_)
        exact W.lret (v := (f_paidBy (x_debts z (ixN (q))) ((f_placeOf (x_debts z (ixN (q))) (who))))) hx hb hr (fun t ht hW => ⟨⟨_, (), rfl, ⟨by rw [f_recourse, if_pos c_186, if_neg c_189, if_pos c_190], by rw [f_recourse, if_pos c_186, if_neg c_189, if_pos c_190]⟩, w, by rw [ht]; exact hP, hD, by rw [f_recourse, if_pos c_186, if_neg c_189, if_pos c_190]; exact hC.at, hC.2⟩, hS.F ht⟩) hS.2.2 d_X_recourse_67
      · rcases Decidable.em (sd = (1 : Int32)) with c_192 | c_192
        · refine lv_tableIn (tgt := 68) hx hb d_X_recourse_32 (by rw [c_192]; decide) (by rw [c_192]; decide) (by rw [c_192]; rfl) (by decide) ?_
          refine lv_aload hx hb d_X_recourse_68 (lv_at hl 1 rfl) ?_
          refine lv_iload hx hb d_X_recourse_70 (lv_at hl 0 rfl) ?_
          refine vp_callSl (W.runV (As := [.int ((f_placeOf (x_debts z (ixN (q))) (who)))]) (rest := []) ⟨hx, hb, hml, hown, hts⟩ (c_shareOf l D A w cI cL cD (b + 7 + 3 * (ixN (q))) (a_da a (ixN (q))) (a_pa a (ixN (q))) (a_qa a (ixN (q))) (x_debts z (ixN (q))) ((f_placeOf (x_debts z (ixN (q))) (who))) hU.1) (cwV 1 hts (gV _ mB_376 mB_377 mB_378 mB_24 mB_379) rfl rfl rfl (by decide +kernel) ⟨(Nat.le_of_ble_eq_true rfl), (Nat.le_of_ble_eq_true rfl)⟩) ⟨mPc_bl, va_recv hK hP (ci := 0) (q0 := (b + 7 + 3 * (ixN (q)))) rfl hU.o, mPc_pr hP hK hD⟩ rfl rfl hl.1 rfl (lv_room (Nat.le_of_ble_eq_true rfl)) d_X_recourse_72 ⟨(Nat.le_of_ble_eq_true rfl), (Nat.le_of_ble_eq_true rfl)⟩) (fun v_193 ev_193 => ?_)
          subst ev_193
          refine vx_ret (W.widen (k := 2) (n := 12) (Nat.le_of_ble_eq_true rfl) (Nat.le_of_ble_eq_true rfl) ?_)
          exact W.lret (v := (f_shareOf (x_debts z (ixN (q))) ((f_placeOf (x_debts z (ixN (q))) (who))))) hx hb hr (fun t ht hW => ⟨⟨_, (), rfl, ⟨by rw [f_recourse, if_pos c_186, if_neg c_189, if_neg c_190, if_pos c_192], by rw [f_recourse, if_pos c_186, if_neg c_189, if_neg c_190, if_pos c_192]⟩, w, by rw [ht]; exact hP, hD, by rw [f_recourse, if_pos c_186, if_neg c_189, if_neg c_190, if_pos c_192]; exact hC.at, hC.2⟩, hS.F ht⟩) hS.2.2 d_X_recourse_75
        · rcases Decidable.em (sd = (2 : Int32)) with c_194 | c_194
          · refine lv_tableIn (tgt := 76) hx hb d_X_recourse_32 (by rw [c_194]; decide) (by rw [c_194]; decide) (by rw [c_194]; rfl) (by decide) ?_
            refine lv_lconst (v := 0) hx hb d_X_recourse_76 (by decide) ?_
            refine lv_aload hx hb d_X_recourse_77 (lv_at hl 1 rfl) ?_
            refine lv_iload hx hb d_X_recourse_79 (lv_at hl 0 rfl) ?_
            refine vp_callSl (W.runV (As := [.int ((f_placeOf (x_debts z (ixN (q))) (who)))]) (rest := [.long (0)]) ⟨hx, hb, hml, hown, hts⟩ (c_paidBy l D A w cI cL cD (b + 7 + 3 * (ixN (q))) (a_da a (ixN (q))) (a_pa a (ixN (q))) (a_qa a (ixN (q))) (x_debts z (ixN (q))) ((f_placeOf (x_debts z (ixN (q))) (who))) hU.1 hw) (cwV 1 hts (gV _ mB_372 mB_373 mB_374 mB_24 mB_375) rfl rfl rfl (by decide +kernel) ⟨(Nat.le_of_ble_eq_true rfl), (Nat.le_of_ble_eq_true rfl)⟩) ⟨mPc_bl, va_recv hK hP (ci := 0) (q0 := (b + 7 + 3 * (ixN (q)))) rfl hU.o, mPc_pr hP hK hD⟩ rfl rfl hl.1 rfl (lv_room (Nat.le_of_ble_eq_true rfl)) d_X_recourse_81 ⟨(Nat.le_of_ble_eq_true rfl), (Nat.le_of_ble_eq_true rfl)⟩) (fun v_195 ev_195 => ?_)
            subst ev_195
            refine lv_aload hx hb d_X_recourse_84 (lv_at hl 1 rfl) ?_
            refine lv_iload hx hb d_X_recourse_86 (lv_at hl 0 rfl) ?_
            refine vp_callSl (W.runV (As := [.int ((f_placeOf (x_debts z (ixN (q))) (who)))]) (rest := [.long ((f_paidBy (x_debts z (ixN (q))) ((f_placeOf (x_debts z (ixN (q))) (who))))), .long (0)]) ⟨hx, hb, hml, hown, hts⟩ (c_shareOf l D A w cI cL cD (b + 7 + 3 * (ixN (q))) (a_da a (ixN (q))) (a_pa a (ixN (q))) (a_qa a (ixN (q))) (x_debts z (ixN (q))) ((f_placeOf (x_debts z (ixN (q))) (who))) hU.1) (cwV 1 hts (gV _ mB_376 mB_377 mB_378 mB_24 mB_379) rfl rfl rfl (by decide +kernel) ⟨(Nat.le_of_ble_eq_true rfl), (Nat.le_of_ble_eq_true rfl)⟩) ⟨mPc_bl, va_recv hK hP (ci := 0) (q0 := (b + 7 + 3 * (ixN (q)))) rfl hU.o, mPc_pr hP hK hD⟩ rfl rfl hl.1 rfl (lv_room (Nat.le_of_ble_eq_true rfl)) d_X_recourse_88 ⟨(Nat.le_of_ble_eq_true rfl), (Nat.le_of_ble_eq_true rfl)⟩) (fun v_196 ev_196 => ?_)
            subst ev_196
            refine lv_lsub hx hb d_X_recourse_91 ?_
            refine va_mmax_long (own := R_X) (index := 167) hx hb (hml.trans hl.1.symm) hown (hts (.methodLink R_X 167 Lib.MathLoose.max_long.x) (List.mem_cons_of_mem _ mB_380)) (hts (.static Lib.MathLoose.max_long.x) (List.mem_cons_of_mem _ mB_381)) (hts (.initialized "java/lang/Math") (List.mem_cons_of_mem _ mB_25)) (hts _ (List.mem_cons_of_mem _ mC_lmax)) (Nat.le_of_ble_eq_true rfl) (Nat.le_of_ble_eq_true rfl) (Nat.le_of_ble_eq_true rfl) (Nat.le_of_ble_eq_true rfl) d_X_recourse_92 ?_
            refine lv_topl (fun v_197 ev_197 => ?_)
            have ev_197 : v_197 = jMax (0) (((f_paidBy (x_debts z (ixN (q))) ((f_placeOf (x_debts z (ixN (q))) (who)))) - (f_shareOf (x_debts z (ixN (q))) ((f_placeOf (x_debts z (ixN (q))) (who)))))) := ev_197
            subst ev_197
            refine vx_ret (W.widen (k := 2) (n := 12) (Nat.le_of_ble_eq_true rfl) (Nat.le_of_ble_eq_true rfl) ?_)
            exact W.lret (v := (jMax (0) (((f_paidBy (x_debts z (ixN (q))) ((f_placeOf (x_debts z (ixN (q))) (who)))) - (f_shareOf (x_debts z (ixN (q))) ((f_placeOf (x_debts z (ixN (q))) (who)))))))) hx hb hr (fun t ht hW => ⟨⟨_, (), rfl, ⟨by rw [f_recourse, if_pos c_186, if_neg c_189, if_neg c_190, if_neg c_192, if_pos c_194], by rw [f_recourse, if_pos c_186, if_neg c_189, if_neg c_190, if_neg c_192, if_pos c_194]⟩, w, by rw [ht]; exact hP, hD, by rw [f_recourse, if_pos c_186, if_neg c_189, if_neg c_190, if_neg c_192, if_pos c_194]; exact hC.at, hC.2⟩, hS.F ht⟩) hS.2.2 d_X_recourse_95
          · refine lv_tableOut (tgt := 96) hx hb d_X_recourse_32 (tsw3 c_190 c_192 c_194) (by decide) ?_
            obtain ⟨sa9, hz9⟩ := hE.2.2.2 (156, "no such side") (by decide)
            exact vx_throwS (own := R_X) (cls := "java/lang/IllegalArgumentException") (names := ["java/lang/RuntimeException", "java/lang/Exception"]) hx hb hl9 hown (by decide +kernel) (by decide +kernel) (hts (.classLink R_X 45 "java/lang/IllegalArgumentException") (List.mem_cons_of_mem _ mB_161)) (hts (.initialized "java/lang/IllegalArgumentException") (List.mem_cons_of_mem _ mB_22)) hz9 (vx_hat (B := badL) (fun w hw => hts w ((by decide +kernel : ∀ w ∈ (vx_atS R_X 49 "java/lang/IllegalArgumentException" ["java/lang/RuntimeException", "java/lang/Exception"]).filter goodWord, w ∈ w_X_recourse) w hw)) (by decide +kernel) (fun w hw => bad_use hw (hE.2.2.1 w hw))) (by decide +kernel) hE.1 hE.2.1 hS (hl.1.trans hml.symm) d_X_recourse_96 d_X_recourse_99 d_X_recourse_100 d_X_recourse_102 d_X_recourse_105 (fun x hx => (hEx x hx).elim) (Nat.le_of_ble_eq_true rfl) (Nat.le_of_ble_eq_true rfl) (Nat.le_of_ble_eq_true rfl) (Nat.le_of_ble_eq_true rfl) hlocks (fun t ha hsz hk => ⟨(), trivial, ⟨⟨0, rfl, by rw [f_recourse, if_pos c_186, if_neg c_189, if_neg c_190, if_neg c_192, if_neg c_194]; rfl⟩, hP.kept (fun k q hq => hk q.1 (hP k q hq).lt)⟩, Nat.le_trans hS.1 hsz, fun q h1 h2 => (hk q (Nat.lt_of_lt_of_le h1 hS.1)).trans (hS.2.1 q h1 h2)⟩) hS.2.2 (Nat.le_of_ble_eq_true rfl) (Nat.le_of_ble_eq_true rfl)
    · obtain ⟨sa9, hz9⟩ := hE.2.2.2 (158, "no debtor of this debt") (by decide)
      exact vx_throwS (own := R_X) (cls := "java/lang/IllegalArgumentException") (names := ["java/lang/RuntimeException", "java/lang/Exception"]) hx hb hl9 hown (by decide +kernel) (by decide +kernel) (hts (.classLink R_X 45 "java/lang/IllegalArgumentException") (List.mem_cons_of_mem _ mB_161)) (hts (.initialized "java/lang/IllegalArgumentException") (List.mem_cons_of_mem _ mB_22)) hz9 (vx_hat (B := badL) (fun w hw => hts w ((by decide +kernel : ∀ w ∈ (vx_atS R_X 49 "java/lang/IllegalArgumentException" ["java/lang/RuntimeException", "java/lang/Exception"]).filter goodWord, w ∈ w_X_recourse) w hw)) (by decide +kernel) (fun w hw => bad_use hw (hE.2.2.1 w hw))) (by decide +kernel) hE.1 hE.2.1 hS (hl.1.trans hml.symm) d_X_recourse_21 d_X_recourse_24 d_X_recourse_25 d_X_recourse_27 d_X_recourse_30 (fun x hx => (hEx x hx).elim) (Nat.le_of_ble_eq_true rfl) (Nat.le_of_ble_eq_true rfl) (Nat.le_of_ble_eq_true rfl) (Nat.le_of_ble_eq_true rfl) hlocks (fun t ha hsz hk => ⟨(), trivial, ⟨⟨0, rfl, by rw [f_recourse, if_pos c_186, if_pos c_189]; rfl⟩, hP.kept (fun k q hq => hk q.1 (hP k q hq).lt)⟩, Nat.le_trans hS.1 hsz, fun q h1 h2 => (hk q (Nat.lt_of_lt_of_le h1 hS.1)).trans (hS.2.1 q h1 h2)⟩) hS.2.2 (Nat.le_of_ble_eq_true rfl) (Nat.le_of_ble_eq_true rfl)
def f_look (z : XT) (q : Int32) (wh : Int32) : Int32 × Int32 × XT :=
  if okN (z) (q) then (if wh = 0 then (0, d_state (x_debts z (ixN (q))), z)
    else if wh = 1 then (0, d_birth (x_debts z (ixN (q))), z)
      else if wh = 2 then (0, d_due (x_debts z (ixN (q))), z)
        else if wh = 3 then (0, d_debtors (x_debts z (ixN (q))), z)
          else if wh < 4 then (1, 0, z)
            else if wh < (4 + d_debtors (x_debts z (ixN (q)))) then (0, (f_personAt (x_debts z (ixN (q))) ((wh - 4))), z)
              else (1, 0, z))
  else (1, 0, z)
set_option maxHeartbeats 4000000 in
set_option maxRecDepth 100000 in
theorem c_look (l : Launch) (hl9 : l.stackTraces = false) (D : va_G) (A : Nat → Prop) (w : va_W) (cI cL cD : ClassId) (b : Nat) (a : AD) (z : XT) (q : Int32) (wh : Int32) (hC0 : cA w b cI cL cD a z) : vx_Met l y_X_look w_X_look ({ frames := 6, cells := 1, slots := 6, locals := 90 }) (ePc D w (tyL cI cL cD) A [.ref (a_x a), .int (q), .int (wh)]) (va_Qi (fun z9 (_ : Unit) => (f_look z q wh).1 = 0 ∧ z9 = (f_look z q wh).2.1) (fun (_ : Unit) t => ∃ w9 : va_W, va_P D vwCl w9 t.heap ∧ va_D A w9 ∧ cAt w9 b cI cL cD (a_x a) ((f_look z q wh).2.2) ∧ ∀ j, j < b → w9[j]? = w[j]?) A) (vx_X (fun _ : Unit => True) (fun E9 _ t => exN ["java/lang/IndexOutOfBoundsException"] (f_look z q wh).1 E9 ∧ va_P D vwCl w t.heap) A) 1 6 A := by
  refine vx_ofW (cc := b_X_look) (maxL := 4) (ret := (some .int)) (by decide) rfl ?_
  intro p e s m args below meth c s₁ B hml hEx hv
  obtain ⟨rfl, hP, hK, hD, hE⟩ := hv
  have hx := B.exec
  have hb := B.bytes
  have hr := B.returns
  have hts := atoms_spec (ws := w_X_look) B.pre
  have hown : s.vm.findClass R_X = some m.cls := findClass_of_methodNamed B.named
  have hlocks := B.notSynchronized
  have hS : va_S A s.heap s.heap [] := va_S.rf
  have hC : cUpd w w b cI cL cD a z := cUpd.rf hC0
  have hl := lv_entry ([.ref (a_x a), .int (q), .int (wh)]) (n := 4) (Nat.le_of_ble_eq_true rfl)
  rw [lg_entry_eq]
  generalize (lg_sl ([.ref (a_x a), .int (q), .int (wh)]) ++ List.replicate (4 - (lg_sl ([.ref (a_x a), .int (q), .int (wh)])).length) Slot.unset).toArray = ls at hl ⊢
  have hl : lv_has ls 4 [(0, .ref (a_x a)), (1, .int (q)), (2, .int (wh))] := hl
  refine lv_aload_n hx hb d_X_look_0 rfl (lv_at hl 0 rfl) ?_
  refine lv_iload_n hx hb d_X_look_1 rfl (lv_at hl 1 rfl) ?_
  refine va_csq (W.runV (As := [.int (q)]) (rest := []) ⟨hx, hb, hml, hown, hts⟩ (c_find l D A w cI cL cD b a (z) (q) hC.1) (cwV 1 hts (gV _ mB_69 mB_70 mB_0 mB_15 mB_71) rfl rfl rfl (by decide +kernel) ⟨(Nat.le_of_ble_eq_true rfl), (Nat.le_of_ble_eq_true rfl)⟩) ⟨mPc_bl, va_recv hK hP (ci := 2) (q0 := b) rfl hC.1.x, mPc_pr hP hK hD⟩ rfl rfl hl.1 rfl (lv_room (Nat.le_of_ble_eq_true rfl)) d_X_look_2 ⟨(Nat.le_of_ble_eq_true rfl), (Nat.le_of_ble_eq_true rfl)⟩) (fun v_198 ev_198 => ?_)
  rcases Decidable.em (okN (z) (q)) with c_199 | c_199
  · rw [if_pos c_199] at ev_198
    subst ev_198
    have hi_200 : ixN (q) < a_n a := (okN_ix c_199 hC.1.en hC.1.n).1
    have hU : dUpd w w (b + 7 + 3 * (ixN (q))) cI cL (a_da a (ixN (q))) (a_pa a (ixN (q))) (a_qa a (ixN (q))) (x_debts z (ixN (q))) := dUpd.rf (hC.1.d hi_200)
    have hw : wfD (x_debts z (ixN (q))) := hC.1.wd hi_200
    refine lv_astore_n (lv' := [(3, .ref (a_da a (ixN (q)))), (0, .ref (a_x a)), (1, .int (q)), (2, .int (wh))]) hx hb d_X_look_5 rfl hl (by decide) rfl (fun ls hl => ?_)
    refine lv_aload_n hx hb d_X_look_6 rfl (lv_at hl 0 rfl) ?_
    refine lv_ifnonnull (tgt := 20) hx hb d_X_look_7 (by decide) ?_
    refine lv_iload_n hx hb d_X_look_20 rfl (lv_at hl 3 rfl) ?_
    rcases Decidable.em (wh = (0 : Int32)) with c_201 | c_201
    · refine lv_tableIn (tgt := 52) hx hb d_X_look_21 (by rw [c_201]; decide) (by rw [c_201]; decide) (by rw [c_201]; rfl) (by decide) ?_
      refine lv_aload_n hx hb d_X_look_52 rfl (lv_at hl 0 rfl) ?_
      refine va_get (D := D) (ci := 0) (v := .int (d_state (x_debts z (ixN (q))))) (C := R_D) (T := F_D) (N := 15) hx hb hts (in_D _) hown hK hP (b + 7 + 3 * (ixN (q))) hU.o rfl 5 (by decide) (hts (.fieldLink R_X 88 "DebtRows$Debt" "state" "I") (List.mem_cons_of_mem _ mB_217)) (fun _ h9 => h9) rfl d_X_look_53 ?_
      refine vx_ret (W.widen (k := 1) (n := 6) (Nat.le_of_ble_eq_true rfl) (Nat.le_of_ble_eq_true rfl) ?_)
      exact W.iret (v := d_state (x_debts z (ixN (q)))) hx hb hr (fun t ht hW => ⟨⟨_, (), rfl, ⟨by rw [f_look, if_pos c_199, if_pos c_201], by rw [f_look, if_pos c_199, if_pos c_201]⟩, w, by rw [ht]; exact hP, hD, by rw [f_look, if_pos c_199, if_pos c_201]; exact hC.at, hC.2⟩, hS.F ht⟩) hS.2.2 d_X_look_56
    · rcases Decidable.em (wh = (1 : Int32)) with c_202 | c_202
      · refine lv_tableIn (tgt := 57) hx hb d_X_look_21 (by rw [c_202]; decide) (by rw [c_202]; decide) (by rw [c_202]; rfl) (by decide) ?_
        refine lv_aload_n hx hb d_X_look_57 rfl (lv_at hl 0 rfl) ?_
        refine va_get (D := D) (ci := 0) (v := .int (d_birth (x_debts z (ixN (q))))) (C := R_D) (T := F_D) (N := 15) hx hb hts (in_D _) hown hK hP (b + 7 + 3 * (ixN (q))) hU.o rfl 1 (by decide) (hts (.fieldLink R_X 178 "DebtRows$Debt" "birth" "I") (List.mem_cons_of_mem _ mB_211)) (fun _ h9 => h9) rfl d_X_look_58 ?_
        refine vx_ret (W.widen (k := 1) (n := 6) (Nat.le_of_ble_eq_true rfl) (Nat.le_of_ble_eq_true rfl) ?_)
        exact W.iret (v := d_birth (x_debts z (ixN (q)))) hx hb hr (fun t ht hW => ⟨⟨_, (), rfl, ⟨by rw [f_look, if_pos c_199, if_neg c_201, if_pos c_202], by rw [f_look, if_pos c_199, if_neg c_201, if_pos c_202]⟩, w, by rw [ht]; exact hP, hD, by rw [f_look, if_pos c_199, if_neg c_201, if_pos c_202]; exact hC.at, hC.2⟩, hS.F ht⟩) hS.2.2 d_X_look_61
      · rcases Decidable.em (wh = (2 : Int32)) with c_203 | c_203
        · refine lv_tableIn (tgt := 62) hx hb d_X_look_21 (by rw [c_203]; decide) (by rw [c_203]; decide) (by rw [c_203]; rfl) (by decide) ?_
          refine lv_aload_n hx hb d_X_look_62 rfl (lv_at hl 0 rfl) ?_
          refine va_get (D := D) (ci := 0) (v := .int (d_due (x_debts z (ixN (q))))) (C := R_D) (T := F_D) (N := 15) hx hb hts (in_D _) hown hK hP (b + 7 + 3 * (ixN (q))) hU.o rfl 6 (by decide) (hts (.fieldLink R_X 97 "DebtRows$Debt" "dueDay" "I") (List.mem_cons_of_mem _ mB_219)) (fun _ h9 => h9) rfl d_X_look_63 ?_
          refine vx_ret (W.widen (k := 1) (n := 6) (Nat.le_of_ble_eq_true rfl) (Nat.le_of_ble_eq_true rfl) ?_)
          exact W.iret (v := d_due (x_debts z (ixN (q)))) hx hb hr (fun t ht hW => ⟨⟨_, (), rfl, ⟨by rw [f_look, if_pos c_199, if_neg c_201, if_neg c_202, if_pos c_203], by rw [f_look, if_pos c_199, if_neg c_201, if_neg c_202, if_pos c_203]⟩, w, by rw [ht]; exact hP, hD, by rw [f_look, if_pos c_199, if_neg c_201, if_neg c_202, if_pos c_203]; exact hC.at, hC.2⟩, hS.F ht⟩) hS.2.2 d_X_look_66
        · rcases Decidable.em (wh = (3 : Int32)) with c_204 | c_204
          · refine lv_tableIn (tgt := 67) hx hb d_X_look_21 (by rw [c_204]; decide) (by rw [c_204]; decide) (by rw [c_204]; rfl) (by decide) ?_
            refine lv_aload_n hx hb d_X_look_67 rfl (lv_at hl 0 rfl) ?_
            refine va_get (D := D) (ci := 0) (v := .int (d_debtors (x_debts z (ixN (q))))) (C := R_D) (T := F_D) (N := 15) hx hb hts (in_D _) hown hK hP (b + 7 + 3 * (ixN (q))) hU.o rfl 4 (by decide) (hts (.fieldLink R_X 181 "DebtRows$Debt" "debtors" "I") (List.mem_cons_of_mem _ mB_215)) (fun _ h9 => h9) rfl d_X_look_68 ?_
            refine vx_ret (W.widen (k := 1) (n := 6) (Nat.le_of_ble_eq_true rfl) (Nat.le_of_ble_eq_true rfl) ?_)
            exact W.iret (v := d_debtors (x_debts z (ixN (q)))) hx hb hr (fun t ht hW => ⟨⟨_, (), rfl, ⟨by rw [f_look, if_pos c_199, if_neg c_201, if_neg c_202, if_neg c_203, if_pos c_204], by rw [f_look, if_pos c_199, if_neg c_201, if_neg c_202, if_neg c_203, if_pos c_204]⟩, w, by rw [ht]; exact hP, hD, by rw [f_look, if_pos c_199, if_neg c_201, if_neg c_202, if_neg c_203, if_pos c_204]; exact hC.at, hC.2⟩, hS.F ht⟩) hS.2.2 d_X_look_71
          · refine lv_tableOut (tgt := 72) hx hb d_X_look_21 (tsw4 c_201 c_202 c_203 c_204) (by decide) ?_
            refine lv_iload_n hx hb d_X_look_72 rfl (lv_at hl 3 rfl) ?_
            refine lv_iconst (v := 4) hx hb d_X_look_73 (by decide) ?_
            refine lv_icmp_lt (tgt := 87) hx hb d_X_look_74 (by decide) (fun c_205 => ?_) (fun c_205 => ?_)
            · obtain ⟨sa9, hz9⟩ := hE.2.2.2 (184, "nothing to look at") (by decide)
              exact vx_throwS (own := R_X) (cls := "java/lang/IndexOutOfBoundsException") (names := ["java/lang/RuntimeException", "java/lang/Exception"]) hx hb hl9 hown (by decide +kernel) (by decide +kernel) (hts (.classLink R_X 173 "java/lang/IndexOutOfBoundsException") (List.mem_cons_of_mem _ mB_390)) (hts (.initialized "java/lang/IndexOutOfBoundsException") (List.mem_cons_of_mem _ mB_26)) hz9 (vx_hat (B := badL) (fun w hw => hts w ((by decide +kernel : ∀ w ∈ (vx_atS R_X 177 "java/lang/IndexOutOfBoundsException" ["java/lang/RuntimeException", "java/lang/Exception"]).filter goodWord, w ∈ w_X_look) w hw)) (by decide +kernel) (fun w hw => bad_use hw (hE.2.2.1 w hw))) (by decide +kernel) hE.1 hE.2.1 hS (hl.1.trans hml.symm) d_X_look_87 d_X_look_90 d_X_look_91 d_X_look_93 d_X_look_96 (fun x hx => (hEx x hx).elim) (Nat.le_of_ble_eq_true rfl) (Nat.le_of_ble_eq_true rfl) (Nat.le_of_ble_eq_true rfl) (Nat.le_of_ble_eq_true rfl) hlocks (fun t ha hsz hk => ⟨(), trivial, ⟨⟨0, rfl, by rw [f_look, if_pos c_199, if_neg c_201, if_neg c_202, if_neg c_203, if_neg c_204, if_pos c_205]; rfl⟩, hP.kept (fun k q hq => hk q.1 (hP k q hq).lt)⟩, Nat.le_trans hS.1 hsz, fun q h1 h2 => (hk q (Nat.lt_of_lt_of_le h1 hS.1)).trans (hS.2.1 q h1 h2)⟩) hS.2.2 (Nat.le_of_ble_eq_true rfl) (Nat.le_of_ble_eq_true rfl)
            · refine lv_iload_n hx hb d_X_look_77 rfl (lv_at hl 3 rfl) ?_
              refine lv_iconst (v := 4) hx hb d_X_look_78 (by decide) ?_
              refine lv_aload_n hx hb d_X_look_79 rfl (lv_at hl 0 rfl) ?_
              refine va_get (D := D) (ci := 0) (v := .int (d_debtors (x_debts z (ixN (q))))) (C := R_D) (T := F_D) (N := 15) hx hb hts (in_D _) hown hK hP (b + 7 + 3 * (ixN (q))) hU.o rfl 4 (by decide) (hts (.fieldLink R_X 181 "DebtRows$Debt" "debtors" "I") (List.mem_cons_of_mem _ mB_215)) (fun _ h9 => h9) rfl d_X_look_80 ?_
              refine lv_iadd hx hb d_X_look_83 ?_
              refine lv_icmp_lt (tgt := 97) hx hb d_X_look_84 (by decide) (fun c_206 => ?_) (fun c_206 => ?_)
              · refine lv_aload_n hx hb d_X_look_97 rfl (lv_at hl 0 rfl) ?_
                refine lv_iload_n hx hb d_X_look_98 rfl (lv_at hl 3 rfl) ?_
                refine lv_iconst (v := 4) hx hb d_X_look_99 (by decide) ?_
                refine lv_isub hx hb d_X_look_100 ?_
                refine vp_callSi (W.runV (As := [.int ((wh - 4))]) (rest := []) ⟨hx, hb, hml, hown, hts⟩ (c_personAt l D A w cI cL cD (b + 7 + 3 * (ixN (q))) (a_da a (ixN (q))) (a_pa a (ixN (q))) (a_qa a (ixN (q))) (x_debts z (ixN (q))) ((wh - 4)) hU.1 hw) (cwV 1 hts (gV _ mB_404 mB_405 mB_406 mB_24 mB_407) rfl rfl rfl (by decide +kernel) ⟨(Nat.le_of_ble_eq_true rfl), (Nat.le_of_ble_eq_true rfl)⟩) ⟨mPc_bl, va_recv hK hP (ci := 0) (q0 := (b + 7 + 3 * (ixN (q)))) rfl hU.o, mPc_pr hP hK hD⟩ rfl rfl hl.1 rfl (lv_room (Nat.le_of_ble_eq_true rfl)) d_X_look_101 ⟨(Nat.le_of_ble_eq_true rfl), (Nat.le_of_ble_eq_true rfl)⟩) (fun v_207 ev_207 => ?_)
                subst ev_207
                refine vx_ret (W.widen (k := 1) (n := 6) (Nat.le_of_ble_eq_true rfl) (Nat.le_of_ble_eq_true rfl) ?_)
                exact W.iret (v := (f_personAt (x_debts z (ixN (q))) ((wh - 4)))) hx hb hr (fun t ht hW => ⟨⟨_, (), rfl, ⟨by rw [f_look, if_pos c_199, if_neg c_201, if_neg c_202, if_neg c_203, if_neg c_204, if_neg c_205, if_pos c_206], by rw [f_look, if_pos c_199, if_neg c_201, if_neg c_202, if_neg c_203, if_neg c_204, if_neg c_205, if_pos c_206]⟩, w, by rw [ht]; exact hP, hD, by rw [f_look, if_pos c_199, if_neg c_201, if_neg c_202, if_neg c_203, if_neg c_204, if_neg c_205, if_pos c_206]; exact hC.at, hC.2⟩, hS.F ht⟩) hS.2.2 d_X_look_104
              · obtain ⟨sa9, hz9⟩ := hE.2.2.2 (184, "nothing to look at") (by decide)
                exact vx_throwS (own := R_X) (cls := "java/lang/IndexOutOfBoundsException") (names := ["java/lang/RuntimeException", "java/lang/Exception"]) hx hb hl9 hown (by decide +kernel) (by decide +kernel) (hts (.classLink R_X 173 "java/lang/IndexOutOfBoundsException") (List.mem_cons_of_mem _ mB_390)) (hts (.initialized "java/lang/IndexOutOfBoundsException") (List.mem_cons_of_mem _ mB_26)) hz9 (vx_hat (B := badL) (fun w hw => hts w ((by decide +kernel : ∀ w ∈ (vx_atS R_X 177 "java/lang/IndexOutOfBoundsException" ["java/lang/RuntimeException", "java/lang/Exception"]).filter goodWord, w ∈ w_X_look) w hw)) (by decide +kernel) (fun w hw => bad_use hw (hE.2.2.1 w hw))) (by decide +kernel) hE.1 hE.2.1 hS (hl.1.trans hml.symm) d_X_look_87 d_X_look_90 d_X_look_91 d_X_look_93 d_X_look_96 (fun x hx => (hEx x hx).elim) (Nat.le_of_ble_eq_true rfl) (Nat.le_of_ble_eq_true rfl) (Nat.le_of_ble_eq_true rfl) (Nat.le_of_ble_eq_true rfl) hlocks (fun t ha hsz hk => ⟨(), trivial, ⟨⟨0, rfl, by rw [f_look, if_pos c_199, if_neg c_201, if_neg c_202, if_neg c_203, if_neg c_204, if_neg c_205, if_neg c_206]; rfl⟩, hP.kept (fun k q hq => hk q.1 (hP k q hq).lt)⟩, Nat.le_trans hS.1 hsz, fun q h1 h2 => (hk q (Nat.lt_of_lt_of_le h1 hS.1)).trans (hS.2.1 q h1 h2)⟩) hS.2.2 (Nat.le_of_ble_eq_true rfl) (Nat.le_of_ble_eq_true rfl)
  · rw [if_neg c_199] at ev_198
    subst ev_198
    refine lv_astore_nN (lv' := [(3, .null), (0, .ref (a_x a)), (1, .int (q)), (2, .int (wh))]) hx hb d_X_look_5 rfl hl (by decide) rfl (fun ls hl => ?_)
    refine lv_aload_nN hx hb d_X_look_6 rfl (lv_at hl 0 rfl) ?_
    refine lv_ifnonnullN hx hb d_X_look_7 ?_
    obtain ⟨sa9, hz9⟩ := hE.2.2.2 (175, "no such debt") (by decide)
    exact vx_throwS (own := R_X) (cls := "java/lang/IndexOutOfBoundsException") (names := ["java/lang/RuntimeException", "java/lang/Exception"]) hx hb hl9 hown (by decide +kernel) (by decide +kernel) (hts (.classLink R_X 173 "java/lang/IndexOutOfBoundsException") (List.mem_cons_of_mem _ mB_390)) (hts (.initialized "java/lang/IndexOutOfBoundsException") (List.mem_cons_of_mem _ mB_26)) hz9 (vx_hat (B := badL) (fun w hw => hts w ((by decide +kernel : ∀ w ∈ (vx_atS R_X 177 "java/lang/IndexOutOfBoundsException" ["java/lang/RuntimeException", "java/lang/Exception"]).filter goodWord, w ∈ w_X_look) w hw)) (by decide +kernel) (fun w hw => bad_use hw (hE.2.2.1 w hw))) (by decide +kernel) hE.1 hE.2.1 hS (hl.1.trans hml.symm) d_X_look_10 d_X_look_13 d_X_look_14 d_X_look_16 d_X_look_19 (fun x hx => (hEx x hx).elim) (Nat.le_of_ble_eq_true rfl) (Nat.le_of_ble_eq_true rfl) (Nat.le_of_ble_eq_true rfl) (Nat.le_of_ble_eq_true rfl) hlocks (fun t ha hsz hk => ⟨(), trivial, ⟨⟨0, rfl, by rw [f_look, if_neg c_199]; rfl⟩, hP.kept (fun k q hq => hk q.1 (hP k q hq).lt)⟩, Nat.le_trans hS.1 hsz, fun q h1 h2 => (hk q (Nat.lt_of_lt_of_le h1 hS.1)).trans (hS.2.1 q h1 h2)⟩) hS.2.2 (Nat.le_of_ble_eq_true rfl) (Nat.le_of_ble_eq_true rfl)
def f_rate (z : XT) (fr : Int32) (up : Int32) (dn : Int32) : Int32 × Int32 × XT :=
  if dn = 0 then (1, 0, z)
  else if fr ≤ x_today z then (2, 0, z)
    else if fr < (f_R_latestDay (x_rates z)) then (2, 0, z)
      else if fr ≤ 100000 then (if dn < 0 then (2, 0, z)
          else if 1000 < dn then (2, 0, z)
            else if up < 0 then (2, 0, z)
              else if up ≤ dn then (if r_count (x_rates z) < 20 then (0, r_count ((f_R_append (x_rates z) (fr) (up) (dn))), y_rates (z) (f_R_append (x_rates z) (fr) (up) (dn)))
                  else (3, 0, z))
                else (2, 0, z))
        else (2, 0, z)
set_option maxHeartbeats 4000000 in
set_option maxRecDepth 100000 in
theorem c_rate (l : Launch) (hl9 : l.stackTraces = false) (D : va_G) (A : Nat → Prop) (w : va_W) (cI cL cD : ClassId) (b : Nat) (a : AD) (z : XT) (fr : Int32) (up : Int32) (dn : Int32) (hC0 : cA w b cI cL cD a z) : vx_Met l y_X_rate w_X_rate ({ frames := 6, cells := 1, slots := 6, locals := 90 }) (ePc D w (tyL cI cL cD) A [.ref (a_x a), .int (fr), .int (up), .int (dn)]) (va_Qi (fun z9 (_ : Unit) => (f_rate z fr up dn).1 = 0 ∧ z9 = (f_rate z fr up dn).2.1) (fun (_ : Unit) t => ∃ w9 : va_W, va_P D vwCl w9 t.heap ∧ va_D A w9 ∧ cAt w9 b cI cL cD (a_x a) ((f_rate z fr up dn).2.2) ∧ ∀ j, j < b → w9[j]? = w[j]?) A) (vx_X (fun _ : Unit => True) (fun E9 _ t => exN ["java/lang/ArithmeticException", "java/lang/IllegalArgumentException", "java/lang/IllegalStateException"] (f_rate z fr up dn).1 E9 ∧ va_P D vwCl w t.heap) A) 1 6 A := by
  refine vx_ofW (cc := b_X_rate) (maxL := 4) (ret := (some .int)) (by decide) rfl ?_
  intro p e s m args below meth c s₁ B hml hEx hv
  obtain ⟨rfl, hP, hK, hD, hE⟩ := hv
  have hx := B.exec
  have hb := B.bytes
  have hr := B.returns
  have hts := atoms_spec (ws := w_X_rate) B.pre
  have hown : s.vm.findClass R_X = some m.cls := findClass_of_methodNamed B.named
  have hlocks := B.notSynchronized
  have hS : va_S A s.heap s.heap [] := va_S.rf
  have hC : cUpd w w b cI cL cD a z := cUpd.rf hC0
  have hl := lv_entry ([.ref (a_x a), .int (fr), .int (up), .int (dn)]) (n := 4) (Nat.le_of_ble_eq_true rfl)
  rw [lg_entry_eq]
  generalize (lg_sl ([.ref (a_x a), .int (fr), .int (up), .int (dn)]) ++ List.replicate (4 - (lg_sl ([.ref (a_x a), .int (fr), .int (up), .int (dn)])).length) Slot.unset).toArray = ls at hl ⊢
  have hl : lv_has ls 4 [(0, .ref (a_x a)), (1, .int (fr)), (2, .int (up)), (3, .int (dn))] := hl
  refine lv_iload_n hx hb d_X_rate_0 rfl (lv_at hl 3 rfl) ?_
  refine lv_if_ne (tgt := 14) hx hb d_X_rate_1 (by decide) (fun c_208 => ?_) (fun c_208 => ?_)
  · refine lv_iload_n hx hb d_X_rate_14 rfl (lv_at hl 1 rfl) ?_
    refine lv_aload_n hx hb d_X_rate_15 rfl (lv_at hl 0 rfl) ?_
    refine va_get (D := D) (ci := 2) (v := .int (x_today z)) (C := R_X) (T := F_X) (N := 5) hx hb hts (in_X _) hown hK hP b hC.1.x rfl 4 (by decide) (hts (.fieldLink R_X 30 "DebtRows" "today" "I") (List.mem_cons_of_mem _ mB_57)) (fun _ h9 => h9) rfl d_X_rate_16 ?_
    refine lv_icmp_le (tgt := 39) hx hb d_X_rate_19 (by decide) (fun c_209 => ?_) (fun c_209 => ?_)
    · obtain ⟨sa9, hz9⟩ := hE.2.2.2 (47, "no such day for a rate") (by decide)
      exact vx_throwS (own := R_X) (cls := "java/lang/IllegalArgumentException") (names := ["java/lang/RuntimeException", "java/lang/Exception"]) hx hb hl9 hown (by decide +kernel) (by decide +kernel) (hts (.classLink R_X 45 "java/lang/IllegalArgumentException") (List.mem_cons_of_mem _ mB_161)) (hts (.initialized "java/lang/IllegalArgumentException") (List.mem_cons_of_mem _ mB_22)) hz9 (vx_hat (B := badL) (fun w hw => hts w ((by decide +kernel : ∀ w ∈ (vx_atS R_X 49 "java/lang/IllegalArgumentException" ["java/lang/RuntimeException", "java/lang/Exception"]).filter goodWord, w ∈ w_X_rate) w hw)) (by decide +kernel) (fun w hw => bad_use hw (hE.2.2.1 w hw))) (by decide +kernel) hE.1 hE.2.1 hS (hl.1.trans hml.symm) d_X_rate_39 d_X_rate_42 d_X_rate_43 d_X_rate_45 d_X_rate_48 (fun x hx => (hEx x hx).elim) (Nat.le_of_ble_eq_true rfl) (Nat.le_of_ble_eq_true rfl) (Nat.le_of_ble_eq_true rfl) (Nat.le_of_ble_eq_true rfl) hlocks (fun t ha hsz hk => ⟨(), trivial, ⟨⟨1, rfl, by rw [f_rate, if_neg c_208, if_pos c_209]; rfl⟩, hP.kept (fun k q hq => hk q.1 (hP k q hq).lt)⟩, Nat.le_trans hS.1 hsz, fun q h1 h2 => (hk q (Nat.lt_of_lt_of_le h1 hS.1)).trans (hS.2.1 q h1 h2)⟩) hS.2.2 (Nat.le_of_ble_eq_true rfl) (Nat.le_of_ble_eq_true rfl)
    · refine lv_iload_n hx hb d_X_rate_22 rfl (lv_at hl 1 rfl) ?_
      refine lv_aload_n hx hb d_X_rate_23 rfl (lv_at hl 0 rfl) ?_
      refine va_get (D := D) (ci := 2) (v := .ref (a_r0 a)) (C := R_X) (T := F_X) (N := 5) hx hb hts (in_X _) hown hK hP b hC.1.x rfl 0 (by decide) (hts (.fieldLink R_X 10 "DebtRows" "rates" "LDebtRows$Rates;") (List.mem_cons_of_mem _ mB_53)) (fun _ h9 => h9) rfl d_X_rate_24 ?_
      refine vp_callSi (W.runV (As := []) (rest := [.int (fr)]) ⟨hx, hb, hml, hown, hts⟩ (c_R_latestDay l D A w cI cL cD (b + 1) (a_r0 a) (a_fr a) (a_up a) (a_dn a) (x_rates z) hC.1.r hC.1.wr) (cwV 0 hts (gV _ mB_156 mB_157 mB_158 mB_16 mB_159) rfl rfl rfl (by decide +kernel) ⟨(Nat.le_of_ble_eq_true rfl), (Nat.le_of_ble_eq_true rfl)⟩) ⟨mPc_bl, va_recv hK hP (ci := 1) (q0 := (b + 1)) rfl hC.1.r.1, mPc_pr hP hK hD⟩ rfl rfl hl.1 rfl (lv_room (Nat.le_of_ble_eq_true rfl)) d_X_rate_27 ⟨(Nat.le_of_ble_eq_true rfl), (Nat.le_of_ble_eq_true rfl)⟩) (fun v_210 ev_210 => ?_)
      subst ev_210
      refine lv_icmp_lt (tgt := 39) hx hb d_X_rate_30 (by decide) (fun c_211 => ?_) (fun c_211 => ?_)
      · obtain ⟨sa9, hz9⟩ := hE.2.2.2 (47, "no such day for a rate") (by decide)
        exact vx_throwS (own := R_X) (cls := "java/lang/IllegalArgumentException") (names := ["java/lang/RuntimeException", "java/lang/Exception"]) hx hb hl9 hown (by decide +kernel) (by decide +kernel) (hts (.classLink R_X 45 "java/lang/IllegalArgumentException") (List.mem_cons_of_mem _ mB_161)) (hts (.initialized "java/lang/IllegalArgumentException") (List.mem_cons_of_mem _ mB_22)) hz9 (vx_hat (B := badL) (fun w hw => hts w ((by decide +kernel : ∀ w ∈ (vx_atS R_X 49 "java/lang/IllegalArgumentException" ["java/lang/RuntimeException", "java/lang/Exception"]).filter goodWord, w ∈ w_X_rate) w hw)) (by decide +kernel) (fun w hw => bad_use hw (hE.2.2.1 w hw))) (by decide +kernel) hE.1 hE.2.1 hS (hl.1.trans hml.symm) d_X_rate_39 d_X_rate_42 d_X_rate_43 d_X_rate_45 d_X_rate_48 (fun x hx => (hEx x hx).elim) (Nat.le_of_ble_eq_true rfl) (Nat.le_of_ble_eq_true rfl) (Nat.le_of_ble_eq_true rfl) (Nat.le_of_ble_eq_true rfl) hlocks (fun t ha hsz hk => ⟨(), trivial, ⟨⟨1, rfl, by rw [f_rate, if_neg c_208, if_neg c_209, if_pos c_211]; rfl⟩, hP.kept (fun k q hq => hk q.1 (hP k q hq).lt)⟩, Nat.le_trans hS.1 hsz, fun q h1 h2 => (hk q (Nat.lt_of_lt_of_le h1 hS.1)).trans (hS.2.1 q h1 h2)⟩) hS.2.2 (Nat.le_of_ble_eq_true rfl) (Nat.le_of_ble_eq_true rfl)
      · refine lv_iload_n hx hb d_X_rate_33 rfl (lv_at hl 1 rfl) ?_
        refine lv_ldc (own := R_X) (index := 44) (v := 100000) hx hb hown (hts (.constant R_X 44 (100000)) (List.mem_cons_of_mem _ mB_160)) d_X_rate_34 ?_
        refine lv_icmp_le (tgt := 49) hx hb d_X_rate_36 (by decide) (fun c_212 => ?_) (fun c_212 => ?_)
        · refine lv_iload_n hx hb d_X_rate_49 rfl (lv_at hl 3 rfl) ?_
          refine lv_if_lt (tgt := 69) hx hb d_X_rate_50 (by decide) (fun c_213 => ?_) (fun c_213 => ?_)
          · obtain ⟨sa9, hz9⟩ := hE.2.2.2 (50, "no such rate") (by decide)
            exact vx_throwS (own := R_X) (cls := "java/lang/IllegalArgumentException") (names := ["java/lang/RuntimeException", "java/lang/Exception"]) hx hb hl9 hown (by decide +kernel) (by decide +kernel) (hts (.classLink R_X 45 "java/lang/IllegalArgumentException") (List.mem_cons_of_mem _ mB_161)) (hts (.initialized "java/lang/IllegalArgumentException") (List.mem_cons_of_mem _ mB_22)) hz9 (vx_hat (B := badL) (fun w hw => hts w ((by decide +kernel : ∀ w ∈ (vx_atS R_X 49 "java/lang/IllegalArgumentException" ["java/lang/RuntimeException", "java/lang/Exception"]).filter goodWord, w ∈ w_X_rate) w hw)) (by decide +kernel) (fun w hw => bad_use hw (hE.2.2.1 w hw))) (by decide +kernel) hE.1 hE.2.1 hS (hl.1.trans hml.symm) d_X_rate_69 d_X_rate_72 d_X_rate_73 d_X_rate_75 d_X_rate_78 (fun x hx => (hEx x hx).elim) (Nat.le_of_ble_eq_true rfl) (Nat.le_of_ble_eq_true rfl) (Nat.le_of_ble_eq_true rfl) (Nat.le_of_ble_eq_true rfl) hlocks (fun t ha hsz hk => ⟨(), trivial, ⟨⟨1, rfl, by rw [f_rate, if_neg c_208, if_neg c_209, if_neg c_211, if_pos c_212, if_pos c_213]; rfl⟩, hP.kept (fun k q hq => hk q.1 (hP k q hq).lt)⟩, Nat.le_trans hS.1 hsz, fun q h1 h2 => (hk q (Nat.lt_of_lt_of_le h1 hS.1)).trans (hS.2.1 q h1 h2)⟩) hS.2.2 (Nat.le_of_ble_eq_true rfl) (Nat.le_of_ble_eq_true rfl)
          · refine lv_iload_n hx hb d_X_rate_53 rfl (lv_at hl 3 rfl) ?_
            refine lv_sipush (v := 1000) hx hb d_X_rate_54 (by decide) ?_
            refine lv_icmp_gt (tgt := 69) hx hb d_X_rate_57 (by decide) (fun c_214 => ?_) (fun c_214 => ?_)
            · obtain ⟨sa9, hz9⟩ := hE.2.2.2 (50, "no such rate") (by decide)
              exact vx_throwS (own := R_X) (cls := "java/lang/IllegalArgumentException") (names := ["java/lang/RuntimeException", "java/lang/Exception"]) hx hb hl9 hown (by decide +kernel) (by decide +kernel) (hts (.classLink R_X 45 "java/lang/IllegalArgumentException") (List.mem_cons_of_mem _ mB_161)) (hts (.initialized "java/lang/IllegalArgumentException") (List.mem_cons_of_mem _ mB_22)) hz9 (vx_hat (B := badL) (fun w hw => hts w ((by decide +kernel : ∀ w ∈ (vx_atS R_X 49 "java/lang/IllegalArgumentException" ["java/lang/RuntimeException", "java/lang/Exception"]).filter goodWord, w ∈ w_X_rate) w hw)) (by decide +kernel) (fun w hw => bad_use hw (hE.2.2.1 w hw))) (by decide +kernel) hE.1 hE.2.1 hS (hl.1.trans hml.symm) d_X_rate_69 d_X_rate_72 d_X_rate_73 d_X_rate_75 d_X_rate_78 (fun x hx => (hEx x hx).elim) (Nat.le_of_ble_eq_true rfl) (Nat.le_of_ble_eq_true rfl) (Nat.le_of_ble_eq_true rfl) (Nat.le_of_ble_eq_true rfl) hlocks (fun t ha hsz hk => ⟨(), trivial, ⟨⟨1, rfl, by rw [f_rate, if_neg c_208, if_neg c_209, if_neg c_211, if_pos c_212, if_neg c_213, if_pos c_214]; rfl⟩, hP.kept (fun k q hq => hk q.1 (hP k q hq).lt)⟩, Nat.le_trans hS.1 hsz, fun q h1 h2 => (hk q (Nat.lt_of_lt_of_le h1 hS.1)).trans (hS.2.1 q h1 h2)⟩) hS.2.2 (Nat.le_of_ble_eq_true rfl) (Nat.le_of_ble_eq_true rfl)
            · refine lv_iload_n hx hb d_X_rate_60 rfl (lv_at hl 2 rfl) ?_
              refine lv_if_lt (tgt := 69) hx hb d_X_rate_61 (by decide) (fun c_215 => ?_) (fun c_215 => ?_)
              · obtain ⟨sa9, hz9⟩ := hE.2.2.2 (50, "no such rate") (by decide)
                exact vx_throwS (own := R_X) (cls := "java/lang/IllegalArgumentException") (names := ["java/lang/RuntimeException", "java/lang/Exception"]) hx hb hl9 hown (by decide +kernel) (by decide +kernel) (hts (.classLink R_X 45 "java/lang/IllegalArgumentException") (List.mem_cons_of_mem _ mB_161)) (hts (.initialized "java/lang/IllegalArgumentException") (List.mem_cons_of_mem _ mB_22)) hz9 (vx_hat (B := badL) (fun w hw => hts w ((by decide +kernel : ∀ w ∈ (vx_atS R_X 49 "java/lang/IllegalArgumentException" ["java/lang/RuntimeException", "java/lang/Exception"]).filter goodWord, w ∈ w_X_rate) w hw)) (by decide +kernel) (fun w hw => bad_use hw (hE.2.2.1 w hw))) (by decide +kernel) hE.1 hE.2.1 hS (hl.1.trans hml.symm) d_X_rate_69 d_X_rate_72 d_X_rate_73 d_X_rate_75 d_X_rate_78 (fun x hx => (hEx x hx).elim) (Nat.le_of_ble_eq_true rfl) (Nat.le_of_ble_eq_true rfl) (Nat.le_of_ble_eq_true rfl) (Nat.le_of_ble_eq_true rfl) hlocks (fun t ha hsz hk => ⟨(), trivial, ⟨⟨1, rfl, by rw [f_rate, if_neg c_208, if_neg c_209, if_neg c_211, if_pos c_212, if_neg c_213, if_neg c_214, if_pos c_215]; rfl⟩, hP.kept (fun k q hq => hk q.1 (hP k q hq).lt)⟩, Nat.le_trans hS.1 hsz, fun q h1 h2 => (hk q (Nat.lt_of_lt_of_le h1 hS.1)).trans (hS.2.1 q h1 h2)⟩) hS.2.2 (Nat.le_of_ble_eq_true rfl) (Nat.le_of_ble_eq_true rfl)
              · refine lv_iload_n hx hb d_X_rate_64 rfl (lv_at hl 2 rfl) ?_
                refine lv_iload_n hx hb d_X_rate_65 rfl (lv_at hl 3 rfl) ?_
                refine lv_icmp_le (tgt := 79) hx hb d_X_rate_66 (by decide) (fun c_216 => ?_) (fun c_216 => ?_)
                · refine lv_aload_n hx hb d_X_rate_79 rfl (lv_at hl 0 rfl) ?_
                  refine va_get (D := D) (ci := 2) (v := .ref (a_r0 a)) (C := R_X) (T := F_X) (N := 5) hx hb hts (in_X _) hown hK hP b hC.1.x rfl 0 (by decide) (hts (.fieldLink R_X 10 "DebtRows" "rates" "LDebtRows$Rates;") (List.mem_cons_of_mem _ mB_53)) (fun _ h9 => h9) rfl d_X_rate_80 ?_
                  refine va_get (D := D) (ci := 1) (v := .int (r_count (x_rates z))) (C := R_S) (T := F_S) (N := 4) hx hb hts (in_S _) hown hK hP (b + 1) hC.1.r.1 rfl 3 (by decide) (hts (.fieldLink R_X 52 "DebtRows$Rates" "count" "I") (List.mem_cons_of_mem _ mB_45)) (fun _ h9 => h9) rfl d_X_rate_83 ?_
                  refine lv_bipush (v := 20) hx hb d_X_rate_86 (by decide) ?_
                  refine lv_icmp_lt (tgt := 101) hx hb d_X_rate_88 (by decide) (fun c_217 => ?_) (fun c_217 => ?_)
                  · refine lv_aload_n hx hb d_X_rate_101 rfl (lv_at hl 0 rfl) ?_
                    refine va_get (D := D) (ci := 2) (v := .ref (a_r0 a)) (C := R_X) (T := F_X) (N := 5) hx hb hts (in_X _) hown hK hP b hC.1.x rfl 0 (by decide) (hts (.fieldLink R_X 10 "DebtRows" "rates" "LDebtRows$Rates;") (List.mem_cons_of_mem _ mB_53)) (fun _ h9 => h9) rfl d_X_rate_102 ?_
                    refine lv_iload_n hx hb d_X_rate_105 rfl (lv_at hl 1 rfl) ?_
                    refine lv_iload_n hx hb d_X_rate_106 rfl (lv_at hl 2 rfl) ?_
                    refine lv_iload_n hx hb d_X_rate_107 rfl (lv_at hl 3 rfl) ?_
                    refine va_callv (va_runV (As := [.int (fr), .int (up), .int (dn)]) (rest := []) ⟨hx, hb, hml, hown, hts⟩ (c_R_append l D A w cI cL cD (b + 1) (a_r0 a) (a_fr a) (a_up a) (a_dn a) (x_rates z) (fr) (up) (dn) hC.1.r hC.1.wr) (cwV 3 hts (gV _ mB_189 mB_190 mB_191 mB_16 mB_192) rfl rfl rfl (by decide +kernel) ⟨(Nat.le_of_ble_eq_true rfl), (Nat.le_of_ble_eq_true rfl)⟩) ⟨mPc_bl, va_recv hK hP (ci := 1) (q0 := (b + 1)) rfl hC.1.r.1, mPc_pr hP hK hD⟩ rfl rfl hl.1 rfl (lv_room (Nat.le_of_ble_eq_true rfl)) d_X_rate_108 ⟨(Nat.le_of_ble_eq_true rfl), (Nat.le_of_ble_eq_true rfl)⟩) hS (fun _ _ h => h) (fun _ h => h) (fun u9 t H locs ht hvm ev_218 hB hz1 hk1 hS => ?_)
                    obtain ⟨w_219, hP, hD, hU1⟩ := hB
                    rw [ht] at hP
                    have hC := hC.r hU1 (wf_append hC.1.wr)
                    refine lv_aload_n hx hb d_X_rate_111 rfl (lv_at hl 0 rfl) ?_
                    refine va_get (D := D) (ci := 2) (v := .ref (a_r0 a)) (C := R_X) (T := F_X) (N := 5) hx hb hts (in_X _) hown hK hP b hC.1.x rfl 0 (by decide) (hts (.fieldLink R_X 10 "DebtRows" "rates" "LDebtRows$Rates;") (List.mem_cons_of_mem _ mB_53)) (fun _ h9 => h9) rfl d_X_rate_112 ?_
                    refine va_get (D := D) (ci := 1) (v := .int (r_count ((f_R_append (x_rates z) (fr) (up) (dn))))) (C := R_S) (T := F_S) (N := 4) hx hb hts (in_S _) hown hK hP (b + 1) hC.1.r.1 rfl 3 (by decide) (hts (.fieldLink R_X 52 "DebtRows$Rates" "count" "I") (List.mem_cons_of_mem _ mB_45)) (fun _ h9 => h9) rfl d_X_rate_115 ?_
                    refine vx_ret (W.widen (k := 1) (n := 6) (Nat.le_of_ble_eq_true rfl) (Nat.le_of_ble_eq_true rfl) ?_)
                    exact W.iret (v := r_count ((f_R_append (x_rates z) (fr) (up) (dn)))) hx hb hr (fun t ht hW => ⟨⟨_, (), rfl, ⟨by rw [f_rate, if_neg c_208, if_neg c_209, if_neg c_211, if_pos c_212, if_neg c_213, if_neg c_214, if_neg c_215, if_pos c_216, if_pos c_217], by rw [f_rate, if_neg c_208, if_neg c_209, if_neg c_211, if_pos c_212, if_neg c_213, if_neg c_214, if_neg c_215, if_pos c_216, if_pos c_217]⟩, w_219, by rw [ht]; exact hP, hD, by rw [f_rate, if_neg c_208, if_neg c_209, if_neg c_211, if_pos c_212, if_neg c_213, if_neg c_214, if_neg c_215, if_pos c_216, if_pos c_217]; exact hC.at, hC.2⟩, hS.F ht⟩) hS.2.2 d_X_rate_118
                  · obtain ⟨sa9, hz9⟩ := hE.2.2.2 (57, "no more rates") (by decide)
                    exact vx_throwS (own := R_X) (cls := "java/lang/IllegalStateException") (names := ["java/lang/RuntimeException", "java/lang/Exception"]) hx hb hl9 hown (by decide +kernel) (by decide +kernel) (hts (.classLink R_X 55 "java/lang/IllegalStateException") (List.mem_cons_of_mem _ mB_175)) (hts (.initialized "java/lang/IllegalStateException") (List.mem_cons_of_mem _ mB_23)) hz9 (vx_hat (B := badL) (fun w hw => hts w ((by decide +kernel : ∀ w ∈ (vx_atS R_X 59 "java/lang/IllegalStateException" ["java/lang/RuntimeException", "java/lang/Exception"]).filter goodWord, w ∈ w_X_rate) w hw)) (by decide +kernel) (fun w hw => bad_use hw (hE.2.2.1 w hw))) (by decide +kernel) hE.1 hE.2.1 hS (hl.1.trans hml.symm) d_X_rate_91 d_X_rate_94 d_X_rate_95 d_X_rate_97 d_X_rate_100 (fun x hx => (hEx x hx).elim) (Nat.le_of_ble_eq_true rfl) (Nat.le_of_ble_eq_true rfl) (Nat.le_of_ble_eq_true rfl) (Nat.le_of_ble_eq_true rfl) hlocks (fun t ha hsz hk => ⟨(), trivial, ⟨⟨2, rfl, by rw [f_rate, if_neg c_208, if_neg c_209, if_neg c_211, if_pos c_212, if_neg c_213, if_neg c_214, if_neg c_215, if_pos c_216, if_neg c_217]; rfl⟩, hP.kept (fun k q hq => hk q.1 (hP k q hq).lt)⟩, Nat.le_trans hS.1 hsz, fun q h1 h2 => (hk q (Nat.lt_of_lt_of_le h1 hS.1)).trans (hS.2.1 q h1 h2)⟩) hS.2.2 (Nat.le_of_ble_eq_true rfl) (Nat.le_of_ble_eq_true rfl)
                · obtain ⟨sa9, hz9⟩ := hE.2.2.2 (50, "no such rate") (by decide)
                  exact vx_throwS (own := R_X) (cls := "java/lang/IllegalArgumentException") (names := ["java/lang/RuntimeException", "java/lang/Exception"]) hx hb hl9 hown (by decide +kernel) (by decide +kernel) (hts (.classLink R_X 45 "java/lang/IllegalArgumentException") (List.mem_cons_of_mem _ mB_161)) (hts (.initialized "java/lang/IllegalArgumentException") (List.mem_cons_of_mem _ mB_22)) hz9 (vx_hat (B := badL) (fun w hw => hts w ((by decide +kernel : ∀ w ∈ (vx_atS R_X 49 "java/lang/IllegalArgumentException" ["java/lang/RuntimeException", "java/lang/Exception"]).filter goodWord, w ∈ w_X_rate) w hw)) (by decide +kernel) (fun w hw => bad_use hw (hE.2.2.1 w hw))) (by decide +kernel) hE.1 hE.2.1 hS (hl.1.trans hml.symm) d_X_rate_69 d_X_rate_72 d_X_rate_73 d_X_rate_75 d_X_rate_78 (fun x hx => (hEx x hx).elim) (Nat.le_of_ble_eq_true rfl) (Nat.le_of_ble_eq_true rfl) (Nat.le_of_ble_eq_true rfl) (Nat.le_of_ble_eq_true rfl) hlocks (fun t ha hsz hk => ⟨(), trivial, ⟨⟨1, rfl, by rw [f_rate, if_neg c_208, if_neg c_209, if_neg c_211, if_pos c_212, if_neg c_213, if_neg c_214, if_neg c_215, if_neg c_216]; rfl⟩, hP.kept (fun k q hq => hk q.1 (hP k q hq).lt)⟩, Nat.le_trans hS.1 hsz, fun q h1 h2 => (hk q (Nat.lt_of_lt_of_le h1 hS.1)).trans (hS.2.1 q h1 h2)⟩) hS.2.2 (Nat.le_of_ble_eq_true rfl) (Nat.le_of_ble_eq_true rfl)
        · obtain ⟨sa9, hz9⟩ := hE.2.2.2 (47, "no such day for a rate") (by decide)
          exact vx_throwS (own := R_X) (cls := "java/lang/IllegalArgumentException") (names := ["java/lang/RuntimeException", "java/lang/Exception"]) hx hb hl9 hown (by decide +kernel) (by decide +kernel) (hts (.classLink R_X 45 "java/lang/IllegalArgumentException") (List.mem_cons_of_mem _ mB_161)) (hts (.initialized "java/lang/IllegalArgumentException") (List.mem_cons_of_mem _ mB_22)) hz9 (vx_hat (B := badL) (fun w hw => hts w ((by decide +kernel : ∀ w ∈ (vx_atS R_X 49 "java/lang/IllegalArgumentException" ["java/lang/RuntimeException", "java/lang/Exception"]).filter goodWord, w ∈ w_X_rate) w hw)) (by decide +kernel) (fun w hw => bad_use hw (hE.2.2.1 w hw))) (by decide +kernel) hE.1 hE.2.1 hS (hl.1.trans hml.symm) d_X_rate_39 d_X_rate_42 d_X_rate_43 d_X_rate_45 d_X_rate_48 (fun x hx => (hEx x hx).elim) (Nat.le_of_ble_eq_true rfl) (Nat.le_of_ble_eq_true rfl) (Nat.le_of_ble_eq_true rfl) (Nat.le_of_ble_eq_true rfl) hlocks (fun t ha hsz hk => ⟨(), trivial, ⟨⟨1, rfl, by rw [f_rate, if_neg c_208, if_neg c_209, if_neg c_211, if_neg c_212]; rfl⟩, hP.kept (fun k q hq => hk q.1 (hP k q hq).lt)⟩, Nat.le_trans hS.1 hsz, fun q h1 h2 => (hk q (Nat.lt_of_lt_of_le h1 hS.1)).trans (hS.2.1 q h1 h2)⟩) hS.2.2 (Nat.le_of_ble_eq_true rfl) (Nat.le_of_ble_eq_true rfl)
  · obtain ⟨sa9, hz9⟩ := hE.2.2.2 (35, "down is 0") (by decide)
    exact vx_throwS (own := R_X) (cls := "java/lang/ArithmeticException") (names := ["java/lang/RuntimeException", "java/lang/Exception"]) hx hb hl9 hown (by decide +kernel) (by decide +kernel) (hts (.classLink R_X 33 "java/lang/ArithmeticException") (List.mem_cons_of_mem _ mB_104)) (hts (.initialized "java/lang/ArithmeticException") (List.mem_cons_of_mem _ mB_21)) hz9 (vx_hat (B := badL) (fun w hw => hts w ((by decide +kernel : ∀ w ∈ (vx_atS R_X 37 "java/lang/ArithmeticException" ["java/lang/RuntimeException", "java/lang/Exception"]).filter goodWord, w ∈ w_X_rate) w hw)) (by decide +kernel) (fun w hw => bad_use hw (hE.2.2.1 w hw))) (by decide +kernel) hE.1 hE.2.1 hS (hl.1.trans hml.symm) d_X_rate_4 d_X_rate_7 d_X_rate_8 d_X_rate_10 d_X_rate_13 (fun x hx => (hEx x hx).elim) (Nat.le_of_ble_eq_true rfl) (Nat.le_of_ble_eq_true rfl) (Nat.le_of_ble_eq_true rfl) (Nat.le_of_ble_eq_true rfl) hlocks (fun t ha hsz hk => ⟨(), trivial, ⟨⟨0, rfl, by rw [f_rate, if_pos c_208]; rfl⟩, hP.kept (fun k q hq => hk q.1 (hP k q hq).lt)⟩, Nat.le_trans hS.1 hsz, fun q h1 h2 => (hk q (Nat.lt_of_lt_of_le h1 hS.1)).trans (hS.2.1 q h1 h2)⟩) hS.2.2 (Nat.le_of_ble_eq_true rfl) (Nat.le_of_ble_eq_true rfl)
def tkL (day : Int32) : Nat → Nat → Int32 → XT → Int32 × XT
  | _, 0, t, z => (t, z)
  | i, n + 1, t, z => if (f_endsBy (x_debts z i) (day)).1 = 0 then tkL day (i + 1) n t (y_debt z i (f_endsBy (x_debts z i) (day)).2) else tkL day (i + 1) n (t + 1) (y_debt z i (f_endsBy (x_debts z i) (day)).2)
def f_tick (z : XT) (day : Int32) : Int32 × Int32 × XT :=
  if day < x_today z then (1, 0, z)
  else if day ≤ 100000 then (0, (tkL day 0 (x_cnt z).toNatClampNeg 0 (y_today (z) (day))).1, (tkL day 0 (x_cnt z).toNatClampNeg 0 (y_today (z) (day))).2)
    else (1, 0, z)
set_option maxHeartbeats 4000000 in
set_option maxRecDepth 100000 in
theorem c_tick (l : Launch) (hl9 : l.stackTraces = false) (D : va_G) (A : Nat → Prop) (w : va_W) (cI cL cD : ClassId) (b : Nat) (a : AD) (z : XT) (day : Int32) (hC0 : cA w b cI cL cD a z) : vx_Met l y_X_tick w_X_tick ({ frames := 6, cells := 1, slots := 6, locals := 90 }) (ePc D w (tyL cI cL cD) A [.ref (a_x a), .int (day)]) (va_Qi (fun z9 (_ : Unit) => (f_tick z day).1 = 0 ∧ z9 = (f_tick z day).2.1) (fun (_ : Unit) t => ∃ w9 : va_W, va_P D vwCl w9 t.heap ∧ va_D A w9 ∧ cAt w9 b cI cL cD (a_x a) ((f_tick z day).2.2) ∧ ∀ j, j < b → w9[j]? = w[j]?) A) (vx_X (fun _ : Unit => True) (fun E9 _ t => exN ["java/lang/IllegalArgumentException"] (f_tick z day).1 E9 ∧ va_P D vwCl w t.heap) A) 1 6 A := by
  refine vx_ofW (cc := b_X_tick) (maxL := 5) (ret := (some .int)) (by decide) rfl ?_
  intro p e s m args below meth c s₁ B hml hEx hv
  obtain ⟨rfl, hP, hK, hD, hE⟩ := hv
  have hx := B.exec
  have hb := B.bytes
  have hr := B.returns
  have hts := atoms_spec (ws := w_X_tick) B.pre
  have hown : s.vm.findClass R_X = some m.cls := findClass_of_methodNamed B.named
  have hlocks := B.notSynchronized
  have hS : va_S A s.heap s.heap [] := va_S.rf
  have hC : cUpd w w b cI cL cD a z := cUpd.rf hC0
  have hl := lv_entry ([.ref (a_x a), .int (day)]) (n := 5) (Nat.le_of_ble_eq_true rfl)
  rw [lg_entry_eq]
  generalize (lg_sl ([.ref (a_x a), .int (day)]) ++ List.replicate (5 - (lg_sl ([.ref (a_x a), .int (day)])).length) Slot.unset).toArray = ls at hl ⊢
  have hl : lv_has ls 5 [(0, .ref (a_x a)), (1, .int (day))] := hl
  refine lv_iload_n hx hb d_X_tick_0 rfl (lv_at hl 1 rfl) ?_
  refine lv_aload_n hx hb d_X_tick_1 rfl (lv_at hl 0 rfl) ?_
  refine va_get (D := D) (ci := 2) (v := .int (x_today z)) (C := R_X) (T := F_X) (N := 5) hx hb hts (in_X _) hown hK hP b hC.1.x rfl 4 (by decide) (hts (.fieldLink R_X 30 "DebtRows" "today" "I") (List.mem_cons_of_mem _ mB_57)) (fun _ h9 => h9) rfl d_X_tick_2 ?_
  refine lv_icmp_lt (tgt := 14) hx hb d_X_tick_5 (by decide) (fun c_220 => ?_) (fun c_220 => ?_)
  · obtain ⟨sa9, hz9⟩ := hE.2.2.2 (135, "no such day") (by decide)
    exact vx_throwS (own := R_X) (cls := "java/lang/IllegalArgumentException") (names := ["java/lang/RuntimeException", "java/lang/Exception"]) hx hb hl9 hown (by decide +kernel) (by decide +kernel) (hts (.classLink R_X 45 "java/lang/IllegalArgumentException") (List.mem_cons_of_mem _ mB_161)) (hts (.initialized "java/lang/IllegalArgumentException") (List.mem_cons_of_mem _ mB_22)) hz9 (vx_hat (B := badL) (fun w hw => hts w ((by decide +kernel : ∀ w ∈ (vx_atS R_X 49 "java/lang/IllegalArgumentException" ["java/lang/RuntimeException", "java/lang/Exception"]).filter goodWord, w ∈ w_X_tick) w hw)) (by decide +kernel) (fun w hw => bad_use hw (hE.2.2.1 w hw))) (by decide +kernel) hE.1 hE.2.1 hS (hl.1.trans hml.symm) d_X_tick_14 d_X_tick_17 d_X_tick_18 d_X_tick_20 d_X_tick_23 (fun x hx => (hEx x hx).elim) (Nat.le_of_ble_eq_true rfl) (Nat.le_of_ble_eq_true rfl) (Nat.le_of_ble_eq_true rfl) (Nat.le_of_ble_eq_true rfl) hlocks (fun t ha hsz hk => ⟨(), trivial, ⟨⟨0, rfl, by rw [f_tick, if_pos c_220]; rfl⟩, hP.kept (fun k q hq => hk q.1 (hP k q hq).lt)⟩, Nat.le_trans hS.1 hsz, fun q h1 h2 => (hk q (Nat.lt_of_lt_of_le h1 hS.1)).trans (hS.2.1 q h1 h2)⟩) hS.2.2 (Nat.le_of_ble_eq_true rfl) (Nat.le_of_ble_eq_true rfl)
  · refine lv_iload_n hx hb d_X_tick_8 rfl (lv_at hl 1 rfl) ?_
    refine lv_ldc (own := R_X) (index := 44) (v := 100000) hx hb hown (hts (.constant R_X 44 (100000)) (List.mem_cons_of_mem _ mB_160)) d_X_tick_9 ?_
    refine lv_icmp_le (tgt := 24) hx hb d_X_tick_11 (by decide) (fun c_221 => ?_) (fun c_221 => ?_)
    · refine lv_aload_n hx hb d_X_tick_24 rfl (lv_at hl 0 rfl) ?_
      refine lv_iload_n hx hb d_X_tick_25 rfl (lv_at hl 1 rfl) ?_
      refine va_put (D := D) (ci := 2) (v := .int (day)) (ty := .int) (C := R_X) (T := F_X) (N := 5) hx hb hts (in_X _) t_X to_X nn_X hown hK hP hD hS b hC.1.x rfl 4 (by decide) (hts (.fieldLink R_X 30 "DebtRows" "today" "I") (List.mem_cons_of_mem _ mB_57)) (fun _ h9 => h9) rfl (by decide +kernel) rfl rfl (Nat.le_of_ble_eq_true rfl) d_X_tick_26 (fun H locs hP hD hS => ?_)
      have hC := hC.t (day)
      have hP : va_P D vwCl (w.set b (a_x a, xE (a_r0 a) (a_ds a) (a_cr a) (y_today (z) (day)))) H := hP
      have hD : va_D A (w.set b (a_x a, xE (a_r0 a) (a_ds a) (a_cr a) (y_today (z) (day)))) := hD
      generalize w.set b (a_x a, xE (a_r0 a) (a_ds a) (a_cr a) (y_today (z) (day))) = w_222 at hP hD hC
      refine lv_iconst (v := 0) hx hb d_X_tick_29 (by decide) ?_
      refine lv_istore_n (lv' := [(2, .int (0)), (0, .ref (a_x a)), (1, .int (day))]) hx hb d_X_tick_30 rfl hl (by decide) rfl (fun ls hl => ?_)
      refine lv_iconst (v := 0) hx hb d_X_tick_31 (by decide) ?_
      refine lv_istore_n (lv' := [(3, .int (0)), (2, .int (0)), (0, .ref (a_x a)), (1, .int (day))]) hx hb d_X_tick_32 rfl hl (by decide) rfl (fun ls hl => ?_)
      have loop : ∀ (n i : Nat) (t0 : Int32) (z1 : XT), i + n = a_n a → tkL day i n t0 z1 = tkL day 0 (a_n a) 0 (y_today (z) (day)) → ∀ (H : Heap) (locs : List Loc) (w1 : va_W) (ls : Array Slot), va_P D vwCl w1 H → va_D A w1 → va_S A s.heap H locs → cUpd w w1 b cI cL cD a z1 → lv_has ls 5 [(3, .int (nI i)), (2, .int (t0)), (0, .ref (a_x a)), (1, .int (day))] → W p l e (headSpec w_X_tick ({ frames := 6, cells := 1, slots := 6, locals := 90 })).room s m [.ref (a_x a), .int (day)].toArray below meth c H locs 0 0 (vx_MQ below (va_Qi (fun z9 (_ : Unit) => (f_tick z day).1 = 0 ∧ z9 = (f_tick z day).2.1) (fun (_ : Unit) t => ∃ w9 : va_W, va_P D vwCl w9 t.heap ∧ va_D A w9 ∧ cAt w9 b cI cL cD (a_x a) ((f_tick z day).2.2) ∧ ∀ j, j < b → w9[j]? = w[j]?) A) (vx_X (fun _ : Unit => True) (fun E9 _ t => exN ["java/lang/IllegalArgumentException"] (f_tick z day).1 E9 ∧ va_P D vwCl w t.heap) A) [.ref (a_x a), .int (day)].toArray s 1 6 A) (F0 m 33 ls []) := by
        intro n
        induction n with
        | zero =>
          intro i t0 z1 hin hv H locs w1 ls hP hD hS hC hl
          refine lv_iload_n hx hb d_X_tick_33 rfl (lv_at hl 0 rfl) ?_
          refine lv_aload_n hx hb d_X_tick_34 rfl (lv_at hl 2 rfl) ?_
          refine va_get (D := D) (ci := 2) (v := .int (x_cnt z1)) (C := R_X) (T := F_X) (N := 5) hx hb hts (in_X _) hown hK hP b hC.1.x rfl 3 (by decide) (hts (.fieldLink R_X 26 "DebtRows" "debtCount" "I") (List.mem_cons_of_mem _ mB_56)) (fun _ h9 => h9) rfl d_X_tick_35 ?_
          refine lv_icmp_ge (tgt := 72) hx hb d_X_tick_38 (by decide) (fun c_223 => ?_) (fun c_223 => ?_)
          · refine lv_iload_n hx hb d_X_tick_72 rfl (lv_at hl 1 rfl) ?_
            refine vx_ret (W.widen (k := 1) (n := 6) (Nat.le_of_ble_eq_true rfl) (Nat.le_of_ble_eq_true rfl) ?_)
            exact W.iret (v := t0) hx hb hr (fun t ht hW => ⟨⟨_, (), rfl, ⟨by rw [f_tick, if_neg c_220, if_pos c_221], by rw [f_tick, if_neg c_220, if_pos c_221, hC0.en, nI_clamp (by have := hC0.n; omega), ← hv]; rfl⟩, w1, by rw [ht]; exact hP, hD, by rw [f_tick, if_neg c_220, if_pos c_221, hC0.en, nI_clamp (by have := hC0.n; omega), ← hv]; exact hC.at, hC.2⟩, hS.F ht⟩) hS.2.2 d_X_tick_73
          · exact absurd (by rw [hC.1.en]; exact nI_le (by omega) (by have := hC.1.n; omega)) c_223
        | succ n ih =>
          intro i t0 z1 hin hv H locs w1 ls hP hD hS hC hl
          refine lv_iload_n hx hb d_X_tick_33 rfl (lv_at hl 0 rfl) ?_
          refine lv_aload_n hx hb d_X_tick_34 rfl (lv_at hl 2 rfl) ?_
          refine va_get (D := D) (ci := 2) (v := .int (x_cnt z1)) (C := R_X) (T := F_X) (N := 5) hx hb hts (in_X _) hown hK hP b hC.1.x rfl 3 (by decide) (hts (.fieldLink R_X 26 "DebtRows" "debtCount" "I") (List.mem_cons_of_mem _ mB_56)) (fun _ h9 => h9) rfl d_X_tick_35 ?_
          refine lv_icmp_ge (tgt := 72) hx hb d_X_tick_38 (by decide) (fun c_224 => ?_) (fun c_224 => ?_)
          · exact absurd c_224 (by rw [hC.1.en]; exact nI_ge (by omega) (by have := hC.1.n; omega))
          · refine lv_aload_n hx hb d_X_tick_41 rfl (lv_at hl 2 rfl) ?_
            refine va_get (D := D) (ci := 2) (v := .ref (a_ds a)) (C := R_X) (T := F_X) (N := 5) hx hb hts (in_X _) hown hK hP b hC.1.x rfl 1 (by decide) (hts (.fieldLink R_X 18 "DebtRows" "debts" "[LDebtRows$Debt;") (List.mem_cons_of_mem _ mB_54)) (fun _ h9 => h9) rfl d_X_tick_42 ?_
            refine lv_iload_n hx hb d_X_tick_45 rfl (lv_at hl 0 rfl) ?_
            refine va_aldq hx hb hK hP (b + 5) 2 hC.1.ds rfl (vp_in_nI (by have := hC.1.n; omega) (by decide)) d_X_tick_46 ?_
            have hi9 : i < a_n a := by omega
            rw [nI_clamp (by have := hC.1.n; omega), hC.1.g hi9]
            have hU : dUpd w1 w1 (b + 7 + 3 * i) cI cL (a_da a i) (a_pa a i) (a_qa a i) (x_debts z1 i) := dUpd.rf (hC.1.d hi9)
            have hw : wfD (x_debts z1 i) := hC.1.wd hi9
            refine lv_astore (lv' := [(4, .ref (a_da a i)), (3, .int (nI i)), (2, .int (t0)), (0, .ref (a_x a)), (1, .int (day))]) hx hb d_X_tick_47 hl (by decide) rfl (fun ls hl => ?_)
            refine lv_aload hx hb d_X_tick_49 (lv_at hl 0 rfl) ?_
            refine lv_ifnull hx hb d_X_tick_51 ?_
            refine lv_aload hx hb d_X_tick_54 (lv_at hl 0 rfl) ?_
            refine lv_iload_n hx hb d_X_tick_56 rfl (lv_at hl 4 rfl) ?_
            refine va_calli (va_runV (As := [.int (day)]) (rest := []) ⟨hx, hb, hml, hown, hts⟩ (c_endsBy l D A w1 cI cL cD (b + 7 + 3 * i) (a_da a i) (a_pa a i) (a_qa a i) (x_debts z1 i) (day) hU.1 hw) (cwV 1 hts (gV _ mB_345 mB_346 mB_347 mB_24 mB_348) rfl rfl rfl (by decide +kernel) ⟨(Nat.le_of_ble_eq_true rfl), (Nat.le_of_ble_eq_true rfl)⟩) ⟨mPc_bl, va_recv hK hP (ci := 0) (q0 := (b + 7 + 3 * i)) rfl hU.o, mPc_pr hP hK hD⟩ rfl rfl hl.1 rfl (lv_room (Nat.le_of_ble_eq_true rfl)) d_X_tick_57 ⟨(Nat.le_of_ble_eq_true rfl), (Nat.le_of_ble_eq_true rfl)⟩) hS (fun _ _ h => h) (fun _ h => h) (fun v_225 u9 t H locs ht hvm ev_225 hB hz1 hk1 hS => ?_)
            obtain ⟨w_226, hP, hD, hU1⟩ := hB
            rw [ht] at hP
            have hU := hU.tr hU1
            have hw : wfD ((f_endsBy (x_debts z1 i) (day)).2) := wf_endsBy hw
            subst ev_225
            refine lv_if_eq (tgt := 66) hx hb d_X_tick_60 (by decide) (fun c_227 => ?_) (fun c_227 => ?_)
            · refine lv_iinc (v := nI (i + 1)) (lv' := [(3, .int (nI (i + 1))), (4, .ref (a_da a i)), (2, .int (t0)), (0, .ref (a_x a)), (1, .int (day))]) hx hb d_X_tick_66 hl (k := 1) rfl (by first | exact nI_inc i | rfl) (by decide) rfl (fun ls hl => ?_)
              refine lv_goto (tgt := 33) hx hb d_X_tick_69 (by decide) ?_
              have hC := hC.d hi9 hU hw
              exact ih (i + 1) (t0) (y_debt (z1) i (f_endsBy (x_debts z1 i) (day)).2) (by omega) (by rw [← hv, tkL, if_pos c_227]) _ _ w_226 ls hP hD hS hC (lv_sub hl [0, 2, 3, 4] rfl)
            · refine lv_iinc (v := t0 + 1) (lv' := [(2, .int (t0 + 1)), (4, .ref (a_da a i)), (3, .int (nI i)), (0, .ref (a_x a)), (1, .int (day))]) hx hb d_X_tick_63 hl (k := 2) rfl (by first | exact nI_inc i | rfl) (by decide) rfl (fun ls hl => ?_)
              refine lv_iinc (v := nI (i + 1)) (lv' := [(3, .int (nI (i + 1))), (2, .int (t0 + 1)), (4, .ref (a_da a i)), (0, .ref (a_x a)), (1, .int (day))]) hx hb d_X_tick_66 hl (k := 2) rfl (by first | exact nI_inc i | rfl) (by decide) rfl (fun ls hl => ?_)
              refine lv_goto (tgt := 33) hx hb d_X_tick_69 (by decide) ?_
              have hC := hC.d hi9 hU hw
              exact ih (i + 1) (t0 + 1) (y_debt (z1) i (f_endsBy (x_debts z1 i) (day)).2) (by omega) (by rw [← hv, tkL, if_neg c_227]) _ _ w_226 ls hP hD hS hC (lv_sub hl [0, 1, 3, 4] rfl)
      exact loop (a_n a) 0 0 (y_today (z) (day)) (by omega) rfl _ _ w_222 ls hP hD hS hC hl
    · obtain ⟨sa9, hz9⟩ := hE.2.2.2 (135, "no such day") (by decide)
      exact vx_throwS (own := R_X) (cls := "java/lang/IllegalArgumentException") (names := ["java/lang/RuntimeException", "java/lang/Exception"]) hx hb hl9 hown (by decide +kernel) (by decide +kernel) (hts (.classLink R_X 45 "java/lang/IllegalArgumentException") (List.mem_cons_of_mem _ mB_161)) (hts (.initialized "java/lang/IllegalArgumentException") (List.mem_cons_of_mem _ mB_22)) hz9 (vx_hat (B := badL) (fun w hw => hts w ((by decide +kernel : ∀ w ∈ (vx_atS R_X 49 "java/lang/IllegalArgumentException" ["java/lang/RuntimeException", "java/lang/Exception"]).filter goodWord, w ∈ w_X_tick) w hw)) (by decide +kernel) (fun w hw => bad_use hw (hE.2.2.1 w hw))) (by decide +kernel) hE.1 hE.2.1 hS (hl.1.trans hml.symm) d_X_tick_14 d_X_tick_17 d_X_tick_18 d_X_tick_20 d_X_tick_23 (fun x hx => (hEx x hx).elim) (Nat.le_of_ble_eq_true rfl) (Nat.le_of_ble_eq_true rfl) (Nat.le_of_ble_eq_true rfl) (Nat.le_of_ble_eq_true rfl) hlocks (fun t ha hsz hk => ⟨(), trivial, ⟨⟨0, rfl, by rw [f_tick, if_neg c_220, if_neg c_221]; rfl⟩, hP.kept (fun k q hq => hk q.1 (hP k q hq).lt)⟩, Nat.le_trans hS.1 hsz, fun q h1 h2 => (hk q (Nat.lt_of_lt_of_le h1 hS.1)).trans (hS.2.1 q h1 h2)⟩) hS.2.2 (Nat.le_of_ble_eq_true rfl) (Nat.le_of_ble_eq_true rfl)
theorem in_person {x : Int32} (h : ¬ f_isPerson x = 0) : vp_in x 16 := by
  unfold f_isPerson at h
  by_cases h1 : x < 0
  · rw [if_pos h1] at h; exact absurd rfl h
  · rw [if_neg h1] at h
    by_cases h2 : 16 ≤ x
    · rw [if_pos h2] at h; exact absurd rfl h
    · exact vp_lt (m := 16) h1 h2 rfl (by decide) (by decide)
def pyL (who : Int32) : Nat → Nat → Int64 → Int32 → XT → Int64 × Int32 × XT
  | _, 0, l, t, z => (l, t, z)
  | i, n + 1, l, t, z => if l ≤ 0 then (l, t, z)
    else if (f_isPayable (x_debts z i)) = 0 then pyL who (i + 1) n l t z
    else if (f_placeOf (x_debts z i) (who)) = -1 then pyL who (i + 1) n l t z
    else pyL who (i + 1) n (l - (f_take (f_fixInterest (x_debts z i) (x_rates z) (x_today z)) (f_placeOf (f_fixInterest (x_debts z i) (x_rates z) (x_today z)) (who)) (l)).1) (t + 1) (y_debt z i (f_take (f_fixInterest (x_debts z i) (x_rates z) (x_today z)) (f_placeOf (f_fixInterest (x_debts z i) (x_rates z) (x_today z)) (who)) (l)).2)
def f_pay (z : XT) (who : Int32) (cents : Int64) : Int32 × Int32 × XT :=
  if (f_isPerson (who)) = 0 then (1, 0, z)
  else if (f_isSum (cents)) = 0 then (1, 0, z)
    else (0, (pyL who 0 (x_cnt z).toNatClampNeg cents 0 z).2.1, y_credit (pyL who 0 (x_cnt z).toNatClampNeg cents 0 z).2.2 (vp_updL (x_credit (pyL who 0 (x_cnt z).toNatClampNeg cents 0 z).2.2) (who).toNatClampNeg (x_credit (pyL who 0 (x_cnt z).toNatClampNeg cents 0 z).2.2 (who).toNatClampNeg + (pyL who 0 (x_cnt z).toNatClampNeg cents 0 z).1)))
set_option maxHeartbeats 4000000 in
set_option maxRecDepth 100000 in
theorem c_pay (l : Launch) (hl9 : l.stackTraces = false) (D : va_G) (A : Nat → Prop) (w : va_W) (cI cL cD : ClassId) (b : Nat) (a : AD) (z : XT) (who : Int32) (cents : Int64) (hC0 : cA w b cI cL cD a z) : vx_Met l y_X_pay w_X_pay ({ frames := 6, cells := 1, slots := 6, locals := 99 }) (ePc D w (tyL cI cL cD) A [.ref (a_x a), .int (who), .long (cents)]) (va_Qi (fun z9 (_ : Unit) => (f_pay z who cents).1 = 0 ∧ z9 = (f_pay z who cents).2.1) (fun (_ : Unit) t => ∃ w9 : va_W, va_P D vwCl w9 t.heap ∧ va_D A w9 ∧ cAt w9 b cI cL cD (a_x a) ((f_pay z who cents).2.2) ∧ ∀ j, j < b → w9[j]? = w[j]?) A) (vx_X (fun _ : Unit => True) (fun E9 _ t => exN ["java/lang/IllegalArgumentException"] (f_pay z who cents).1 E9 ∧ va_P D vwCl w t.heap) A) 1 6 A := by
  refine vx_ofW (cc := b_X_pay) (maxL := 9) (ret := (some .int)) (by decide) rfl ?_
  intro p e s m args below meth c s₁ B hml hEx hv
  obtain ⟨rfl, hP, hK, hD, hE⟩ := hv
  have hx := B.exec
  have hb := B.bytes
  have hr := B.returns
  have hts := atoms_spec (ws := w_X_pay) B.pre
  have hown : s.vm.findClass R_X = some m.cls := findClass_of_methodNamed B.named
  have hlocks := B.notSynchronized
  have hS : va_S A s.heap s.heap [] := va_S.rf
  have hC : cUpd w w b cI cL cD a z := cUpd.rf hC0
  have hl := lv_entry ([.ref (a_x a), .int (who), .long (cents)]) (n := 9) (Nat.le_of_ble_eq_true rfl)
  rw [lg_entry_eq]
  generalize (lg_sl ([.ref (a_x a), .int (who), .long (cents)]) ++ List.replicate (9 - (lg_sl ([.ref (a_x a), .int (who), .long (cents)])).length) Slot.unset).toArray = ls at hl ⊢
  have hl : lv_has ls 9 [(0, .ref (a_x a)), (1, .int (who)), (2, .long (cents))] := hl
  refine lv_iload_n hx hb d_X_pay_0 rfl (lv_at hl 1 rfl) ?_
  refine vp_callSi (W.runS (As := [.int (who)]) (rest := []) ⟨hx, hb, hml, hown, hts⟩ (c_isPerson l (who)) (cwS 1 hts (gS _ mB_72 mB_73 mB_15 mB_74) rfl rfl rfl (by decide +kernel) ⟨(Nat.le_of_ble_eq_true rfl), (Nat.le_of_ble_eq_true rfl)⟩) ⟨fun _ _ _ _ q => q, fun U _ _ => ⟨rfl, trivial⟩⟩ rfl rfl hl.1 rfl (lv_room (Nat.le_of_ble_eq_true rfl)) d_X_pay_1 ⟨(Nat.le_of_ble_eq_true rfl), (Nat.le_of_ble_eq_true rfl)⟩) (fun v_228 ev_228 => ?_)
  subst ev_228
  refine lv_if_ne (tgt := 17) hx hb d_X_pay_4 (by decide) (fun c_229 => ?_) (fun c_229 => ?_)
  · refine lv_lload_n hx hb d_X_pay_17 rfl (lv_at hl 2 rfl) ?_
    refine vp_callSi (W.runS (As := [.long (cents)]) (rest := []) ⟨hx, hb, hml, hown, hts⟩ (c_isSum l (cents)) (cwS 1 hts (gS _ mB_199 mB_200 mB_15 mB_201) rfl rfl rfl (by decide +kernel) ⟨(Nat.le_of_ble_eq_true rfl), (Nat.le_of_ble_eq_true rfl)⟩) ⟨fun _ _ _ _ q => q, fun U _ _ => ⟨rfl, trivial⟩⟩ rfl rfl hl.1 rfl (lv_room (Nat.le_of_ble_eq_true rfl)) d_X_pay_18 ⟨(Nat.le_of_ble_eq_true rfl), (Nat.le_of_ble_eq_true rfl)⟩) (fun v_230 ev_230 => ?_)
    subst ev_230
    refine lv_if_ne (tgt := 34) hx hb d_X_pay_21 (by decide) (fun c_231 => ?_) (fun c_231 => ?_)
    · refine lv_lload_n hx hb d_X_pay_34 rfl (lv_at hl 2 rfl) ?_
      refine lv_lstore (lv' := [(4, .long (cents)), (0, .ref (a_x a)), (1, .int (who)), (2, .long (cents))]) hx hb d_X_pay_35 hl (by decide) rfl (fun ls hl => ?_)
      refine lv_iconst (v := 0) hx hb d_X_pay_37 (by decide) ?_
      refine lv_istore (lv' := [(6, .int (0)), (4, .long (cents)), (0, .ref (a_x a)), (1, .int (who)), (2, .long (cents))]) hx hb d_X_pay_38 hl (by decide) rfl (fun ls hl => ?_)
      refine lv_iconst (v := 0) hx hb d_X_pay_40 (by decide) ?_
      refine lv_istore (lv' := [(7, .int (0)), (6, .int (0)), (4, .long (cents)), (0, .ref (a_x a)), (1, .int (who)), (2, .long (cents))]) hx hb d_X_pay_41 hl (by decide) rfl (fun ls hl => ?_)
      have loop : ∀ (n i : Nat) (l0 : Int64) (t0 : Int32) (z1 : XT), i + n = a_n a → pyL who i n l0 t0 z1 = pyL who 0 (a_n a) cents 0 (z) → ∀ (H : Heap) (locs : List Loc) (w1 : va_W) (ls : Array Slot), va_P D vwCl w1 H → va_D A w1 → va_S A s.heap H locs → cUpd w w1 b cI cL cD a z1 → lv_has ls 9 [(7, .int (nI i)), (6, .int (t0)), (4, .long (l0)), (0, .ref (a_x a)), (1, .int (who)), (2, .long (cents))] → W p l e (headSpec w_X_pay ({ frames := 6, cells := 1, slots := 6, locals := 99 })).room s m [.ref (a_x a), .int (who), .long (cents)].toArray below meth c H locs 0 0 (vx_MQ below (va_Qi (fun z9 (_ : Unit) => (f_pay z who cents).1 = 0 ∧ z9 = (f_pay z who cents).2.1) (fun (_ : Unit) t => ∃ w9 : va_W, va_P D vwCl w9 t.heap ∧ va_D A w9 ∧ cAt w9 b cI cL cD (a_x a) ((f_pay z who cents).2.2) ∧ ∀ j, j < b → w9[j]? = w[j]?) A) (vx_X (fun _ : Unit => True) (fun E9 _ t => exN ["java/lang/IllegalArgumentException"] (f_pay z who cents).1 E9 ∧ va_P D vwCl w t.heap) A) [.ref (a_x a), .int (who), .long (cents)].toArray s 1 6 A) (F0 m 43 ls []) := by
        intro n
        induction n with
        | zero =>
          intro i l0 t0 z1 hin hv H locs w1 ls hP hD hS hC hl
          refine lv_iload hx hb d_X_pay_43 (lv_at hl 0 rfl) ?_
          refine lv_aload_n hx hb d_X_pay_45 rfl (lv_at hl 3 rfl) ?_
          refine va_get (D := D) (ci := 2) (v := .int (x_cnt z1)) (C := R_X) (T := F_X) (N := 5) hx hb hts (in_X _) hown hK hP b hC.1.x rfl 3 (by decide) (hts (.fieldLink R_X 26 "DebtRows" "debtCount" "I") (List.mem_cons_of_mem _ mB_56)) (fun _ h9 => h9) rfl d_X_pay_46 ?_
          refine lv_icmp_ge (tgt := 131) hx hb d_X_pay_49 (by decide) (fun c_232 => ?_) (fun c_232 => ?_)
          · refine lv_aload_n hx hb d_X_pay_131 rfl (lv_at hl 3 rfl) ?_
            refine va_get (D := D) (ci := 2) (v := .ref (a_cr a)) (C := R_X) (T := F_X) (N := 5) hx hb hts (in_X _) hown hK hP b hC.1.x rfl 2 (by decide) (hts (.fieldLink R_X 22 "DebtRows" "credit" "[J") (List.mem_cons_of_mem _ mB_55)) (fun _ h9 => h9) rfl d_X_pay_132 ?_
            refine lv_iload_n hx hb d_X_pay_135 rfl (lv_at hl 4 rfl) ?_
            refine lv_dup2_11 hx hb d_X_pay_136 rfl rfl ?_
            refine va_lald hx hb hK hP (b + 6) 1 hC.1.cr rfl (in_person c_229) d_X_pay_137 ?_
            refine lv_lload hx hb d_X_pay_138 (lv_at hl 2 rfl) ?_
            refine lv_ladd hx hb d_X_pay_140 ?_
            refine va_last hx hb hK hP hD hS (b + 6) 1 hC.1.cr rfl (in_person c_229) d_X_pay_141 (fun H locs hP hD hS => ?_)
            have hC := hC.c (vp_updL (x_credit z1) (who).toNatClampNeg (((x_credit z1 (who).toNatClampNeg) + l0)))
            have hP : va_P D vwCl (w1.set (b + 6) (a_cr a, aL cL 16 (vp_updL (x_credit z1) (who).toNatClampNeg (((x_credit z1 (who).toNatClampNeg) + l0))))) H := hP
            have hD : va_D A (w1.set (b + 6) (a_cr a, aL cL 16 (vp_updL (x_credit z1) (who).toNatClampNeg (((x_credit z1 (who).toNatClampNeg) + l0))))) := hD
            generalize w1.set (b + 6) (a_cr a, aL cL 16 (vp_updL (x_credit z1) (who).toNatClampNeg (((x_credit z1 (who).toNatClampNeg) + l0)))) = w_233 at hP hD hC
            refine lv_iload hx hb d_X_pay_142 (lv_at hl 1 rfl) ?_
            refine vx_ret (W.widen (k := 1) (n := 6) (Nat.le_of_ble_eq_true rfl) (Nat.le_of_ble_eq_true rfl) ?_)
            exact W.iret (v := t0) hx hb hr (fun t ht hW => ⟨⟨_, (), rfl, ⟨by rw [f_pay, if_neg c_229, if_neg c_231], by rw [f_pay, if_neg c_229, if_neg c_231, hC0.en, nI_clamp (by have := hC0.n; omega), ← hv]; rfl⟩, w_233, by rw [ht]; exact hP, hD, by rw [f_pay, if_neg c_229, if_neg c_231, hC0.en, nI_clamp (by have := hC0.n; omega), ← hv]; exact hC.at, hC.2⟩, hS.F ht⟩) hS.2.2 d_X_pay_144
          · exact absurd (by rw [hC.1.en]; exact nI_le (by omega) (by have := hC.1.n; omega)) c_232
        | succ n ih =>
          intro i l0 t0 z1 hin hv H locs w1 ls hP hD hS hC hl
          refine lv_iload hx hb d_X_pay_43 (lv_at hl 0 rfl) ?_
          refine lv_aload_n hx hb d_X_pay_45 rfl (lv_at hl 3 rfl) ?_
          refine va_get (D := D) (ci := 2) (v := .int (x_cnt z1)) (C := R_X) (T := F_X) (N := 5) hx hb hts (in_X _) hown hK hP b hC.1.x rfl 3 (by decide) (hts (.fieldLink R_X 26 "DebtRows" "debtCount" "I") (List.mem_cons_of_mem _ mB_56)) (fun _ h9 => h9) rfl d_X_pay_46 ?_
          refine lv_icmp_ge (tgt := 131) hx hb d_X_pay_49 (by decide) (fun c_234 => ?_) (fun c_234 => ?_)
          · exact absurd c_234 (by rw [hC.1.en]; exact nI_ge (by omega) (by have := hC.1.n; omega))
          · refine lv_lload hx hb d_X_pay_52 (lv_at hl 2 rfl) ?_
            refine lv_lconst (v := 0) hx hb d_X_pay_54 (by decide) ?_
            refine W.lcmp hx hb d_X_pay_55 ?_
            refine lv_if_le (tgt := 131) hx hb d_X_pay_56 (by decide) (fun c_235 => ?_) (fun c_235 => ?_)
            · have c_235 : l0 ≤ 0 := (lg_cmp_le _ _).mp c_235
              refine lv_aload_n hx hb d_X_pay_131 rfl (lv_at hl 3 rfl) ?_
              refine va_get (D := D) (ci := 2) (v := .ref (a_cr a)) (C := R_X) (T := F_X) (N := 5) hx hb hts (in_X _) hown hK hP b hC.1.x rfl 2 (by decide) (hts (.fieldLink R_X 22 "DebtRows" "credit" "[J") (List.mem_cons_of_mem _ mB_55)) (fun _ h9 => h9) rfl d_X_pay_132 ?_
              refine lv_iload_n hx hb d_X_pay_135 rfl (lv_at hl 4 rfl) ?_
              refine lv_dup2_11 hx hb d_X_pay_136 rfl rfl ?_
              refine va_lald hx hb hK hP (b + 6) 1 hC.1.cr rfl (in_person c_229) d_X_pay_137 ?_
              refine lv_lload hx hb d_X_pay_138 (lv_at hl 2 rfl) ?_
              refine lv_ladd hx hb d_X_pay_140 ?_
              refine va_last hx hb hK hP hD hS (b + 6) 1 hC.1.cr rfl (in_person c_229) d_X_pay_141 (fun H locs hP hD hS => ?_)
              have hC := hC.c (vp_updL (x_credit z1) (who).toNatClampNeg (((x_credit z1 (who).toNatClampNeg) + l0)))
              have hP : va_P D vwCl (w1.set (b + 6) (a_cr a, aL cL 16 (vp_updL (x_credit z1) (who).toNatClampNeg (((x_credit z1 (who).toNatClampNeg) + l0))))) H := hP
              have hD : va_D A (w1.set (b + 6) (a_cr a, aL cL 16 (vp_updL (x_credit z1) (who).toNatClampNeg (((x_credit z1 (who).toNatClampNeg) + l0))))) := hD
              generalize w1.set (b + 6) (a_cr a, aL cL 16 (vp_updL (x_credit z1) (who).toNatClampNeg (((x_credit z1 (who).toNatClampNeg) + l0)))) = w_236 at hP hD hC
              refine lv_iload hx hb d_X_pay_142 (lv_at hl 1 rfl) ?_
              refine vx_ret (W.widen (k := 1) (n := 6) (Nat.le_of_ble_eq_true rfl) (Nat.le_of_ble_eq_true rfl) ?_)
              exact W.iret (v := t0) hx hb hr (fun t ht hW => ⟨⟨_, (), rfl, ⟨by rw [f_pay, if_neg c_229, if_neg c_231], by rw [f_pay, if_neg c_229, if_neg c_231, hC0.en, nI_clamp (by have := hC0.n; omega), ← hv, pyL, if_pos c_235]⟩, w_236, by rw [ht]; exact hP, hD, by rw [f_pay, if_neg c_229, if_neg c_231, hC0.en, nI_clamp (by have := hC0.n; omega), ← hv, pyL, if_pos c_235]; exact hC.at, hC.2⟩, hS.F ht⟩) hS.2.2 d_X_pay_144
            · have c_235 : ¬ l0 ≤ 0 := fun h9 => c_235 ((lg_cmp_le _ _).mpr h9)
              refine lv_aload_n hx hb d_X_pay_59 rfl (lv_at hl 3 rfl) ?_
              refine va_get (D := D) (ci := 2) (v := .ref (a_ds a)) (C := R_X) (T := F_X) (N := 5) hx hb hts (in_X _) hown hK hP b hC.1.x rfl 1 (by decide) (hts (.fieldLink R_X 18 "DebtRows" "debts" "[LDebtRows$Debt;") (List.mem_cons_of_mem _ mB_54)) (fun _ h9 => h9) rfl d_X_pay_60 ?_
              refine lv_iload hx hb d_X_pay_63 (lv_at hl 0 rfl) ?_
              refine va_aldq hx hb hK hP (b + 5) 2 hC.1.ds rfl (vp_in_nI (by have := hC.1.n; omega) (by decide)) d_X_pay_65 ?_
              have hi9 : i < a_n a := by omega
              rw [nI_clamp (by have := hC.1.n; omega), hC.1.g hi9]
              have hU : dUpd w1 w1 (b + 7 + 3 * i) cI cL (a_da a i) (a_pa a i) (a_qa a i) (x_debts z1 i) := dUpd.rf (hC.1.d hi9)
              have hw : wfD (x_debts z1 i) := hC.1.wd hi9
              refine lv_astore (lv' := [(8, .ref (a_da a i)), (7, .int (nI i)), (6, .int (t0)), (4, .long (l0)), (0, .ref (a_x a)), (1, .int (who)), (2, .long (cents))]) hx hb d_X_pay_66 hl (by decide) rfl (fun ls hl => ?_)
              refine lv_aload hx hb d_X_pay_68 (lv_at hl 0 rfl) ?_
              refine lv_ifnull hx hb d_X_pay_70 ?_
              refine lv_aload hx hb d_X_pay_73 (lv_at hl 0 rfl) ?_
              refine vp_callSi (W.runV (As := []) (rest := []) ⟨hx, hb, hml, hown, hts⟩ (c_isPayable l D A w1 cI cL cD (b + 7 + 3 * i) (a_da a i) (a_pa a i) (a_qa a i) (x_debts z1 i) hU.1) (cwV 0 hts (gV _ mB_274 mB_275 mB_276 mB_24 mB_277) rfl rfl rfl (by decide +kernel) ⟨(Nat.le_of_ble_eq_true rfl), (Nat.le_of_ble_eq_true rfl)⟩) ⟨mPc_bl, va_recv hK hP (ci := 0) (q0 := (b + 7 + 3 * i)) rfl hU.o, mPc_pr hP hK hD⟩ rfl rfl hl.1 rfl (lv_room (Nat.le_of_ble_eq_true rfl)) d_X_pay_75 ⟨(Nat.le_of_ble_eq_true rfl), (Nat.le_of_ble_eq_true rfl)⟩) (fun v_237 ev_237 => ?_)
              subst ev_237
              refine lv_if_eq (tgt := 125) hx hb d_X_pay_78 (by decide) (fun c_238 => ?_) (fun c_238 => ?_)
              · refine lv_iinc (v := nI (i + 1)) (lv' := [(7, .int (nI (i + 1))), (8, .ref (a_da a i)), (6, .int (t0)), (4, .long (l0)), (0, .ref (a_x a)), (1, .int (who)), (2, .long (cents))]) hx hb d_X_pay_125 hl (k := 1) rfl (by first | exact nI_inc i | rfl) (by decide) rfl (fun ls hl => ?_)
                refine lv_goto (tgt := 43) hx hb d_X_pay_128 (by decide) ?_
                exact ih (i + 1) (l0) (t0) (z1) (by omega) (by rw [← hv, pyL, if_neg c_235, if_pos c_238]) _ _ w1 ls hP hD hS hC (lv_sub hl [0, 2, 3, 4, 5, 6] rfl)
              · refine lv_aload hx hb d_X_pay_81 (lv_at hl 0 rfl) ?_
                refine lv_iload_n hx hb d_X_pay_83 rfl (lv_at hl 5 rfl) ?_
                refine vp_callSi (W.runV (As := [.int (who)]) (rest := []) ⟨hx, hb, hml, hown, hts⟩ (c_placeOf l D A w1 cI cL cD (b + 7 + 3 * i) (a_da a i) (a_pa a i) (a_qa a i) (x_debts z1 i) (who) hU.1 hw) (cwV 1 hts (gV _ mB_278 mB_80 mB_81 mB_24 mB_82) rfl rfl rfl (by decide +kernel) ⟨(Nat.le_of_ble_eq_true rfl), (Nat.le_of_ble_eq_true rfl)⟩) ⟨mPc_bl, va_recv hK hP (ci := 0) (q0 := (b + 7 + 3 * i)) rfl hU.o, mPc_pr hP hK hD⟩ rfl rfl hl.1 rfl (lv_room (Nat.le_of_ble_eq_true rfl)) d_X_pay_84 ⟨(Nat.le_of_ble_eq_true rfl), (Nat.le_of_ble_eq_true rfl)⟩) (fun v_239 ev_239 => ?_)
                subst ev_239
                refine lv_iconst (v := -1) hx hb d_X_pay_87 (by decide) ?_
                refine lv_icmp_eq (tgt := 125) hx hb d_X_pay_88 (by decide) (fun c_240 => ?_) (fun c_240 => ?_)
                · refine lv_iinc (v := nI (i + 1)) (lv' := [(7, .int (nI (i + 1))), (8, .ref (a_da a i)), (6, .int (t0)), (4, .long (l0)), (0, .ref (a_x a)), (1, .int (who)), (2, .long (cents))]) hx hb d_X_pay_125 hl (k := 1) rfl (by first | exact nI_inc i | rfl) (by decide) rfl (fun ls hl => ?_)
                  refine lv_goto (tgt := 43) hx hb d_X_pay_128 (by decide) ?_
                  exact ih (i + 1) (l0) (t0) (z1) (by omega) (by rw [← hv, pyL, if_neg c_235, if_neg c_238, if_pos c_240]) _ _ w1 ls hP hD hS hC (lv_sub hl [0, 2, 3, 4, 5, 6] rfl)
                · refine lv_aload hx hb d_X_pay_91 (lv_at hl 0 rfl) ?_
                  refine lv_aload_n hx hb d_X_pay_93 rfl (lv_at hl 4 rfl) ?_
                  refine va_get (D := D) (ci := 2) (v := .ref (a_r0 a)) (C := R_X) (T := F_X) (N := 5) hx hb hts (in_X _) hown hK hP b hC.1.x rfl 0 (by decide) (hts (.fieldLink R_X 10 "DebtRows" "rates" "LDebtRows$Rates;") (List.mem_cons_of_mem _ mB_53)) (fun _ h9 => h9) rfl d_X_pay_94 ?_
                  refine lv_aload_n hx hb d_X_pay_97 rfl (lv_at hl 4 rfl) ?_
                  refine va_get (D := D) (ci := 2) (v := .int (x_today z1)) (C := R_X) (T := F_X) (N := 5) hx hb hts (in_X _) hown hK hP b hC.1.x rfl 4 (by decide) (hts (.fieldLink R_X 30 "DebtRows" "today" "I") (List.mem_cons_of_mem _ mB_57)) (fun _ h9 => h9) rfl d_X_pay_98 ?_
                  refine va_callv (va_runV (As := [.ref (a_r0 a), .int (x_today z1)]) (rest := []) ⟨hx, hb, hml, hown, hts⟩ (c_fixInterest l D A w1 cI cL cD (b + 7 + 3 * i) (a_da a i) (a_pa a i) (a_qa a i) (x_debts z1 i) (b + 1) (a_r0 a) (a_fr a) (a_up a) (a_dn a) (x_rates z1) (x_today z1) hU.1 hC.1.r (by omega) hC.1.wr) (cwV 2 hts (gV _ mB_279 mB_280 mB_281 mB_24 mB_282) rfl rfl rfl (by decide +kernel) ⟨(Nat.le_of_ble_eq_true rfl), (Nat.le_of_ble_eq_true rfl)⟩) ⟨mPc_bl, va_recv hK hP (ci := 0) (q0 := (b + 7 + 3 * i)) rfl hU.o, mPc_pr hP hK hD⟩ rfl rfl hl.1 rfl (lv_room (Nat.le_of_ble_eq_true rfl)) d_X_pay_101 ⟨(Nat.le_of_ble_eq_true rfl), (Nat.le_of_ble_eq_true rfl)⟩) hS (fun _ _ h => h) (fun _ h => h) (fun u9 t H locs ht hvm ev_241 hB hz1 hk1 hS => ?_)
                  obtain ⟨w_242, hP, hD, hU1⟩ := hB
                  rw [ht] at hP
                  have hU := hU.tr hU1
                  have hw : wfD ((f_fixInterest (x_debts z1 i) (x_rates z1) (x_today z1))) := wf_fixInterest hw
                  refine lv_lload hx hb d_X_pay_104 (lv_at hl 3 rfl) ?_
                  refine lv_aload hx hb d_X_pay_106 (lv_at hl 0 rfl) ?_
                  refine lv_aload hx hb d_X_pay_108 (lv_at hl 0 rfl) ?_
                  refine lv_iload_n hx hb d_X_pay_110 rfl (lv_at hl 5 rfl) ?_
                  refine vp_callSi (W.runV (As := [.int (who)]) (rest := [.ref (a_da a i), .long (l0)]) ⟨hx, hb, hml, hown, hts⟩ (c_placeOf l D A w_242 cI cL cD (b + 7 + 3 * i) (a_da a i) (a_pa a i) (a_qa a i) (f_fixInterest (x_debts z1 i) (x_rates z1) (x_today z1)) (who) hU.1 hw) (cwV 1 hts (gV _ mB_278 mB_80 mB_81 mB_24 mB_82) rfl rfl rfl (by decide +kernel) ⟨(Nat.le_of_ble_eq_true rfl), (Nat.le_of_ble_eq_true rfl)⟩) ⟨mPc_bl, va_recv hK hP (ci := 0) (q0 := (b + 7 + 3 * i)) rfl hU.o, mPc_pr hP hK hD⟩ rfl rfl hl.1 rfl (lv_room (Nat.le_of_ble_eq_true rfl)) d_X_pay_111 ⟨(Nat.le_of_ble_eq_true rfl), (Nat.le_of_ble_eq_true rfl)⟩) (fun v_243 ev_243 => ?_)
                  subst ev_243
                  refine lv_lload hx hb d_X_pay_114 (lv_at hl 3 rfl) ?_
                  refine va_calll (va_runV (As := [.int ((f_placeOf (f_fixInterest (x_debts z1 i) (x_rates z1) (x_today z1)) (who))), .long (l0)]) (rest := [.long (l0)]) ⟨hx, hb, hml, hown, hts⟩ (c_take l D A w_242 cI cL cD (b + 7 + 3 * i) (a_da a i) (a_pa a i) (a_qa a i) (f_fixInterest (x_debts z1 i) (x_rates z1) (x_today z1)) ((f_placeOf (f_fixInterest (x_debts z1 i) (x_rates z1) (x_today z1)) (who))) (l0) hU.1 hw) (cwV 2 hts (gV _ mB_296 mB_297 mB_298 mB_24 mB_299) rfl rfl rfl (by decide +kernel) ⟨(Nat.le_of_ble_eq_true rfl), (Nat.le_of_ble_eq_true rfl)⟩) ⟨mPc_bl, va_recv hK hP (ci := 0) (q0 := (b + 7 + 3 * i)) rfl hU.o, mPc_pr hP hK hD⟩ rfl rfl hl.1 rfl (lv_room (Nat.le_of_ble_eq_true rfl)) d_X_pay_116 ⟨(Nat.le_of_ble_eq_true rfl), (Nat.le_of_ble_eq_true rfl)⟩) hS (fun _ _ h => h) (fun _ h => h) (fun v_244 u9 t H locs ht hvm ev_244 hB hz1 hk1 hS => ?_)
                  obtain ⟨w_245, hP, hD, hU1⟩ := hB
                  rw [ht] at hP
                  have hU := hU.tr hU1
                  have hw : wfD ((f_take (f_fixInterest (x_debts z1 i) (x_rates z1) (x_today z1)) ((f_placeOf (f_fixInterest (x_debts z1 i) (x_rates z1) (x_today z1)) (who))) (l0)).2) := wf_take hw
                  subst ev_244
                  refine lv_lsub hx hb d_X_pay_119 ?_
                  refine lv_lstore (lv' := [(4, .long ((l0 - (f_take (f_fixInterest (x_debts z1 i) (x_rates z1) (x_today z1)) ((f_placeOf (f_fixInterest (x_debts z1 i) (x_rates z1) (x_today z1)) (who))) (l0)).1))), (8, .ref (a_da a i)), (7, .int (nI i)), (6, .int (t0)), (0, .ref (a_x a)), (1, .int (who)), (2, .long (cents))]) hx hb d_X_pay_120 hl (by decide) rfl (fun ls hl => ?_)
                  refine lv_iinc (v := t0 + 1) (lv' := [(6, .int (t0 + 1)), (4, .long ((l0 - (f_take (f_fixInterest (x_debts z1 i) (x_rates z1) (x_today z1)) ((f_placeOf (f_fixInterest (x_debts z1 i) (x_rates z1) (x_today z1)) (who))) (l0)).1))), (8, .ref (a_da a i)), (7, .int (nI i)), (0, .ref (a_x a)), (1, .int (who)), (2, .long (cents))]) hx hb d_X_pay_122 hl (k := 3) rfl (by first | exact nI_inc i | rfl) (by decide) rfl (fun ls hl => ?_)
                  refine lv_iinc (v := nI (i + 1)) (lv' := [(7, .int (nI (i + 1))), (6, .int (t0 + 1)), (4, .long ((l0 - (f_take (f_fixInterest (x_debts z1 i) (x_rates z1) (x_today z1)) ((f_placeOf (f_fixInterest (x_debts z1 i) (x_rates z1) (x_today z1)) (who))) (l0)).1))), (8, .ref (a_da a i)), (0, .ref (a_x a)), (1, .int (who)), (2, .long (cents))]) hx hb d_X_pay_125 hl (k := 3) rfl (by first | exact nI_inc i | rfl) (by decide) rfl (fun ls hl => ?_)
                  refine lv_goto (tgt := 43) hx hb d_X_pay_128 (by decide) ?_
                  have hC := hC.d hi9 hU hw
                  exact ih (i + 1) ((l0 - (f_take (f_fixInterest (x_debts z1 i) (x_rates z1) (x_today z1)) ((f_placeOf (f_fixInterest (x_debts z1 i) (x_rates z1) (x_today z1)) (who))) (l0)).1)) (t0 + 1) (y_debt (z1) i (f_take (f_fixInterest (x_debts z1 i) (x_rates z1) (x_today z1)) ((f_placeOf (f_fixInterest (x_debts z1 i) (x_rates z1) (x_today z1)) (who))) (l0)).2) (by omega) (by rw [← hv, pyL, if_neg c_235, if_neg c_238, if_neg c_240]) _ _ w_245 ls hP hD hS hC (lv_sub hl [0, 1, 2, 4, 5, 6] rfl)
      exact loop (a_n a) 0 cents 0 (z) (by omega) rfl _ _ w ls hP hD hS hC hl
    · obtain ⟨sa9, hz9⟩ := hE.2.2.2 (68, "no such sum") (by decide)
      exact vx_throwS (own := R_X) (cls := "java/lang/IllegalArgumentException") (names := ["java/lang/RuntimeException", "java/lang/Exception"]) hx hb hl9 hown (by decide +kernel) (by decide +kernel) (hts (.classLink R_X 45 "java/lang/IllegalArgumentException") (List.mem_cons_of_mem _ mB_161)) (hts (.initialized "java/lang/IllegalArgumentException") (List.mem_cons_of_mem _ mB_22)) hz9 (vx_hat (B := badL) (fun w hw => hts w ((by decide +kernel : ∀ w ∈ (vx_atS R_X 49 "java/lang/IllegalArgumentException" ["java/lang/RuntimeException", "java/lang/Exception"]).filter goodWord, w ∈ w_X_pay) w hw)) (by decide +kernel) (fun w hw => bad_use hw (hE.2.2.1 w hw))) (by decide +kernel) hE.1 hE.2.1 hS (hl.1.trans hml.symm) d_X_pay_24 d_X_pay_27 d_X_pay_28 d_X_pay_30 d_X_pay_33 (fun x hx => (hEx x hx).elim) (Nat.le_of_ble_eq_true rfl) (Nat.le_of_ble_eq_true rfl) (Nat.le_of_ble_eq_true rfl) (Nat.le_of_ble_eq_true rfl) hlocks (fun t ha hsz hk => ⟨(), trivial, ⟨⟨0, rfl, by rw [f_pay, if_neg c_229, if_pos c_231]; rfl⟩, hP.kept (fun k q hq => hk q.1 (hP k q hq).lt)⟩, Nat.le_trans hS.1 hsz, fun q h1 h2 => (hk q (Nat.lt_of_lt_of_le h1 hS.1)).trans (hS.2.1 q h1 h2)⟩) hS.2.2 (Nat.le_of_ble_eq_true rfl) (Nat.le_of_ble_eq_true rfl)
  · obtain ⟨sa9, hz9⟩ := hE.2.2.2 (74, "no such person") (by decide)
    exact vx_throwS (own := R_X) (cls := "java/lang/IllegalArgumentException") (names := ["java/lang/RuntimeException", "java/lang/Exception"]) hx hb hl9 hown (by decide +kernel) (by decide +kernel) (hts (.classLink R_X 45 "java/lang/IllegalArgumentException") (List.mem_cons_of_mem _ mB_161)) (hts (.initialized "java/lang/IllegalArgumentException") (List.mem_cons_of_mem _ mB_22)) hz9 (vx_hat (B := badL) (fun w hw => hts w ((by decide +kernel : ∀ w ∈ (vx_atS R_X 49 "java/lang/IllegalArgumentException" ["java/lang/RuntimeException", "java/lang/Exception"]).filter goodWord, w ∈ w_X_pay) w hw)) (by decide +kernel) (fun w hw => bad_use hw (hE.2.2.1 w hw))) (by decide +kernel) hE.1 hE.2.1 hS (hl.1.trans hml.symm) d_X_pay_7 d_X_pay_10 d_X_pay_11 d_X_pay_13 d_X_pay_16 (fun x hx => (hEx x hx).elim) (Nat.le_of_ble_eq_true rfl) (Nat.le_of_ble_eq_true rfl) (Nat.le_of_ble_eq_true rfl) (Nat.le_of_ble_eq_true rfl) hlocks (fun t ha hsz hk => ⟨(), trivial, ⟨⟨0, rfl, by rw [f_pay, if_pos c_229]; rfl⟩, hP.kept (fun k q hq => hk q.1 (hP k q hq).lt)⟩, Nat.le_trans hS.1 hsz, fun q h1 h2 => (hk q (Nat.lt_of_lt_of_le h1 hS.1)).trans (hS.2.1 q h1 h2)⟩) hS.2.2 (Nat.le_of_ble_eq_true rfl) (Nat.le_of_ble_eq_true rfl)
