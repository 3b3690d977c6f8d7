theorem ty_known {args : Array Value} {s : State} (hI : (Cond.arrayClass .int).before args s = true) (hJ : (Cond.arrayClass .long).before args s = true) (hO : (Cond.arrayOver (.object "DebtRows$Debt")).before args s = true) : ∃ cI cL cD : ClassId, ∀ (k : Nat) (q : ClassId × FieldType), (tyL cI cL cD)[k]? = some q → ArrOfT s q.1 q.2 ∧ va_RA s q.1 q.2 := by
  obtain ⟨c1, k1, m1, a1, a2, a3⟩ := Cond.arrayClass_spec hI
  obtain ⟨c2, k2, m2, b1, b2, b3⟩ := Cond.arrayClass_spec hJ
  obtain ⟨comp, c3, k3, d1, d2, d3, d4, d5⟩ := Cond.arrayOver_spec hO
  refine ⟨c1, c2, c3, fun k q hk => ?_⟩
  match k, hk with
  | 0, hk => cases hk; exact ⟨fun n z => ⟨(fun k h => by cases h), k1, a2, m1, a3⟩, a1⟩
  | 1, hk => cases hk; exact ⟨fun n z => ⟨(fun k h => by cases h), k2, b2, m2, b3⟩, b1⟩
  | 2, hk => cases hk; exact ⟨fun n z => ⟨(fun k h => by cases h), k3, d3, comp, d4⟩, k3, comp, d3, d4, d1, d5⟩
  | k + 3, hk => simp at hk
set_option maxRecDepth 100000 in
theorem mX_0 : (.castable "java/lang/ArithmeticException" "java/lang/ArithmeticException" : Cond) ∈ lw_tbl := List.mem_of_getElem? (i := 119) rfl
set_option maxRecDepth 100000 in
theorem mX_1 : (.castable "java/lang/IllegalArgumentException" "java/lang/IllegalArgumentException" : Cond) ∈ lw_tbl := List.mem_of_getElem? (i := 193) rfl
set_option maxRecDepth 100000 in
theorem mX_2 : (.castable "java/lang/IllegalStateException" "java/lang/IllegalStateException" : Cond) ∈ lw_tbl := List.mem_of_getElem? (i := 210) rfl
set_option maxRecDepth 100000 in
theorem mX_3 : (.castable "java/lang/IndexOutOfBoundsException" "java/lang/IndexOutOfBoundsException" : Cond) ∈ lw_tbl := List.mem_of_getElem? (i := 461) rfl
set_option maxRecDepth 100000 in
theorem mX_4 : (.declares ⟨"java/lang/RuntimeException", "<init>", "(Ljava/lang/String;)V"⟩ : Cond) ∈ lw_tbl := List.mem_of_getElem? (i := 121) rfl
set_option maxRecDepth 100000 in
theorem mX_5 : (.declares ⟨"java/lang/Exception", "<init>", "(Ljava/lang/String;)V"⟩ : Cond) ∈ lw_tbl := List.mem_of_getElem? (i := 123) rfl
set_option maxRecDepth 100000 in
theorem mX_6 : (.declares ⟨"java/lang/Throwable", "<init>", "(Ljava/lang/String;)V"⟩ : Cond) ∈ lw_tbl := List.mem_of_getElem? (i := 125) rfl
set_option maxRecDepth 100000 in
theorem mS_0 : (.stringRef "DebtRows" 35 "down is 0" : Cond) ∈ lw_tbl := List.mem_of_getElem? (i := 159) rfl
set_option maxRecDepth 100000 in
theorem mS_1 : (.stringRef "DebtRows" 47 "no such day for a rate" : Cond) ∈ lw_tbl := List.mem_of_getElem? (i := 200) rfl
set_option maxRecDepth 100000 in
theorem mS_2 : (.stringRef "DebtRows" 50 "no such rate" : Cond) ∈ lw_tbl := List.mem_of_getElem? (i := 207) rfl
set_option maxRecDepth 100000 in
theorem mS_3 : (.stringRef "DebtRows" 57 "no more rates" : Cond) ∈ lw_tbl := List.mem_of_getElem? (i := 217) rfl
set_option maxRecDepth 100000 in
theorem mS_4 : (.stringRef "DebtRows" 68 "no such sum" : Cond) ∈ lw_tbl := List.mem_of_getElem? (i := 239) rfl
set_option maxRecDepth 100000 in
theorem mS_5 : (.stringRef "DebtRows" 74 "no such person" : Cond) ∈ lw_tbl := List.mem_of_getElem? (i := 240) rfl
set_option maxRecDepth 100000 in
theorem mS_6 : (.stringRef "DebtRows" 76 "no more debts" : Cond) ∈ lw_tbl := List.mem_of_getElem? (i := 241) rfl
set_option maxRecDepth 100000 in
theorem mS_7 : (.stringRef "DebtRows" 120 "no such number of instalments" : Cond) ∈ lw_tbl := List.mem_of_getElem? (i := 381) rfl
set_option maxRecDepth 100000 in
theorem mS_8 : (.stringRef "DebtRows" 135 "no such day" : Cond) ∈ lw_tbl := List.mem_of_getElem? (i := 408) rfl
set_option maxRecDepth 100000 in
theorem mS_9 : (.stringRef "DebtRows" 156 "no such side" : Cond) ∈ lw_tbl := List.mem_of_getElem? (i := 431) rfl
set_option maxRecDepth 100000 in
theorem mS_10 : (.stringRef "DebtRows" 158 "no debtor of this debt" : Cond) ∈ lw_tbl := List.mem_of_getElem? (i := 439) rfl
set_option maxRecDepth 100000 in
theorem mS_11 : (.stringRef "DebtRows" 175 "no such debt" : Cond) ∈ lw_tbl := List.mem_of_getElem? (i := 313) rfl
set_option maxRecDepth 100000 in
theorem mS_12 : (.stringRef "DebtRows" 184 "nothing to look at" : Cond) ∈ lw_tbl := List.mem_of_getElem? (i := 474) rfl
set_option maxRecDepth 100000 in
theorem mY_0 : (.laysStatic "java/lang/Throwable" "UNASSIGNED_STACK" "[Ljava/lang/StackTraceElement;" : Cond) ∈ lw_tbl := List.mem_of_getElem? (i := 144) rfl
set_option maxRecDepth 100000 in
theorem mY_1 : (.laysStatic "java/lang/Throwable" "SUPPRESSED_SENTINEL" "Ljava/util/List;" : Cond) ∈ lw_tbl := List.mem_of_getElem? (i := 146) rfl
set_option maxRecDepth 100000 in
theorem mO_0 : (.arrayOver (.object "DebtRows$Debt") : Cond) ∈ lw_tbl := List.mem_of_getElem? (i := 57) rfl
set_option maxRecDepth 100000 in
set_option maxHeartbeats 4000000 in
theorem env_start {args : Array Value} {s : State} (hts : ∀ w ∈ lw_tbl, w.before args s = true) (hgv : (Jvm.Cond.and given_1 narrow_1).before args s = true) : xEnv (fun q : Nat => s.heap.size ≤ q) s ∧ ncE s := by
  have hs := flat_of_before _ hgv
  have hA : ∀ a : Nat, a < s.heap.size → ¬ (fun q : Nat => s.heap.size ≤ q) a := fun a h => Nat.not_le.mpr h
  refine ⟨⟨vx_Zqof (hts _ mY_0) (hts _ (BIG_in _ mB_18)) (hs _ (by decide +kernel)) hA, vx_Zqof (hts _ mY_1) (hts _ (BIG_in _ mB_18)) (hs _ (by decide +kernel)) hA, ?_, ?_⟩, ?_⟩
  · intro w hw
    simp only [badL, List.mem_cons, List.not_mem_nil, or_false] at hw
    rcases hw with rfl | rfl | rfl | rfl | rfl | rfl | rfl
    · exact va_Nw.of rfl (hts _ mX_0)
    · exact va_Nw.of rfl (hts _ mX_1)
    · exact va_Nw.of rfl (hts _ mX_2)
    · exact va_Nw.of rfl (hts _ mX_3)
    · exact va_Nw.of rfl (hts _ mX_4)
    · exact va_Nw.of rfl (hts _ mX_5)
    · exact va_Nw.of rfl (hts _ mX_6)
  · intro q hq
    simp only [txtL, List.mem_cons, List.not_mem_nil, or_false] at hq
    rcases hq with rfl | rfl | rfl | rfl | rfl | rfl | rfl | rfl | rfl | rfl | rfl | rfl | rfl
    · obtain ⟨a, c, cA, kA, q1, -⟩ := Cond.exactly_spec (args := args) (first := s) (o := none) (s := s) (idx := []) (t := .string "DebtRows" 35) (cls := "java/lang/String") (hs (.exactly (.string "DebtRows" 35) "java/lang/String") (by decide +kernel))
      exact ⟨a, vk_R.of (hts _ mS_0) q1⟩
    · obtain ⟨a, c, cA, kA, q1, -⟩ := Cond.exactly_spec (args := args) (first := s) (o := none) (s := s) (idx := []) (t := .string "DebtRows" 47) (cls := "java/lang/String") (hs (.exactly (.string "DebtRows" 47) "java/lang/String") (by decide +kernel))
      exact ⟨a, vk_R.of (hts _ mS_1) q1⟩
    · obtain ⟨a, c, cA, kA, q1, -⟩ := Cond.exactly_spec (args := args) (first := s) (o := none) (s := s) (idx := []) (t := .string "DebtRows" 50) (cls := "java/lang/String") (hs (.exactly (.string "DebtRows" 50) "java/lang/String") (by decide +kernel))
      exact ⟨a, vk_R.of (hts _ mS_2) q1⟩
    · obtain ⟨a, c, cA, kA, q1, -⟩ := Cond.exactly_spec (args := args) (first := s) (o := none) (s := s) (idx := []) (t := .string "DebtRows" 57) (cls := "java/lang/String") (hs (.exactly (.string "DebtRows" 57) "java/lang/String") (by decide +kernel))
      exact ⟨a, vk_R.of (hts _ mS_3) q1⟩
    · obtain ⟨a, c, cA, kA, q1, -⟩ := Cond.exactly_spec (args := args) (first := s) (o := none) (s := s) (idx := []) (t := .string "DebtRows" 68) (cls := "java/lang/String") (hs (.exactly (.string "DebtRows" 68) "java/lang/String") (by decide +kernel))
      exact ⟨a, vk_R.of (hts _ mS_4) q1⟩
    · obtain ⟨a, c, cA, kA, q1, -⟩ := Cond.exactly_spec (args := args) (first := s) (o := none) (s := s) (idx := []) (t := .string "DebtRows" 74) (cls := "java/lang/String") (hs (.exactly (.string "DebtRows" 74) "java/lang/String") (by decide +kernel))
      exact ⟨a, vk_R.of (hts _ mS_5) q1⟩
    · obtain ⟨a, c, cA, kA, q1, -⟩ := Cond.exactly_spec (args := args) (first := s) (o := none) (s := s) (idx := []) (t := .string "DebtRows" 76) (cls := "java/lang/String") (hs (.exactly (.string "DebtRows" 76) "java/lang/String") (by decide +kernel))
      exact ⟨a, vk_R.of (hts _ mS_6) q1⟩
    · obtain ⟨a, c, cA, kA, q1, -⟩ := Cond.exactly_spec (args := args) (first := s) (o := none) (s := s) (idx := []) (t := .string "DebtRows" 120) (cls := "java/lang/String") (hs (.exactly (.string "DebtRows" 120) "java/lang/String") (by decide +kernel))
      exact ⟨a, vk_R.of (hts _ mS_7) q1⟩
    · obtain ⟨a, c, cA, kA, q1, -⟩ := Cond.exactly_spec (args := args) (first := s) (o := none) (s := s) (idx := []) (t := .string "DebtRows" 135) (cls := "java/lang/String") (hs (.exactly (.string "DebtRows" 135) "java/lang/String") (by decide +kernel))
      exact ⟨a, vk_R.of (hts _ mS_8) q1⟩
    · obtain ⟨a, c, cA, kA, q1, -⟩ := Cond.exactly_spec (args := args) (first := s) (o := none) (s := s) (idx := []) (t := .string "DebtRows" 156) (cls := "java/lang/String") (hs (.exactly (.string "DebtRows" 156) "java/lang/String") (by decide +kernel))
      exact ⟨a, vk_R.of (hts _ mS_9) q1⟩
    · obtain ⟨a, c, cA, kA, q1, -⟩ := Cond.exactly_spec (args := args) (first := s) (o := none) (s := s) (idx := []) (t := .string "DebtRows" 158) (cls := "java/lang/String") (hs (.exactly (.string "DebtRows" 158) "java/lang/String") (by decide +kernel))
      exact ⟨a, vk_R.of (hts _ mS_10) q1⟩
    · obtain ⟨a, c, cA, kA, q1, -⟩ := Cond.exactly_spec (args := args) (first := s) (o := none) (s := s) (idx := []) (t := .string "DebtRows" 175) (cls := "java/lang/String") (hs (.exactly (.string "DebtRows" 175) "java/lang/String") (by decide +kernel))
      exact ⟨a, vk_R.of (hts _ mS_11) q1⟩
    · obtain ⟨a, c, cA, kA, q1, -⟩ := Cond.exactly_spec (args := args) (first := s) (o := none) (s := s) (idx := []) (t := .string "DebtRows" 184) (cls := "java/lang/String") (hs (.exactly (.string "DebtRows" 184) "java/lang/String") (by decide +kernel))
      exact ⟨a, vk_R.of (hts _ mS_12) q1⟩
  · exact ⟨va_Nc.of (hs _ (by decide +kernel)), va_Nc.of (hs _ (by decide +kernel)), va_Nc.of (hs _ (by decide +kernel))⟩
theorem mA.sh {w w1 : va_W} {k k1 : Nat} {cI cL : ClassId} {h : Nat} {ma : Nat → Nat} {y : MT} (H : mA w k cI cL h ma y) (e : ∀ j, j ≤ 19 → w1[k1 + j]? = w[k + j]?) : mA w1 k1 cI cL h ma y := by
  obtain ⟨a0, a1, a2, a3, a4, a5, a6, a7, a8, a9, a10, a11, a12, a13, a14, a15, a16, a17, a18, a19⟩ := H
  exact ⟨(e 0 (by omega)).trans a0, (e 1 (by omega)).trans a1, (e 2 (by omega)).trans a2, (e 3 (by omega)).trans a3, (e 4 (by omega)).trans a4, (e 5 (by omega)).trans a5, (e 6 (by omega)).trans a6, (e 7 (by omega)).trans a7, (e 8 (by omega)).trans a8, (e 9 (by omega)).trans a9, (e 10 (by omega)).trans a10, (e 11 (by omega)).trans a11, (e 12 (by omega)).trans a12, (e 13 (by omega)).trans a13, (e 14 (by omega)).trans a14, (e 15 (by omega)).trans a15, (e 16 (by omega)).trans a16, (e 17 (by omega)).trans a17, (e 18 (by omega)).trans a18, (e 19 (by omega)).trans a19⟩
theorem cA.new {w w3 : va_W} {cI cL cD : ClassId} {a : AD} (h : cA w 0 cI cL cD a xNew) (hl : w3.length = 28) (hk : ∀ j, j < 7 → w3[21 + j]? = w[j]?) : cA w3 21 cI cL cD a xNew ∧ w.length = 7 := by
  obtain ⟨⟨h1, ⟨r0, r1, r2, r3⟩, h3, h4⟩, ⟨h5, h6, h7, h8⟩, h9⟩ := h
  have e0 : a_n a = 0 := by
    have h6 : nI 0 = nI (a_n a) := h6
    exact ((nI_eq (by omega) (by omega)).mp h6).symm
  refine ⟨⟨⟨(hk 0 (by omega)).trans h1, ⟨(hk 1 (by omega)).trans r0, (hk 2 (by omega)).trans r1, (hk 3 (by omega)).trans r2, (hk 4 (by omega)).trans r3⟩, (hk 5 (by omega)).trans h3, (hk 6 (by omega)).trans h4⟩, ⟨h5, h6, by rw [hl, e0], h8⟩, fun i hi => absurd hi (by omega)⟩, by rw [h7, e0]⟩
theorem sw_l {w : va_W} {O : Nat × va_E} (hl : w.length = 27) : (([] ++ (w.drop 7 ++ [O])) ++ w.take 7 : va_W).length = 28 := by
  simp only [List.nil_append, List.length_append, List.length_drop, List.length_take, List.length_cons, List.length_nil]; omega
theorem sw_a {w : va_W} {O : Nat × va_E} (hl : w.length = 27) {j : Nat} (hj : j ≤ 19) : (([] ++ (w.drop 7 ++ [O])) ++ w.take 7 : va_W)[0 + j]? = w[7 + j]? := by
  rw [Nat.zero_add, List.nil_append, List.getElem?_append_left (by simp only [List.length_append, List.length_drop, List.length_cons, List.length_nil]; omega), List.getElem?_append_left (by rw [List.length_drop]; omega), List.getElem?_drop]
theorem sw_o {w : va_W} {O : Nat × va_E} (hl : w.length = 27) : (([] ++ (w.drop 7 ++ [O])) ++ w.take 7 : va_W)[20]? = some O := by
  rw [List.nil_append, List.getElem?_append_left (by simp only [List.length_append, List.length_drop, List.length_cons, List.length_nil]; omega), List.getElem?_append_right (by rw [List.length_drop]; omega), List.length_drop, hl]; rfl
theorem sw_c {w : va_W} {O : Nat × va_E} (hl : w.length = 27) {j : Nat} (hj : j < 7) : (([] ++ (w.drop 7 ++ [O])) ++ w.take 7 : va_W)[21 + j]? = w[j]? := by
  have h21 : (w.drop 7 ++ [O]).length = 21 := by simp only [List.length_append, List.length_drop, List.length_cons, List.length_nil]; omega
  rw [List.nil_append, List.getElem?_append_right (by omega), h21, Nat.add_sub_cancel_left, List.getElem?_take_of_lt hj]
theorem sw_e (w : va_W) (O : Nat × va_E) : w ++ [O] = ([] ++ w.take 7) ++ (w.drop 7 ++ [O]) := by
  rw [List.nil_append, ← List.append_assoc, List.take_append_drop]
set_option maxHeartbeats 4000000 in
set_option maxRecDepth 100000 in
theorem start_R {p : Program} {e : Env} {s : State} {m : MethodId} {below : List Frame} {meth : Method} {c : Code} (l : Launch) (hl9 : l.stackTraces = false) (Rel : Nat → XT → MT → Prop) (hOK : stepOK Rel) (hR0 : Rel 0 xNew mNew) {b L : Nat} {xs : Nat → Int32} (hL : L ≤ 2048) (C0 : lw_At p s m meth c b L xs) : W p l e room_1 s m #[Value.ref b] below meth c s.heap [] 0 0 (lw_Z below #[Value.ref b] s) (entryFrame m ([Value.ref b] : List Value).toArray 8) := by
  obtain ⟨hx, hb, hr, hml, hown, hts, hX, hbl, hlocks, hgv⟩ := id C0
  have hown : s.vm.findClass R_L = some m.cls := hown
  have hA : ∀ q : Nat, s.heap.size ≤ q → (fun q : Nat => s.heap.size ≤ q) q := fun _ h => h
  obtain ⟨hE, hN⟩ := env_start hts hgv
  have hAO : va_AO "DebtRows$Debt" s := va_AO.of (hts _ mO_0)
  obtain ⟨c0, iS0, hKn0⟩ := u_known (C := R_D) (T := F_D) (N := 15) (n := 15) hts (fun w h => BIG_in w (inb_D w h)) (hts (.instantiable R_D 15) (BIG_in _ mB_203))
  obtain ⟨c1, iS1, hKn1⟩ := u_known (C := R_S) (T := F_S) (N := 4) (n := 4) hts (fun w h => BIG_in w (inb_S w h)) (hts (.instantiable R_S 4) (BIG_in _ mB_36))
  obtain ⟨c2, iS2, hKn2⟩ := u_known (C := R_X) (T := F_X) (N := 5) (n := 5) hts (fun w h => BIG_in w (inb_X w h)) (hts (.instantiable R_X 5) (BIG_in _ mB_28))
  obtain ⟨c3, iS3, hKn3⟩ := u_known (C := R_M) (T := F_M) (N := 23) (n := 23) hts (fun w h => BIG_in w (inb_M w h)) (hts (.instantiable R_M 23) (BIG_in _ mB_409))
  obtain ⟨cI, cL, cD, hty⟩ := ty_known (hts (.arrayClass .int) (BIG_in _ mB_51)) (hts (.arrayClass .long) (BIG_in _ mB_64)) (hts _ mO_0)
  obtain ⟨D, hKc⟩ : ∃ D : va_G, ∀ (k : Nat) (q : vw_C), vwCl[k]? = some q → u_Kn s q.1 q.2.1 q.2.2 (D.1 k) (D.2 k) := by
    refine ⟨(fun k => if k = 0 then c0 else if k = 1 then c1 else if k = 2 then c2 else c3, fun k => if k = 0 then iS0 else if k = 1 then iS1 else if k = 2 then iS2 else iS3), ?_⟩
    intro k q hq
    match k, hq with
    | 0, hq => cases hq; exact hKn0
    | 1, hq => cases hq; exact hKn1
    | 2, hq => cases hq; exact hKn2
    | 3, hq => cases hq; exact hKn3
    | k + 4, hq => simp [vwCl] at hq
  have hS : va_S (fun q : Nat => s.heap.size ≤ q) s.heap s.heap [] := va_S.rf
  have hK : va_K D vwCl (tyL cI cL cD) s := ⟨hKc, hty⟩
  have hP : va_P D vwCl [] s.heap := fun k q h => by simp at h
  have hD : va_D (fun q : Nat => s.heap.size ≤ q) [] := ⟨fun i j p q h => by simp at h, fun k q h => by simp at h⟩
  have hl := lv_entry ([.ref b]) (n := 8) (Nat.le_of_ble_eq_true rfl)
  rw [lg_entry_eq]
  generalize (lg_sl ([.ref b]) ++ List.replicate (8 - (lg_sl ([.ref b])).length) Slot.unset).toArray = ls at hl ⊢
  have hl : lv_has ls 8 [(0, .ref b)] := hl
  refine va_new (ci := 2) (fs := [.null, .null, .null, .int 0, .int 0]) (C := R_X) (T := F_X) (N := 5) hx hb hts (fun w h => BIG_in w (inb_X w h)) t_X to_X hown (hts (.classLink R_L 8 R_X) (BIG_in _ mB_27)) (hts (.instantiable R_X 5) (BIG_in _ mB_28)) (hts (.initialized R_X) (BIG_in _ mB_15)) hK hP hD hS hA rfl (fun j hj => by rcases (show j = 0 ∨ j = 1 ∨ j = 2 ∨ j = 3 ∨ j = 4 by omega) with rfl | rfl | rfl | rfl | rfl <;> rfl) (Nat.le_of_ble_eq_true rfl) (Nat.le_of_ble_eq_true rfl) d_L_law_0 (fun x H hP hD hS => ?_)
  have hP : va_P D vwCl [(x, .inr (2, [.null, .null, .null, .int 0, .int 0]))] H := hP
  have hD : va_D (fun q : Nat => s.heap.size ≤ q) [(x, .inr (2, [.null, .null, .null, .int 0, .int 0]))] := hD
  refine lv_dup hx hb d_L_law_3 rfl ?_
  refine va_callv (va_runI (As := []) (rest := [.ref x]) ⟨hx, hb, hml, hown, hts⟩ (c_Xinit l D (fun q : Nat => s.heap.size ≤ q) [(x, .inr (2, [.null, .null, .null, .int 0, .int 0]))] cI cL cD 0 x rfl rfl) (cwI 0 hts (gIT mB_31) rfl rfl rfl (hts (.initialized R_X) (BIG_in _ mB_15)) (hts (.methodLink R_L 58 y_X_init) (BIG_in _ mB_29)) (hts (.instanceMethod y_X_init) (BIG_in _ mB_30)) rfl (by decide +kernel) ⟨(Nat.le_of_ble_eq_true rfl), (Nat.le_of_ble_eq_true rfl)⟩) ⟨oPc_bl, oPc_pr hP hK hD (fun q h => Nat.le_trans hS.1 h) hAO⟩ rfl rfl hl.1 rfl (lv_room (Nat.le_of_ble_eq_true rfl)) d_L_law_4 ⟨(Nat.le_of_ble_eq_true rfl), (Nat.le_of_ble_eq_true rfl)⟩) hS (fun _ _ h => h) (fun _ h => h) (fun u9 t H locs ht hvm e9 hB hz1 hk1 hS => ?_)
  obtain ⟨w1, hP1, hD1, ⟨a, hax, hC1⟩, -⟩ := hB
  rw [ht] at hP1
  subst hax
  have hP := hP1
  have hD := hD1
  have hw1 : w1.length = 7 := by
    obtain ⟨-, ⟨h5, h6, h7, -⟩, -⟩ := hC1
    have h6 : nI 0 = nI (a_n a) := h6
    have e0 := (nI_eq (by omega) (by omega)).mp h6
    omega
  refine lv_astore_n (lv' := [(1, .ref (a_x a)), (0, .ref b)]) hx hb d_L_law_7 rfl hl (by decide) rfl (fun ls hl => ?_)
  refine va_new (ci := 3) (fs := [.int 0, .int 0, .int 0, .null, .null, .null, .int 0, .null, .null, .null, .null, .null, .null, .null, .null, .null, .null, .null, .null, .null, .null, .null, .null]) (C := R_M) (T := F_M) (N := 23) hx hb hts (fun w h => BIG_in w (inb_M w h)) t_M to_M hown (hts (.classLink R_L 59 R_M) (BIG_in _ mB_408)) (hts (.instantiable R_M 23) (BIG_in _ mB_409)) (hts (.initialized R_M) (BIG_in _ mB_17)) hK hP hD hS hA rfl (fun j hj => by rcases (show j = 0 ∨ j = 1 ∨ j = 2 ∨ j = 3 ∨ j = 4 ∨ j = 5 ∨ j = 6 ∨ j = 7 ∨ j = 8 ∨ j = 9 ∨ j = 10 ∨ j = 11 ∨ j = 12 ∨ j = 13 ∨ j = 14 ∨ j = 15 ∨ j = 16 ∨ j = 17 ∨ j = 18 ∨ j = 19 ∨ j = 20 ∨ j = 21 ∨ j = 22 by omega) with rfl | rfl | rfl | rfl | rfl | rfl | rfl | rfl | rfl | rfl | rfl | rfl | rfl | rfl | rfl | rfl | rfl | rfl | rfl | rfl | rfl | rfl | rfl <;> rfl) (Nat.le_of_ble_eq_true rfl) (Nat.le_of_ble_eq_true rfl) d_L_law_8 (fun h0 H hP hD hS => ?_)
  refine lv_dup hx hb d_L_law_11 rfl ?_
  refine va_callv (va_runI (As := []) (rest := [.ref h0]) ⟨hx, hb, hml, hown, hts⟩ (c_Minit l D (fun q : Nat => s.heap.size ≤ q) (w1 ++ [(h0, .inr (3, [.int 0, .int 0, .int 0, .null, .null, .null, .int 0, .null, .null, .null, .null, .null, .null, .null, .null, .null, .null, .null, .null, .null, .null, .null, .null]))]) cI cL cD 7 h0 (ap_r hw1) (ap_n hw1)) (cwI 0 hts (gIT mB_412) rfl rfl rfl (hts (.initialized R_M) (BIG_in _ mB_17)) (hts (.methodLink R_L 61 y_M_init) (BIG_in _ mB_410)) (hts (.instanceMethod y_M_init) (BIG_in _ mB_411)) rfl (by decide +kernel) ⟨(Nat.le_of_ble_eq_true rfl), (Nat.le_of_ble_eq_true rfl)⟩) ⟨aPc_bl, aPc_pr hP hK hD (fun q h => Nat.le_trans hS.1 h)⟩ rfl rfl hl.1 rfl (lv_room (Nat.le_of_ble_eq_true rfl)) d_L_law_12 ⟨(Nat.le_of_ble_eq_true rfl), (Nat.le_of_ble_eq_true rfl)⟩) hS (fun _ _ h => h) (fun _ h => h) (fun u9 t H locs ht hvm e9 hB hz1 hk1 hS => ?_)
  obtain ⟨w2, ma, hP, hD, hM2, hw2, hk2⟩ := hB
  rw [ht] at hP
  refine lv_astore_n (lv' := [(2, .ref h0), (1, .ref (a_x a)), (0, .ref b)]) hx hb d_L_law_15 rfl hl (by decide) rfl (fun ls hl => ?_)
  refine lv_iconst (v := 1) hx hb d_L_law_16 (by decide) ?_
  refine va_newa (atype := .long) (ty := .long) (n := 1) (N' := 1) (a0 := (1, .inr (.inl (fun _ => 0)))) hx hb (hts (.arrayClass .long) (BIG_in _ mB_64)) rfl hK hP hD hS hA (fun _ => rfl) (by decide) (by decide) (by decide) (Nat.le_of_ble_eq_true rfl) (Nat.le_of_ble_eq_true rfl) d_L_law_17 (fun oo cA H hK1 hP hD hS => ?_)
  obtain rfl : cL = cA := kL_eq hK hK1 1 3 rfl rfl
  have hP : va_P D vwCl (w2 ++ [(oo, aL cL 1 (fun _ => 0))] : va_W) H := hP
  have hD : va_D (fun q : Nat => s.heap.size ≤ q) (w2 ++ [(oo, aL cL 1 (fun _ => 0))] : va_W) := hD
  rw [sw_e w2] at hP hD
  have hP := hP.swap
  have hD := hD.swap
  have hM := hM2.sh (fun j hj => sw_a (O := (oo, aL cL 1 (fun _ => 0))) hw2 hj)
  have ho := sw_o (O := (oo, aL cL 1 (fun _ => 0))) hw2
  have hC := (hC1.new (sw_l (O := (oo, aL cL 1 (fun _ => 0))) hw2) (fun j hj => (sw_c hw2 hj).trans ((hk2 j hj).trans (ap_k (by omega))))).1
  generalize (([] ++ (w2.drop 7 ++ [(oo, aL cL 1 (fun _ => 0))])) ++ w2.take 7 : va_W) = w3 at hP hD hM ho hC
  refine lv_astore_n (lv' := [(3, .ref oo), (2, .ref h0), (1, .ref (a_x a)), (0, .ref b)]) hx hb d_L_law_19 rfl hl (by decide) rfl (fun ls hl => ?_)
  refine lv_iconst (v := 0) hx hb d_L_law_20 (by decide) ?_
  refine lv_istore (lv' := [(4, .int 0), (3, .ref oo), (2, .ref h0), (1, .ref (a_x a)), (0, .ref b)]) hx hb d_L_law_21 hl (by decide) rfl (fun ls hl => ?_)
  refine W.widen (k := 28 + 3 * 0) (n := 1086 + 23 * 0) (Nat.le_of_ble_eq_true rfl) (Nat.le_of_ble_eq_true rfl) ?_
  exact law_loop hl9 Rel hOK hL C0 hK hE hN 513 0 xNew mNew (fun _ => 0) (a_x a) h0 oo ma (by omega) (by omega) (by omega) hR0 w3 _ _ hP hD hS ⟨a, rfl, hC⟩ hM ho ls (lv_sub hl [0, 4, 3, 2, 1] rfl)
