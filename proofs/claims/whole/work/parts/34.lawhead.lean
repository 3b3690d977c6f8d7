/-! THE CLAIM OUT OF ONE WALK OF THE LAW'S BODY. Your part is whole_start (and what it stands on); all else here is the same for every law, but numbers. -/
def R_law : String := "DebtRowsLaw"
def lw_P (b : Addr) (xs : List Int32) (args : Array Value) (s : State) : Prop := args = #[.ref b] ∧ s.IntsAt b xs ∧ xs.length ≤ 2048 ∧ (Jvm.Cond.and given_1 narrow_1).before args s = true
def lw_Q (_ : Array Value) (s : State) (o : Outcome) (t : State) : Prop := o = .returned (some (.int 1)) ∧ Framed s o t [] 601024 7293033
def lw_Z (below : List Frame) (a : Array Value) (s : State) : State → Prop := fun t => ∃ o, t.status = .running ∧ Ended t below o ∧ lw_Q a s o t
/-- the law's own end, with 1 on the stack, nothing written that was there before, its room as the claim has it -/
theorem lw_ret {p : Program} {l : Launch} {e : Env} {s : State} {m : MethodId} {below : List Frame} {meth : Method} {c : Code} {b : Nat} (hx : p.tables.exec = Jvm.exec) (hb : c.code = code) (hr : meth.sig.returnType = ret) (hlocks : meth.locks = false) {pc : Nat} {H : Heap} {ls : Array Slot} (hdg : decode code pc = .ok (.ireturn, 1)) : W p l e room_1 s m #[Value.ref b] below meth c H [] 601024 7293033 (lw_Z below #[Value.ref b] s) (F0 m pc ls [.int 1]) := by
  intro T hT X
  obtain ⟨fs, hret, hrun, hended, hW, hframe⟩ := X.leave (v := some (.int 1)) (hlocks := hlocks) (fun h => by rw [hr] at h; cases h)
  have hmeth' : T.vm.method? m = some meth := X.method'
  refine ⟨T.setFrames fs, ?_, .returned (some (.int 1)), hrun, hended, rfl, ⟨_, rfl⟩, hW, hframe⟩
  jvm_step X.here [X.here.top, hx, hb, hdg, hmeth', hr, ret, narrow_b1]
  (try refine ⟨rfl, ?_⟩); (try refine ⟨rfl, ?_⟩)
  first | (intro acts; rw [hret _ acts rfl rfl rfl]) | rw [hret _ _ rfl rfl rfl]
  exact Steps.refl _
/-- what holds at the law's entry: the machine, the code, the tables' words (any of lw_tbl by 'hts w (by decide +kernel)'), the script of L ints xs at the cell b, what the Statement gives of the start (any of its parts by flat_of_before) -/
def lw_At (p : Program) (s : State) (m : MethodId) (meth : Method) (c : Code) (b L : Nat) (xs : Nat → Int32) : Prop :=
  p.tables.exec = Jvm.exec ∧ c.code = code ∧ meth.sig.returnType = ret ∧ c.maxLocals = 8 ∧ s.vm.findClass R_law = some m.cls ∧ (∀ w ∈ lw_tbl, w.before #[Value.ref b] s = true) ∧ va_X b L xs s s.heap ∧ b < s.heap.size ∧ meth.locks = false ∧ (Jvm.Cond.and given_1 narrow_1).before #[Value.ref b] s = true
def stepOK (Rel : Nat → XT → MT → Prop) : Prop := (∀ j z y, Rel j z y → wfM y) ∧ (∀ j z y, j < 512 → Rel j z y → Rel (j + 1) z y) ∧ (∀ (j : Nat) (z : XT) (y : MT) (p0 : Int32) (p1 : Int32) (p2 : Int32), j < 512 → Rel j z y → (f_rate z p0 p1 p2).1 = m_thrown (g_rate y p0 p1 p2).2 ∧ ((f_rate z p0 p1 p2).1 = 0 → (f_rate z p0 p1 p2).2.1 = (g_rate y p0 p1 p2).1) ∧ Rel (j + 1) (f_rate z p0 p1 p2).2.2 (g_rate y p0 p1 p2).2) ∧ (∀ (j : Nat) (z : XT) (y : MT) (p0 : Int64) (p1 : Int32), j < 512 → Rel j z y → (f_debt z p0 p1).1 = m_thrown (g_debt y p0 p1).2 ∧ ((f_debt z p0 p1).1 = 0 → (f_debt z p0 p1).2.1 = (g_debt y p0 p1).1) ∧ Rel (j + 1) (f_debt z p0 p1).2.2 (g_debt y p0 p1).2) ∧ (∀ (j : Nat) (z : XT) (y : MT) (p0 : Int32), j < 512 → Rel j z y → (f_notified z p0).1 = m_thrown (g_notified y p0).2 ∧ ((f_notified z p0).1 = 0 → (f_notified z p0).2.1 = (g_notified y p0).1) ∧ Rel (j + 1) (f_notified z p0).2.2 (g_notified y p0).2) ∧ (∀ (j : Nat) (z : XT) (y : MT) (p0 : Int32) (p1 : Int64), j < 512 → Rel j z y → (f_pay z p0 p1).1 = m_thrown (g_pay y p0 p1).2 ∧ ((f_pay z p0 p1).1 = 0 → (f_pay z p0 p1).2.1 = (g_pay y p0 p1).1) ∧ Rel (j + 1) (f_pay z p0 p1).2.2 (g_pay y p0 p1).2) ∧ (∀ (j : Nat) (z : XT) (y : MT) (p0 : Int32) (p1 : Int32), j < 512 → Rel j z y → (f_instalments z p0 p1).1 = m_thrown (g_instalments y p0 p1).2 ∧ ((f_instalments z p0 p1).1 = 0 → (f_instalments z p0 p1).2.1 = (g_instalments y p0 p1).1) ∧ Rel (j + 1) (f_instalments z p0 p1).2.2 (g_instalments y p0 p1).2) ∧ (∀ (j : Nat) (z : XT) (y : MT) (p0 : Int32), j < 512 → Rel j z y → (f_appeal z p0).1 = m_thrown (g_appeal y p0).2 ∧ ((f_appeal z p0).1 = 0 → (f_appeal z p0).2.1 = (g_appeal y p0).1) ∧ Rel (j + 1) (f_appeal z p0).2.2 (g_appeal y p0).2) ∧ (∀ (j : Nat) (z : XT) (y : MT) (p0 : Int32) (p1 : Int32), j < 512 → Rel j z y → (f_decide z p0 p1).1 = m_thrown (g_decide y p0 p1).2 ∧ ((f_decide z p0 p1).1 = 0 → (f_decide z p0 p1).2.1 = (g_decide y p0 p1).1) ∧ Rel (j + 1) (f_decide z p0 p1).2.2 (g_decide y p0 p1).2) ∧ (∀ (j : Nat) (z : XT) (y : MT) (p0 : Int32), j < 512 → Rel j z y → (f_tick z p0).1 = m_thrown (g_tick y p0).2 ∧ ((f_tick z p0).1 = 0 → (f_tick z p0).2.1 = (g_tick y p0).1) ∧ Rel (j + 1) (f_tick z p0).2.2 (g_tick y p0).2) ∧ (∀ (j : Nat) (z : XT) (y : MT) (p0 : Int32) (p1 : Int32), j < 512 → Rel j z y → (f_due z p0 p1).1 = m_thrown (g_due y p0 p1).2 ∧ ((f_due z p0 p1).1 = 0 → (f_due z p0 p1).2.1 = (g_due y p0 p1).1) ∧ Rel (j + 1) (f_due z p0 p1).2.2 (g_due y p0 p1).2) ∧ (∀ (j : Nat) (z : XT) (y : MT) (p0 : Int32) (p1 : Int32) (p2 : Int32), j < 512 → Rel j z y → (f_recourse z p0 p1 p2).1 = m_thrown (g_recourse y p0 p1 p2).2 ∧ ((f_recourse z p0 p1 p2).1 = 0 → (f_recourse z p0 p1 p2).2.1 = (g_recourse y p0 p1 p2).1) ∧ Rel (j + 1) (f_recourse z p0 p1 p2).2.2 (g_recourse y p0 p1 p2).2) ∧ (∀ (j : Nat) (z : XT) (y : MT) (p0 : Int32) (p1 : Int32), j < 512 → Rel j z y → (f_look z p0 p1).1 = m_thrown (g_look y p0 p1).2 ∧ ((f_look z p0 p1).1 = 0 → (f_look z p0 p1).2.1 = (g_look y p0 p1).1) ∧ Rel (j + 1) (f_look z p0 p1).2.2 (g_look y p0 p1).2) ∧ (∀ (j : Nat) (z : XT) (y : MT) (p0 p1 : Int32), j < 512 → Rel j z y → (f_debtor z p0 p1).1 = (g_debtor y p0 p1).1 ∧ Rel (j + 1) (f_debtor z p0 p1).2 (g_debtor y p0 p1).2) ∧ (∀ (j : Nat) (z : XT) (y : MT) (p0 : Int32), j < 512 → Rel j z y → f_sum z p0 = (g_sum y p0).1 ∧ Rel (j + 1) z (g_sum y p0).2)
theorem mA.kx {w w1 : va_W} {k : Nat} {cI cL : ClassId} {h : Nat} {ma : Nat → Nat} {y : MT} (H : mA w k cI cL h ma y) (e : ∀ j, k ≤ j → j ≤ k + 19 → w1[j]? = w[j]?) : mA w1 k cI cL h ma y := by
  obtain ⟨a0, a1, a2, a3, a4, a5, a6, a7, a8, a9, a10, a11, a12, a13, a14, a15, a16, a17, a18, a19⟩ := H
  exact ⟨(e _ (by omega) (by omega)).trans a0, (e _ (by omega) (by omega)).trans a1, (e _ (by omega) (by omega)).trans a2, (e _ (by omega) (by omega)).trans a3, (e _ (by omega) (by omega)).trans a4, (e _ (by omega) (by omega)).trans a5, (e _ (by omega) (by omega)).trans a6, (e _ (by omega) (by omega)).trans a7, (e _ (by omega) (by omega)).trans a8, (e _ (by omega) (by omega)).trans a9, (e _ (by omega) (by omega)).trans a10, (e _ (by omega) (by omega)).trans a11, (e _ (by omega) (by omega)).trans a12, (e _ (by omega) (by omega)).trans a13, (e _ (by omega) (by omega)).trans a14, (e _ (by omega) (by omega)).trans a15, (e _ (by omega) (by omega)).trans a16, (e _ (by omega) (by omega)).trans a17, (e _ (by omega) (by omega)).trans a18, (e _ (by omega) (by omega)).trans a19⟩
set_option maxRecDepth 100000 in
theorem bi_0 : ∀ w ∈ big_0, w ∈ lw_tbl := fun w h => by
  have e : big_0 = [0, 1, 2, 3, 4, 5, 6, 7, 8, 9, 10, 11, 12, 13, 14, 15, 16, 17, 18, 19, 20, 21, 22, 23, 24, 25, 26, 27, 28, 29, 30, 31, 32, 33, 34, 35, 36, 37, 38, 39, 40, 41, 42, 43, 44, 45, 46, 48, 50, 52, 54, 55, 56, 58, 59, 60, 61, 62, 63, 65].filterMap (fun i => lw_tbl[i]?) := rfl
  rw [e] at h
  obtain ⟨i, -, hi⟩ := List.mem_filterMap.mp h
  exact List.mem_of_getElem? hi
set_option maxRecDepth 100000 in
theorem bi_1 : ∀ w ∈ big_1, w ∈ lw_tbl := fun w h => by
  have e : big_1 = [67, 69, 71, 73, 74, 75, 76, 77, 78, 79, 81, 82, 83, 84, 85, 86, 87, 88, 89, 90, 91, 92, 93, 94, 95, 96, 97, 98, 100, 101, 102, 103, 104, 105, 106, 107, 108, 110, 111, 112, 113, 114, 115, 116, 117, 118, 126, 127, 128, 129, 130, 131, 132, 133, 134, 135, 136, 137, 138, 139].filterMap (fun i => lw_tbl[i]?) := rfl
  rw [e] at h
  obtain ⟨i, -, hi⟩ := List.mem_filterMap.mp h
  exact List.mem_of_getElem? hi
set_option maxRecDepth 100000 in
theorem bi_2 : ∀ w ∈ big_2, w ∈ lw_tbl := fun w h => by
  have e : big_2 = [140, 141, 142, 143, 145, 147, 148, 149, 150, 151, 152, 153, 154, 156, 157, 158, 160, 161, 162, 163, 164, 165, 166, 167, 168, 169, 170, 171, 172, 173, 174, 175, 176, 181, 184, 185, 186, 187, 188, 189, 190, 191, 192, 194, 195, 196, 197, 198, 199, 201, 202, 203, 204, 205, 206, 208, 209, 211, 212, 213].filterMap (fun i => lw_tbl[i]?) := rfl
  rw [e] at h
  obtain ⟨i, -, hi⟩ := List.mem_filterMap.mp h
  exact List.mem_of_getElem? hi
set_option maxRecDepth 100000 in
theorem bi_3 : ∀ w ∈ big_3, w ∈ lw_tbl := fun w h => by
  have e : big_3 = [214, 215, 216, 218, 219, 220, 221, 222, 223, 224, 225, 226, 227, 228, 229, 231, 232, 233, 234, 235, 236, 237, 238, 242, 243, 244, 245, 246, 247, 248, 249, 250, 251, 252, 253, 254, 255, 256, 257, 258, 259, 260, 261, 262, 263, 264, 265, 266, 267, 268, 269, 270, 271, 273, 275, 277, 279, 281, 283, 285].filterMap (fun i => lw_tbl[i]?) := rfl
  rw [e] at h
  obtain ⟨i, -, hi⟩ := List.mem_filterMap.mp h
  exact List.mem_of_getElem? hi
set_option maxRecDepth 100000 in
theorem bi_4 : ∀ w ∈ big_4, w ∈ lw_tbl := fun w h => by
  have e : big_4 = [287, 289, 291, 293, 295, 297, 299, 301, 302, 303, 305, 306, 307, 308, 309, 311, 312, 314, 315, 316, 317, 318, 319, 320, 321, 322, 323, 324, 325, 326, 328, 329, 330, 331, 332, 333, 334, 335, 336, 337, 338, 339, 340, 341, 342, 343, 344, 345, 346, 347, 348, 349, 350, 351, 352, 353, 354, 355, 356, 357].filterMap (fun i => lw_tbl[i]?) := rfl
  rw [e] at h
  obtain ⟨i, -, hi⟩ := List.mem_filterMap.mp h
  exact List.mem_of_getElem? hi
set_option maxRecDepth 100000 in
theorem bi_5 : ∀ w ∈ big_5, w ∈ lw_tbl := fun w h => by
  have e : big_5 = [358, 359, 360, 361, 362, 363, 364, 365, 366, 367, 368, 369, 370, 371, 372, 373, 374, 375, 377, 378, 379, 380, 382, 383, 384, 385, 386, 387, 389, 390, 391, 392, 393, 394, 396, 397, 398, 399, 400, 401, 402, 404, 405, 406, 407, 409, 410, 411, 412, 413, 414, 415, 416, 417, 418, 419, 420, 421, 422, 423].filterMap (fun i => lw_tbl[i]?) := rfl
  rw [e] at h
  obtain ⟨i, -, hi⟩ := List.mem_filterMap.mp h
  exact List.mem_of_getElem? hi
set_option maxRecDepth 100000 in
theorem bi_6 : ∀ w ∈ big_6, w ∈ lw_tbl := fun w h => by
  have e : big_6 = [424, 426, 427, 428, 429, 430, 432, 433, 435, 436, 437, 438, 440, 441, 442, 443, 444, 445, 446, 447, 448, 449, 450, 451, 452, 454, 455, 456, 457, 458, 459, 460, 462, 463, 464, 465, 466, 467, 468, 469, 470, 471, 472, 473, 475, 476, 477, 478, 479, 480, 481, 482, 483, 484, 485, 486, 487, 488, 489, 490].filterMap (fun i => lw_tbl[i]?) := rfl
  rw [e] at h
  obtain ⟨i, -, hi⟩ := List.mem_filterMap.mp h
  exact List.mem_of_getElem? hi
set_option maxRecDepth 100000 in
theorem bi_7 : ∀ w ∈ big_7, w ∈ lw_tbl := fun w h => by
  have e : big_7 = [491, 492, 493, 494, 495, 496, 497, 498, 499, 500, 501, 502, 503, 504, 505, 506, 507, 508, 510, 512, 514, 516, 518, 520, 522, 524, 526, 528, 530, 532, 534, 536, 538, 540, 542, 544, 546, 548, 550, 552, 554, 555, 556, 557, 558, 559, 560, 561, 562, 563, 565, 566, 567, 568, 569, 570, 571, 572, 573, 574].filterMap (fun i => lw_tbl[i]?) := rfl
  rw [e] at h
  obtain ⟨i, -, hi⟩ := List.mem_filterMap.mp h
  exact List.mem_of_getElem? hi
set_option maxRecDepth 100000 in
theorem bi_8 : ∀ w ∈ big_8, w ∈ lw_tbl := fun w h => by
  have e : big_8 = [575, 576, 577, 578, 579, 580, 581, 582, 583, 585, 586, 587, 589, 590, 591, 592, 593, 594, 595, 596, 597, 598, 599, 601, 602, 603, 605, 606, 607, 609, 610, 611, 613, 614, 615, 616, 617, 619, 620, 621, 622, 623, 624, 625, 626, 627, 628, 629, 630, 631, 632, 633, 634, 635, 636, 638, 639, 640, 641, 642].filterMap (fun i => lw_tbl[i]?) := rfl
  rw [e] at h
  obtain ⟨i, -, hi⟩ := List.mem_filterMap.mp h
  exact List.mem_of_getElem? hi
set_option maxRecDepth 100000 in
theorem bi_9 : ∀ w ∈ big_9, w ∈ lw_tbl := fun w h => by
  have e : big_9 = [643, 644, 645, 647, 648, 649, 650, 651, 652, 653, 654, 655, 656, 657, 658, 659, 660, 661, 662, 663, 664, 665, 666, 667, 668].filterMap (fun i => lw_tbl[i]?) := rfl
  rw [e] at h
  obtain ⟨i, -, hi⟩ := List.mem_filterMap.mp h
  exact List.mem_of_getElem? hi
theorem BIG_in : ∀ w ∈ BIG, w ∈ lw_tbl := by
  intro w h
  unfold BIG at h
  rcases List.mem_append.mp h with h | h
  · exact bi_0 w h
  rcases List.mem_append.mp h with h | h
  · exact bi_1 w h
  rcases List.mem_append.mp h with h | h
  · exact bi_2 w h
  rcases List.mem_append.mp h with h | h
  · exact bi_3 w h
  rcases List.mem_append.mp h with h | h
  · exact bi_4 w h
  rcases List.mem_append.mp h with h | h
  · exact bi_5 w h
  rcases List.mem_append.mp h with h | h
  · exact bi_6 w h
  rcases List.mem_append.mp h with h | h
  · exact bi_7 w h
  rcases List.mem_append.mp h with h | h
  · exact bi_8 w h
  exact bi_9 w h
theorem gwT {w : Cond} (h : w ∈ BIG) : w ∈ lw_tbl ∧ ((w.onTables && w.keeps) = true ∨ ∃ ty, w = .arrayClass ty) := ⟨BIG_in w h, good_of_word (List.all_eq_true.mp big_good w h)⟩
theorem gIT {y : MethodName} {c : ByteArray} {n : Nat} {r : Option FieldType} (h : Cond.code y c n r ∈ BIG) : GoodIn lw_tbl (.code y c n r :: BIG) := fun w hw => (List.mem_cons.mp hw).elim (fun e => e ▸ gwT h) gwT
theorem gVT {own C : String} {i : Nat} {y : MethodName} {c : ByteArray} {n : Nat} {r : Option FieldType} (h1 : Cond.methodLink own i y ∈ BIG) (h2 : Cond.instanceMethod y ∈ BIG) (h3 : Cond.selects C y y ∈ BIG) (h4 : Cond.initialized C ∈ BIG) (h : Cond.code y c n r ∈ BIG) : GoodIn lw_tbl (wsV own i C y (.code y c n r :: BIG)) := by
  intro w hw
  rcases List.mem_append.mp hw with hw | hw
  · simp only [List.mem_cons, List.not_mem_nil, or_false] at hw
    rcases hw with rfl | rfl | rfl | rfl
    · exact gwT h1
    · exact gwT h2
    · exact gwT h3
    · exact gwT h4
  · exact gIT h w hw
theorem gWT {own : String} {i : Nat} {y : MethodName} {c : ByteArray} {n : Nat} {r : Option FieldType} {hh : List (Nat × Nat × Nat × Nat)} (h1 : Cond.methodLink own i y ∈ BIG) (h2 : Cond.static y ∈ BIG) (h4 : Cond.initialized y.cls ∈ BIG) (h : Cond.codeWith y c n r hh ∈ lw_tbl) : GoodIn lw_tbl (va_wsS own i y (.codeWith y c n r hh :: BIG)) := by
  intro w hw
  rcases List.mem_append.mp hw with hw | hw
  · simp only [List.mem_cons, List.not_mem_nil, or_false] at hw
    rcases hw with rfl | rfl | rfl
    · exact gwT h1
    · exact gwT h2
    · exact gwT h4
  · rcases List.mem_cons.mp hw with e | hw
    · rw [e]; exact ⟨h, Or.inl rfl⟩
    · exact gwT hw
theorem lw_in {L j : Nat} (hL : L ≤ 2048) (hj : j ≤ 512) (h : ¬ (Int32.ofNat L - 4) < nI (4 * j)) : 4 * j + 4 ≤ L := by
  rw [Int32.lt_iff_toInt_lt, nI_toInt (by omega), show (4 : Int32) = nI 4 from rfl, show Int32.ofNat L = nI L from rfl, pk_sub_toInt (by omega) (by omega)] at h
  omega
theorem lw_ix {L j k : Nat} (hL : L ≤ 2048) (h : 4 * j + 4 ≤ L) (hk : k < 4) : vp_in (nI (4 * j) + nI k) L := by
  rw [nI_add]; exact vp_in_nI (by omega) (by omega)
theorem nI_inc4 (j : Nat) : nI (4 * j) + Int32.ofInt 4 = nI (4 * (j + 1)) := (nI_add (4 * j) 4)
set_option maxRecDepth 100000 in
theorem mW_rate : Cond.codeWith y_L_rate b_L_rate 6 (some .int) [(0, 12, 15, 13), (0, 12, 19, 15), (0, 12, 23, 17)] ∈ lw_tbl := List.mem_of_getElem? (i := 109) rfl
set_option maxRecDepth 100000 in
theorem mW_debt : Cond.codeWith y_L_debt b_L_debt 6 (some .int) [(0, 11, 14, 15), (0, 11, 18, 17)] ∈ lw_tbl := List.mem_of_getElem? (i := 230) rfl
set_option maxRecDepth 100000 in
theorem mW_notified : Cond.codeWith y_L_notified b_L_notified 4 (some .int) [(0, 9, 12, 15)] ∈ lw_tbl := List.mem_of_getElem? (i := 304) rfl
set_option maxRecDepth 100000 in
theorem mW_pay : Cond.codeWith y_L_pay b_L_pay 6 (some .int) [(0, 11, 14, 15)] ∈ lw_tbl := List.mem_of_getElem? (i := 327) rfl
set_option maxRecDepth 100000 in
theorem mW_instalments : Cond.codeWith y_L_instalments b_L_instalments 5 (some .int) [(0, 10, 13, 15)] ∈ lw_tbl := List.mem_of_getElem? (i := 376) rfl
set_option maxRecDepth 100000 in
theorem mW_appeal : Cond.codeWith y_L_appeal b_L_appeal 4 (some .int) [(0, 9, 12, 15)] ∈ lw_tbl := List.mem_of_getElem? (i := 388) rfl
set_option maxRecDepth 100000 in
theorem mW_decide : Cond.codeWith y_L_decide b_L_decide 5 (some .int) [(0, 9, 12, 15)] ∈ lw_tbl := List.mem_of_getElem? (i := 395) rfl
set_option maxRecDepth 100000 in
theorem mW_tick : Cond.codeWith y_L_tick b_L_tick 4 (some .int) [(0, 9, 12, 15)] ∈ lw_tbl := List.mem_of_getElem? (i := 403) rfl
set_option maxRecDepth 100000 in
theorem mW_due : Cond.codeWith y_L_due b_L_due 5 (some .int) [(0, 9, 12, 15)] ∈ lw_tbl := List.mem_of_getElem? (i := 425) rfl
set_option maxRecDepth 100000 in
theorem mW_recourse : Cond.codeWith y_L_recourse b_L_recourse 6 (some .int) [(0, 11, 14, 15)] ∈ lw_tbl := List.mem_of_getElem? (i := 434) rfl
set_option maxRecDepth 100000 in
theorem mW_look : Cond.codeWith y_L_look b_L_look 5 (some .int) [(0, 10, 13, 56)] ∈ lw_tbl := List.mem_of_getElem? (i := 453) rfl
